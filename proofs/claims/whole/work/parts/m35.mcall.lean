theorem nI_1' : nI 1 = 1 := rfl
theorem cm_key_ok {g : Gp} {P S : Hp} {cd ni no nt nr nl : Nat} {W T U IN OUT IS IB BL MV ROW TX MA SM KP : List Nat} {w a b c d : Nat} (hP : P.length = 44) (hW : W.length = 88 ∧ by32 W) (hT : T.length = 256 ∧ by8 T) (hw : w < 2) (ha : a < 2 ^ 32) (hb : b < 2 ^ 32) (hc : c < 2 ^ 32) (hd : d < 2 ^ 32) :
    Con g M_Model_key 2 (0, 0) [.ref (zA (gz g) 44), .int (nI w), .int (nI a), .int (nI b), .int (nI c), .int (nI d)] (mh g P cd ni no nt nr nl [W, T, U, IN, OUT, IS, IB, BL, MV, ROW, TX, MA, SM, KP] S) (Ret none (mh g P 0 ni no nt nr nl [(mky T (44 * w) a b c d W), T, U, IN, OUT, IS, IB, BL, MV, ROW, TX, MA, SM, KP] S)) := by
  refine Con.of (by decide) rfl rfl (L := [some (.ref (zA (gz g) 44)), some (.int (nI w)), some (.int (nI a)), some (.int (nI b)), some (.int (nI c)), some (.int (nI d))]) rfl (fun f C => ?_)
  refine x_aload_n (pc := 0) C (dq D_Model_key 0 rfl) rfl ?_
  refine x_iload_n (pc := 1) C (dq D_Model_key 1 rfl) rfl ?_
  refine n_iflt_f (pc := 2) (tgt := 10) C (dq D_Model_key 2 rfl) (by decide) (by omega) (by omega) ?_
  refine x_iload_n (pc := 5) C (dq D_Model_key 3 rfl) rfl ?_
  refine x_iconst (pc := 6) C (dq D_Model_key 4 rfl) ci_1 ?_
  refine n_le_t (pc := 7) (tgt := 14) C (dq D_Model_key 5 rfl) (by decide) (by omega) (by omega) ?_
  refine x_iconst (pc := 14) C (dq D_Model_key 8 rfl) ci_0 ?_
  refine x_put (pc := 15) (ci := 1) (j := 0) (ty := .int) C (dq D_Model_key 9 rfl) rfl rfl (mo hP) rfl k_fl_Model_64 (Or.inl rfl) (by decide +kernel) rfl rfl ?_
  simp only [List.set_cons_zero, List.set_cons_succ]
  rw [mh_p hP]
  refine x_aload_n (pc := 18) C (dq D_Model_key 10 rfl) rfl ?_
  refine x_get (pc := 19) (ci := 1) (j := 0) C (dq D_Model_key 11 rfl) rfl rfl (mo hP) rfl k_fl_Model_64 ?_
  refine n_ifne_f (pc := 22) (tgt := 39) C (dq D_Model_key 12 rfl) (by decide) (by omega) (by omega) ?_
  refine x_aload_n (pc := 25) C (dq D_Model_key 13 rfl) rfl ?_
  refine x_bipush (pc := 26) C (dq D_Model_key 14 rfl) cb_44 ?_
  refine x_iload_n (pc := 28) C (dq D_Model_key 15 rfl) rfl ?_
  refine n_imul (pc := 29) C (dq D_Model_key 16 rfl) ?_
  refine x_iload_n (pc := 30) C (dq D_Model_key 17 rfl) rfl ?_
  refine x_iload_n (pc := 31) C (dq D_Model_key 18 rfl) rfl ?_
  refine x_iload (pc := 32) C (dq D_Model_key 19 rfl) rfl ?_
  refine x_iload (pc := 34) C (dq D_Model_key 20 rfl) rfl ?_
  refine x_cV0 (pc := 36) (ci := 1) (M := M_Model_expand) C (dq D_Model_key 21 rfl) k_ml_Model_60 m_Model_expand rfl rfl (mo hP) (cm_expand hP hW hT (by omega) ha hb hc hd) rfl rfl rfl rfl (by decide) ?_
  exact x_vret (pc := 39) C (dq D_Model_key 22 rfl) rfl (by decide) ⟨rfl, rfl⟩
theorem cm_key_bad {g : Gp} {P S : Hp} {cd ni no nt nr nl : Nat} {W T U IN OUT IS IB BL MV ROW TX MA SM KP : List Nat} {x y1 y2 y3 y4 : Int32} (hP : P.length = 44) (hx : x < 0 ∨ ¬ x ≤ nI 1) :
    Con g M_Model_key 2 (0, 0) [.ref (zA (gz g) 44), .int x, .int y1, .int y2, .int y3, .int y4] (mh g P cd ni no nt nr nl [W, T, U, IN, OUT, IS, IB, BL, MV, ROW, TX, MA, SM, KP] S) (Ret none (mh g P 1 ni no nt nr nl [W, T, U, IN, OUT, IS, IB, BL, MV, ROW, TX, MA, SM, KP] S)) := by
  refine Con.of (by decide) rfl rfl (L := [some (.ref (zA (gz g) 44)), some (.int x), some (.int y1), some (.int y2), some (.int y3), some (.int y4)]) rfl (fun f C => ?_)
  have bad : X g f M_Model_key (0, 0) (Ret none (mh g P 1 ni no nt nr nl [W, T, U, IN, OUT, IS, IB, BL, MV, ROW, TX, MA, SM, KP] S)) (0, 0) 10 [some (.ref (zA (gz g) 44)), some (.int x), some (.int y1), some (.int y2), some (.int y3), some (.int y4)] [.ref (zA (gz g) 44)] (mh g P cd ni no nt nr nl [W, T, U, IN, OUT, IS, IB, BL, MV, ROW, TX, MA, SM, KP] S) := by
    refine x_iconst (pc := 10) C (dq D_Model_key 6 rfl) ci_1 ?_
    refine x_goto (pc := 11) (tgt := 15) C (dq D_Model_key 7 rfl) (by decide) ?_
    refine x_put (pc := 15) (ci := 1) (j := 0) (ty := .int) C (dq D_Model_key 9 rfl) rfl rfl (mo hP) rfl k_fl_Model_64 (Or.inl rfl) (by decide +kernel) rfl rfl ?_
    simp only [List.set_cons_zero, List.set_cons_succ]
    rw [mh_p hP]
    refine x_aload_n (pc := 18) C (dq D_Model_key 10 rfl) rfl ?_
    refine x_get (pc := 19) (ci := 1) (j := 0) C (dq D_Model_key 11 rfl) rfl rfl (mo hP) rfl k_fl_Model_64 ?_
    refine n_ifne_t (pc := 22) (tgt := 39) C (dq D_Model_key 12 rfl) (by decide) (by omega) (by omega) ?_
    exact x_vret (pc := 39) C (dq D_Model_key 22 rfl) rfl (by decide) ⟨rfl, rfl⟩
  refine x_aload_n (pc := 0) C (dq D_Model_key 0 rfl) rfl ?_
  refine x_iload_n (pc := 1) C (dq D_Model_key 1 rfl) rfl ?_
  refine x_iflt (pc := 2) (tgt := 10) C (dq D_Model_key 2 rfl) (by decide) (fun hq => ?_) (fun hq => ?_)
  · exact bad
  · have hq0 := hq
    refine x_iload_n (pc := 5) C (dq D_Model_key 3 rfl) rfl ?_
    refine x_iconst (pc := 6) C (dq D_Model_key 4 rfl) ci_1 ?_
    refine x_le (pc := 7) (tgt := 14) C (dq D_Model_key 5 rfl) (by decide) (fun hq => ?_) (fun hq => ?_)
    · exact absurd hx (fun z => z.elim hq0 (fun y => y hq))
    · exact bad
/-- bytes of a word behind the input -/
def fdm (w n k : Nat) (R : List Nat) : List Nat := R.set (n + k) (bo w k)
theorem fdm_len (w n k : Nat) (R : List Nat) : (fdm w n k R).length = R.length := List.length_set
theorem cm_feed_ok {g : Gp} {P S : Hp} {cd ni no nt nr nl : Nat} {W T U IN OUT IS IB BL MV ROW TX MA SM KP : List Nat} {w n : Nat} (hP : P.length = 44) (hI : IN.length = 88) (hw : w < 2 ^ 32) (hn : 1 ≤ n ∧ n ≤ 4) (hni : ni + n ≤ 88) :
    Con g M_Model_feed 0 (0, 0) [.ref (zA (gz g) 44), .int (nI w), .int (nI n)] (mh g P cd ni no nt nr nl [W, T, U, IN, OUT, IS, IB, BL, MV, ROW, TX, MA, SM, KP] S) (Ret (some (.int (nI (ni + n)))) (mh g P 0 (ni + n) no nt nr nl [W, T, U, (it (fdm w ni) 0 n IN), OUT, IS, IB, BL, MV, ROW, TX, MA, SM, KP] S)) := by
  refine Con.of (by decide) rfl rfl (L := [some (.ref (zA (gz g) 44)), some (.int (nI w)), some (.int (nI n)), none]) rfl (fun f C => ?_)
  have loop : ∀ (d k : Nat) (R : List Nat), k + d = n → R.length = 88 → X g f M_Model_feed (0, 0) (Ret (some (.int (nI (ni + n)))) (mh g P 0 (ni + n) no nt nr nl [W, T, U, (it (fdm w ni) k d R), OUT, IS, IB, BL, MV, ROW, TX, MA, SM, KP] S)) (0, 0) 45 [some (.ref (zA (gz g) 44)), some (.int (nI w)), some (.int (nI n)), some (.int (nI k))] [] (mh g P 0 (ni + k) no nt nr nl [W, T, U, R, OUT, IS, IB, BL, MV, ROW, TX, MA, SM, KP] S) := by
    intro d
    induction d with
    | zero =>
      intro k R hkd hR
      obtain rfl : k = n := by omega
      refine x_iload_n (pc := 45) C (dq D_Model_feed 26 rfl) rfl ?_
      refine x_iload_n (pc := 46) C (dq D_Model_feed 27 rfl) rfl ?_
      refine n_ge_t (pc := 47) (tgt := 88) C (dq D_Model_feed 28 rfl) (by decide) (by omega) (by omega) ?_
      refine x_aload_n (pc := 88) C (dq D_Model_feed 51 rfl) rfl ?_
      refine x_get (pc := 89) (ci := 1) (j := 4) C (dq D_Model_feed 52 rfl) rfl rfl (mo hP) rfl k_fl_Model_133 ?_
      exact x_iret (pc := 92) C (dq D_Model_feed 53 rfl) rfl (by decide) ⟨rfl, rfl⟩
    | succ d ih =>
      intro k R hkd hR
      refine x_iload_n (pc := 45) C (dq D_Model_feed 26 rfl) rfl ?_
      refine x_iload_n (pc := 46) C (dq D_Model_feed 27 rfl) rfl ?_
      refine n_ge_f (pc := 47) (tgt := 88) C (dq D_Model_feed 28 rfl) (by decide) (by omega) (by omega) ?_
      refine x_aload_n (pc := 50) C (dq D_Model_feed 29 rfl) rfl ?_
      refine x_get (pc := 51) (ci := 1) (j := 5) C (dq D_Model_feed 30 rfl) rfl rfl (by first | exact mo hP | exact ma hP rfl rfl) rfl k_fl_Model_19 ?_
      refine x_aload_n (pc := 54) C (dq D_Model_feed 31 rfl) rfl ?_
      refine x_get (pc := 55) (ci := 1) (j := 4) C (dq D_Model_feed 32 rfl) rfl rfl (by first | exact mo hP | exact ma hP rfl rfl) rfl k_fl_Model_133 ?_
      refine x_iload_n (pc := 58) C (dq D_Model_feed 33 rfl) rfl ?_
      refine x_bipush (pc := 59) C (dq D_Model_feed 34 rfl) cb_24 ?_
      refine x_bipush (pc := 61) C (dq D_Model_feed 35 rfl) cb_8 ?_
      refine x_iload_n (pc := 63) C (dq D_Model_feed 36 rfl) rfl ?_
      refine n_imul (pc := 64) C (dq D_Model_feed 37 rfl) ?_
      refine n_isub (pc := 65) C (dq D_Model_feed 38 rfl) (by omega) ?_
      refine x_ishr (pc := 66) C (dq D_Model_feed 39 rfl) ?_
      refine x_sipush (pc := 67) C (dq D_Model_feed 40 rfl) cs_255 ?_
      refine x_iand (pc := 70) C (dq D_Model_feed 41 rfl) ?_
      rw [ws255 hw (by omega)]
      refine x_iast (pc := 71) C (dq D_Model_feed 42 rfl) (by first | exact mo hP | exact ma hP rfl rfl) (by (try simp only [List.length_set]); omega) ?_
      try rw [List.set_set]
      rw [mh_s hP rfl rfl]
      simp only [Nat.reduceSub, List.set_cons_zero, List.set_cons_succ]
      refine x_aload_n (pc := 72) C (dq D_Model_feed 43 rfl) rfl ?_
      refine x_dup (pc := 73) C (dq D_Model_feed 44 rfl) rfl ?_
      refine x_get (pc := 74) (ci := 1) (j := 4) C (dq D_Model_feed 45 rfl) rfl rfl (mo hP) rfl k_fl_Model_133 ?_
      refine x_iconst (pc := 77) C (dq D_Model_feed 46 rfl) ci_1 ?_
      refine n_iadd (pc := 78) C (dq D_Model_feed 47 rfl) ?_
      refine x_put (pc := 79) (ci := 1) (j := 4) (ty := .int) C (dq D_Model_feed 48 rfl) rfl rfl (mo hP) rfl k_fl_Model_133 (Or.inl rfl) (by decide +kernel) rfl rfl ?_
      simp only [List.set_cons_zero, List.set_cons_succ]
      rw [mh_p hP]
      refine x_iinc (pc := 82) C (dq D_Model_feed 49 rfl) rfl (ii_1 _) rfl rfl ?_
      simp only [List.set_cons_zero, List.set_cons_succ]
      refine x_goto (pc := 85) (tgt := 45) C (dq D_Model_feed 50 rfl) (by decide) ?_
      exact ih (k + 1) (fdm w ni k R) (by omega) (by rw [fdm_len]; exact hR)
  refine x_aload_n (pc := 0) C (dq D_Model_feed 0 rfl) rfl ?_
  refine x_iload_n (pc := 1) C (dq D_Model_feed 1 rfl) rfl ?_
  refine x_iconst (pc := 2) C (dq D_Model_feed 2 rfl) ci_1 ?_
  refine n_lt_f (pc := 3) (tgt := 11) C (dq D_Model_feed 3 rfl) (by decide) (by omega) (by omega) ?_
  refine x_iload_n (pc := 6) C (dq D_Model_feed 4 rfl) rfl ?_
  refine x_iconst (pc := 7) C (dq D_Model_feed 5 rfl) ci_4 ?_
  refine n_le_t (pc := 8) (tgt := 15) C (dq D_Model_feed 6 rfl) (by decide) (by omega) (by omega) ?_
  refine x_aload_n (pc := 15) C (dq D_Model_feed 9 rfl) rfl ?_
  refine x_get (pc := 16) (ci := 1) (j := 4) C (dq D_Model_feed 10 rfl) rfl rfl (mo hP) rfl k_fl_Model_133 ?_
  refine x_iload_n (pc := 19) C (dq D_Model_feed 11 rfl) rfl ?_
  refine n_iadd (pc := 20) C (dq D_Model_feed 12 rfl) ?_
  refine x_bipush (pc := 21) C (dq D_Model_feed 13 rfl) cb_88 ?_
  refine n_le_t (pc := 23) (tgt := 30) C (dq D_Model_feed 14 rfl) (by decide) (by omega) (by omega) ?_
  refine x_iconst (pc := 30) C (dq D_Model_feed 17 rfl) ci_0 ?_
  refine x_put (pc := 31) (ci := 1) (j := 0) (ty := .int) C (dq D_Model_feed 18 rfl) rfl rfl (mo hP) rfl k_fl_Model_64 (Or.inl rfl) (by decide +kernel) rfl rfl ?_
  simp only [List.set_cons_zero, List.set_cons_succ]
  rw [mh_p hP]
  refine x_aload_n (pc := 34) C (dq D_Model_feed 19 rfl) rfl ?_
  refine x_get (pc := 35) (ci := 1) (j := 0) C (dq D_Model_feed 20 rfl) rfl rfl (mo hP) rfl k_fl_Model_64 ?_
  refine n_ifle_t (pc := 38) (tgt := 43) C (dq D_Model_feed 21 rfl) (by decide) (by omega) (by omega) ?_
  refine x_iconst (pc := 43) C (dq D_Model_feed 24 rfl) ci_0 ?_
  refine x_istore_n (i := 3) (pc := 44) C (dq D_Model_feed 25 rfl) rfl rfl rfl ?_
  simp only [List.set_cons_zero, List.set_cons_succ]
  exact loop n 0 IN (by omega) hI
theorem cm_feed_full {g : Gp} {P S : Hp} {cd ni no nt nr nl : Nat} {W T U IN OUT IS IB BL MV ROW TX MA SM KP : List Nat} {n : Nat} {x : Int32} (hP : P.length = 44) (hn : 1 ≤ n ∧ n ≤ 4) (hni : 88 < ni + n ∧ ni ≤ 88) :
    Con g M_Model_feed 0 (0, 0) [.ref (zA (gz g) 44), .int x, .int (nI n)] (mh g P cd ni no nt nr nl [W, T, U, IN, OUT, IS, IB, BL, MV, ROW, TX, MA, SM, KP] S) (Ret (some (.int (nI 0))) (mh g P 2 ni no nt nr nl [W, T, U, IN, OUT, IS, IB, BL, MV, ROW, TX, MA, SM, KP] S)) := by
  refine Con.of (by decide) rfl rfl (L := [some (.ref (zA (gz g) 44)), some (.int x), some (.int (nI n)), none]) rfl (fun f C => ?_)
  refine x_aload_n (pc := 0) C (dq D_Model_feed 0 rfl) rfl ?_
  refine x_iload_n (pc := 1) C (dq D_Model_feed 1 rfl) rfl ?_
  refine x_iconst (pc := 2) C (dq D_Model_feed 2 rfl) ci_1 ?_
  refine n_lt_f (pc := 3) (tgt := 11) C (dq D_Model_feed 3 rfl) (by decide) (by omega) (by omega) ?_
  refine x_iload_n (pc := 6) C (dq D_Model_feed 4 rfl) rfl ?_
  refine x_iconst (pc := 7) C (dq D_Model_feed 5 rfl) ci_4 ?_
  refine n_le_t (pc := 8) (tgt := 15) C (dq D_Model_feed 6 rfl) (by decide) (by omega) (by omega) ?_
  refine x_aload_n (pc := 15) C (dq D_Model_feed 9 rfl) rfl ?_
  refine x_get (pc := 16) (ci := 1) (j := 4) C (dq D_Model_feed 10 rfl) rfl rfl (mo hP) rfl k_fl_Model_133 ?_
  refine x_iload_n (pc := 19) C (dq D_Model_feed 11 rfl) rfl ?_
  refine n_iadd (pc := 20) C (dq D_Model_feed 12 rfl) ?_
  refine x_bipush (pc := 21) C (dq D_Model_feed 13 rfl) cb_88 ?_
  refine n_le_f (pc := 23) (tgt := 30) C (dq D_Model_feed 14 rfl) (by decide) (by omega) (by omega) ?_
  refine x_iconst (pc := 26) C (dq D_Model_feed 15 rfl) ci_2 ?_
  refine x_goto (pc := 27) (tgt := 31) C (dq D_Model_feed 16 rfl) (by decide) ?_
  refine x_put (pc := 31) (ci := 1) (j := 0) (ty := .int) C (dq D_Model_feed 18 rfl) rfl rfl (mo hP) rfl k_fl_Model_64 (Or.inl rfl) (by decide +kernel) rfl rfl ?_
  simp only [List.set_cons_zero, List.set_cons_succ]
  rw [mh_p hP]
  refine x_aload_n (pc := 34) C (dq D_Model_feed 19 rfl) rfl ?_
  refine x_get (pc := 35) (ci := 1) (j := 0) C (dq D_Model_feed 20 rfl) rfl rfl (mo hP) rfl k_fl_Model_64 ?_
  refine n_ifle_f (pc := 38) (tgt := 43) C (dq D_Model_feed 21 rfl) (by decide) (by omega) (by omega) ?_
  refine x_iconst (pc := 41) C (dq D_Model_feed 22 rfl) ci_0 ?_
  exact x_iret (pc := 42) C (dq D_Model_feed 23 rfl) rfl (by decide) ⟨rfl, rfl⟩
theorem cm_feed_bad {g : Gp} {P S : Hp} {cd ni no nt nr nl : Nat} {W T U IN OUT IS IB BL MV ROW TX MA SM KP : List Nat} {x y : Int32} (hP : P.length = 44) (hx : y < nI 1 ∨ ¬ y ≤ nI 4) :
    Con g M_Model_feed 0 (0, 0) [.ref (zA (gz g) 44), .int x, .int y] (mh g P cd ni no nt nr nl [W, T, U, IN, OUT, IS, IB, BL, MV, ROW, TX, MA, SM, KP] S) (Ret (some (.int (nI 0))) (mh g P 1 ni no nt nr nl [W, T, U, IN, OUT, IS, IB, BL, MV, ROW, TX, MA, SM, KP] S)) := by
  refine Con.of (by decide) rfl rfl (L := [some (.ref (zA (gz g) 44)), some (.int x), some (.int y), none]) rfl (fun f C => ?_)
  have bad : X g f M_Model_feed (0, 0) (Ret (some (.int (nI 0))) (mh g P 1 ni no nt nr nl [W, T, U, IN, OUT, IS, IB, BL, MV, ROW, TX, MA, SM, KP] S)) (0, 0) 11 [some (.ref (zA (gz g) 44)), some (.int x), some (.int y), none] [.ref (zA (gz g) 44)] (mh g P cd ni no nt nr nl [W, T, U, IN, OUT, IS, IB, BL, MV, ROW, TX, MA, SM, KP] S) := by
    refine x_iconst (pc := 11) C (dq D_Model_feed 7 rfl) ci_1 ?_
    refine x_goto (pc := 12) (tgt := 31) C (dq D_Model_feed 8 rfl) (by decide) ?_
    refine x_put (pc := 31) (ci := 1) (j := 0) (ty := .int) C (dq D_Model_feed 18 rfl) rfl rfl (mo hP) rfl k_fl_Model_64 (Or.inl rfl) (by decide +kernel) rfl rfl ?_
    simp only [List.set_cons_zero, List.set_cons_succ]
    rw [mh_p hP]
    refine x_aload_n (pc := 34) C (dq D_Model_feed 19 rfl) rfl ?_
    refine x_get (pc := 35) (ci := 1) (j := 0) C (dq D_Model_feed 20 rfl) rfl rfl (mo hP) rfl k_fl_Model_64 ?_
    refine n_ifle_f (pc := 38) (tgt := 43) C (dq D_Model_feed 21 rfl) (by decide) (by omega) (by omega) ?_
    refine x_iconst (pc := 41) C (dq D_Model_feed 22 rfl) ci_0 ?_
    exact x_iret (pc := 42) C (dq D_Model_feed 23 rfl) rfl (by decide) ⟨rfl, rfl⟩
  refine x_aload_n (pc := 0) C (dq D_Model_feed 0 rfl) rfl ?_
  refine x_iload_n (pc := 1) C (dq D_Model_feed 1 rfl) rfl ?_
  refine x_iconst (pc := 2) C (dq D_Model_feed 2 rfl) ci_1 ?_
  refine x_lt (pc := 3) (tgt := 11) C (dq D_Model_feed 3 rfl) (by decide) (fun hq => ?_) (fun hq => ?_)
  · exact bad
  · have hq0 := hq
    refine x_iload_n (pc := 6) C (dq D_Model_feed 4 rfl) rfl ?_
    refine x_iconst (pc := 7) C (dq D_Model_feed 5 rfl) ci_4 ?_
    refine x_le (pc := 8) (tgt := 15) C (dq D_Model_feed 6 rfl) (by decide) (fun hq => ?_) (fun hq => ?_)
    · exact absurd hx (fun z => z.elim hq0 (fun y => y hq))
    · exact bad
theorem cm_alter_ok {g : Gp} {P S : Hp} {cd ni no nt nr nl : Nat} {W T U IN OUT IS IB BL MV ROW TX MA SM KP : List Nat} {k v : Nat} (hP : P.length = 44) (hI : IN.length = 88) (hk : k < ni) (hn : ni ≤ 88) (hv : v < 256) :
    Con g M_Model_alter 0 (0, 0) [.ref (zA (gz g) 44), .int (nI k), .int (nI v)] (mh g P cd ni no nt nr nl [W, T, U, IN, OUT, IS, IB, BL, MV, ROW, TX, MA, SM, KP] S) (Ret none (mh g P 0 ni no nt nr nl [W, T, U, (IN.set k v), OUT, IS, IB, BL, MV, ROW, TX, MA, SM, KP] S)) := by
  refine Con.of (by decide) rfl rfl (L := [some (.ref (zA (gz g) 44)), some (.int (nI k)), some (.int (nI v))]) rfl (fun f C => ?_)
  refine x_aload_n (pc := 0) C (dq D_Model_alter 0 rfl) rfl ?_
  refine x_iload_n (pc := 1) C (dq D_Model_alter 1 rfl) rfl ?_
  refine n_iflt_f (pc := 2) (tgt := 13) C (dq D_Model_alter 2 rfl) (by decide) (by omega) (by omega) ?_
  refine x_iload_n (pc := 5) C (dq D_Model_alter 3 rfl) rfl ?_
  refine x_aload_n (pc := 6) C (dq D_Model_alter 4 rfl) rfl ?_
  refine x_get (pc := 7) (ci := 1) (j := 4) C (dq D_Model_alter 5 rfl) rfl rfl (mo hP) rfl k_fl_Model_133 ?_
  refine n_lt_t (pc := 10) (tgt := 17) C (dq D_Model_alter 6 rfl) (by decide) (by omega) (by omega) ?_
  refine x_iload_n (pc := 17) C (dq D_Model_alter 9 rfl) rfl ?_
  refine n_iflt_f (pc := 18) (tgt := 28) C (dq D_Model_alter 10 rfl) (by decide) (by omega) (by omega) ?_
  refine x_iload_n (pc := 21) C (dq D_Model_alter 11 rfl) rfl ?_
  refine x_sipush (pc := 22) C (dq D_Model_alter 12 rfl) cs_255 ?_
  refine n_le_t (pc := 25) (tgt := 32) C (dq D_Model_alter 13 rfl) (by decide) (by omega) (by omega) ?_
  refine x_iconst (pc := 32) C (dq D_Model_alter 16 rfl) ci_0 ?_
  refine x_put (pc := 33) (ci := 1) (j := 0) (ty := .int) C (dq D_Model_alter 17 rfl) rfl rfl (mo hP) rfl k_fl_Model_64 (Or.inl rfl) (by decide +kernel) rfl rfl ?_
  simp only [List.set_cons_zero, List.set_cons_succ]
  rw [mh_p hP]
  refine x_aload_n (pc := 36) C (dq D_Model_alter 18 rfl) rfl ?_
  refine x_get (pc := 37) (ci := 1) (j := 0) C (dq D_Model_alter 19 rfl) rfl rfl (by first | exact mo hP | exact ma hP rfl rfl) rfl k_fl_Model_64 ?_
  refine n_ifne_f (pc := 40) (tgt := 50) C (dq D_Model_alter 20 rfl) (by decide) (by omega) (by omega) ?_
  refine x_aload_n (pc := 43) C (dq D_Model_alter 21 rfl) rfl ?_
  refine x_get (pc := 44) (ci := 1) (j := 5) C (dq D_Model_alter 22 rfl) rfl rfl (by first | exact mo hP | exact ma hP rfl rfl) rfl k_fl_Model_19 ?_
  refine x_iload_n (pc := 47) C (dq D_Model_alter 23 rfl) rfl ?_
  refine x_iload_n (pc := 48) C (dq D_Model_alter 24 rfl) rfl ?_
  refine x_iast (pc := 49) C (dq D_Model_alter 25 rfl) (by first | exact mo hP | exact ma hP rfl rfl) (by (try simp only [List.length_set]); omega) ?_
  try rw [List.set_set]
  rw [mh_s hP rfl rfl]
  simp only [Nat.reduceSub, List.set_cons_zero, List.set_cons_succ]
  exact x_vret (pc := 50) C (dq D_Model_alter 26 rfl) rfl (by decide) ⟨rfl, rfl⟩
theorem cm_alter_bad {g : Gp} {P S : Hp} {cd ni no nt nr nl : Nat} {W T U IN OUT IS IB BL MV ROW TX MA SM KP : List Nat} {x y : Int32} (hP : P.length = 44) (hx : x < 0 ∨ nI ni ≤ x) :
    Con g M_Model_alter 0 (0, 0) [.ref (zA (gz g) 44), .int x, .int y] (mh g P cd ni no nt nr nl [W, T, U, IN, OUT, IS, IB, BL, MV, ROW, TX, MA, SM, KP] S) (Ret none (mh g P 1 ni no nt nr nl [W, T, U, IN, OUT, IS, IB, BL, MV, ROW, TX, MA, SM, KP] S)) := by
  refine Con.of (by decide) rfl rfl (L := [some (.ref (zA (gz g) 44)), some (.int x), some (.int y)]) rfl (fun f C => ?_)
  have bad : X g f M_Model_alter (0, 0) (Ret none (mh g P 1 ni no nt nr nl [W, T, U, IN, OUT, IS, IB, BL, MV, ROW, TX, MA, SM, KP] S)) (0, 0) 13 [some (.ref (zA (gz g) 44)), some (.int x), some (.int y)] [.ref (zA (gz g) 44)] (mh g P cd ni no nt nr nl [W, T, U, IN, OUT, IS, IB, BL, MV, ROW, TX, MA, SM, KP] S) := by
    refine x_iconst (pc := 13) C (dq D_Model_alter 7 rfl) ci_1 ?_
    refine x_goto (pc := 14) (tgt := 33) C (dq D_Model_alter 8 rfl) (by decide) ?_
    refine x_put (pc := 33) (ci := 1) (j := 0) (ty := .int) C (dq D_Model_alter 17 rfl) rfl rfl (mo hP) rfl k_fl_Model_64 (Or.inl rfl) (by decide +kernel) rfl rfl ?_
    simp only [List.set_cons_zero, List.set_cons_succ]
    rw [mh_p hP]
    refine x_aload_n (pc := 36) C (dq D_Model_alter 18 rfl) rfl ?_
    refine x_get (pc := 37) (ci := 1) (j := 0) C (dq D_Model_alter 19 rfl) rfl rfl (mo hP) rfl k_fl_Model_64 ?_
    refine n_ifne_t (pc := 40) (tgt := 50) C (dq D_Model_alter 20 rfl) (by decide) (by omega) (by omega) ?_
    exact x_vret (pc := 50) C (dq D_Model_alter 26 rfl) rfl (by decide) ⟨rfl, rfl⟩
  refine x_aload_n (pc := 0) C (dq D_Model_alter 0 rfl) rfl ?_
  refine x_iload_n (pc := 1) C (dq D_Model_alter 1 rfl) rfl ?_
  refine x_iflt (pc := 2) (tgt := 13) C (dq D_Model_alter 2 rfl) (by decide) (fun hq => ?_) (fun hq => ?_)
  · exact bad
  · have hq0 := hq
    refine x_iload_n (pc := 5) C (dq D_Model_alter 3 rfl) rfl ?_
    refine x_aload_n (pc := 6) C (dq D_Model_alter 4 rfl) rfl ?_
    refine x_get (pc := 7) (ci := 1) (j := 4) C (dq D_Model_alter 5 rfl) rfl rfl (mo hP) rfl k_fl_Model_133 ?_
    refine x_lt (pc := 10) (tgt := 17) C (dq D_Model_alter 6 rfl) (by decide) (fun hq => ?_) (fun hq => ?_)
    · exact absurd hx (fun z => z.elim hq0 (fun y => Int32.not_lt.mpr y hq))
    · exact bad
theorem cm_alter_byte {g : Gp} {P S : Hp} {cd ni no nt nr nl : Nat} {W T U IN OUT IS IB BL MV ROW TX MA SM KP : List Nat} {k : Nat} {y : Int32} (hP : P.length = 44) (hk : k < ni) (hn : ni ≤ 88) (hy : y < 0 ∨ ¬ y ≤ nI 255) :
    Con g M_Model_alter 0 (0, 0) [.ref (zA (gz g) 44), .int (nI k), .int y] (mh g P cd ni no nt nr nl [W, T, U, IN, OUT, IS, IB, BL, MV, ROW, TX, MA, SM, KP] S) (Ret none (mh g P 2 ni no nt nr nl [W, T, U, IN, OUT, IS, IB, BL, MV, ROW, TX, MA, SM, KP] S)) := by
  refine Con.of (by decide) rfl rfl (L := [some (.ref (zA (gz g) 44)), some (.int (nI k)), some (.int y)]) rfl (fun f C => ?_)
  have bad : X g f M_Model_alter (0, 0) (Ret none (mh g P 2 ni no nt nr nl [W, T, U, IN, OUT, IS, IB, BL, MV, ROW, TX, MA, SM, KP] S)) (0, 0) 28 [some (.ref (zA (gz g) 44)), some (.int (nI k)), some (.int y)] [.ref (zA (gz g) 44)] (mh g P cd ni no nt nr nl [W, T, U, IN, OUT, IS, IB, BL, MV, ROW, TX, MA, SM, KP] S) := by
    refine x_iconst (pc := 28) C (dq D_Model_alter 14 rfl) ci_2 ?_
    refine x_goto (pc := 29) (tgt := 33) C (dq D_Model_alter 15 rfl) (by decide) ?_
    refine x_put (pc := 33) (ci := 1) (j := 0) (ty := .int) C (dq D_Model_alter 17 rfl) rfl rfl (mo hP) rfl k_fl_Model_64 (Or.inl rfl) (by decide +kernel) rfl rfl ?_
    simp only [List.set_cons_zero, List.set_cons_succ]
    rw [mh_p hP]
    refine x_aload_n (pc := 36) C (dq D_Model_alter 18 rfl) rfl ?_
    refine x_get (pc := 37) (ci := 1) (j := 0) C (dq D_Model_alter 19 rfl) rfl rfl (mo hP) rfl k_fl_Model_64 ?_
    refine n_ifne_t (pc := 40) (tgt := 50) C (dq D_Model_alter 20 rfl) (by decide) (by omega) (by omega) ?_
    exact x_vret (pc := 50) C (dq D_Model_alter 26 rfl) rfl (by decide) ⟨rfl, rfl⟩
  refine x_aload_n (pc := 0) C (dq D_Model_alter 0 rfl) rfl ?_
  refine x_iload_n (pc := 1) C (dq D_Model_alter 1 rfl) rfl ?_
  refine n_iflt_f (pc := 2) (tgt := 13) C (dq D_Model_alter 2 rfl) (by decide) (by omega) (by omega) ?_
  refine x_iload_n (pc := 5) C (dq D_Model_alter 3 rfl) rfl ?_
  refine x_aload_n (pc := 6) C (dq D_Model_alter 4 rfl) rfl ?_
  refine x_get (pc := 7) (ci := 1) (j := 4) C (dq D_Model_alter 5 rfl) rfl rfl (mo hP) rfl k_fl_Model_133 ?_
  refine n_lt_t (pc := 10) (tgt := 17) C (dq D_Model_alter 6 rfl) (by decide) (by omega) (by omega) ?_
  refine x_iload_n (pc := 17) C (dq D_Model_alter 9 rfl) rfl ?_
  refine x_iflt (pc := 18) (tgt := 28) C (dq D_Model_alter 10 rfl) (by decide) (fun hq => ?_) (fun hq => ?_)
  · exact bad
  · have hq0 := hq
    refine x_iload_n (pc := 21) C (dq D_Model_alter 11 rfl) rfl ?_
    refine x_sipush (pc := 22) C (dq D_Model_alter 12 rfl) cs_255 ?_
    refine x_le (pc := 25) (tgt := 32) C (dq D_Model_alter 13 rfl) (by decide) (fun hq => ?_) (fun hq => ?_)
    · exact absurd hy (fun z => z.elim hq0 (fun y => y hq))
    · exact bad
/-- an item laid among the items -/
def itp (IN : List Nat) (i k : Nat) (R : List Nat) : List Nat := R.set (40 * i + k) (IN.getD k 0)
theorem itp_len (IN : List Nat) (i k : Nat) (R : List Nat) : (itp IN i k R).length = R.length := List.length_set
theorem cm_item_ok {g : Gp} {P S : Hp} {cd ni no nt nr nl : Nat} {W T U IN OUT IS IB BL MV ROW TX MA SM KP : List Nat} (hP : P.length = 44) (hI : IN.length = 88) (hB : IB.length = 200) (hS : IS.length = 5) (hn : ni ≤ 40) (ht : nt < 5) :
    Con g M_Model_item 0 (0, 0) [.ref (zA (gz g) 44)] (mh g P cd ni no nt nr nl [W, T, U, IN, OUT, IS, IB, BL, MV, ROW, TX, MA, SM, KP] S) (Ret (some (.int (nI (nt + 1)))) (mh g P 0 0 no (nt + 1) nr nl [W, T, U, IN, OUT, (IS.set nt ni), (it (itp IN nt) 0 ni IB), BL, MV, ROW, TX, MA, SM, KP] S)) := by
  refine Con.of (by decide) rfl rfl (L := [some (.ref (zA (gz g) 44)), none]) rfl (fun f C => ?_)
  have loop : ∀ (d k : Nat) (R : List Nat), k + d = ni → R.length = 200 → X g f M_Model_item (0, 0) (Ret (some (.int (nI (nt + 1)))) (mh g P 0 0 no (nt + 1) nr nl [W, T, U, IN, OUT, (IS.set nt ni), (it (itp IN nt) k d R), BL, MV, ROW, TX, MA, SM, KP] S)) (0, 0) 54 [some (.ref (zA (gz g) 44)), some (.int (nI k))] [] (mh g P 0 ni no nt nr nl [W, T, U, IN, OUT, (IS.set nt ni), R, BL, MV, ROW, TX, MA, SM, KP] S) := by
    intro d
    induction d with
    | zero =>
      intro k R hkd hR
      refine x_iload_n (pc := 54) C (dq D_Model_item 29 rfl) rfl ?_
      refine x_aload_n (pc := 55) C (dq D_Model_item 30 rfl) rfl ?_
      refine x_get (pc := 56) (ci := 1) (j := 4) C (dq D_Model_item 31 rfl) rfl rfl (mo hP) rfl k_fl_Model_133 ?_
      refine n_ge_t (pc := 59) (tgt := 88) C (dq D_Model_item 32 rfl) (by decide) (by omega) (by omega) ?_
      refine x_aload_n (pc := 88) C (dq D_Model_item 48 rfl) rfl ?_
      refine x_dup (pc := 89) C (dq D_Model_item 49 rfl) rfl ?_
      refine x_get (pc := 90) (ci := 1) (j := 8) C (dq D_Model_item 50 rfl) rfl rfl (mo hP) rfl k_fl_Model_94 ?_
      refine x_iconst (pc := 93) C (dq D_Model_item 51 rfl) ci_1 ?_
      refine n_iadd (pc := 94) C (dq D_Model_item 52 rfl) ?_
      refine x_put (pc := 95) (ci := 1) (j := 8) (ty := .int) C (dq D_Model_item 53 rfl) rfl rfl (mo hP) rfl k_fl_Model_94 (Or.inl rfl) (by decide +kernel) rfl rfl ?_
      simp only [List.set_cons_zero, List.set_cons_succ]
      rw [mh_p hP]
      refine x_aload_n (pc := 98) C (dq D_Model_item 54 rfl) rfl ?_
      refine x_iconst (pc := 99) C (dq D_Model_item 55 rfl) ci_0 ?_
      refine x_put (pc := 100) (ci := 1) (j := 4) (ty := .int) C (dq D_Model_item 56 rfl) rfl rfl (mo hP) rfl k_fl_Model_133 (Or.inl rfl) (by decide +kernel) rfl rfl ?_
      simp only [List.set_cons_zero, List.set_cons_succ]
      rw [mh_p hP]
      refine x_aload_n (pc := 103) C (dq D_Model_item 57 rfl) rfl ?_
      refine x_get (pc := 104) (ci := 1) (j := 8) C (dq D_Model_item 58 rfl) rfl rfl (mo hP) rfl k_fl_Model_94 ?_
      exact x_iret (pc := 107) C (dq D_Model_item 59 rfl) rfl (by decide) ⟨rfl, rfl⟩
    | succ d ih =>
      intro k R hkd hR
      refine x_iload_n (pc := 54) C (dq D_Model_item 29 rfl) rfl ?_
      refine x_aload_n (pc := 55) C (dq D_Model_item 30 rfl) rfl ?_
      refine x_get (pc := 56) (ci := 1) (j := 4) C (dq D_Model_item 31 rfl) rfl rfl (by first | exact mo hP | exact ma hP rfl rfl) rfl k_fl_Model_133 ?_
      refine n_ge_f (pc := 59) (tgt := 88) C (dq D_Model_item 32 rfl) (by decide) (by omega) (by omega) ?_
      refine x_aload_n (pc := 62) C (dq D_Model_item 33 rfl) rfl ?_
      refine x_get (pc := 63) (ci := 1) (j := 10) C (dq D_Model_item 34 rfl) rfl rfl (by first | exact mo hP | exact ma hP rfl rfl) rfl k_fl_Model_28 ?_
      refine x_bipush (pc := 66) C (dq D_Model_item 35 rfl) cb_40 ?_
      refine x_aload_n (pc := 68) C (dq D_Model_item 36 rfl) rfl ?_
      refine x_get (pc := 69) (ci := 1) (j := 8) C (dq D_Model_item 37 rfl) rfl rfl (by first | exact mo hP | exact ma hP rfl rfl) rfl k_fl_Model_94 ?_
      refine n_imul (pc := 72) C (dq D_Model_item 38 rfl) ?_
      refine x_iload_n (pc := 73) C (dq D_Model_item 39 rfl) rfl ?_
      refine n_iadd (pc := 74) C (dq D_Model_item 40 rfl) ?_
      refine x_aload_n (pc := 75) C (dq D_Model_item 41 rfl) rfl ?_
      refine x_get (pc := 76) (ci := 1) (j := 5) C (dq D_Model_item 42 rfl) rfl rfl (by first | exact mo hP | exact ma hP rfl rfl) rfl k_fl_Model_19 ?_
      refine x_iload_n (pc := 79) C (dq D_Model_item 43 rfl) rfl ?_
      refine x_iald (pc := 80) C (dq D_Model_item 44 rfl) (by first | exact mo hP | exact ma hP rfl rfl) (by (try simp only [List.length_set]); omega) ?_
      refine x_iast (pc := 81) C (dq D_Model_item 45 rfl) (by first | exact mo hP | exact ma hP rfl rfl) (by (try simp only [List.length_set]); omega) ?_
      try rw [List.set_set]
      refine x_iinc (pc := 82) C (dq D_Model_item 46 rfl) rfl (ii_1 _) rfl rfl ?_
      simp only [List.set_cons_zero, List.set_cons_succ]
      rw [mh_s hP rfl rfl]
      simp only [Nat.reduceSub, List.set_cons_zero, List.set_cons_succ]
      refine x_goto (pc := 85) (tgt := 54) C (dq D_Model_item 47 rfl) (by decide) ?_
      exact ih (k + 1) (itp IN nt k R) (by omega) (by rw [itp_len]; exact hR)
  refine x_aload_n (pc := 0) C (dq D_Model_item 0 rfl) rfl ?_
  refine x_aload_n (pc := 1) C (dq D_Model_item 1 rfl) rfl ?_
  refine x_get (pc := 2) (ci := 1) (j := 4) C (dq D_Model_item 2 rfl) rfl rfl (mo hP) rfl k_fl_Model_133 ?_
  refine x_bipush (pc := 5) C (dq D_Model_item 3 rfl) cb_40 ?_
  refine n_le_t (pc := 7) (tgt := 14) C (dq D_Model_item 4 rfl) (by decide) (by omega) (by omega) ?_
  refine x_aload_n (pc := 14) C (dq D_Model_item 7 rfl) rfl ?_
  refine x_get (pc := 15) (ci := 1) (j := 8) C (dq D_Model_item 8 rfl) rfl rfl (mo hP) rfl k_fl_Model_94 ?_
  refine x_iconst (pc := 18) C (dq D_Model_item 9 rfl) ci_5 ?_
  refine n_ne_t (pc := 19) (tgt := 26) C (dq D_Model_item 10 rfl) (by decide) (by omega) (by omega) ?_
  refine x_iconst (pc := 26) C (dq D_Model_item 13 rfl) ci_0 ?_
  refine x_put (pc := 27) (ci := 1) (j := 0) (ty := .int) C (dq D_Model_item 14 rfl) rfl rfl (mo hP) rfl k_fl_Model_64 (Or.inl rfl) (by decide +kernel) rfl rfl ?_
  simp only [List.set_cons_zero, List.set_cons_succ]
  rw [mh_p hP]
  refine x_aload_n (pc := 30) C (dq D_Model_item 15 rfl) rfl ?_
  refine x_get (pc := 31) (ci := 1) (j := 0) C (dq D_Model_item 16 rfl) rfl rfl (by first | exact mo hP | exact ma hP rfl rfl) rfl k_fl_Model_64 ?_
  refine n_ifle_t (pc := 34) (tgt := 39) C (dq D_Model_item 17 rfl) (by decide) (by omega) (by omega) ?_
  refine x_aload_n (pc := 39) C (dq D_Model_item 20 rfl) rfl ?_
  refine x_get (pc := 40) (ci := 1) (j := 9) C (dq D_Model_item 21 rfl) rfl rfl (by first | exact mo hP | exact ma hP rfl rfl) rfl k_fl_Model_25 ?_
  refine x_aload_n (pc := 43) C (dq D_Model_item 22 rfl) rfl ?_
  refine x_get (pc := 44) (ci := 1) (j := 8) C (dq D_Model_item 23 rfl) rfl rfl (by first | exact mo hP | exact ma hP rfl rfl) rfl k_fl_Model_94 ?_
  refine x_aload_n (pc := 47) C (dq D_Model_item 24 rfl) rfl ?_
  refine x_get (pc := 48) (ci := 1) (j := 4) C (dq D_Model_item 25 rfl) rfl rfl (by first | exact mo hP | exact ma hP rfl rfl) rfl k_fl_Model_133 ?_
  refine x_iast (pc := 51) C (dq D_Model_item 26 rfl) (by first | exact mo hP | exact ma hP rfl rfl) (by (try simp only [List.length_set]); omega) ?_
  try rw [List.set_set]
  rw [mh_s hP rfl rfl]
  simp only [Nat.reduceSub, List.set_cons_zero, List.set_cons_succ]
  refine x_iconst (pc := 52) C (dq D_Model_item 27 rfl) ci_0 ?_
  refine x_istore_n (i := 1) (pc := 53) C (dq D_Model_item 28 rfl) rfl rfl rfl ?_
  simp only [List.set_cons_zero, List.set_cons_succ]
  exact loop ni 0 IB (by omega) hB
theorem cm_item_long {g : Gp} {P S : Hp} {cd ni no nt nr nl : Nat} {W T U IN OUT IS IB BL MV ROW TX MA SM KP : List Nat} (hP : P.length = 44) (hn : 40 < ni ∧ ni ≤ 88) :
    Con g M_Model_item 0 (0, 0) [.ref (zA (gz g) 44)] (mh g P cd ni no nt nr nl [W, T, U, IN, OUT, IS, IB, BL, MV, ROW, TX, MA, SM, KP] S) (Ret (some (.int (nI 0))) (mh g P 1 ni no nt nr nl [W, T, U, IN, OUT, IS, IB, BL, MV, ROW, TX, MA, SM, KP] S)) := by
  refine Con.of (by decide) rfl rfl (L := [some (.ref (zA (gz g) 44)), none]) rfl (fun f C => ?_)
  refine x_aload_n (pc := 0) C (dq D_Model_item 0 rfl) rfl ?_
  refine x_aload_n (pc := 1) C (dq D_Model_item 1 rfl) rfl ?_
  refine x_get (pc := 2) (ci := 1) (j := 4) C (dq D_Model_item 2 rfl) rfl rfl (mo hP) rfl k_fl_Model_133 ?_
  refine x_bipush (pc := 5) C (dq D_Model_item 3 rfl) cb_40 ?_
  refine n_le_f (pc := 7) (tgt := 14) C (dq D_Model_item 4 rfl) (by decide) (by omega) (by omega) ?_
  refine x_iconst (pc := 10) C (dq D_Model_item 5 rfl) ci_1 ?_
  refine x_goto (pc := 11) (tgt := 27) C (dq D_Model_item 6 rfl) (by decide) ?_
  refine x_put (pc := 27) (ci := 1) (j := 0) (ty := .int) C (dq D_Model_item 14 rfl) rfl rfl (mo hP) rfl k_fl_Model_64 (Or.inl rfl) (by decide +kernel) rfl rfl ?_
  simp only [List.set_cons_zero, List.set_cons_succ]
  rw [mh_p hP]
  refine x_aload_n (pc := 30) C (dq D_Model_item 15 rfl) rfl ?_
  refine x_get (pc := 31) (ci := 1) (j := 0) C (dq D_Model_item 16 rfl) rfl rfl (mo hP) rfl k_fl_Model_64 ?_
  refine n_ifle_f (pc := 34) (tgt := 39) C (dq D_Model_item 17 rfl) (by decide) (by omega) (by omega) ?_
  refine x_iconst (pc := 37) C (dq D_Model_item 18 rfl) ci_0 ?_
  exact x_iret (pc := 38) C (dq D_Model_item 19 rfl) rfl (by decide) ⟨rfl, rfl⟩
theorem cm_item_full {g : Gp} {P S : Hp} {cd ni no nt nr nl : Nat} {W T U IN OUT IS IB BL MV ROW TX MA SM KP : List Nat} (hP : P.length = 44) (hn : ni ≤ 40) (ht : nt = 5) :
    Con g M_Model_item 0 (0, 0) [.ref (zA (gz g) 44)] (mh g P cd ni no nt nr nl [W, T, U, IN, OUT, IS, IB, BL, MV, ROW, TX, MA, SM, KP] S) (Ret (some (.int (nI 0))) (mh g P 2 ni no nt nr nl [W, T, U, IN, OUT, IS, IB, BL, MV, ROW, TX, MA, SM, KP] S)) := by
  refine Con.of (by decide) rfl rfl (L := [some (.ref (zA (gz g) 44)), none]) rfl (fun f C => ?_)
  refine x_aload_n (pc := 0) C (dq D_Model_item 0 rfl) rfl ?_
  refine x_aload_n (pc := 1) C (dq D_Model_item 1 rfl) rfl ?_
  refine x_get (pc := 2) (ci := 1) (j := 4) C (dq D_Model_item 2 rfl) rfl rfl (mo hP) rfl k_fl_Model_133 ?_
  refine x_bipush (pc := 5) C (dq D_Model_item 3 rfl) cb_40 ?_
  refine n_le_t (pc := 7) (tgt := 14) C (dq D_Model_item 4 rfl) (by decide) (by omega) (by omega) ?_
  refine x_aload_n (pc := 14) C (dq D_Model_item 7 rfl) rfl ?_
  refine x_get (pc := 15) (ci := 1) (j := 8) C (dq D_Model_item 8 rfl) rfl rfl (mo hP) rfl k_fl_Model_94 ?_
  refine x_iconst (pc := 18) C (dq D_Model_item 9 rfl) ci_5 ?_
  refine n_ne_f (pc := 19) (tgt := 26) C (dq D_Model_item 10 rfl) (by decide) (by omega) (by omega) ?_
  refine x_iconst (pc := 22) C (dq D_Model_item 11 rfl) ci_2 ?_
  refine x_goto (pc := 23) (tgt := 27) C (dq D_Model_item 12 rfl) (by decide) ?_
  refine x_put (pc := 27) (ci := 1) (j := 0) (ty := .int) C (dq D_Model_item 14 rfl) rfl rfl (mo hP) rfl k_fl_Model_64 (Or.inl rfl) (by decide +kernel) rfl rfl ?_
  simp only [List.set_cons_zero, List.set_cons_succ]
  rw [mh_p hP]
  refine x_aload_n (pc := 30) C (dq D_Model_item 15 rfl) rfl ?_
  refine x_get (pc := 31) (ci := 1) (j := 0) C (dq D_Model_item 16 rfl) rfl rfl (mo hP) rfl k_fl_Model_64 ?_
  refine n_ifle_f (pc := 34) (tgt := 39) C (dq D_Model_item 17 rfl) (by decide) (by omega) (by omega) ?_
  refine x_iconst (pc := 37) C (dq D_Model_item 18 rfl) ci_0 ?_
  exact x_iret (pc := 38) C (dq D_Model_item 19 rfl) rfl (by decide) ⟨rfl, rfl⟩
