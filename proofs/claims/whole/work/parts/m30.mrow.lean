/-! The reference's rows: begin, show, single, front, dropFront. -/
theorem cp16T {R B : List Nat} (hR : 16 ≤ R.length) (h : B.length = 16) : it (cp1 R) 0 16 B = R.take 16 := by
  have h1 := cp1_take (R := R) 16 0 B (by omega) (by omega) (by simp)
  rw [List.take_of_length_le (by rw [it_len (cp1_len R)]; omega)] at h1
  exact h1
theorem cm_begin {g : Gp} {P S : Hp} {cd ni no nt nr nl : Nat} {W T U IN OUT IS IB BL MV ROW TX MA SM KP : List Nat} (hP : P.length = 44) (hI : IN.length = 88) (hn : ni ≤ 88) (hR : ROW.length = 112) :
    Con g M_Model_begin 0 (0, 0) [.ref (zA (gz g) 44)] (mh g P cd ni no nt nr nl [W, T, U, IN, OUT, IS, IB, BL, MV, ROW, TX, MA, SM, KP] S) (Ret none (mh g P cd ni no nt ni nl [W, T, U, IN, OUT, IS, IB, BL, MV, (it (cp1 IN) 0 ni ROW), TX, MA, SM, KP] S)) := by
  refine Con.of (by decide) rfl rfl (L := [some (.ref (zA (gz g) 44)), none]) rfl (fun f C => ?_)
  have loop : ∀ (d k : Nat) (R : List Nat), k + d = ni → R.length = 112 → X g f M_Model_begin (0, 0) (Ret none (mh g P cd ni no nt ni nl [W, T, U, IN, OUT, IS, IB, BL, MV, (it (cp1 IN) k d R), TX, MA, SM, KP] S)) (0, 0) 10 [some (.ref (zA (gz g) 44)), some (.int (nI k))] [] (mh g P cd ni no nt ni nl [W, T, U, IN, OUT, IS, IB, BL, MV, R, TX, MA, SM, KP] S) := by
    intro d
    induction d with
    | zero =>
      intro k R hkd hR
      refine x_iload_n (pc := 10) C (dq D_Model_begin 6 rfl) rfl ?_
      refine x_aload_n (pc := 11) C (dq D_Model_begin 7 rfl) rfl ?_
      refine x_get (pc := 12) (ci := 1) (j := 4) C (dq D_Model_begin 8 rfl) rfl rfl (mo hP) rfl k_fl_Model_133 ?_
      refine n_ge_t (pc := 15) (tgt := 36) C (dq D_Model_begin 9 rfl) (by decide) (by omega) (by omega) ?_
      exact x_vret (pc := 36) C (dq D_Model_begin 20 rfl) rfl (by decide) ⟨rfl, rfl⟩
    | succ d ih =>
      intro k R hkd hR
      refine x_iload_n (pc := 10) C (dq D_Model_begin 6 rfl) rfl ?_
      refine x_aload_n (pc := 11) C (dq D_Model_begin 7 rfl) rfl ?_
      refine x_get (pc := 12) (ci := 1) (j := 4) C (dq D_Model_begin 8 rfl) rfl rfl (by first | exact mo hP | exact ma hP rfl rfl) rfl k_fl_Model_133 ?_
      refine n_ge_f (pc := 15) (tgt := 36) C (dq D_Model_begin 9 rfl) (by decide) (by omega) (by omega) ?_
      refine x_aload_n (pc := 18) C (dq D_Model_begin 10 rfl) rfl ?_
      refine x_get (pc := 19) (ci := 1) (j := 14) C (dq D_Model_begin 11 rfl) rfl rfl (by first | exact mo hP | exact ma hP rfl rfl) rfl k_fl_Model_37 ?_
      refine x_iload_n (pc := 22) C (dq D_Model_begin 12 rfl) rfl ?_
      refine x_aload_n (pc := 23) C (dq D_Model_begin 13 rfl) rfl ?_
      refine x_get (pc := 24) (ci := 1) (j := 5) C (dq D_Model_begin 14 rfl) rfl rfl (by first | exact mo hP | exact ma hP rfl rfl) rfl k_fl_Model_19 ?_
      refine x_iload_n (pc := 27) C (dq D_Model_begin 15 rfl) rfl ?_
      refine x_iald (pc := 28) C (dq D_Model_begin 16 rfl) (by first | exact mo hP | exact ma hP rfl rfl) (by (try simp only [List.length_set]); omega) ?_
      refine x_iast (pc := 29) C (dq D_Model_begin 17 rfl) (by first | exact mo hP | exact ma hP rfl rfl) (by (try simp only [List.length_set]); omega) ?_
      try rw [List.set_set]
      refine x_iinc (pc := 30) C (dq D_Model_begin 18 rfl) rfl (ii_1 _) rfl rfl ?_
      simp only [List.set_cons_zero, List.set_cons_succ]
      rw [mh_s hP rfl rfl]
      simp only [Nat.reduceSub, List.set_cons_zero, List.set_cons_succ]
      refine x_goto (pc := 33) (tgt := 10) C (dq D_Model_begin 19 rfl) (by decide) ?_
      exact ih (k + 1) (cp1 IN k R) (by omega) (by rw [cp1_len]; exact hR)
  refine x_aload_n (pc := 0) C (dq D_Model_begin 0 rfl) rfl ?_
  refine x_aload_n (pc := 1) C (dq D_Model_begin 1 rfl) rfl ?_
  refine x_get (pc := 2) (ci := 1) (j := 4) C (dq D_Model_begin 2 rfl) rfl rfl (mo hP) rfl k_fl_Model_133 ?_
  refine x_put (pc := 5) (ci := 1) (j := 13) (ty := .int) C (dq D_Model_begin 3 rfl) rfl rfl (mo hP) rfl k_fl_Model_100 (Or.inl rfl) (by decide +kernel) rfl rfl ?_
  simp only [List.set_cons_zero, List.set_cons_succ]
  rw [mh_p hP]
  refine x_iconst (pc := 8) C (dq D_Model_begin 4 rfl) ci_0 ?_
  refine x_istore_n (i := 1) (pc := 9) C (dq D_Model_begin 5 rfl) rfl rfl rfl ?_
  simp only [List.set_cons_zero, List.set_cons_succ]
  exact loop ni 0 ROW (by omega) hR
theorem cm_show {g : Gp} {P S : Hp} {cd ni no nt nr nl : Nat} {W T U IN OUT IS IB BL MV ROW TX MA SM KP : List Nat} (hP : P.length = 44) (hO : OUT.length = 112) (hn : nr ≤ 88) (hR : ROW.length = 112) :
    Con g M_Model_show 0 (0, 0) [.ref (zA (gz g) 44)] (mh g P cd ni no nt nr nl [W, T, U, IN, OUT, IS, IB, BL, MV, ROW, TX, MA, SM, KP] S) (Ret (some (.int (nI nr))) (mh g P cd ni nr nt nr nl [W, T, U, IN, (it (cp1 ROW) 0 nr OUT), IS, IB, BL, MV, ROW, TX, MA, SM, KP] S)) := by
  refine Con.of (by decide) rfl rfl (L := [some (.ref (zA (gz g) 44)), none]) rfl (fun f C => ?_)
  have loop : ∀ (d k : Nat) (R : List Nat), k + d = nr → R.length = 112 → X g f M_Model_show (0, 0) (Ret (some (.int (nI nr))) (mh g P cd ni nr nt nr nl [W, T, U, IN, (it (cp1 ROW) k d R), IS, IB, BL, MV, ROW, TX, MA, SM, KP] S)) (0, 0) 10 [some (.ref (zA (gz g) 44)), some (.int (nI k))] [] (mh g P cd ni nr nt nr nl [W, T, U, IN, R, IS, IB, BL, MV, ROW, TX, MA, SM, KP] S) := by
    intro d
    induction d with
    | zero =>
      intro k R hkd hR
      refine x_iload_n (pc := 10) C (dq D_Model_show 6 rfl) rfl ?_
      refine x_aload_n (pc := 11) C (dq D_Model_show 7 rfl) rfl ?_
      refine x_get (pc := 12) (ci := 1) (j := 13) C (dq D_Model_show 8 rfl) rfl rfl (mo hP) rfl k_fl_Model_100 ?_
      refine n_ge_t (pc := 15) (tgt := 36) C (dq D_Model_show 9 rfl) (by decide) (by omega) (by omega) ?_
      refine x_aload_n (pc := 36) C (dq D_Model_show 20 rfl) rfl ?_
      refine x_get (pc := 37) (ci := 1) (j := 6) C (dq D_Model_show 21 rfl) rfl rfl (mo hP) rfl k_fl_Model_136 ?_
      exact x_iret (pc := 40) C (dq D_Model_show 22 rfl) rfl (by decide) ⟨rfl, rfl⟩
    | succ d ih =>
      intro k R hkd hR2
      refine x_iload_n (pc := 10) C (dq D_Model_show 6 rfl) rfl ?_
      refine x_aload_n (pc := 11) C (dq D_Model_show 7 rfl) rfl ?_
      refine x_get (pc := 12) (ci := 1) (j := 13) C (dq D_Model_show 8 rfl) rfl rfl (by first | exact mo hP | exact ma hP rfl rfl) rfl k_fl_Model_100 ?_
      refine n_ge_f (pc := 15) (tgt := 36) C (dq D_Model_show 9 rfl) (by decide) (by omega) (by omega) ?_
      refine x_aload_n (pc := 18) C (dq D_Model_show 10 rfl) rfl ?_
      refine x_get (pc := 19) (ci := 1) (j := 7) C (dq D_Model_show 11 rfl) rfl rfl (by first | exact mo hP | exact ma hP rfl rfl) rfl k_fl_Model_22 ?_
      refine x_iload_n (pc := 22) C (dq D_Model_show 12 rfl) rfl ?_
      refine x_aload_n (pc := 23) C (dq D_Model_show 13 rfl) rfl ?_
      refine x_get (pc := 24) (ci := 1) (j := 14) C (dq D_Model_show 14 rfl) rfl rfl (by first | exact mo hP | exact ma hP rfl rfl) rfl k_fl_Model_37 ?_
      refine x_iload_n (pc := 27) C (dq D_Model_show 15 rfl) rfl ?_
      refine x_iald (pc := 28) C (dq D_Model_show 16 rfl) (by first | exact mo hP | exact ma hP rfl rfl) (by (try simp only [List.length_set]); omega) ?_
      refine x_iast (pc := 29) C (dq D_Model_show 17 rfl) (by first | exact mo hP | exact ma hP rfl rfl) (by (try simp only [List.length_set]); omega) ?_
      try rw [List.set_set]
      refine x_iinc (pc := 30) C (dq D_Model_show 18 rfl) rfl (ii_1 _) rfl rfl ?_
      simp only [List.set_cons_zero, List.set_cons_succ]
      rw [mh_s hP rfl rfl]
      simp only [Nat.reduceSub, List.set_cons_zero, List.set_cons_succ]
      refine x_goto (pc := 33) (tgt := 10) C (dq D_Model_show 19 rfl) (by decide) ?_
      exact ih (k + 1) (cp1 ROW k R) (by omega) (by rw [cp1_len]; exact hR2)
  refine x_aload_n (pc := 0) C (dq D_Model_show 0 rfl) rfl ?_
  refine x_aload_n (pc := 1) C (dq D_Model_show 1 rfl) rfl ?_
  refine x_get (pc := 2) (ci := 1) (j := 13) C (dq D_Model_show 2 rfl) rfl rfl (mo hP) rfl k_fl_Model_100 ?_
  refine x_put (pc := 5) (ci := 1) (j := 6) (ty := .int) C (dq D_Model_show 3 rfl) rfl rfl (mo hP) rfl k_fl_Model_136 (Or.inl rfl) (by decide +kernel) rfl rfl ?_
  simp only [List.set_cons_zero, List.set_cons_succ]
  rw [mh_p hP]
  refine x_iconst (pc := 8) C (dq D_Model_show 4 rfl) ci_0 ?_
  refine x_istore_n (i := 1) (pc := 9) C (dq D_Model_show 5 rfl) rfl rfl rfl ?_
  simp only [List.set_cons_zero, List.set_cons_succ]
  exact loop nr 0 OUT (by omega) hO
/-- one block of a row turned -/
def sgl (K R : List Nat) : List Nat := it (cp1 K) 0 16 R
theorem cm_single {g : Gp} {P S : Hp} {cd ni no nt nr nl : Nat} {W T U IN OUT IS IB BL MV ROW TX MA SM KP : List Nat} {bk : Nat} (hP : P.length = 44) (hW : W.length = 88 ∧ by32 W) (hT : T.length = 256 ∧ by8 T) (hU : U.length = 256 ∧ by8 U) (hb : bm16 (BL, MV)) (hR : ROW.length = 112 ∧ by8 ROW) (hk : bk < 2) :
    Con g M_Model_single 2 (0, 0) [.ref (zA (gz g) 44), .int (nI bk)] (mh g P cd ni no nt nr nl [W, T, U, IN, OUT, IS, IB, BL, MV, ROW, TX, MA, SM, KP] S) (fun o h' => o = .returned none ∧ ∃ B' M' : List Nat, bm16 (B', M') ∧ h' = mh g P cd ni no nt nr nl [W, T, U, IN, OUT, IS, IB, B', M', (sgl (if bk = 0 then enc T W 0 (ROW.take 16) else dec U W 0 (ROW.take 16)) ROW), TX, MA, SM, KP] S) := by
  have hRl := hR.1
  have ht : (ROW.take 16).length = 16 := by rw [List.length_take]; omega
  have ht8 := hR.2.take 16
  have hK : ((if bk = 0 then enc T W 0 (ROW.take 16) else dec U W 0 (ROW.take 16))).length = 16 ∧ by8 (if bk = 0 then enc T W 0 (ROW.take 16) else dec U W 0 (ROW.take 16)) := by
    split
    · exact enc_ok hT.2 W 0 ht ht8
    · exact dec_ok hU.2 W 0 ht ht8
  refine Con.of (by decide) rfl rfl (L := [some (.ref (zA (gz g) 44)), some (.int (nI bk)), none]) rfl (fun f C => ?_)
  have back : ∀ (d k : Nat) (K V R : List Nat), K = (if bk = 0 then enc T W 0 (ROW.take 16) else dec U W 0 (ROW.take 16)) → k + d = 16 → bm16 (K, V) → R.length = 112 → it (cp1 K) k d R = sgl (if bk = 0 then enc T W 0 (ROW.take 16) else dec U W 0 (ROW.take 16)) ROW → X g f M_Model_single (0, 0) (fun o h' => o = .returned none ∧ ∃ B' M' : List Nat, bm16 (B', M') ∧ h' = mh g P cd ni no nt nr nl [W, T, U, IN, OUT, IS, IB, B', M', (sgl (if bk = 0 then enc T W 0 (ROW.take 16) else dec U W 0 (ROW.take 16)) ROW), TX, MA, SM, KP] S) (0, 0) 45 [some (.ref (zA (gz g) 44)), some (.int (nI bk)), some (.int (nI k))] [] (mh g P cd ni no nt nr nl [W, T, U, IN, OUT, IS, IB, K, V, R, TX, MA, SM, KP] S) := by
    intro d
    induction d with
    | zero =>
      intro k K V R hKe hkd hB hR he
      rw [it_zero] at he
      refine x_iload_n (pc := 45) C (dq D_Model_single 26 rfl) rfl ?_
      refine x_bipush (pc := 46) C (dq D_Model_single 27 rfl) cb_16 ?_
      refine n_ge_t (pc := 48) (tgt := 69) C (dq D_Model_single 28 rfl) (by decide) (by omega) (by omega) ?_
      exact x_vret (pc := 69) C (dq D_Model_single 39 rfl) rfl (by decide) ⟨rfl, K, V, hB, by rw [he]⟩
    | succ d ih =>
      intro k K V R hKe hkd hB hR he
      have hKl := (bm_l hB).1
      refine x_iload_n (pc := 45) C (dq D_Model_single 26 rfl) rfl ?_
      refine x_bipush (pc := 46) C (dq D_Model_single 27 rfl) cb_16 ?_
      refine n_ge_f (pc := 48) (tgt := 69) C (dq D_Model_single 28 rfl) (by decide) (by omega) (by omega) ?_
      refine x_aload_n (pc := 51) C (dq D_Model_single 29 rfl) rfl ?_
      refine x_get (pc := 52) (ci := 1) (j := 14) C (dq D_Model_single 30 rfl) rfl rfl (by first | exact mo hP | exact ma hP rfl rfl) rfl k_fl_Model_37 ?_
      refine x_iload_n (pc := 55) C (dq D_Model_single 31 rfl) rfl ?_
      refine x_aload_n (pc := 56) C (dq D_Model_single 32 rfl) rfl ?_
      refine x_get (pc := 57) (ci := 1) (j := 11) C (dq D_Model_single 33 rfl) rfl rfl (by first | exact mo hP | exact ma hP rfl rfl) rfl k_fl_Model_31 ?_
      refine x_iload_n (pc := 60) C (dq D_Model_single 34 rfl) rfl ?_
      refine x_iald (pc := 61) C (dq D_Model_single 35 rfl) (by first | exact mo hP | exact ma hP rfl rfl) (by (try simp only [List.length_set]); omega) ?_
      refine x_iast (pc := 62) C (dq D_Model_single 36 rfl) (by first | exact mo hP | exact ma hP rfl rfl) (by (try simp only [List.length_set]); omega) ?_
      try rw [List.set_set]
      refine x_iinc (pc := 63) C (dq D_Model_single 37 rfl) rfl (ii_1 _) rfl rfl ?_
      simp only [List.set_cons_zero, List.set_cons_succ]
      rw [mh_s hP rfl rfl]
      simp only [Nat.reduceSub, List.set_cons_zero, List.set_cons_succ]
      refine x_goto (pc := 66) (tgt := 45) C (dq D_Model_single 38 rfl) (by decide) ?_
      exact ih (k + 1) K V (cp1 K k R) hKe (by omega) hB (by rw [cp1_len]; exact hR) he
  have load : ∀ (d k : Nat) (B : List Nat), k + d = 16 → B.length = 16 → it (cp1 ROW) k d B = ROW.take 16 → X g f M_Model_single (0, 0) (fun o h' => o = .returned none ∧ ∃ B' M' : List Nat, bm16 (B', M') ∧ h' = mh g P cd ni no nt nr nl [W, T, U, IN, OUT, IS, IB, B', M', (sgl (if bk = 0 then enc T W 0 (ROW.take 16) else dec U W 0 (ROW.take 16)) ROW), TX, MA, SM, KP] S) (0, 0) 2 [some (.ref (zA (gz g) 44)), some (.int (nI bk)), some (.int (nI k))] [] (mh g P cd ni no nt nr nl [W, T, U, IN, OUT, IS, IB, B, MV, ROW, TX, MA, SM, KP] S) := by
    intro d
    induction d with
    | zero =>
      intro k B hkd hB he
      rw [it_zero] at he
      rw [he]
      by_cases h0 : bk = 0
      · have hKe : enc T W 0 (ROW.take 16) = (if bk = 0 then enc T W 0 (ROW.take 16) else dec U W 0 (ROW.take 16)) := (if_pos h0).symm
        refine x_iload_n (pc := 2) C (dq D_Model_single 2 rfl) rfl ?_
        refine x_bipush (pc := 3) C (dq D_Model_single 3 rfl) cb_16 ?_
        refine n_ge_t (pc := 5) (tgt := 26) C (dq D_Model_single 4 rfl) (by decide) (by omega) (by omega) ?_
        refine x_iload_n (pc := 26) C (dq D_Model_single 15 rfl) rfl ?_
        refine n_ifeq_t (pc := 27) (tgt := 38) C (dq D_Model_single 16 rfl) (by decide) (by omega) (by omega) ?_
        refine x_aload_n (pc := 38) C (dq D_Model_single 21 rfl) rfl ?_
        refine x_iconst (pc := 39) C (dq D_Model_single 22 rfl) ci_0 ?_
        refine x_cV (pc := 40) (ci := 1) (M := M_Model_encipher) C (dq D_Model_single 23 rfl) k_ml_Model_84 m_Model_encipher rfl rfl (mo hP) (c_enc hP hW hT hU (bm_mk ht ht8 (bm_r hb).1 (bm_r hb).2) (by omega)) rfl rfl rfl rfl (by decide) (fun o h2 hp => ?_)
        obtain ⟨rfl, V2, hV2, rfl⟩ := hp
        refine ⟨none, rfl, ?_⟩
        show X g f M_Model_single (0, 0) (fun o h' => o = .returned none ∧ ∃ B' M' : List Nat, bm16 (B', M') ∧ h' = mh g P cd ni no nt nr nl [W, T, U, IN, OUT, IS, IB, B', M', (sgl (if bk = 0 then enc T W 0 (ROW.take 16) else dec U W 0 (ROW.take 16)) ROW), TX, MA, SM, KP] S) (0, 0) 43 [some (.ref (zA (gz g) 44)), some (.int (nI bk)), some (.int (nI k))] [] (mh g P cd ni no nt nr nl [W, T, U, IN, OUT, IS, IB, (enc T W 0 (ROW.take 16)), V2, ROW, TX, MA, SM, KP] S)
        refine x_iconst (pc := 43) C (dq D_Model_single 24 rfl) ci_0 ?_
        refine x_istore_n (i := 2) (pc := 44) C (dq D_Model_single 25 rfl) rfl rfl rfl ?_
        simp only [List.set_cons_zero, List.set_cons_succ]
        exact back 16 0 _ V2 ROW hKe rfl hV2 hRl (by rw [sgl, ← hKe])
      · have hKe : dec U W 0 (ROW.take 16) = (if bk = 0 then enc T W 0 (ROW.take 16) else dec U W 0 (ROW.take 16)) := (if_neg h0).symm
        refine x_iload_n (pc := 2) C (dq D_Model_single 2 rfl) rfl ?_
        refine x_bipush (pc := 3) C (dq D_Model_single 3 rfl) cb_16 ?_
        refine n_ge_t (pc := 5) (tgt := 26) C (dq D_Model_single 4 rfl) (by decide) (by omega) (by omega) ?_
        refine x_iload_n (pc := 26) C (dq D_Model_single 15 rfl) rfl ?_
        refine n_ifeq_f (pc := 27) (tgt := 38) C (dq D_Model_single 16 rfl) (by decide) (by omega) (by omega) ?_
        refine x_aload_n (pc := 30) C (dq D_Model_single 17 rfl) rfl ?_
        refine x_iconst (pc := 31) C (dq D_Model_single 18 rfl) ci_0 ?_
        refine x_cV (pc := 32) (ci := 1) (M := M_Model_decipher) C (dq D_Model_single 19 rfl) k_ml_Model_114 m_Model_decipher rfl rfl (mo hP) (c_dec hP hW hT hU (bm_mk ht ht8 (bm_r hb).1 (bm_r hb).2) (by omega)) rfl rfl rfl rfl (by decide) (fun o h2 hp => ?_)
        obtain ⟨rfl, V2, hV2, rfl⟩ := hp
        refine ⟨none, rfl, ?_⟩
        show X g f M_Model_single (0, 0) (fun o h' => o = .returned none ∧ ∃ B' M' : List Nat, bm16 (B', M') ∧ h' = mh g P cd ni no nt nr nl [W, T, U, IN, OUT, IS, IB, B', M', (sgl (if bk = 0 then enc T W 0 (ROW.take 16) else dec U W 0 (ROW.take 16)) ROW), TX, MA, SM, KP] S) (0, 0) 35 [some (.ref (zA (gz g) 44)), some (.int (nI bk)), some (.int (nI k))] [] (mh g P cd ni no nt nr nl [W, T, U, IN, OUT, IS, IB, (dec U W 0 (ROW.take 16)), V2, ROW, TX, MA, SM, KP] S)
        refine x_goto (pc := 35) (tgt := 43) C (dq D_Model_single 20 rfl) (by decide) ?_
        refine x_iconst (pc := 43) C (dq D_Model_single 24 rfl) ci_0 ?_
        refine x_istore_n (i := 2) (pc := 44) C (dq D_Model_single 25 rfl) rfl rfl rfl ?_
        simp only [List.set_cons_zero, List.set_cons_succ]
        exact back 16 0 _ V2 ROW hKe rfl hV2 hRl (by rw [sgl, ← hKe])
    | succ d ih =>
      intro k B hkd hB he
      refine x_iload_n (pc := 2) C (dq D_Model_single 2 rfl) rfl ?_
      refine x_bipush (pc := 3) C (dq D_Model_single 3 rfl) cb_16 ?_
      refine n_ge_f (pc := 5) (tgt := 26) C (dq D_Model_single 4 rfl) (by decide) (by omega) (by omega) ?_
      refine x_aload_n (pc := 8) C (dq D_Model_single 5 rfl) rfl ?_
      refine x_get (pc := 9) (ci := 1) (j := 11) C (dq D_Model_single 6 rfl) rfl rfl (by first | exact mo hP | exact ma hP rfl rfl) rfl k_fl_Model_31 ?_
      refine x_iload_n (pc := 12) C (dq D_Model_single 7 rfl) rfl ?_
      refine x_aload_n (pc := 13) C (dq D_Model_single 8 rfl) rfl ?_
      refine x_get (pc := 14) (ci := 1) (j := 14) C (dq D_Model_single 9 rfl) rfl rfl (by first | exact mo hP | exact ma hP rfl rfl) rfl k_fl_Model_37 ?_
      refine x_iload_n (pc := 17) C (dq D_Model_single 10 rfl) rfl ?_
      refine x_iald (pc := 18) C (dq D_Model_single 11 rfl) (by first | exact mo hP | exact ma hP rfl rfl) (by (try simp only [List.length_set]); omega) ?_
      refine x_iast (pc := 19) C (dq D_Model_single 12 rfl) (by first | exact mo hP | exact ma hP rfl rfl) (by (try simp only [List.length_set]); omega) ?_
      try rw [List.set_set]
      refine x_iinc (pc := 20) C (dq D_Model_single 13 rfl) rfl (ii_1 _) rfl rfl ?_
      simp only [List.set_cons_zero, List.set_cons_succ]
      rw [mh_s hP rfl rfl]
      simp only [Nat.reduceSub, List.set_cons_zero, List.set_cons_succ]
      refine x_goto (pc := 23) (tgt := 2) C (dq D_Model_single 14 rfl) (by decide) ?_
      exact ih (k + 1) (cp1 ROW k B) (by omega) (by rw [cp1_len]; exact hB) he
  refine x_iconst (pc := 0) C (dq D_Model_single 0 rfl) ci_0 ?_
  refine x_istore_n (i := 2) (pc := 1) C (dq D_Model_single 1 rfl) rfl rfl rfl ?_
  simp only [List.set_cons_zero, List.set_cons_succ]
  exact load 16 0 BL rfl (bm_l hb).1 (cp16T (by omega) (bm_l hb).1)
/-- eight bytes in front of a row; the front dropped -/
def frs (k : Nat) (R : List Nat) : List Nat := R.set k (R.getD (k - 8) 0)
def fr8 (b c k : Nat) (R : List Nat) : List Nat := R.set k (if k = 1 ∨ k = 2 then c else b)
def frt (b c n : Nat) (R : List Nat) : List Nat := it (fr8 b c) 0 8 (it (fun i => frs (n + 7 - i)) 0 n R)
def drs (k : Nat) (R : List Nat) : List Nat := R.set k (R.getD (k + 8) 0)
def drp (n : Nat) (R : List Nat) : List Nat := it drs 0 n R
theorem frs_len (k : Nat) (R : List Nat) : (frs k R).length = R.length := List.length_set
theorem fr8_len (b c k : Nat) (R : List Nat) : (fr8 b c k R).length = R.length := List.length_set
theorem drs_len (k : Nat) (R : List Nat) : (drs k R).length = R.length := List.length_set
theorem frt_ok {b c : Nat} (hb : b < 256) (hc : c < 256) (n : Nat) {R : List Nat} (h : by8 R) : (frt b c n R).length = R.length ∧ by8 (frt b c n R) := by
  unfold frt
  refine ⟨by rw [it_len (fr8_len b c), it_len (fun i S => frs_len (n + 7 - i) S)], it_inv by8 8 0 _ (fun j S _ _ hS => hS.set (by split <;> omega)) (it_inv by8 n 0 R (fun j S _ _ hS => hS.set (hS.at _)) h)⟩
theorem drp_ok (n : Nat) {R : List Nat} (h : by8 R) : (drp n R).length = R.length ∧ by8 (drp n R) := by
  unfold drp
  exact ⟨it_len drs_len n 0 R, it_inv by8 n 0 R (fun j S _ _ hS => hS.set (hS.at _)) h⟩
theorem cm_front {g : Gp} {P S : Hp} {cd ni no nt nr nl : Nat} {W T U IN OUT IS IB BL MV ROW TX MA SM KP : List Nat} {b c : Nat} (hP : P.length = 44) (hR : ROW.length = 112) (hn : nr ≤ 88) :
    Con g M_Model_front 0 (0, 0) [.ref (zA (gz g) 44), .int (nI b), .int (nI c)] (mh g P cd ni no nt nr nl [W, T, U, IN, OUT, IS, IB, BL, MV, ROW, TX, MA, SM, KP] S) (Ret none (mh g P cd ni no nt (nr + 8) nl [W, T, U, IN, OUT, IS, IB, BL, MV, (frt b c nr ROW), TX, MA, SM, KP] S)) := by
  refine Con.of (by decide) rfl rfl (L := [some (.ref (zA (gz g) 44)), some (.int (nI b)), some (.int (nI c)), none]) rfl (fun f C => ?_)
  have eight : ∀ (d k : Nat) (R : List Nat), k + d = 8 → R.length = 112 → it (fr8 b c) k d R = frt b c nr ROW → X g f M_Model_front (0, 0) (Ret none (mh g P cd ni no nt (nr + 8) nl [W, T, U, IN, OUT, IS, IB, BL, MV, (frt b c nr ROW), TX, MA, SM, KP] S)) (0, 0) 37 [some (.ref (zA (gz g) 44)), some (.int (nI b)), some (.int (nI c)), some (.int (nI (k)))] [] (mh g P cd ni no nt nr nl [W, T, U, IN, OUT, IS, IB, BL, MV, R, TX, MA, SM, KP] S) := by
    intro d
    induction d with
    | zero =>
      intro k R hkd hR he
      rw [it_zero] at he
      refine x_iload_n (pc := 37) C (dq D_Model_front 22 rfl) rfl ?_
      refine x_bipush (pc := 38) C (dq D_Model_front 23 rfl) cb_8 ?_
      refine n_ge_t (pc := 40) (tgt := 70) C (dq D_Model_front 24 rfl) (by decide) (by omega) (by omega) ?_
      refine x_aload_n (pc := 70) C (dq D_Model_front 40 rfl) rfl ?_
      refine x_aload_n (pc := 71) C (dq D_Model_front 41 rfl) rfl ?_
      refine x_get (pc := 72) (ci := 1) (j := 13) C (dq D_Model_front 42 rfl) rfl rfl (mo hP) rfl k_fl_Model_100 ?_
      refine x_bipush (pc := 75) C (dq D_Model_front 43 rfl) cb_8 ?_
      refine n_iadd (pc := 77) C (dq D_Model_front 44 rfl) ?_
      refine x_put (pc := 78) (ci := 1) (j := 13) (ty := .int) C (dq D_Model_front 45 rfl) rfl rfl (mo hP) rfl k_fl_Model_100 (Or.inl rfl) (by decide +kernel) rfl rfl ?_
      simp only [List.set_cons_zero, List.set_cons_succ]
      rw [mh_p hP, he]
      exact x_vret (pc := 81) C (dq D_Model_front 46 rfl) rfl (by decide) ⟨rfl, rfl⟩
    | succ d ih =>
      intro k R hkd hR he
      have fin : ∀ v : Nat, v = (if k = 1 ∨ k = 2 then c else b) → X g f M_Model_front (0, 0) (Ret none (mh g P cd ni no nt (nr + 8) nl [W, T, U, IN, OUT, IS, IB, BL, MV, (frt b c nr ROW), TX, MA, SM, KP] S)) (0, 0) 63 [some (.ref (zA (gz g) 44)), some (.int (nI b)), some (.int (nI c)), some (.int (nI k))] [.int (nI v), .int (nI k), .ref (zA (gz g) 54)] (mh g P cd ni no nt nr nl [W, T, U, IN, OUT, IS, IB, BL, MV, R, TX, MA, SM, KP] S) := by
        intro v hv
        refine x_iast (pc := 63) C (dq D_Model_front 37 rfl) (ma hP rfl rfl) (by (try simp only [List.length_set]); omega) ?_
        try rw [List.set_set]
        rw [mh_s hP rfl rfl]
        simp only [Nat.reduceSub, List.set_cons_zero, List.set_cons_succ]
        refine x_iinc (pc := 64) C (dq D_Model_front 38 rfl) rfl (ii_1 _) rfl rfl ?_
        simp only [List.set_cons_zero, List.set_cons_succ]
        refine x_goto (pc := 67) (tgt := 37) C (dq D_Model_front 39 rfl) (by decide) ?_
        refine ih (k + 1) (R.set k v) (by omega) (by rw [List.length_set]; exact hR) ?_
        rw [hv]
        exact he
      refine x_iload_n (pc := 37) C (dq D_Model_front 22 rfl) rfl ?_
      refine x_bipush (pc := 38) C (dq D_Model_front 23 rfl) cb_8 ?_
      refine n_ge_f (pc := 40) (tgt := 70) C (dq D_Model_front 24 rfl) (by decide) (by omega) (by omega) ?_
      refine x_aload_n (pc := 43) C (dq D_Model_front 25 rfl) rfl ?_
      refine x_get (pc := 44) (ci := 1) (j := 14) C (dq D_Model_front 26 rfl) rfl rfl (mo hP) rfl k_fl_Model_37 ?_
      refine x_iload_n (pc := 47) C (dq D_Model_front 27 rfl) rfl ?_
      refine x_iload_n (pc := 48) C (dq D_Model_front 28 rfl) rfl ?_
      refine x_iconst (pc := 49) C (dq D_Model_front 29 rfl) ci_1 ?_
      refine n_eq (pc := 50) (tgt := 58) C (dq D_Model_front 30 rfl) (by decide) (by omega) (fun hq => ?_) (fun hq => ?_)
      · rw [if_pos (Or.inl hq)] at fin
        refine x_iload_n (pc := 58) C (dq D_Model_front 34 rfl) rfl ?_
        refine x_goto (pc := 59) (tgt := 63) C (dq D_Model_front 35 rfl) (by decide) ?_
        exact fin c rfl
      · have hq0 := hq
        refine x_iload_n (pc := 53) C (dq D_Model_front 31 rfl) rfl ?_
        refine x_iconst (pc := 54) C (dq D_Model_front 32 rfl) ci_2 ?_
        refine n_ne (pc := 55) (tgt := 62) C (dq D_Model_front 33 rfl) (by decide) (by omega) (fun hq => ?_) (fun hq => ?_)
        · rw [if_neg (fun z => z.elim hq0 hq)] at fin
          refine x_iload_n (pc := 62) C (dq D_Model_front 36 rfl) rfl ?_
          exact fin b rfl
        · rw [if_pos (Or.inr hq)] at fin
          refine x_iload_n (pc := 58) C (dq D_Model_front 34 rfl) rfl ?_
          refine x_goto (pc := 59) (tgt := 63) C (dq D_Model_front 35 rfl) (by decide) ?_
          exact fin c rfl
  have shift : ∀ (d i : Nat) (R : List Nat), i + d = nr → R.length = 112 → it (fr8 b c) 0 8 (it (fun i => frs (nr + 7 - i)) i d R) = frt b c nr ROW → X g f M_Model_front (0, 0) (Ret none (mh g P cd ni no nt (nr + 8) nl [W, T, U, IN, OUT, IS, IB, BL, MV, (frt b c nr ROW), TX, MA, SM, KP] S)) (0, 0) 8 [some (.ref (zA (gz g) 44)), some (.int (nI b)), some (.int (nI c)), some (.int (nI (7 + d)))] [] (mh g P cd ni no nt nr nl [W, T, U, IN, OUT, IS, IB, BL, MV, R, TX, MA, SM, KP] S) := by
    intro d
    induction d with
    | zero =>
      intro i R hid hR he
      rw [it_zero] at he
      refine x_iload_n (pc := 8) C (dq D_Model_front 5 rfl) rfl ?_
      refine x_bipush (pc := 9) C (dq D_Model_front 6 rfl) cb_8 ?_
      refine n_lt_t (pc := 11) (tgt := 35) C (dq D_Model_front 7 rfl) (by decide) (by omega) (by omega) ?_
      refine x_iconst (pc := 35) C (dq D_Model_front 20 rfl) ci_0 ?_
      refine x_istore_n (i := 3) (pc := 36) C (dq D_Model_front 21 rfl) rfl rfl rfl ?_
      simp only [List.set_cons_zero, List.set_cons_succ]
      exact eight 8 0 R rfl hR he
    | succ d ih =>
      intro i R hid hR he
      have e0 : nr + 7 - i = 7 + (d + 1) := by omega
      have e1 : 7 + (d + 1) - 1 = 7 + d := by omega
      refine x_iload_n (pc := 8) C (dq D_Model_front 5 rfl) rfl ?_
      refine x_bipush (pc := 9) C (dq D_Model_front 6 rfl) cb_8 ?_
      refine n_lt_f (pc := 11) (tgt := 35) C (dq D_Model_front 7 rfl) (by decide) (by omega) (by omega) ?_
      refine x_aload_n (pc := 14) C (dq D_Model_front 8 rfl) rfl ?_
      refine x_get (pc := 15) (ci := 1) (j := 14) C (dq D_Model_front 9 rfl) rfl rfl (by first | exact mo hP | exact ma hP rfl rfl) rfl k_fl_Model_37 ?_
      refine x_iload_n (pc := 18) C (dq D_Model_front 10 rfl) rfl ?_
      refine x_aload_n (pc := 19) C (dq D_Model_front 11 rfl) rfl ?_
      refine x_get (pc := 20) (ci := 1) (j := 14) C (dq D_Model_front 12 rfl) rfl rfl (by first | exact mo hP | exact ma hP rfl rfl) rfl k_fl_Model_37 ?_
      refine x_iload_n (pc := 23) C (dq D_Model_front 13 rfl) rfl ?_
      refine x_bipush (pc := 24) C (dq D_Model_front 14 rfl) cb_8 ?_
      refine n_isub (pc := 26) C (dq D_Model_front 15 rfl) (by omega) ?_
      refine x_iald (pc := 27) C (dq D_Model_front 16 rfl) (by first | exact mo hP | exact ma hP rfl rfl) (by (try simp only [List.length_set]); omega) ?_
      refine x_iast (pc := 28) C (dq D_Model_front 17 rfl) (by first | exact mo hP | exact ma hP rfl rfl) (by (try simp only [List.length_set]); omega) ?_
      try rw [List.set_set]
      rw [mh_s hP rfl rfl]
      simp only [Nat.reduceSub, List.set_cons_zero, List.set_cons_succ]
      refine x_iinc (pc := 29) C (dq D_Model_front 18 rfl) rfl (iim (by omega)) rfl rfl ?_
      simp only [List.set_cons_zero, List.set_cons_succ]
      refine x_goto (pc := 32) (tgt := 8) C (dq D_Model_front 19 rfl) (by decide) ?_
      rw [e1]
      refine ih (i + 1) (frs (7 + (d + 1)) R) (by omega) (by rw [frs_len]; exact hR) ?_
      rw [it_succ (fun i => frs (nr + 7 - i)) i d R, e0] at he
      exact he
  refine x_aload_n (pc := 0) C (dq D_Model_front 0 rfl) rfl ?_
  refine x_get (pc := 1) (ci := 1) (j := 13) C (dq D_Model_front 1 rfl) rfl rfl (mo hP) rfl k_fl_Model_100 ?_
  refine x_bipush (pc := 4) C (dq D_Model_front 2 rfl) cb_7 ?_
  refine n_iadd (pc := 6) C (dq D_Model_front 3 rfl) ?_
  refine x_istore_n (i := 3) (pc := 7) C (dq D_Model_front 4 rfl) rfl rfl rfl ?_
  simp only [List.set_cons_zero, List.set_cons_succ]
  rw [show nr + 7 = 7 + nr by omega]
  exact shift nr 0 ROW (by omega) hR (by rw [frt])
theorem cm_dropFront {g : Gp} {P S : Hp} {cd ni no nt nr nl : Nat} {W T U IN OUT IS IB BL MV ROW TX MA SM KP : List Nat} (hP : P.length = 44) (hR : ROW.length = 112) (hn : 8 ≤ nr ∧ nr ≤ 96) :
    Con g M_Model_dropFront 0 (0, 0) [.ref (zA (gz g) 44)] (mh g P cd ni no nt nr nl [W, T, U, IN, OUT, IS, IB, BL, MV, ROW, TX, MA, SM, KP] S) (Ret none (mh g P cd ni no nt (nr - 8) nl [W, T, U, IN, OUT, IS, IB, BL, MV, (drp (nr - 8) ROW), TX, MA, SM, KP] S)) := by
  refine Con.of (by decide) rfl rfl (L := [some (.ref (zA (gz g) 44)), none]) rfl (fun f C => ?_)
  have loop : ∀ (d k : Nat) (R : List Nat), k + d = nr - 8 → R.length = 112 → X g f M_Model_dropFront (0, 0) (Ret none (mh g P cd ni no nt (nr - 8) nl [W, T, U, IN, OUT, IS, IB, BL, MV, (it drs k d R), TX, MA, SM, KP] S)) (0, 0) 13 [some (.ref (zA (gz g) 44)), some (.int (nI k))] [] (mh g P cd ni no nt (nr - 8) nl [W, T, U, IN, OUT, IS, IB, BL, MV, R, TX, MA, SM, KP] S) := by
    intro d
    induction d with
    | zero =>
      intro k R hkd hR
      refine x_iload_n (pc := 13) C (dq D_Model_dropFront 8 rfl) rfl ?_
      refine x_aload_n (pc := 14) C (dq D_Model_dropFront 9 rfl) rfl ?_
      refine x_get (pc := 15) (ci := 1) (j := 13) C (dq D_Model_dropFront 10 rfl) rfl rfl (mo hP) rfl k_fl_Model_100 ?_
      refine n_ge_t (pc := 18) (tgt := 42) C (dq D_Model_dropFront 11 rfl) (by decide) (by omega) (by omega) ?_
      exact x_vret (pc := 42) C (dq D_Model_dropFront 24 rfl) rfl (by decide) ⟨rfl, rfl⟩
    | succ d ih =>
      intro k R hkd hR
      refine x_iload_n (pc := 13) C (dq D_Model_dropFront 8 rfl) rfl ?_
      refine x_aload_n (pc := 14) C (dq D_Model_dropFront 9 rfl) rfl ?_
      refine x_get (pc := 15) (ci := 1) (j := 13) C (dq D_Model_dropFront 10 rfl) rfl rfl (by first | exact mo hP | exact ma hP rfl rfl) rfl k_fl_Model_100 ?_
      refine n_ge_f (pc := 18) (tgt := 42) C (dq D_Model_dropFront 11 rfl) (by decide) (by omega) (by omega) ?_
      refine x_aload_n (pc := 21) C (dq D_Model_dropFront 12 rfl) rfl ?_
      refine x_get (pc := 22) (ci := 1) (j := 14) C (dq D_Model_dropFront 13 rfl) rfl rfl (by first | exact mo hP | exact ma hP rfl rfl) rfl k_fl_Model_37 ?_
      refine x_iload_n (pc := 25) C (dq D_Model_dropFront 14 rfl) rfl ?_
      refine x_aload_n (pc := 26) C (dq D_Model_dropFront 15 rfl) rfl ?_
      refine x_get (pc := 27) (ci := 1) (j := 14) C (dq D_Model_dropFront 16 rfl) rfl rfl (by first | exact mo hP | exact ma hP rfl rfl) rfl k_fl_Model_37 ?_
      refine x_iload_n (pc := 30) C (dq D_Model_dropFront 17 rfl) rfl ?_
      refine x_bipush (pc := 31) C (dq D_Model_dropFront 18 rfl) cb_8 ?_
      refine n_iadd (pc := 33) C (dq D_Model_dropFront 19 rfl) ?_
      refine x_iald (pc := 34) C (dq D_Model_dropFront 20 rfl) (by first | exact mo hP | exact ma hP rfl rfl) (by (try simp only [List.length_set]); omega) ?_
      refine x_iast (pc := 35) C (dq D_Model_dropFront 21 rfl) (by first | exact mo hP | exact ma hP rfl rfl) (by (try simp only [List.length_set]); omega) ?_
      try rw [List.set_set]
      refine x_iinc (pc := 36) C (dq D_Model_dropFront 22 rfl) rfl (ii_1 _) rfl rfl ?_
      simp only [List.set_cons_zero, List.set_cons_succ]
      rw [mh_s hP rfl rfl]
      simp only [Nat.reduceSub, List.set_cons_zero, List.set_cons_succ]
      refine x_goto (pc := 39) (tgt := 13) C (dq D_Model_dropFront 23 rfl) (by decide) ?_
      exact ih (k + 1) (drs k R) (by omega) (by rw [drs_len]; exact hR)
  refine x_aload_n (pc := 0) C (dq D_Model_dropFront 0 rfl) rfl ?_
  refine x_aload_n (pc := 1) C (dq D_Model_dropFront 1 rfl) rfl ?_
  refine x_get (pc := 2) (ci := 1) (j := 13) C (dq D_Model_dropFront 2 rfl) rfl rfl (mo hP) rfl k_fl_Model_100 ?_
  refine x_bipush (pc := 5) C (dq D_Model_dropFront 3 rfl) cb_8 ?_
  refine n_isub (pc := 7) C (dq D_Model_dropFront 4 rfl) (by omega) ?_
  refine x_put (pc := 8) (ci := 1) (j := 13) (ty := .int) C (dq D_Model_dropFront 5 rfl) rfl rfl (mo hP) rfl k_fl_Model_100 (Or.inl rfl) (by decide +kernel) rfl rfl ?_
  simp only [List.set_cons_zero, List.set_cons_succ]
  rw [mh_p hP]
  refine x_iconst (pc := 11) C (dq D_Model_dropFront 6 rfl) ci_0 ?_
  refine x_istore_n (i := 1) (pc := 12) C (dq D_Model_dropFront 7 rfl) rfl rfl rfl ?_
  simp only [List.set_cons_zero, List.set_cons_succ]
  exact loop (nr - 8) 0 ROW (by omega) hR
