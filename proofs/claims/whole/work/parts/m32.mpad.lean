/-! The reference's padded way. -/
def r8 (n : Nat) : Nat := (n + 7) / 8 * 8
def p4 (n k : Nat) (R : List Nat) : List Nat := R.set k (if k = 7 then n else 0)
theorem p4_len (n k : Nat) (R : List Nat) : (p4 n k R).length = R.length := List.length_set
/-- the row before it is wound -/
def pdr (n : Nat) (R : List Nat) : List Nat := it (p4 n) 4 4 (frt 166 89 (r8 n) (it zr n (r8 n - n) R))
def mpw (T W : List Nat) (n : Nat) (R : List Nat) : List Nat := if r8 n + 8 = 16 then sgl (enc T W 0 ((pdr n R).take 16)) (pdr n R) else mwd T W ((r8 n + 8) / 8 - 1) (pdr n R)
theorem zrs_ok (n d : Nat) {R : List Nat} (h : by8 R) : (it zr n d R).length = R.length ∧ by8 (it zr n d R) := ⟨it_len zr_len d n R, it_inv by8 d n R (fun j S _ _ hS => hS.set (by omega)) h⟩
theorem pdr_ok {n : Nat} (hn : n < 256) {R : List Nat} (h : by8 R) : (pdr n R).length = R.length ∧ by8 (pdr n R) := by
  obtain ⟨a, b⟩ := zrs_ok n (r8 n - n) h
  obtain ⟨c, d⟩ := frt_ok (b := 166) (c := 89) (by omega) (by omega) (r8 n) b
  unfold pdr
  exact ⟨by rw [it_len (p4_len n)]; exact c.trans a, it_inv by8 4 4 _ (fun j S _ _ hS => hS.set (by split <;> omega)) d⟩
set_option maxHeartbeats 4000000 in
theorem cm_sealPadded {g : Gp} {P S : Hp} {cd ni no nt nr nl : Nat} {W T U IN OUT IS IB BL MV ROW TX MA SM KP : List Nat} (hP : P.length = 44) (hW : W.length = 88 ∧ by32 W) (hT : T.length = 256 ∧ by8 T) (hU : U.length = 256 ∧ by8 U) (hb : bm16 (BL, MV)) (hR : ROW.length = 112 ∧ by8 ROW) (hnr : 1 ≤ nr ∧ nr ≤ 64) :
    Con g M_Model_sealPadded 3 (0, 0) [.ref (zA (gz g) 44)] (mh g P cd ni no nt nr nl [W, T, U, IN, OUT, IS, IB, BL, MV, ROW, TX, MA, SM, KP] S) (fun o h' => o = .returned none ∧ ∃ B' M' : List Nat, bm16 (B', M') ∧ h' = mh g P cd ni no nt (r8 nr + 8) nl [W, T, U, IN, OUT, IS, IB, B', M', (mpw T W nr ROW), TX, MA, SM, KP] S) := by
  obtain ⟨p1, p2⟩ := pdr_ok (n := nr) (by omega) hR.2
  have hr8 : r8 nr = (nr + 7) / 8 * 8 := rfl
  obtain ⟨z1, z2⟩ := zrs_ok nr (r8 nr - nr) hR.2
  obtain ⟨f1, f2⟩ := frt_ok (b := 166) (c := 89) (by omega) (by omega) (r8 nr) z2
  refine Con.of (by decide) rfl rfl (L := [some (.ref (zA (gz g) 44)), none, none]) rfl (fun f C => ?_)
  have four : ∀ (d k : Nat) (R : List Nat), k + d = 8 → 4 ≤ k → R.length = 112 → it (p4 nr) k d R = pdr nr ROW → X g f M_Model_sealPadded (0, 0) (fun o h' => o = .returned none ∧ ∃ B' M' : List Nat, bm16 (B', M') ∧ h' = mh g P cd ni no nt (r8 nr + 8) nl [W, T, U, IN, OUT, IS, IB, B', M', (mpw T W nr ROW), TX, MA, SM, KP] S) (0, 0) 49 [some (.ref (zA (gz g) 44)), some (.int (nI nr)), some (.int (nI k))] [] (mh g P cd ni no nt (r8 nr + 8) nl [W, T, U, IN, OUT, IS, IB, BL, MV, R, TX, MA, SM, KP] S) := by
    intro d
    induction d with
    | zero =>
      intro k R hkd hk4 hR0 he
      rw [it_zero] at he
      rw [he]
      refine x_iload_n (pc := 49) C (dq D_Model_sealPadded 27 rfl) rfl ?_
      refine x_bipush (pc := 50) C (dq D_Model_sealPadded 28 rfl) cb_8 ?_
      refine n_ge_t (pc := 52) (tgt := 78) C (dq D_Model_sealPadded 29 rfl) (by decide) (by omega) (by omega) ?_
      refine x_aload_n (pc := 78) C (dq D_Model_sealPadded 42 rfl) rfl ?_
      refine x_get (pc := 79) (ci := 1) (j := 13) C (dq D_Model_sealPadded 43 rfl) rfl rfl (mo hP) rfl k_fl_Model_100 ?_
      refine x_bipush (pc := 82) C (dq D_Model_sealPadded 44 rfl) cb_16 ?_
      refine n_ne (pc := 84) (tgt := 95) C (dq D_Model_sealPadded 45 rfl) (by decide) (by omega) (fun hq => ?_) (fun hq => ?_)
      · have h16 := hq
        refine x_aload_n (pc := 95) C (dq D_Model_sealPadded 50 rfl) rfl ?_
        refine x_cV (pc := 96) (ci := 1) (M := M_Model_wrap) C (dq D_Model_sealPadded 51 rfl) k_ml_Model_124 m_Model_wrap rfl rfl (mo hP) (cm_wrap hP hW hT hU hb ⟨p1.trans hR.1, p2⟩ (by omega)) rfl rfl rfl rfl (by decide) (fun o h2 hp => ?_)
        obtain ⟨rfl, B2, V2, hB2, rfl⟩ := hp
        refine ⟨none, rfl, ?_⟩
        have e0 : mwd T W ((r8 nr + 8) / 8 - 1) (pdr nr ROW) = mpw T W nr ROW := by unfold mpw; rw [if_neg h16]
        rw [e0]
        show X g f M_Model_sealPadded (0, 0) (fun o h' => o = .returned none ∧ ∃ B' M' : List Nat, bm16 (B', M') ∧ h' = mh g P cd ni no nt (r8 nr + 8) nl [W, T, U, IN, OUT, IS, IB, B', M', (mpw T W nr ROW), TX, MA, SM, KP] S) (0, 0) 99 [some (.ref (zA (gz g) 44)), some (.int (nI nr)), some (.int (nI k))] [] (mh g P cd ni no nt (r8 nr + 8) nl [W, T, U, IN, OUT, IS, IB, B2, V2, (mpw T W nr ROW), TX, MA, SM, KP] S)
        exact x_vret (pc := 99) C (dq D_Model_sealPadded 52 rfl) rfl (by decide) ⟨rfl, B2, V2, hB2, rfl⟩
      · have h16 := hq
        refine x_aload_n (pc := 87) C (dq D_Model_sealPadded 46 rfl) rfl ?_
        refine x_iconst (pc := 88) C (dq D_Model_sealPadded 47 rfl) ci_0 ?_
        refine x_cV (pc := 89) (ci := 1) (M := M_Model_single) C (dq D_Model_sealPadded 48 rfl) k_ml_Model_120 m_Model_single rfl rfl (mo hP) (cm_single (bk := 0) hP hW hT hU hb ⟨p1.trans hR.1, p2⟩ (by omega)) rfl rfl rfl rfl (by decide) (fun o h2 hp => ?_)
        obtain ⟨rfl, B2, V2, hB2, rfl⟩ := hp
        refine ⟨none, rfl, ?_⟩
        have e0 : sgl (if 0 = 0 then enc T W 0 ((pdr nr ROW).take 16) else dec U W 0 ((pdr nr ROW).take 16)) (pdr nr ROW) = mpw T W nr ROW := by unfold mpw; rw [if_pos h16, if_pos rfl]
        rw [e0]
        show X g f M_Model_sealPadded (0, 0) (fun o h' => o = .returned none ∧ ∃ B' M' : List Nat, bm16 (B', M') ∧ h' = mh g P cd ni no nt (r8 nr + 8) nl [W, T, U, IN, OUT, IS, IB, B', M', (mpw T W nr ROW), TX, MA, SM, KP] S) (0, 0) 92 [some (.ref (zA (gz g) 44)), some (.int (nI nr)), some (.int (nI k))] [] (mh g P cd ni no nt (r8 nr + 8) nl [W, T, U, IN, OUT, IS, IB, B2, V2, (mpw T W nr ROW), TX, MA, SM, KP] S)
        refine x_goto (pc := 92) (tgt := 99) C (dq D_Model_sealPadded 49 rfl) (by decide) ?_
        exact x_vret (pc := 99) C (dq D_Model_sealPadded 52 rfl) rfl (by decide) ⟨rfl, B2, V2, hB2, rfl⟩
    | succ d ih =>
      intro k R hkd hk4 hR0 he
      have fin : ∀ v : Nat, v = (if k = 7 then nr else 0) → X g f M_Model_sealPadded (0, 0) (fun o h' => o = .returned none ∧ ∃ B' M' : List Nat, bm16 (B', M') ∧ h' = mh g P cd ni no nt (r8 nr + 8) nl [W, T, U, IN, OUT, IS, IB, B', M', (mpw T W nr ROW), TX, MA, SM, KP] S) (0, 0) 71 [some (.ref (zA (gz g) 44)), some (.int (nI nr)), some (.int (nI k))] [.int (nI v), .int (nI k), .ref (zA (gz g) 54)] (mh g P cd ni no nt (r8 nr + 8) nl [W, T, U, IN, OUT, IS, IB, BL, MV, R, TX, MA, SM, KP] S) := by
        intro v hv
        refine x_iast (pc := 71) C (dq D_Model_sealPadded 39 rfl) (ma hP rfl rfl) (by (try simp only [List.length_set]); omega) ?_
        try rw [List.set_set]
        rw [mh_s hP rfl rfl]
        simp only [Nat.reduceSub, List.set_cons_zero, List.set_cons_succ]
        refine x_iinc (pc := 72) C (dq D_Model_sealPadded 40 rfl) rfl (ii_1 _) rfl rfl ?_
        simp only [List.set_cons_zero, List.set_cons_succ]
        refine x_goto (pc := 75) (tgt := 49) C (dq D_Model_sealPadded 41 rfl) (by decide) ?_
        refine ih (k + 1) (R.set k v) (by omega) (by omega) (by rw [List.length_set]; exact hR0) ?_
        rw [hv]
        exact he
      refine x_iload_n (pc := 49) C (dq D_Model_sealPadded 27 rfl) rfl ?_
      refine x_bipush (pc := 50) C (dq D_Model_sealPadded 28 rfl) cb_8 ?_
      refine n_ge_f (pc := 52) (tgt := 78) C (dq D_Model_sealPadded 29 rfl) (by decide) (by omega) (by omega) ?_
      refine x_aload_n (pc := 55) C (dq D_Model_sealPadded 30 rfl) rfl ?_
      refine x_get (pc := 56) (ci := 1) (j := 14) C (dq D_Model_sealPadded 31 rfl) rfl rfl (mo hP) rfl k_fl_Model_37 ?_
      refine x_iload_n (pc := 59) C (dq D_Model_sealPadded 32 rfl) rfl ?_
      refine x_iload_n (pc := 60) C (dq D_Model_sealPadded 33 rfl) rfl ?_
      refine x_bipush (pc := 61) C (dq D_Model_sealPadded 34 rfl) cb_7 ?_
      refine n_ne (pc := 63) (tgt := 70) C (dq D_Model_sealPadded 35 rfl) (by decide) (by omega) (fun hq => ?_) (fun hq => ?_)
      · rw [if_neg hq] at fin
        refine x_iconst (pc := 70) C (dq D_Model_sealPadded 38 rfl) ci_0 ?_
        exact fin 0 rfl
      · rw [if_pos hq] at fin
        refine x_iload_n (pc := 66) C (dq D_Model_sealPadded 36 rfl) rfl ?_
        refine x_goto (pc := 67) (tgt := 71) C (dq D_Model_sealPadded 37 rfl) (by decide) ?_
        exact fin nr rfl
  have zeros : ∀ (d k : Nat) (R : List Nat) (l2 : Option Value), k + d = r8 nr → nr ≤ k → R.length = 112 → it zr k d R = it zr nr (r8 nr - nr) ROW → X g f M_Model_sealPadded (0, 0) (fun o h' => o = .returned none ∧ ∃ B' M' : List Nat, bm16 (B', M') ∧ h' = mh g P cd ni no nt (r8 nr + 8) nl [W, T, U, IN, OUT, IS, IB, B', M', (mpw T W nr ROW), TX, MA, SM, KP] S) (0, 0) 5 [some (.ref (zA (gz g) 44)), some (.int (nI nr)), l2] [] (mh g P cd ni no nt k nl [W, T, U, IN, OUT, IS, IB, BL, MV, R, TX, MA, SM, KP] S) := by
    intro d
    induction d with
    | zero =>
      intro k R l2 hkd hk hR0 he
      rw [it_zero] at he
      rw [he]
      obtain rfl : k = r8 nr := by omega
      refine x_aload_n (pc := 5) C (dq D_Model_sealPadded 3 rfl) rfl ?_
      refine x_get (pc := 6) (ci := 1) (j := 13) C (dq D_Model_sealPadded 4 rfl) rfl rfl (mo hP) rfl k_fl_Model_100 ?_
      refine x_bipush (pc := 9) C (dq D_Model_sealPadded 5 rfl) cb_8 ?_
      refine n_irem (pc := 11) C (dq D_Model_sealPadded 6 rfl) (by omega) (by omega) (by omega) ?_
      refine n_ifeq_t (pc := 12) (tgt := 38) C (dq D_Model_sealPadded 7 rfl) (by decide) (by omega) (by omega) ?_
      refine x_aload_n (pc := 38) C (dq D_Model_sealPadded 21 rfl) rfl ?_
      refine x_sipush (pc := 39) C (dq D_Model_sealPadded 22 rfl) cs_166 ?_
      refine x_bipush (pc := 42) C (dq D_Model_sealPadded 23 rfl) cb_89 ?_
      refine x_cV0 (pc := 44) (ci := 1) (M := M_Model_front) C (dq D_Model_sealPadded 24 rfl) k_ml_Model_117 m_Model_front rfl rfl (mo hP) (cm_front hP (z1.trans hR.1) (by omega)) rfl rfl rfl rfl (by decide) ?_
      refine x_iconst (pc := 47) C (dq D_Model_sealPadded 25 rfl) ci_4 ?_
      refine x_istore_n (i := 2) (pc := 48) C (dq D_Model_sealPadded 26 rfl) rfl rfl rfl ?_
      simp only [List.set_cons_zero, List.set_cons_succ]
      exact four 4 4 _ rfl (by omega) (f1.trans (z1.trans hR.1)) (by rw [pdr])
    | succ d ih =>
      intro k R l2 hkd hk hR0 he
      refine x_aload_n (pc := 5) C (dq D_Model_sealPadded 3 rfl) rfl ?_
      refine x_get (pc := 6) (ci := 1) (j := 13) C (dq D_Model_sealPadded 4 rfl) rfl rfl (by first | exact mo hP | exact ma hP rfl rfl) rfl k_fl_Model_100 ?_
      refine x_bipush (pc := 9) C (dq D_Model_sealPadded 5 rfl) cb_8 ?_
      refine n_irem (pc := 11) C (dq D_Model_sealPadded 6 rfl) (by omega) (by omega) (by omega) ?_
      refine n_ifeq_f (pc := 12) (tgt := 38) C (dq D_Model_sealPadded 7 rfl) (by decide) (by omega) (by omega) ?_
      refine x_aload_n (pc := 15) C (dq D_Model_sealPadded 8 rfl) rfl ?_
      refine x_get (pc := 16) (ci := 1) (j := 14) C (dq D_Model_sealPadded 9 rfl) rfl rfl (by first | exact mo hP | exact ma hP rfl rfl) rfl k_fl_Model_37 ?_
      refine x_aload_n (pc := 19) C (dq D_Model_sealPadded 10 rfl) rfl ?_
      refine x_get (pc := 20) (ci := 1) (j := 13) C (dq D_Model_sealPadded 11 rfl) rfl rfl (by first | exact mo hP | exact ma hP rfl rfl) rfl k_fl_Model_100 ?_
      refine x_iconst (pc := 23) C (dq D_Model_sealPadded 12 rfl) ci_0 ?_
      refine x_iast (pc := 24) C (dq D_Model_sealPadded 13 rfl) (by first | exact mo hP | exact ma hP rfl rfl) (by (try simp only [List.length_set]); omega) ?_
      try rw [List.set_set]
      rw [mh_s hP rfl rfl]
      simp only [Nat.reduceSub, List.set_cons_zero, List.set_cons_succ]
      refine x_aload_n (pc := 25) C (dq D_Model_sealPadded 14 rfl) rfl ?_
      refine x_dup (pc := 26) C (dq D_Model_sealPadded 15 rfl) rfl ?_
      refine x_get (pc := 27) (ci := 1) (j := 13) C (dq D_Model_sealPadded 16 rfl) rfl rfl (mo hP) rfl k_fl_Model_100 ?_
      refine x_iconst (pc := 30) C (dq D_Model_sealPadded 17 rfl) ci_1 ?_
      refine n_iadd (pc := 31) C (dq D_Model_sealPadded 18 rfl) ?_
      refine x_put (pc := 32) (ci := 1) (j := 13) (ty := .int) C (dq D_Model_sealPadded 19 rfl) rfl rfl (mo hP) rfl k_fl_Model_100 (Or.inl rfl) (by decide +kernel) rfl rfl ?_
      simp only [List.set_cons_zero, List.set_cons_succ]
      rw [mh_p hP]
      refine x_goto (pc := 35) (tgt := 5) C (dq D_Model_sealPadded 20 rfl) (by decide) ?_
      exact ih (k + 1) (zr k R) l2 (by omega) (by omega) (by rw [zr_len]; exact hR0) he
  refine x_aload_n (pc := 0) C (dq D_Model_sealPadded 0 rfl) rfl ?_
  refine x_get (pc := 1) (ci := 1) (j := 13) C (dq D_Model_sealPadded 1 rfl) rfl rfl (mo hP) rfl k_fl_Model_100 ?_
  refine x_istore_n (i := 1) (pc := 4) C (dq D_Model_sealPadded 2 rfl) rfl rfl rfl ?_
  simp only [List.set_cons_zero, List.set_cons_succ]
  exact zeros (r8 nr - nr) nr ROW none (by omega) (by omega) hR.1 rfl
/-- the reference opens what is wrapped -/
def eqv (v : Nat) (R : List Nat) (k : Nat) (b : Bool) : Bool := b && decide (R.getD k 0 = v)
theorem cm_openWrapped {g : Gp} {P S : Hp} {cd ni no nt nr nl : Nat} {W T U IN OUT IS IB BL MV ROW TX MA SM KP : List Nat} (hP : P.length = 44) (hW : W.length = 88 ∧ by32 W) (hT : T.length = 256 ∧ by8 T) (hU : U.length = 256 ∧ by8 U) (hb : bm16 (BL, MV)) (hR : ROW.length = 112 ∧ by8 ROW) (hnr : 16 ≤ nr ∧ nr ≤ 88) :
    Con g M_Model_openWrapped 3 (0, 0) [.ref (zA (gz g) 44)] (mh g P cd ni no nt nr nl [W, T, U, IN, OUT, IS, IB, BL, MV, ROW, TX, MA, SM, KP] S) (fun o h' => o = .returned (some (.int (nI (if (it (eqv 166 (mud U W (nr / 8 - 1) ROW)) 0 8 true) then 1 else 0)))) ∧ ∃ B' M' : List Nat, bm16 (B', M') ∧ h' = mh g P cd ni no nt (nr - 8) nl [W, T, U, IN, OUT, IS, IB, B', M', (drp (nr - 8) (mud U W (nr / 8 - 1) ROW)), TX, MA, SM, KP] S) := by
  obtain ⟨m1, m2⟩ := mud_ok hU.2 W (n := nr / 8 - 1) (by omega) hR
  refine Con.of (by decide) rfl rfl (L := [some (.ref (zA (gz g) 44)), none, none]) rfl (fun f C => ?_)
  have cmp : ∀ (d k : Nat) (b : Bool) (B V : List Nat), k + d = 8 → bm16 (B, V) → it (eqv 166 (mud U W (nr / 8 - 1) ROW)) k d b = (it (eqv 166 (mud U W (nr / 8 - 1) ROW)) 0 8 true) → X g f M_Model_openWrapped (0, 0) (fun o h' => o = .returned (some (.int (nI (if (it (eqv 166 (mud U W (nr / 8 - 1) ROW)) 0 8 true) then 1 else 0)))) ∧ ∃ B' M' : List Nat, bm16 (B', M') ∧ h' = mh g P cd ni no nt (nr - 8) nl [W, T, U, IN, OUT, IS, IB, B', M', (drp (nr - 8) (mud U W (nr / 8 - 1) ROW)), TX, MA, SM, KP] S) (0, 0) 8 [some (.ref (zA (gz g) 44)), some (.int (nI (if b then 1 else 0))), some (.int (nI k))] [] (mh g P cd ni no nt nr nl [W, T, U, IN, OUT, IS, IB, B, V, (mud U W (nr / 8 - 1) ROW), TX, MA, SM, KP] S) := by
    intro d
    induction d with
    | zero =>
      intro k b B V hkd hB he
      rw [it_zero] at he
      rw [he]
      have hz : narrow .boolean (.int (nI (if (it (eqv 166 (mud U W (nr / 8 - 1) ROW)) 0 8 true) then 1 else 0))) = .int (nI (if (it (eqv 166 (mud U W (nr / 8 - 1) ROW)) 0 8 true) then 1 else 0)) := by
        split <;> decide +kernel
      refine x_iload_n (pc := 8) C (dq D_Model_openWrapped 6 rfl) rfl ?_
      refine x_bipush (pc := 9) C (dq D_Model_openWrapped 7 rfl) cb_8 ?_
      refine n_ge_t (pc := 11) (tgt := 42) C (dq D_Model_openWrapped 8 rfl) (by decide) (by omega) (by omega) ?_
      refine x_aload_n (pc := 42) C (dq D_Model_openWrapped 23 rfl) rfl ?_
      refine x_cV0 (pc := 43) (ci := 1) (M := M_Model_dropFront) C (dq D_Model_openWrapped 24 rfl) k_ml_Model_130 m_Model_dropFront rfl rfl (mo hP) (cm_dropFront hP m1 (by omega)) rfl rfl rfl rfl (by decide) ?_
      refine x_iload_n (pc := 46) C (dq D_Model_openWrapped 25 rfl) rfl ?_
      exact x_zret (pc := 47) C (dq D_Model_openWrapped 26 rfl) rfl hz (by decide) ⟨rfl, B, V, hB, rfl⟩
    | succ d ih =>
      intro k b B V hkd hB he
      have v1 := m2.at k
      have fin : ∀ b' : Bool, b' = eqv 166 (mud U W (nr / 8 - 1) ROW) k b → X g f M_Model_openWrapped (0, 0) (fun o h' => o = .returned (some (.int (nI (if (it (eqv 166 (mud U W (nr / 8 - 1) ROW)) 0 8 true) then 1 else 0)))) ∧ ∃ B' M' : List Nat, bm16 (B', M') ∧ h' = mh g P cd ni no nt (nr - 8) nl [W, T, U, IN, OUT, IS, IB, B', M', (drp (nr - 8) (mud U W (nr / 8 - 1) ROW)), TX, MA, SM, KP] S) (0, 0) 35 [some (.ref (zA (gz g) 44)), some (.int (nI (if b then 1 else 0))), some (.int (nI k))] [.int (nI (if b' then 1 else 0))] (mh g P cd ni no nt nr nl [W, T, U, IN, OUT, IS, IB, B, V, (mud U W (nr / 8 - 1) ROW), TX, MA, SM, KP] S) := by
        intro b' hb'
        refine x_istore_n (i := 1) (pc := 35) C (dq D_Model_openWrapped 20 rfl) rfl rfl rfl ?_
        simp only [List.set_cons_zero, List.set_cons_succ]
        refine x_iinc (pc := 36) C (dq D_Model_openWrapped 21 rfl) rfl (ii_1 _) rfl rfl ?_
        simp only [List.set_cons_zero, List.set_cons_succ]
        refine x_goto (pc := 39) (tgt := 8) C (dq D_Model_openWrapped 22 rfl) (by decide) ?_
        refine ih (k + 1) b' B V (by omega) hB ?_
        rw [hb']
        exact he
      cases b with
      | false =>
        have e1 : (nI (if false = true then 1 else 0)) = nI 0 := rfl
        rw [e1] at fin ⊢
        refine x_iload_n (pc := 8) C (dq D_Model_openWrapped 6 rfl) rfl ?_
        refine x_bipush (pc := 9) C (dq D_Model_openWrapped 7 rfl) cb_8 ?_
        refine n_ge_f (pc := 11) (tgt := 42) C (dq D_Model_openWrapped 8 rfl) (by decide) (by omega) (by omega) ?_
        refine x_iload_n (pc := 14) C (dq D_Model_openWrapped 9 rfl) rfl ?_
        refine n_ifeq_t (pc := 15) (tgt := 34) C (dq D_Model_openWrapped 10 rfl) (by decide) (by omega) (by omega) ?_
        refine x_iconst (pc := 34) C (dq D_Model_openWrapped 19 rfl) ci_0 ?_
        exact fin false rfl
      | true =>
        have e1 : (nI (if true = true then 1 else 0)) = nI 1 := rfl
        rw [e1] at fin ⊢
        refine x_iload_n (pc := 8) C (dq D_Model_openWrapped 6 rfl) rfl ?_
        refine x_bipush (pc := 9) C (dq D_Model_openWrapped 7 rfl) cb_8 ?_
        refine n_ge_f (pc := 11) (tgt := 42) C (dq D_Model_openWrapped 8 rfl) (by decide) (by omega) (by omega) ?_
        refine x_iload_n (pc := 14) C (dq D_Model_openWrapped 9 rfl) rfl ?_
        refine n_ifeq_f (pc := 15) (tgt := 34) C (dq D_Model_openWrapped 10 rfl) (by decide) (by omega) (by omega) ?_
        refine x_aload_n (pc := 18) C (dq D_Model_openWrapped 11 rfl) rfl ?_
        refine x_get (pc := 19) (ci := 1) (j := 14) C (dq D_Model_openWrapped 12 rfl) rfl rfl (by first | exact mo hP | exact ma hP rfl rfl) rfl k_fl_Model_37 ?_
        refine x_iload_n (pc := 22) C (dq D_Model_openWrapped 13 rfl) rfl ?_
        refine x_iald (pc := 23) C (dq D_Model_openWrapped 14 rfl) (by first | exact mo hP | exact ma hP rfl rfl) (by (try simp only [List.length_set]); omega) ?_
        refine x_sipush (pc := 24) C (dq D_Model_openWrapped 15 rfl) cs_166 ?_
        refine n_ne (pc := 27) (tgt := 34) C (dq D_Model_openWrapped 16 rfl) (by decide) (by omega) (fun hq => ?_) (fun hq => ?_)
        · refine x_iconst (pc := 34) C (dq D_Model_openWrapped 19 rfl) ci_0 ?_
          exact fin false (by unfold eqv; rw [decide_eq_false hq]; rfl)
        · refine x_iconst (pc := 30) C (dq D_Model_openWrapped 17 rfl) ci_1 ?_
          refine x_goto (pc := 31) (tgt := 35) C (dq D_Model_openWrapped 18 rfl) (by decide) ?_
          exact fin true (by unfold eqv; rw [decide_eq_true hq]; rfl)
  refine x_aload_n (pc := 0) C (dq D_Model_openWrapped 0 rfl) rfl ?_
  refine x_cV (pc := 1) (ci := 1) (M := M_Model_unwrap) C (dq D_Model_openWrapped 1 rfl) k_ml_Model_127 m_Model_unwrap rfl rfl (mo hP) (cm_unwrap hP hW hT hU hb hR hnr) rfl rfl rfl rfl (by decide) (fun o h2 hp => ?_)
  obtain ⟨rfl, B2, V2, hB2, rfl⟩ := hp
  refine ⟨none, rfl, ?_⟩
  show X g f M_Model_openWrapped (0, 0) (fun o h' => o = .returned (some (.int (nI (if (it (eqv 166 (mud U W (nr / 8 - 1) ROW)) 0 8 true) then 1 else 0)))) ∧ ∃ B' M' : List Nat, bm16 (B', M') ∧ h' = mh g P cd ni no nt (nr - 8) nl [W, T, U, IN, OUT, IS, IB, B', M', (drp (nr - 8) (mud U W (nr / 8 - 1) ROW)), TX, MA, SM, KP] S) (0, 0) 4 [some (.ref (zA (gz g) 44)), none, none] [] (mh g P cd ni no nt nr nl [W, T, U, IN, OUT, IS, IB, B2, V2, (mud U W (nr / 8 - 1) ROW), TX, MA, SM, KP] S)
  refine x_iconst (pc := 4) C (dq D_Model_openWrapped 2 rfl) ci_1 ?_
  refine x_istore_n (i := 1) (pc := 5) C (dq D_Model_openWrapped 3 rfl) rfl rfl rfl ?_
  simp only [List.set_cons_zero, List.set_cons_succ]
  refine x_iconst (pc := 6) C (dq D_Model_openWrapped 4 rfl) ci_0 ?_
  refine x_istore_n (i := 2) (pc := 7) C (dq D_Model_openWrapped 5 rfl) rfl rfl rfl ?_
  simp only [List.set_cons_zero, List.set_cons_succ]
  exact cmp 8 0 true B2 V2 rfl hB2 rfl
