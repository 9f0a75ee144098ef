/-! The class's wrapped and padded ways. -/
theorem c_Wrapped_lock {g : Gp} {nj ct n0 n1 n2 n3 n4 ni no np : Nat} {FO BA PW K1 F1 K2 F2 WB TW SM JB B0 B1 B2 B3 B4 SG CT MB IN OU OP : List Nat} {S : Hp} (hT : tok FO BA) (hK : kok K1) (hF : F1.length = 16) (hWB : l16 WB) (hIN : l88 IN) (hOU : l88 OU) (hOP : l88 OP) (hn : 16 ≤ ni ∧ ni ≤ 64) :
    Con g M_Wrapped_lock 4 (0, 0) [.ref (zA (gz g) 36), .ref (zA (gz g) 38), .ref (zA (gz g) 40)] (dh g nj ct n0 n1 n2 n3 n4 ni no np FO BA PW K1 F1 K2 F2 WB TW SM JB B0 B1 B2 B3 B4 SG CT MB IN OU OP S) (fun o h' => o = .returned none ∧ ∃ F K : List Nat, F.length = 16 ∧ l16 K ∧ h' = (dh g nj ct n0 n1 n2 n3 n4 ni (8 + ni) np FO BA PW K1 F K2 F2 K TW SM JB B0 B1 B2 B3 B4 SG CT MB IN (wnd FO K1 ((8 + ni) / 8 - 1) (cpy IN (it (fls 166) 0 8 OU) 0 8 ni)) OP S)) := by
  have hol := hOU.1
  have hil := hIN.1
  have f1 : l88 (it (fls 166) 0 8 OU) := ⟨by rw [it_len (fls_len 166)]; exact hol, it_inv by8 8 0 OU (fun j S _ _ hS => hS.set (by omega)) hOU.2⟩
  have f1l := f1.1
  have c1 : l88 (cpy IN (it (fls 166) 0 8 OU) 0 8 ni) := ⟨by rw [cpy_length (by omega) (by omega)]; exact f1l, cpy8 hIN.2 f1.2⟩
  have c1l := c1.1
  refine Con.of (by decide) rfl rfl (L := [some (.ref (zA (gz g) 36)), some (.ref (zA (gz g) 38)), some (.ref (zA (gz g) 40)), none]) rfl (fun f C => ?_)
  have loop : ∀ (d k : Nat) (R : List Nat), k + d = 8 → R.length = 88 → it (fls 166) k d R = it (fls 166) 0 8 OU → X g f M_Wrapped_lock (0, 0) (fun o h' => o = .returned none ∧ ∃ F K : List Nat, F.length = 16 ∧ l16 K ∧ h' = (dh g nj ct n0 n1 n2 n3 n4 ni (8 + ni) np FO BA PW K1 F K2 F2 K TW SM JB B0 B1 B2 B3 B4 SG CT MB IN (wnd FO K1 ((8 + ni) / 8 - 1) (cpy IN (it (fls 166) 0 8 OU) 0 8 ni)) OP S)) (0, 0) 6 [some (.ref (zA (gz g) 36)), some (.ref (zA (gz g) 38)), some (.ref (zA (gz g) 40)), some (.int (nI k))] [] (dh g nj ct n0 n1 n2 n3 n4 ni k np FO BA PW K1 F1 K2 F2 WB TW SM JB B0 B1 B2 B3 B4 SG CT MB IN R OP S) := by
    intro d
    induction d with
    | zero =>
      intro k R hkd hR he
      rw [it_zero] at he
      rw [he]
      obtain rfl : k = 8 := by omega
      refine x_iload_n (pc := 6) C (dq D_Wrapped_lock 4 rfl) rfl ?_
      refine x_bipush (pc := 7) C (dq D_Wrapped_lock 5 rfl) cb_8 ?_
      refine n_ge_t (pc := 9) (tgt := 25) C (dq D_Wrapped_lock 6 rfl) (by decide) (by omega) (by omega) ?_
      refine x_aload_n (pc := 25) C (dq D_Wrapped_lock 12 rfl) rfl ?_
      refine x_aload_n (pc := 26) C (dq D_Wrapped_lock 13 rfl) rfl ?_
      refine x_get (pc := 27) (ci := 7) (j := 0) C (dq D_Wrapped_lock 14 rfl) rfl rfl rfl rfl k_fl_Wrapped_28 ?_
      refine x_aload_n (pc := 30) C (dq D_Wrapped_lock 15 rfl) rfl ?_
      refine x_get (pc := 31) (ci := 7) (j := 1) C (dq D_Wrapped_lock 16 rfl) rfl rfl rfl rfl k_fl_Wrapped_32 ?_
      refine x_cV0 (pc := 34) (ci := 7) (M := M_Row_addAll) C (dq D_Wrapped_lock 17 rfl) k_ml_Wrapped_36 m_Row_addAll rfl rfl rfl (c_Row_addAll (r := 40) (b := 41) (n := 8) (a := 39) (c := ni) rfl rfl rfl (by omega) (by omega)) rfl rfl rfl rfl (by decide) ?_
      rw [dh_s41, dh_s40]
      refine x_aload_n (pc := 37) C (dq D_Wrapped_lock 18 rfl) rfl ?_
      refine x_get (pc := 38) (ci := 9) (j := 0) C (dq D_Wrapped_lock 19 rfl) rfl rfl rfl rfl k_fl_Wrapped_9 ?_
      refine x_aload_n (pc := 41) C (dq D_Wrapped_lock 20 rfl) rfl ?_
      refine x_cV (pc := 42) (ci := 10) (M := M_Wrapping_wind) C (dq D_Wrapped_lock 21 rfl) k_ml_Wrapped_40 m_Wrapping_wind rfl rfl rfl (c_wind (w := 11) (c := 5) (kb := 12) (r := 40) (b := 41) (n := 8 + ni) (cip1 hT hK hF) rfl rfl rfl rfl (by decide) (by decide) (by decide) hWB.1 hWB.2 (by omega) c1.2) rfl rfl rfl rfl (by decide) (fun o h2 hp => ?_)
      obtain ⟨rfl, F2x, K2x, q1, q2, q3, rfl⟩ := hp
      refine ⟨none, rfl, ?_⟩
      rw [dh_s7, dh_s12, dh_s41]
      show X g f M_Wrapped_lock (0, 0) (fun o h' => o = .returned none ∧ ∃ F K : List Nat, F.length = 16 ∧ l16 K ∧ h' = (dh g nj ct n0 n1 n2 n3 n4 ni (8 + ni) np FO BA PW K1 F K2 F2 K TW SM JB B0 B1 B2 B3 B4 SG CT MB IN (wnd FO K1 ((8 + ni) / 8 - 1) (cpy IN (it (fls 166) 0 8 OU) 0 8 ni)) OP S)) (0, 0) 45 _ [] _
      exact x_vret (pc := 45) C (dq D_Wrapped_lock 22 rfl) rfl (by decide) ⟨rfl, F2x, K2x, q1, ⟨q2, q3⟩, rfl⟩
    | succ d ih =>
      intro k R hkd hR he
      refine x_iload_n (pc := 6) C (dq D_Wrapped_lock 4 rfl) rfl ?_
      refine x_bipush (pc := 7) C (dq D_Wrapped_lock 5 rfl) cb_8 ?_
      refine n_ge_f (pc := 9) (tgt := 25) C (dq D_Wrapped_lock 6 rfl) (by decide) (by omega) (by omega) ?_
      refine x_aload_n (pc := 12) C (dq D_Wrapped_lock 7 rfl) rfl ?_
      refine x_sipush (pc := 13) C (dq D_Wrapped_lock 8 rfl) cs_166 ?_
      refine x_cV0 (pc := 16) (ci := 7) (M := M_Row_add) C (dq D_Wrapped_lock 9 rfl) k_ml_Wrapped_24 m_Row_add rfl rfl rfl (c_Row_add (r := 40) (b := 41) (n := k) (v := 166) rfl rfl (by omega)) rfl rfl rfl rfl (by decide) ?_
      rw [dh_s41, dh_s40]
      refine x_iinc (pc := 19) C (dq D_Wrapped_lock 10 rfl) rfl (ii_1 _) rfl rfl ?_
      simp only [List.set_cons_zero, List.set_cons_succ]
      refine x_goto (pc := 22) (tgt := 6) C (dq D_Wrapped_lock 11 rfl) (by decide) ?_
      exact ih (k + 1) (fls 166 k R) (by omega) (by rw [fls_len]; exact hR) he
  refine x_aload_n (pc := 0) C (dq D_Wrapped_lock 0 rfl) rfl ?_
  refine x_cV0 (pc := 1) (ci := 7) (M := M_Row_clear) C (dq D_Wrapped_lock 1 rfl) k_ml_Wrapped_19 m_Row_clear rfl rfl rfl (c_Row_clear (r := 40) (b := 41) (n := no) rfl) rfl rfl rfl rfl (by decide) ?_
  rw [dh_s40]
  refine x_iconst (pc := 4) C (dq D_Wrapped_lock 2 rfl) ci_0 ?_
  refine x_istore_n (i := 3) (pc := 5) C (dq D_Wrapped_lock 3 rfl) rfl rfl rfl ?_
  simp only [List.set_cons_zero, List.set_cons_succ]
  exact loop 8 0 OU rfl hol rfl

theorem eqv_f (v : Nat) (R : List Nat) : ∀ (d k : Nat), it (eqv v R) k d false = false
  | 0, _ => rfl
  | d + 1, k => eqv_f v R d (k + 1)
theorem c_Wrapped_unlock {g : Gp} {nj ct n0 n1 n2 n3 n4 ni no np : Nat} {FO BA PW K1 F1 K2 F2 WB TW SM JB B0 B1 B2 B3 B4 SG CT MB IN OU OP : List Nat} {S : Hp} (hT : tok FO BA) (hK : kok K1) (hF : F1.length = 16) (hWB : l16 WB) (hIN : l88 IN) (hOU : l88 OU) (hOP : l88 OP) (hn : 16 ≤ ni ∧ ni ≤ 88) :
    Con g M_Wrapped_unlock 5 (0, 0) [.ref (zA (gz g) 36), .ref (zA (gz g) 38), .ref (zA (gz g) 42)] (dh g nj ct n0 n1 n2 n3 n4 ni no np FO BA PW K1 F1 K2 F2 WB TW SM JB B0 B1 B2 B3 B4 SG CT MB IN OU OP S) (fun o h' => ∃ F K : List Nat, F.length = 16 ∧ l16 K ∧ (((it (eqv 166 (uwn BA K1 (ni / 8 - 1) (cpy IN OP 0 0 ni))) 0 8 true) = true ∧ o = .returned (some (.int (nI 1))) ∧ h' = (dh g nj ct n0 n1 n2 n3 n4 ni no (ni - 8) FO BA PW K1 F K2 F2 K TW SM JB B0 B1 B2 B3 B4 SG CT MB IN OU (cpy (uwn BA K1 (ni / 8 - 1) (cpy IN OP 0 0 ni)) (uwn BA K1 (ni / 8 - 1) (cpy IN OP 0 0 ni)) 8 0 (ni - 8)) S)) ∨ ((it (eqv 166 (uwn BA K1 (ni / 8 - 1) (cpy IN OP 0 0 ni))) 0 8 true) = false ∧ o = .returned (some (.int (nI 0))) ∧ h' = (dh g nj ct n0 n1 n2 n3 n4 ni no ni FO BA PW K1 F K2 F2 K TW SM JB B0 B1 B2 B3 B4 SG CT MB IN OU (uwn BA K1 (ni / 8 - 1) (cpy IN OP 0 0 ni)) S)))) := by
  have hil := hIN.1
  have hpl := hOP.1
  have c1 : l88 (cpy IN OP 0 0 ni) := ⟨by rw [cpy_length (by omega) (by omega)]; exact hpl, cpy8 hIN.2 hOP.2⟩
  have c1l := c1.1
  obtain ⟨u1, u2⟩ := uwn_ok hT.2.2 hK.2 (n := ni / 8 - 1) (m := 88) (by omega) (by omega) c1
  refine Con.of (by decide) rfl rfl (L := [some (.ref (zA (gz g) 36)), some (.ref (zA (gz g) 38)), some (.ref (zA (gz g) 42)), none]) rfl (fun f C => ?_)
  refine x_aload_n (pc := 0) C (dq D_Wrapped_unlock 0 rfl) rfl ?_
  refine x_aload_n (pc := 1) C (dq D_Wrapped_unlock 1 rfl) rfl ?_
  refine x_cV0 (pc := 2) (ci := 7) (M := M_Row_become) C (dq D_Wrapped_unlock 2 rfl) k_ml_Wrapped_46 m_Row_become rfl rfl rfl (c_Row_become (r := 42) (b := 43) (n := np) (o := 38) (q := 39) (m := ni) rfl rfl rfl rfl (by omega) (by omega)) rfl rfl rfl rfl (by decide) ?_
  rw [dh_s42, dh_s43]
  refine x_aload_n (pc := 5) C (dq D_Wrapped_unlock 3 rfl) rfl ?_
  refine x_get (pc := 6) (ci := 9) (j := 0) C (dq D_Wrapped_unlock 4 rfl) rfl rfl rfl rfl k_fl_Wrapped_9 ?_
  refine x_aload_n (pc := 9) C (dq D_Wrapped_unlock 5 rfl) rfl ?_
  refine x_cV (pc := 10) (ci := 10) (M := M_Wrapping_unwind) C (dq D_Wrapped_unlock 6 rfl) k_ml_Wrapped_49 m_Wrapping_unwind rfl rfl rfl (c_unwind (w := 11) (c := 5) (kb := 12) (r := 42) (b := 43) (n := ni) (cip1 hT hK hF) rfl rfl rfl rfl (by decide) (by decide) (by decide) hWB.1 hWB.2 (by omega) c1.2) rfl rfl rfl rfl (by decide) (fun o h2 hp => ?_)
  obtain ⟨rfl, F2x, K2x, q1, q2, q3, rfl⟩ := hp
  refine ⟨none, rfl, ?_⟩
  rw [dh_s7, dh_s12, dh_s43]
  have loop : ∀ (d k : Nat), k + d = 8 → it (eqv 166 (uwn BA K1 (ni / 8 - 1) (cpy IN OP 0 0 ni))) k d true = (it (eqv 166 (uwn BA K1 (ni / 8 - 1) (cpy IN OP 0 0 ni))) 0 8 true) → X g f M_Wrapped_unlock (0, 0) (fun o h' => ∃ F K : List Nat, F.length = 16 ∧ l16 K ∧ (((it (eqv 166 (uwn BA K1 (ni / 8 - 1) (cpy IN OP 0 0 ni))) 0 8 true) = true ∧ o = .returned (some (.int (nI 1))) ∧ h' = (dh g nj ct n0 n1 n2 n3 n4 ni no (ni - 8) FO BA PW K1 F K2 F2 K TW SM JB B0 B1 B2 B3 B4 SG CT MB IN OU (cpy (uwn BA K1 (ni / 8 - 1) (cpy IN OP 0 0 ni)) (uwn BA K1 (ni / 8 - 1) (cpy IN OP 0 0 ni)) 8 0 (ni - 8)) S)) ∨ ((it (eqv 166 (uwn BA K1 (ni / 8 - 1) (cpy IN OP 0 0 ni))) 0 8 true) = false ∧ o = .returned (some (.int (nI 0))) ∧ h' = (dh g nj ct n0 n1 n2 n3 n4 ni no ni FO BA PW K1 F K2 F2 K TW SM JB B0 B1 B2 B3 B4 SG CT MB IN OU (uwn BA K1 (ni / 8 - 1) (cpy IN OP 0 0 ni)) S)))) (0, 0) 15 [some (.ref (zA (gz g) 36)), some (.ref (zA (gz g) 38)), some (.ref (zA (gz g) 42)), some (.int (nI k))] [] (dh g nj ct n0 n1 n2 n3 n4 ni no ni FO BA PW K1 F2x K2 F2 K2x TW SM JB B0 B1 B2 B3 B4 SG CT MB IN OU (uwn BA K1 (ni / 8 - 1) (cpy IN OP 0 0 ni)) S) := by
    intro d
    induction d with
    | zero =>
      intro k hkd he
      rw [it_zero] at he
      refine x_iload_n (pc := 15) C (dq D_Wrapped_unlock 9 rfl) rfl ?_
      refine x_bipush (pc := 16) C (dq D_Wrapped_unlock 10 rfl) cb_8 ?_
      refine n_ge_t (pc := 18) (tgt := 41) C (dq D_Wrapped_unlock 11 rfl) (by decide) (by omega) (by omega) ?_
      refine x_aload_n (pc := 41) C (dq D_Wrapped_unlock 22 rfl) rfl ?_
      refine x_aload_n (pc := 42) C (dq D_Wrapped_unlock 23 rfl) rfl ?_
      refine x_bipush (pc := 43) C (dq D_Wrapped_unlock 24 rfl) cb_8 ?_
      refine x_cV0 (pc := 45) (ci := 7) (M := M_Row_becomeRest) C (dq D_Wrapped_unlock 25 rfl) k_ml_Wrapped_52 m_Row_becomeRest rfl rfl rfl (c_Row_becomeRest (r := 42) (b := 43) (n := ni) (o := 42) (q := 43) (m := ni) (s := 8) rfl rfl rfl rfl (by omega) (by omega) (by omega)) rfl rfl rfl rfl (by decide) ?_
      rw [dh_s42, dh_s43]
      refine x_iconst (pc := 48) C (dq D_Wrapped_unlock 26 rfl) ci_1 ?_
      exact x_zret (pc := 49) C (dq D_Wrapped_unlock 27 rfl) rfl rfl (by decide) ⟨F2x, K2x, q1, ⟨q2, q3⟩, Or.inl ⟨he.symm, rfl, rfl⟩⟩
    | succ d ih =>
      intro k hkd he
      have v1 := u2.at k
      by_cases hq : ((uwn BA K1 (ni / 8 - 1) (cpy IN OP 0 0 ni))).getD k 0 = 166
      · refine x_iload_n (pc := 15) C (dq D_Wrapped_unlock 9 rfl) rfl ?_
        refine x_bipush (pc := 16) C (dq D_Wrapped_unlock 10 rfl) cb_8 ?_
        refine n_ge_f (pc := 18) (tgt := 41) C (dq D_Wrapped_unlock 11 rfl) (by decide) (by omega) (by omega) ?_
        refine x_aload_n (pc := 21) C (dq D_Wrapped_unlock 12 rfl) rfl ?_
        refine x_get (pc := 22) (ci := 7) (j := 0) C (dq D_Wrapped_unlock 13 rfl) rfl rfl rfl rfl k_fl_Wrapped_28 ?_
        refine x_iload_n (pc := 25) C (dq D_Wrapped_unlock 14 rfl) rfl ?_
        refine x_iald (pc := 26) C (dq D_Wrapped_unlock 15 rfl) rfl (by (try simp only [List.length_set]); omega) ?_
        refine x_sipush (pc := 27) C (dq D_Wrapped_unlock 16 rfl) cs_166 ?_
        refine n_eq_t (pc := 30) (tgt := 35) C (dq D_Wrapped_unlock 17 rfl) (by decide) (by omega) (by omega) ?_
        refine x_iinc (pc := 35) C (dq D_Wrapped_unlock 20 rfl) rfl (ii_1 _) rfl rfl ?_
        simp only [List.set_cons_zero, List.set_cons_succ]
        refine x_goto (pc := 38) (tgt := 15) C (dq D_Wrapped_unlock 21 rfl) (by decide) ?_
        refine ih (k + 1) (by omega) ?_
        rw [← he, it_succ, eqv, decide_eq_true hq]
        rfl
      · have ef : (it (eqv 166 (uwn BA K1 (ni / 8 - 1) (cpy IN OP 0 0 ni))) 0 8 true) = false := by
          rw [← he, it_succ, eqv, decide_eq_false hq]
          exact eqv_f 166 _ d (k + 1)
        refine x_iload_n (pc := 15) C (dq D_Wrapped_unlock 9 rfl) rfl ?_
        refine x_bipush (pc := 16) C (dq D_Wrapped_unlock 10 rfl) cb_8 ?_
        refine n_ge_f (pc := 18) (tgt := 41) C (dq D_Wrapped_unlock 11 rfl) (by decide) (by omega) (by omega) ?_
        refine x_aload_n (pc := 21) C (dq D_Wrapped_unlock 12 rfl) rfl ?_
        refine x_get (pc := 22) (ci := 7) (j := 0) C (dq D_Wrapped_unlock 13 rfl) rfl rfl rfl rfl k_fl_Wrapped_28 ?_
        refine x_iload_n (pc := 25) C (dq D_Wrapped_unlock 14 rfl) rfl ?_
        refine x_iald (pc := 26) C (dq D_Wrapped_unlock 15 rfl) rfl (by (try simp only [List.length_set]); omega) ?_
        refine x_sipush (pc := 27) C (dq D_Wrapped_unlock 16 rfl) cs_166 ?_
        refine n_eq_f (pc := 30) (tgt := 35) C (dq D_Wrapped_unlock 17 rfl) (by decide) (by omega) (by omega) ?_
        refine x_iconst (pc := 33) C (dq D_Wrapped_unlock 18 rfl) ci_0 ?_
        exact x_zret (pc := 34) C (dq D_Wrapped_unlock 19 rfl) rfl rfl (by decide) ⟨F2x, K2x, q1, ⟨q2, q3⟩, Or.inr ⟨ef, rfl, rfl⟩⟩
  have h0 := loop 8 0 rfl rfl
  show X g f M_Wrapped_unlock (0, 0) (fun o h' => ∃ F K : List Nat, F.length = 16 ∧ l16 K ∧ (((it (eqv 166 (uwn BA K1 (ni / 8 - 1) (cpy IN OP 0 0 ni))) 0 8 true) = true ∧ o = .returned (some (.int (nI 1))) ∧ h' = (dh g nj ct n0 n1 n2 n3 n4 ni no (ni - 8) FO BA PW K1 F K2 F2 K TW SM JB B0 B1 B2 B3 B4 SG CT MB IN OU (cpy (uwn BA K1 (ni / 8 - 1) (cpy IN OP 0 0 ni)) (uwn BA K1 (ni / 8 - 1) (cpy IN OP 0 0 ni)) 8 0 (ni - 8)) S)) ∨ ((it (eqv 166 (uwn BA K1 (ni / 8 - 1) (cpy IN OP 0 0 ni))) 0 8 true) = false ∧ o = .returned (some (.int (nI 0))) ∧ h' = (dh g nj ct n0 n1 n2 n3 n4 ni no ni FO BA PW K1 F K2 F2 K TW SM JB B0 B1 B2 B3 B4 SG CT MB IN OU (uwn BA K1 (ni / 8 - 1) (cpy IN OP 0 0 ni)) S)))) (0, 0) 13 _ [] _
  refine x_iconst (pc := 13) C (dq D_Wrapped_unlock 7 rfl) ci_0 ?_
  refine x_istore_n (i := 3) (pc := 14) C (dq D_Wrapped_unlock 8 rfl) rfl rfl rfl ?_
  simp only [List.set_cons_zero, List.set_cons_succ]
  exact h0
