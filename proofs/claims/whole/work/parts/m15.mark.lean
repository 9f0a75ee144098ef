def fls (v k : Nat) (S : List Nat) : List Nat := S.set k v
theorem fls_len (v k : Nat) (S : List Nat) : (fls v k S).length = S.length := List.length_set
theorem c_rangeCheck {g : Gp} {h : Hp} {l a b : Nat} (hab : a ≤ b ∧ b ≤ l ∧ l < 2 ^ 31) : Con g M_Arrays_rangeCheck 0 (0, 0) [.int (nI l), .int (nI a), .int (nI b)] h (Ret none h) := by
  refine Con.of (by decide) rfl rfl (L := [some (.int (nI l)), some (.int (nI a)), some (.int (nI b))]) rfl (fun f C => ?_)
  refine x_iload_n (pc := 0) C (dq D_Arrays_rangeCheck 0 rfl) rfl ?_
  refine x_iload_n (pc := 1) C (dq D_Arrays_rangeCheck 1 rfl) rfl ?_
  refine n_le_t (pc := 2) (tgt := 46) C (dq D_Arrays_rangeCheck 2 rfl) (by decide) (by omega) (by omega) ?_
  refine x_iload_n (pc := 46) C (dq D_Arrays_rangeCheck 21 rfl) rfl ?_
  refine n_ifge_t (pc := 47) (tgt := 59) C (dq D_Arrays_rangeCheck 22 rfl) (by decide) (by omega) (by omega) ?_
  refine x_iload_n (pc := 59) C (dq D_Arrays_rangeCheck 28 rfl) rfl ?_
  refine x_iload_n (pc := 60) C (dq D_Arrays_rangeCheck 29 rfl) rfl ?_
  refine n_le_t (pc := 61) (tgt := 73) C (dq D_Arrays_rangeCheck 30 rfl) (by decide) (by omega) (by omega) ?_
  exact x_vret (pc := 73) C (dq D_Arrays_rangeCheck 36 rfl) rfl (by decide) ⟨rfl, rfl⟩
theorem c_fill4 {g : Gp} {h : Hp} {blk a b v : Nat} {A : List Nat} (hb : h[blk]? = some (ia g A)) (hab : a ≤ b ∧ b ≤ A.length ∧ A.length < 1000) : Con g M_Arrays_fill 1 (0, 0) [.ref (zA (gz g) blk), .int (nI a), .int (nI b), .int (nI v)] h (Ret none (h.set blk (ia g (it (fls v) a (b - a) A)))) := by
  have hb1 : ∀ e, (h.set blk e)[blk]? = some e := fun e => gs_self hb
  refine Con.of (by decide) rfl rfl (L := [some (.ref (zA (gz g) blk)), some (.int (nI a)), some (.int (nI b)), some (.int (nI v)), none]) rfl (fun f C => ?_)
  have loop : ∀ (d k : Nat) (S : List Nat), k + d = b → S.length = A.length → X g f M_Arrays_fill (0, 0) (Ret none (h.set blk (ia g (it (fls v) k d S)))) (0, 0) 10 [some (.ref (zA (gz g) blk)), some (.int (nI a)), some (.int (nI b)), some (.int (nI v)), some (.int (nI k))] [] (h.set blk (ia g S)) := by
    intro d
    induction d with
    | zero =>
      intro k S hkd hS
      refine x_iload (pc := 10) C (dq D_Arrays_fill 7 rfl) rfl ?_
      refine x_iload_n (pc := 12) C (dq D_Arrays_fill 8 rfl) rfl ?_
      refine n_ge_t (pc := 13) (tgt := 27) C (dq D_Arrays_fill 9 rfl) (by decide) (by omega) (by omega) ?_
      exact x_vret (pc := 27) C (dq D_Arrays_fill 16 rfl) rfl (by decide) ⟨rfl, rfl⟩
    | succ d ih =>
      intro k S hkd hS
      refine x_iload (pc := 10) C (dq D_Arrays_fill 7 rfl) rfl ?_
      refine x_iload_n (pc := 12) C (dq D_Arrays_fill 8 rfl) rfl ?_
      refine n_ge_f (pc := 13) (tgt := 27) C (dq D_Arrays_fill 9 rfl) (by decide) (by omega) (by omega) ?_
      refine x_aload_n (pc := 16) C (dq D_Arrays_fill 10 rfl) rfl ?_
      refine x_iload (pc := 17) C (dq D_Arrays_fill 11 rfl) rfl ?_
      refine x_iload_n (pc := 19) C (dq D_Arrays_fill 12 rfl) rfl ?_
      refine x_iast (pc := 20) C (dq D_Arrays_fill 13 rfl) (hb1 _) (by (try simp only [List.length_set]); omega) ?_
      try rw [List.set_set]
      refine x_iinc (pc := 21) C (dq D_Arrays_fill 14 rfl) rfl (ii_1 _) rfl rfl ?_
      simp only [List.set_cons_zero, List.set_cons_succ]
      refine x_goto (pc := 24) (tgt := 10) C (dq D_Arrays_fill 15 rfl) (by decide) ?_
      exact ih (k + 1) (fls v k S) (by omega) (by rw [fls_len]; exact hS)
  refine x_aload_n (pc := 0) C (dq D_Arrays_fill 0 rfl) rfl ?_
  refine x_alen (pc := 1) C (dq D_Arrays_fill 1 rfl) (hb) ?_
  refine x_iload_n (pc := 2) C (dq D_Arrays_fill 2 rfl) rfl ?_
  refine x_iload_n (pc := 3) C (dq D_Arrays_fill 3 rfl) rfl ?_
  refine x_cS0 (pc := 4) (M := M_Arrays_rangeCheck) C (dq D_Arrays_fill 4 rfl) k_ml_Arrays_13 m_Arrays_rangeCheck (c_rangeCheck (by omega)) rfl rfl rfl rfl (by decide) ?_
  refine x_iload_n (pc := 7) C (dq D_Arrays_fill 5 rfl) rfl ?_
  refine x_istore (i := 4) (pc := 8) C (dq D_Arrays_fill 6 rfl) rfl rfl rfl ?_
  simp only [List.set_cons_zero, List.set_cons_succ]
  have h0 := loop (b - a) a A (by omega) rfl
  rw [gs_id hb] at h0
  exact h0
theorem c_fill2 {g : Gp} {h : Hp} {blk v : Nat} {A : List Nat} (hb : h[blk]? = some (ia g A)) (hA : A.length < 1000) : Con g M_Arrays_fill1 0 (0, 0) [.ref (zA (gz g) blk), .int (nI v)] h (Ret none (h.set blk (ia g (it (fls v) 0 A.length A)))) := by
  have hb1 : ∀ e, (h.set blk e)[blk]? = some e := fun e => gs_self hb
  refine Con.of (by decide) rfl rfl (L := [some (.ref (zA (gz g) blk)), some (.int (nI v)), none, none]) rfl (fun f C => ?_)
  have loop : ∀ (d k : Nat) (S : List Nat), k + d = A.length → S.length = A.length → X g f M_Arrays_fill1 (0, 0) (Ret none (h.set blk (ia g (it (fls v) k d S)))) (0, 0) 5 [some (.ref (zA (gz g) blk)), some (.int (nI v)), some (.int (nI k)), some (.int (nI A.length))] [] (h.set blk (ia g S)) := by
    intro d
    induction d with
    | zero =>
      intro k S hkd hS
      refine x_iload_n (pc := 5) C (dq D_Arrays_fill1 5 rfl) rfl ?_
      refine x_iload_n (pc := 6) C (dq D_Arrays_fill1 6 rfl) rfl ?_
      refine n_ge_t (pc := 7) (tgt := 20) C (dq D_Arrays_fill1 7 rfl) (by decide) (by omega) (by omega) ?_
      exact x_vret (pc := 20) C (dq D_Arrays_fill1 14 rfl) rfl (by decide) ⟨rfl, rfl⟩
    | succ d ih =>
      intro k S hkd hS
      refine x_iload_n (pc := 5) C (dq D_Arrays_fill1 5 rfl) rfl ?_
      refine x_iload_n (pc := 6) C (dq D_Arrays_fill1 6 rfl) rfl ?_
      refine n_ge_f (pc := 7) (tgt := 20) C (dq D_Arrays_fill1 7 rfl) (by decide) (by omega) (by omega) ?_
      refine x_aload_n (pc := 10) C (dq D_Arrays_fill1 8 rfl) rfl ?_
      refine x_iload_n (pc := 11) C (dq D_Arrays_fill1 9 rfl) rfl ?_
      refine x_iload_n (pc := 12) C (dq D_Arrays_fill1 10 rfl) rfl ?_
      refine x_iast (pc := 13) C (dq D_Arrays_fill1 11 rfl) (hb1 _) (by (try simp only [List.length_set]); omega) ?_
      try rw [List.set_set]
      refine x_iinc (pc := 14) C (dq D_Arrays_fill1 12 rfl) rfl (ii_1 _) rfl rfl ?_
      simp only [List.set_cons_zero, List.set_cons_succ]
      refine x_goto (pc := 17) (tgt := 5) C (dq D_Arrays_fill1 13 rfl) (by decide) ?_
      exact ih (k + 1) (fls v k S) (by omega) (by rw [fls_len]; exact hS)
  refine x_iconst (pc := 0) C (dq D_Arrays_fill1 0 rfl) ci_0 ?_
  refine x_istore_n (i := 2) (pc := 1) C (dq D_Arrays_fill1 1 rfl) rfl rfl rfl ?_
  simp only [List.set_cons_zero, List.set_cons_succ]
  refine x_aload_n (pc := 2) C (dq D_Arrays_fill1 2 rfl) rfl ?_
  refine x_alen (pc := 3) C (dq D_Arrays_fill1 3 rfl) (hb) ?_
  refine x_istore_n (i := 3) (pc := 4) C (dq D_Arrays_fill1 4 rfl) rfl rfl rfl ?_
  simp only [List.set_cons_zero, List.set_cons_succ]
  have h0 := loop A.length 0 A (by omega) rfl
  rw [gs_id hb] at h0
  exact h0
