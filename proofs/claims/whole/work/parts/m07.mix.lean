/-- four bytes from place k on, mixed -/
def mxs (k : Nat) (S : List Nat) : List Nat :=
  (((S.set k ((S.getD k 0 ^^^ (((S.getD k 0 ^^^ S.getD (k + 1) 0) ^^^ S.getD (k + 2) 0) ^^^ S.getD (k + 3) 0)) ^^^ tw (S.getD k 0 ^^^ S.getD (k + 1) 0))).set (k + 1) ((S.getD (k + 1) 0 ^^^ (((S.getD k 0 ^^^ S.getD (k + 1) 0) ^^^ S.getD (k + 2) 0) ^^^ S.getD (k + 3) 0)) ^^^ tw (S.getD (k + 1) 0 ^^^ S.getD (k + 2) 0))).set (k + 2) ((S.getD (k + 2) 0 ^^^ (((S.getD k 0 ^^^ S.getD (k + 1) 0) ^^^ S.getD (k + 2) 0) ^^^ S.getD (k + 3) 0)) ^^^ tw (S.getD (k + 2) 0 ^^^ S.getD (k + 3) 0))).set (k + 3) ((S.getD (k + 3) 0 ^^^ (((S.getD k 0 ^^^ S.getD (k + 1) 0) ^^^ S.getD (k + 2) 0) ^^^ S.getD (k + 3) 0)) ^^^ tw (S.getD (k + 3) 0 ^^^ S.getD k 0))
theorem mxs_len (k : Nat) (S : List Nat) : (mxs k S).length = S.length := by simp [mxs]
theorem mxs8 (k : Nat) {S : List Nat} (h : by8 S) : by8 (mxs k S) := by
  have a := h.at k
  have b := h.at (k + 1)
  have c := h.at (k + 2)
  have d := h.at (k + 3)
  have e := xor8 (xor8 (xor8 a b) c) d
  exact (((h.set (xor8 (xor8 a e) (tw8 _ (xor8 a b)))).set (xor8 (xor8 b e) (tw8 _ (xor8 b c)))).set (xor8 (xor8 c e) (tw8 _ (xor8 c d)))).set (xor8 (xor8 d e) (tw8 _ (xor8 d a)))
def mix (S : List Nat) : List Nat := it (fun j => mxs (4 * j)) 0 4 S
theorem mix_len (S : List Nat) : (mix S).length = S.length := it_len (fun k S => mxs_len (4 * k) S) 4 0 S
theorem mix8 {S : List Nat} (h : by8 S) : by8 (mix S) := it_inv by8 4 0 S (fun j T _ _ hT => mxs8 (4 * j) hT) h
theorem c_mix {g : Gp} {h : Hp} {blk : Nat} {A : List Nat} (hb : h[blk]? = some (ia g A)) (hA : 16 ≤ A.length ∧ A.length < 1000) (h8 : by8 A) :
    Con g M_Cipher_mix 1 (0, 0) [.ref (zA (gz g) blk)] h (Ret none (h.set blk (ia g (mix A)))) := by
  refine Con.of (by decide) rfl rfl (L := [some (.ref (zA (gz g) blk)), none, none, none, none, none, none]) rfl (fun f C => ?_)
  have loop : ∀ (n k : Nat) (S : List Nat) (l2 l3 l4 l5 l6 : Option Value), k + n = 4 → S.length = A.length → by8 S → X g f M_Cipher_mix (0, 0) (Ret none (h.set blk (ia g (it (fun j => mxs (4 * j)) k n S)))) (0, 0) 2 [some (.ref (zA (gz g) blk)), some (.int (nI (4 * k))), l2, l3, l4, l5, l6] [] (h.set blk (ia g S)) := by
    have hb1 : ∀ e, (h.set blk e)[blk]? = some e := fun e => gs_self hb
    intro n
    induction n with
    | zero =>
      intro k S l2 l3 l4 l5 l6 hkn hS h8
      refine x_iload_n (pc := 2) C (dq D_Cipher_mix 2 rfl) rfl ?_
      refine x_bipush (pc := 3) C (dq D_Cipher_mix 3 rfl) cb_16 ?_
      refine n_ge_t (pc := 5) (tgt := 117) C (dq D_Cipher_mix 4 rfl) (by decide) (by omega) (by omega) ?_
      exact x_vret (pc := 117) C (dq D_Cipher_mix 87 rfl) rfl (by decide) ⟨rfl, rfl⟩
    | succ n ih =>
      intro k S l2 l3 l4 l5 l6 hkn hS h8
      have a := h8.at (4 * k)
      have b := h8.at (4 * k + 1)
      have c := h8.at (4 * k + 2)
      have d := h8.at (4 * k + 3)
      refine x_iload_n (pc := 2) C (dq D_Cipher_mix 2 rfl) rfl ?_
      refine x_bipush (pc := 3) C (dq D_Cipher_mix 3 rfl) cb_16 ?_
      refine n_ge_f (pc := 5) (tgt := 117) C (dq D_Cipher_mix 4 rfl) (by decide) (by omega) (by omega) ?_
      refine x_aload_n (pc := 8) C (dq D_Cipher_mix 5 rfl) rfl ?_
      refine x_iload_n (pc := 9) C (dq D_Cipher_mix 6 rfl) rfl ?_
      refine x_iald (pc := 10) C (dq D_Cipher_mix 7 rfl) (hb1 _) (by (try simp only [List.length_set]); omega) ?_
      refine x_istore_n (i := 2) (pc := 11) C (dq D_Cipher_mix 8 rfl) rfl rfl rfl ?_
      simp only [List.set_cons_zero, List.set_cons_succ]
      refine x_aload_n (pc := 12) C (dq D_Cipher_mix 9 rfl) rfl ?_
      refine x_iload_n (pc := 13) C (dq D_Cipher_mix 10 rfl) rfl ?_
      refine x_iconst (pc := 14) C (dq D_Cipher_mix 11 rfl) ci_1 ?_
      refine n_iadd (pc := 15) C (dq D_Cipher_mix 12 rfl) ?_
      refine x_iald (pc := 16) C (dq D_Cipher_mix 13 rfl) (hb1 _) (by (try simp only [List.length_set]); omega) ?_
      refine x_istore_n (i := 3) (pc := 17) C (dq D_Cipher_mix 14 rfl) rfl rfl rfl ?_
      simp only [List.set_cons_zero, List.set_cons_succ]
      refine x_aload_n (pc := 18) C (dq D_Cipher_mix 15 rfl) rfl ?_
      refine x_iload_n (pc := 19) C (dq D_Cipher_mix 16 rfl) rfl ?_
      refine x_iconst (pc := 20) C (dq D_Cipher_mix 17 rfl) ci_2 ?_
      refine n_iadd (pc := 21) C (dq D_Cipher_mix 18 rfl) ?_
      refine x_iald (pc := 22) C (dq D_Cipher_mix 19 rfl) (hb1 _) (by (try simp only [List.length_set]); omega) ?_
      refine x_istore (i := 4) (pc := 23) C (dq D_Cipher_mix 20 rfl) rfl rfl rfl ?_
      simp only [List.set_cons_zero, List.set_cons_succ]
      refine x_aload_n (pc := 25) C (dq D_Cipher_mix 21 rfl) rfl ?_
      refine x_iload_n (pc := 26) C (dq D_Cipher_mix 22 rfl) rfl ?_
      refine x_iconst (pc := 27) C (dq D_Cipher_mix 23 rfl) ci_3 ?_
      refine n_iadd (pc := 28) C (dq D_Cipher_mix 24 rfl) ?_
      refine x_iald (pc := 29) C (dq D_Cipher_mix 25 rfl) (hb1 _) (by (try simp only [List.length_set]); omega) ?_
      refine x_istore (i := 5) (pc := 30) C (dq D_Cipher_mix 26 rfl) rfl rfl rfl ?_
      simp only [List.set_cons_zero, List.set_cons_succ]
      refine x_iload_n (pc := 32) C (dq D_Cipher_mix 27 rfl) rfl ?_
      refine x_iload_n (pc := 33) C (dq D_Cipher_mix 28 rfl) rfl ?_
      refine n_ixor (pc := 34) C (dq D_Cipher_mix 29 rfl) ?_
      refine x_iload (pc := 35) C (dq D_Cipher_mix 30 rfl) rfl ?_
      refine n_ixor (pc := 37) C (dq D_Cipher_mix 31 rfl) ?_
      refine x_iload (pc := 38) C (dq D_Cipher_mix 32 rfl) rfl ?_
      refine n_ixor (pc := 40) C (dq D_Cipher_mix 33 rfl) ?_
      refine x_istore (i := 6) (pc := 41) C (dq D_Cipher_mix 34 rfl) rfl rfl rfl ?_
      simp only [List.set_cons_zero, List.set_cons_succ]
      refine x_aload_n (pc := 43) C (dq D_Cipher_mix 35 rfl) rfl ?_
      refine x_iload_n (pc := 44) C (dq D_Cipher_mix 36 rfl) rfl ?_
      refine x_iload_n (pc := 45) C (dq D_Cipher_mix 37 rfl) rfl ?_
      refine x_iload (pc := 46) C (dq D_Cipher_mix 38 rfl) rfl ?_
      refine n_ixor (pc := 48) C (dq D_Cipher_mix 39 rfl) ?_
      refine x_iload_n (pc := 49) C (dq D_Cipher_mix 40 rfl) rfl ?_
      refine x_iload_n (pc := 50) C (dq D_Cipher_mix 41 rfl) rfl ?_
      refine n_ixor (pc := 51) C (dq D_Cipher_mix 42 rfl) ?_
      refine x_cS1 (pc := 52) (M := M_Tables_twice) C (dq D_Cipher_mix 43 rfl) k_ml_Cipher_34 m_Tables_twice (c_twice (xor8 a b)) rfl rfl rfl rfl (by decide) ?_
      refine n_ixor (pc := 55) C (dq D_Cipher_mix 44 rfl) ?_
      refine x_iast (pc := 56) C (dq D_Cipher_mix 45 rfl) (hb1 _) (by (try simp only [List.length_set]); omega) ?_
      try rw [List.set_set]
      refine x_aload_n (pc := 57) C (dq D_Cipher_mix 46 rfl) rfl ?_
      refine x_iload_n (pc := 58) C (dq D_Cipher_mix 47 rfl) rfl ?_
      refine x_iconst (pc := 59) C (dq D_Cipher_mix 48 rfl) ci_1 ?_
      refine n_iadd (pc := 60) C (dq D_Cipher_mix 49 rfl) ?_
      refine x_iload_n (pc := 61) C (dq D_Cipher_mix 50 rfl) rfl ?_
      refine x_iload (pc := 62) C (dq D_Cipher_mix 51 rfl) rfl ?_
      refine n_ixor (pc := 64) C (dq D_Cipher_mix 52 rfl) ?_
      refine x_iload_n (pc := 65) C (dq D_Cipher_mix 53 rfl) rfl ?_
      refine x_iload (pc := 66) C (dq D_Cipher_mix 54 rfl) rfl ?_
      refine n_ixor (pc := 68) C (dq D_Cipher_mix 55 rfl) ?_
      refine x_cS1 (pc := 69) (M := M_Tables_twice) C (dq D_Cipher_mix 56 rfl) k_ml_Cipher_34 m_Tables_twice (c_twice (xor8 b c)) rfl rfl rfl rfl (by decide) ?_
      refine n_ixor (pc := 72) C (dq D_Cipher_mix 57 rfl) ?_
      refine x_iast (pc := 73) C (dq D_Cipher_mix 58 rfl) (hb1 _) (by (try simp only [List.length_set]); omega) ?_
      try rw [List.set_set]
      refine x_aload_n (pc := 74) C (dq D_Cipher_mix 59 rfl) rfl ?_
      refine x_iload_n (pc := 75) C (dq D_Cipher_mix 60 rfl) rfl ?_
      refine x_iconst (pc := 76) C (dq D_Cipher_mix 61 rfl) ci_2 ?_
      refine n_iadd (pc := 77) C (dq D_Cipher_mix 62 rfl) ?_
      refine x_iload (pc := 78) C (dq D_Cipher_mix 63 rfl) rfl ?_
      refine x_iload (pc := 80) C (dq D_Cipher_mix 64 rfl) rfl ?_
      refine n_ixor (pc := 82) C (dq D_Cipher_mix 65 rfl) ?_
      refine x_iload (pc := 83) C (dq D_Cipher_mix 66 rfl) rfl ?_
      refine x_iload (pc := 85) C (dq D_Cipher_mix 67 rfl) rfl ?_
      refine n_ixor (pc := 87) C (dq D_Cipher_mix 68 rfl) ?_
      refine x_cS1 (pc := 88) (M := M_Tables_twice) C (dq D_Cipher_mix 69 rfl) k_ml_Cipher_34 m_Tables_twice (c_twice (xor8 c d)) rfl rfl rfl rfl (by decide) ?_
      refine n_ixor (pc := 91) C (dq D_Cipher_mix 70 rfl) ?_
      refine x_iast (pc := 92) C (dq D_Cipher_mix 71 rfl) (hb1 _) (by (try simp only [List.length_set]); omega) ?_
      try rw [List.set_set]
      refine x_aload_n (pc := 93) C (dq D_Cipher_mix 72 rfl) rfl ?_
      refine x_iload_n (pc := 94) C (dq D_Cipher_mix 73 rfl) rfl ?_
      refine x_iconst (pc := 95) C (dq D_Cipher_mix 74 rfl) ci_3 ?_
      refine n_iadd (pc := 96) C (dq D_Cipher_mix 75 rfl) ?_
      refine x_iload (pc := 97) C (dq D_Cipher_mix 76 rfl) rfl ?_
      refine x_iload (pc := 99) C (dq D_Cipher_mix 77 rfl) rfl ?_
      refine n_ixor (pc := 101) C (dq D_Cipher_mix 78 rfl) ?_
      refine x_iload (pc := 102) C (dq D_Cipher_mix 79 rfl) rfl ?_
      refine x_iload_n (pc := 104) C (dq D_Cipher_mix 80 rfl) rfl ?_
      refine n_ixor (pc := 105) C (dq D_Cipher_mix 81 rfl) ?_
      refine x_cS1 (pc := 106) (M := M_Tables_twice) C (dq D_Cipher_mix 82 rfl) k_ml_Cipher_34 m_Tables_twice (c_twice (xor8 d a)) rfl rfl rfl rfl (by decide) ?_
      refine n_ixor (pc := 109) C (dq D_Cipher_mix 83 rfl) ?_
      refine x_iast (pc := 110) C (dq D_Cipher_mix 84 rfl) (hb1 _) (by (try simp only [List.length_set]); omega) ?_
      try rw [List.set_set]
      refine x_iinc (pc := 111) C (dq D_Cipher_mix 85 rfl) rfl (ii_4 _) rfl rfl ?_
      simp only [List.set_cons_zero, List.set_cons_succ]
      refine x_goto (pc := 114) (tgt := 2) C (dq D_Cipher_mix 86 rfl) (by decide) ?_
      exact ih (k + 1) (mxs (4 * k) S) _ _ _ _ _ (by omega) (by rw [mxs_len]; exact hS) (mxs8 _ h8)
  refine x_iconst (pc := 0) C (dq D_Cipher_mix 0 rfl) ci_0 ?_
  refine x_istore_n (i := 1) (pc := 1) C (dq D_Cipher_mix 1 rfl) rfl rfl rfl ?_
  simp only [List.set_cons_zero, List.set_cons_succ]
  have h0 := loop 4 0 A none none none none none rfl rfl h8
  rw [gs_id hb] at h0
  exact h0
def unmix (S : List Nat) : List Nat := mix (mix (mix S))
theorem c_unmix {g : Gp} {h : Hp} {blk : Nat} {A : List Nat} (hb : h[blk]? = some (ia g A)) (hA : 16 ≤ A.length ∧ A.length < 1000) (h8 : by8 A) :
    Con g M_Cipher_unmix 2 (0, 0) [.ref (zA (gz g) blk)] h (Ret none (h.set blk (ia g (unmix A)))) := by
  have hb1 : ∀ e, (h.set blk e)[blk]? = some e := fun e => gs_self hb
  refine Con.of (by decide) rfl rfl (L := [some (.ref (zA (gz g) blk))]) rfl (fun f C => ?_)
  refine x_aload_n (pc := 0) C (dq D_Cipher_unmix 0 rfl) rfl ?_
  refine x_cS0 (pc := 1) (M := M_Cipher_mix) C (dq D_Cipher_unmix 1 rfl) k_ml_Cipher_51 m_Cipher_mix (c_mix hb hA h8) rfl rfl rfl rfl (by decide) ?_
  refine x_aload_n (pc := 4) C (dq D_Cipher_unmix 2 rfl) rfl ?_
  refine x_cS0 (pc := 5) (M := M_Cipher_mix) C (dq D_Cipher_unmix 3 rfl) k_ml_Cipher_51 m_Cipher_mix (c_mix (hb1 _) (by rw [mix_len]; exact hA) (mix8 h8)) rfl rfl rfl rfl (by decide) ?_
  rw [List.set_set]
  refine x_aload_n (pc := 8) C (dq D_Cipher_unmix 4 rfl) rfl ?_
  refine x_cS0 (pc := 9) (M := M_Cipher_mix) C (dq D_Cipher_unmix 5 rfl) k_ml_Cipher_51 m_Cipher_mix (c_mix (hb1 _) (by rw [mix_len, mix_len]; exact hA) (mix8 (mix8 h8))) rfl rfl rfl rfl (by decide) ?_
  rw [List.set_set]
  exact x_vret (pc := 12) C (dq D_Cipher_unmix 6 rfl) rfl (by decide) ⟨rfl, rfl⟩
