/-- the schedule of keys: four bytes through the table, the power, the other twelve -/
def ex1 (FO : List Nat) (s k : Nat) (R : List Nat) : List Nat := R.set (s + k) (R.getD (s - 16 + k) 0 ^^^ FO.getD (R.getD (s - 4 + (k + 1) % 4) 0) 0)
def ex2 (s k : Nat) (R : List Nat) : List Nat := R.set (s + k) (R.getD (s - 16 + k) 0 ^^^ R.getD (s + k - 4) 0)
def exm (s pw : Nat) (R : List Nat) : List Nat := R.set s (R.getD s 0 ^^^ pw)
def exf (FO : List Nat) (s pw : Nat) (R : List Nat) : List Nat := it (ex2 s) 4 12 (exm s pw (it (ex1 FO s) 0 4 R))
theorem ex1_len (FO : List Nat) (s k : Nat) (R : List Nat) : (ex1 FO s k R).length = R.length := List.length_set
theorem ex2_len (s k : Nat) (R : List Nat) : (ex2 s k R).length = R.length := List.length_set
theorem ex18 {FO : List Nat} (hF : by8 FO) (s k n : Nat) {R : List Nat} (h : by8 R) : by8 (it (ex1 FO s) k n R) := it_inv by8 n k R (fun j T _ _ hT => hT.set (xor8 (hT.at _) (hF.at _))) h
theorem ex28 (s k n : Nat) {R : List Nat} (h : by8 R) : by8 (it (ex2 s) k n R) := it_inv by8 n k R (fun j T _ _ hT => hT.set (xor8 (hT.at _) (hT.at _))) h
theorem exf_len (FO : List Nat) (s pw : Nat) (R : List Nat) : (exf FO s pw R).length = R.length := by
  unfold exf exm
  rw [it_len (ex2_len s), List.length_set, it_len (ex1_len FO s)]
theorem exf8 {FO : List Nat} (hF : by8 FO) (s : Nat) {pw : Nat} (hp : pw < 256) {R : List Nat} (h : by8 R) : by8 (exf FO s pw R) :=
  ex28 s 4 12 ((ex18 hF s 0 4 h).set (xor8 ((ex18 hF s 0 4 h).at _) hp))
theorem c_expandFrom {g : Gp} {h : Hp} {c t rk bf fo ba s pw : Nat} {FO R : List Nat} (hc : h[c]? = some (cpc g t rk bf)) (ht : h[t]? = some (tbc g fo ba)) (hf : h[fo]? = some (ia g FO)) (hk : h[rk]? = some (ia g R)) (hne : rk ≠ fo) (hFO : FO.length = 256) (hR : R.length = 176) (hs : 16 ≤ s ∧ s ≤ 160) (hF8 : by8 FO) (hp : pw < 256) (h8 : by8 R) :
    Con g M_Cipher_expandFrom 0 (0, 0) [.ref (zA (gz g) c), .int (nI s), .int (nI pw)] h (Ret none (h.set rk (ia g (exf FO s pw R)))) := by
  have hc1 : ∀ e, (h.set rk e)[c]? = some (cpc g t rk bf) := fun e => gs_ne (ne_io hk hc) hc
  have ht1 : ∀ e, (h.set rk e)[t]? = some (tbc g fo ba) := fun e => gs_ne (ne_io hk ht) ht
  have hf1 : ∀ e, (h.set rk e)[fo]? = some (ia g FO) := fun e => gs_ne hne hf
  have hk1 : ∀ e, (h.set rk e)[rk]? = some e := fun e => gs_self hk
  refine Con.of (by decide) rfl rfl (L := [some (.ref (zA (gz g) c)), some (.int (nI s)), some (.int (nI pw)), none, none]) rfl (fun f C => ?_)
  have loop2 : ∀ (n k : Nat) (S : List Nat) (l4 : Option Value), k + n = 16 → 4 ≤ k → S.length = 176 → X g f M_Cipher_expandFrom (0, 0) (Ret none (h.set rk (ia g (it (ex2 s) k n S)))) (0, 0) 71 [some (.ref (zA (gz g) c)), some (.int (nI s)), some (.int (nI pw)), some (.int (nI k)), l4] [] (h.set rk (ia g S)) := by
    intro n
    induction n with
    | zero =>
      intro k S l4 hkn hk4 hS
      refine x_iload_n (pc := 71) C (dq D_Cipher_expandFrom 50 rfl) rfl ?_
      refine x_bipush (pc := 72) C (dq D_Cipher_expandFrom 51 rfl) cb_16 ?_
      refine n_ge_t (pc := 74) (tgt := 113) C (dq D_Cipher_expandFrom 52 rfl) (by decide) (by omega) (by omega) ?_
      exact x_vret (pc := 113) C (dq D_Cipher_expandFrom 78 rfl) rfl (by decide) ⟨rfl, rfl⟩
    | succ n ih =>
      intro k S l4 hkn hk4 hS
      refine x_iload_n (pc := 71) C (dq D_Cipher_expandFrom 50 rfl) rfl ?_
      refine x_bipush (pc := 72) C (dq D_Cipher_expandFrom 51 rfl) cb_16 ?_
      refine n_ge_f (pc := 74) (tgt := 113) C (dq D_Cipher_expandFrom 52 rfl) (by decide) (by omega) (by omega) ?_
      refine x_aload_n (pc := 77) C (dq D_Cipher_expandFrom 53 rfl) rfl ?_
      refine x_get (pc := 78) (ci := 2) (j := 1) C (dq D_Cipher_expandFrom 54 rfl) rfl rfl (by first | exact hc1 _ | exact hk1 _) rfl k_fl_Cipher_11 ?_
      refine x_iload_n (pc := 81) C (dq D_Cipher_expandFrom 55 rfl) rfl ?_
      refine x_iload_n (pc := 82) C (dq D_Cipher_expandFrom 56 rfl) rfl ?_
      refine n_iadd (pc := 83) C (dq D_Cipher_expandFrom 57 rfl) ?_
      refine x_aload_n (pc := 84) C (dq D_Cipher_expandFrom 58 rfl) rfl ?_
      refine x_get (pc := 85) (ci := 2) (j := 1) C (dq D_Cipher_expandFrom 59 rfl) rfl rfl (by first | exact hc1 _ | exact hk1 _) rfl k_fl_Cipher_11 ?_
      refine x_iload_n (pc := 88) C (dq D_Cipher_expandFrom 60 rfl) rfl ?_
      refine x_bipush (pc := 89) C (dq D_Cipher_expandFrom 61 rfl) cb_16 ?_
      refine n_isub (pc := 91) C (dq D_Cipher_expandFrom 62 rfl) (by omega) ?_
      refine x_iload_n (pc := 92) C (dq D_Cipher_expandFrom 63 rfl) rfl ?_
      refine n_iadd (pc := 93) C (dq D_Cipher_expandFrom 64 rfl) ?_
      refine x_iald (pc := 94) C (dq D_Cipher_expandFrom 65 rfl) (by first | exact hc1 _ | exact hk1 _) (by (try simp only [List.length_set]); omega) ?_
      refine x_aload_n (pc := 95) C (dq D_Cipher_expandFrom 66 rfl) rfl ?_
      refine x_get (pc := 96) (ci := 2) (j := 1) C (dq D_Cipher_expandFrom 67 rfl) rfl rfl (by first | exact hc1 _ | exact hk1 _) rfl k_fl_Cipher_11 ?_
      refine x_iload_n (pc := 99) C (dq D_Cipher_expandFrom 68 rfl) rfl ?_
      refine x_iload_n (pc := 100) C (dq D_Cipher_expandFrom 69 rfl) rfl ?_
      refine n_iadd (pc := 101) C (dq D_Cipher_expandFrom 70 rfl) ?_
      refine x_iconst (pc := 102) C (dq D_Cipher_expandFrom 71 rfl) ci_4 ?_
      refine n_isub (pc := 103) C (dq D_Cipher_expandFrom 72 rfl) (by omega) ?_
      refine x_iald (pc := 104) C (dq D_Cipher_expandFrom 73 rfl) (by first | exact hc1 _ | exact hk1 _) (by (try simp only [List.length_set]); omega) ?_
      refine n_ixor (pc := 105) C (dq D_Cipher_expandFrom 74 rfl) ?_
      refine x_iast (pc := 106) C (dq D_Cipher_expandFrom 75 rfl) (by first | exact hc1 _ | exact hk1 _) (by (try simp only [List.length_set]); omega) ?_
      try rw [List.set_set]
      refine x_iinc (pc := 107) C (dq D_Cipher_expandFrom 76 rfl) rfl (ii_1 _) rfl rfl ?_
      simp only [List.set_cons_zero, List.set_cons_succ]
      refine x_goto (pc := 110) (tgt := 71) C (dq D_Cipher_expandFrom 77 rfl) (by decide) ?_
      exact ih (k + 1) (ex2 s k S) l4 (by omega) (by omega) (by rw [ex2_len]; exact hS)
  have loop1 : ∀ (n k : Nat) (S : List Nat) (l4 : Option Value), k + n = 4 → S.length = 176 → by8 S → X g f M_Cipher_expandFrom (0, 0) (Ret none (h.set rk (ia g (it (ex2 s) 4 12 (exm s pw (it (ex1 FO s) k n S)))))) (0, 0) 2 [some (.ref (zA (gz g) c)), some (.int (nI s)), some (.int (nI pw)), some (.int (nI k)), l4] [] (h.set rk (ia g S)) := by
    intro n
    induction n with
    | zero =>
      intro k S l4 hkn hS h8
      refine x_iload_n (pc := 2) C (dq D_Cipher_expandFrom 2 rfl) rfl ?_
      refine x_iconst (pc := 3) C (dq D_Cipher_expandFrom 3 rfl) ci_4 ?_
      refine n_ge_t (pc := 4) (tgt := 59) C (dq D_Cipher_expandFrom 4 rfl) (by decide) (by omega) (by omega) ?_
      refine x_aload_n (pc := 59) C (dq D_Cipher_expandFrom 40 rfl) rfl ?_
      refine x_get (pc := 60) (ci := 2) (j := 1) C (dq D_Cipher_expandFrom 41 rfl) rfl rfl (by first | exact hc1 _ | exact hk1 _) rfl k_fl_Cipher_11 ?_
      refine x_iload_n (pc := 63) C (dq D_Cipher_expandFrom 42 rfl) rfl ?_
      refine x_dup2 (pc := 64) C (dq D_Cipher_expandFrom 43 rfl) rfl rfl ?_
      refine x_iald (pc := 65) C (dq D_Cipher_expandFrom 44 rfl) (by first | exact hc1 _ | exact hk1 _) (by (try simp only [List.length_set]); omega) ?_
      refine x_iload_n (pc := 66) C (dq D_Cipher_expandFrom 45 rfl) rfl ?_
      refine n_ixor (pc := 67) C (dq D_Cipher_expandFrom 46 rfl) ?_
      refine x_iast (pc := 68) C (dq D_Cipher_expandFrom 47 rfl) (by first | exact hc1 _ | exact hk1 _) (by (try simp only [List.length_set]); omega) ?_
      try rw [List.set_set]
      refine x_iconst (pc := 69) C (dq D_Cipher_expandFrom 48 rfl) ci_4 ?_
      refine x_istore_n (i := 3) (pc := 70) C (dq D_Cipher_expandFrom 49 rfl) rfl rfl rfl ?_
      simp only [List.set_cons_zero, List.set_cons_succ]
      exact loop2 12 4 (exm s pw S) l4 rfl (by omega) (by rw [exm, List.length_set]; exact hS)
    | succ n ih =>
      intro k S l4 hkn hS h8
      have hv := h8.at (s - 4 + (k + 1) % 4)
      refine x_iload_n (pc := 2) C (dq D_Cipher_expandFrom 2 rfl) rfl ?_
      refine x_iconst (pc := 3) C (dq D_Cipher_expandFrom 3 rfl) ci_4 ?_
      refine n_ge_f (pc := 4) (tgt := 59) C (dq D_Cipher_expandFrom 4 rfl) (by decide) (by omega) (by omega) ?_
      refine x_aload_n (pc := 7) C (dq D_Cipher_expandFrom 5 rfl) rfl ?_
      refine x_get (pc := 8) (ci := 2) (j := 1) C (dq D_Cipher_expandFrom 6 rfl) rfl rfl (by first | exact hc1 _ | exact ht1 _ | exact hf1 _ | exact hk1 _) rfl k_fl_Cipher_11 ?_
      refine x_iload_n (pc := 11) C (dq D_Cipher_expandFrom 7 rfl) rfl ?_
      refine x_iconst (pc := 12) C (dq D_Cipher_expandFrom 8 rfl) ci_4 ?_
      refine n_isub (pc := 13) C (dq D_Cipher_expandFrom 9 rfl) (by omega) ?_
      refine x_iload_n (pc := 14) C (dq D_Cipher_expandFrom 10 rfl) rfl ?_
      refine x_iconst (pc := 15) C (dq D_Cipher_expandFrom 11 rfl) ci_1 ?_
      refine n_iadd (pc := 16) C (dq D_Cipher_expandFrom 12 rfl) ?_
      refine x_iconst (pc := 17) C (dq D_Cipher_expandFrom 13 rfl) ci_4 ?_
      refine n_irem (pc := 18) C (dq D_Cipher_expandFrom 14 rfl) (by omega) (by omega) (by omega) ?_
      refine n_iadd (pc := 19) C (dq D_Cipher_expandFrom 15 rfl) ?_
      refine x_iald (pc := 20) C (dq D_Cipher_expandFrom 16 rfl) (by first | exact hc1 _ | exact ht1 _ | exact hf1 _ | exact hk1 _) (by (try simp only [List.length_set]); omega) ?_
      refine x_istore (i := 4) (pc := 21) C (dq D_Cipher_expandFrom 17 rfl) rfl rfl rfl ?_
      simp only [List.set_cons_zero, List.set_cons_succ]
      refine x_aload_n (pc := 23) C (dq D_Cipher_expandFrom 18 rfl) rfl ?_
      refine x_get (pc := 24) (ci := 2) (j := 1) C (dq D_Cipher_expandFrom 19 rfl) rfl rfl (by first | exact hc1 _ | exact ht1 _ | exact hf1 _ | exact hk1 _) rfl k_fl_Cipher_11 ?_
      refine x_iload_n (pc := 27) C (dq D_Cipher_expandFrom 20 rfl) rfl ?_
      refine x_iload_n (pc := 28) C (dq D_Cipher_expandFrom 21 rfl) rfl ?_
      refine n_iadd (pc := 29) C (dq D_Cipher_expandFrom 22 rfl) ?_
      refine x_aload_n (pc := 30) C (dq D_Cipher_expandFrom 23 rfl) rfl ?_
      refine x_get (pc := 31) (ci := 2) (j := 1) C (dq D_Cipher_expandFrom 24 rfl) rfl rfl (by first | exact hc1 _ | exact ht1 _ | exact hf1 _ | exact hk1 _) rfl k_fl_Cipher_11 ?_
      refine x_iload_n (pc := 34) C (dq D_Cipher_expandFrom 25 rfl) rfl ?_
      refine x_bipush (pc := 35) C (dq D_Cipher_expandFrom 26 rfl) cb_16 ?_
      refine n_isub (pc := 37) C (dq D_Cipher_expandFrom 27 rfl) (by omega) ?_
      refine x_iload_n (pc := 38) C (dq D_Cipher_expandFrom 28 rfl) rfl ?_
      refine n_iadd (pc := 39) C (dq D_Cipher_expandFrom 29 rfl) ?_
      refine x_iald (pc := 40) C (dq D_Cipher_expandFrom 30 rfl) (by first | exact hc1 _ | exact ht1 _ | exact hf1 _ | exact hk1 _) (by (try simp only [List.length_set]); omega) ?_
      refine x_aload_n (pc := 41) C (dq D_Cipher_expandFrom 31 rfl) rfl ?_
      refine x_get (pc := 42) (ci := 2) (j := 0) C (dq D_Cipher_expandFrom 32 rfl) rfl rfl (by first | exact hc1 _ | exact ht1 _ | exact hf1 _ | exact hk1 _) rfl k_fl_Cipher_18 ?_
      refine x_get (pc := 45) (ci := 8) (j := 0) C (dq D_Cipher_expandFrom 33 rfl) rfl rfl (by first | exact hc1 _ | exact ht1 _ | exact hf1 _ | exact hk1 _) rfl k_fl_Cipher_40 ?_
      refine x_iload (pc := 48) C (dq D_Cipher_expandFrom 34 rfl) rfl ?_
      refine x_iald (pc := 50) C (dq D_Cipher_expandFrom 35 rfl) (by first | exact hc1 _ | exact ht1 _ | exact hf1 _ | exact hk1 _) (by (try simp only [List.length_set]); omega) ?_
      refine n_ixor (pc := 51) C (dq D_Cipher_expandFrom 36 rfl) ?_
      refine x_iast (pc := 52) C (dq D_Cipher_expandFrom 37 rfl) (by first | exact hc1 _ | exact ht1 _ | exact hf1 _ | exact hk1 _) (by (try simp only [List.length_set]); omega) ?_
      try rw [List.set_set]
      refine x_iinc (pc := 53) C (dq D_Cipher_expandFrom 38 rfl) rfl (ii_1 _) rfl rfl ?_
      simp only [List.set_cons_zero, List.set_cons_succ]
      refine x_goto (pc := 56) (tgt := 2) C (dq D_Cipher_expandFrom 39 rfl) (by decide) ?_
      exact ih (k + 1) (ex1 FO s k S) _ (by omega) (by rw [ex1_len]; exact hS) (h8.set (xor8 (h8.at _) (hF8.at _)))
  refine x_iconst (pc := 0) C (dq D_Cipher_expandFrom 0 rfl) ci_0 ?_
  refine x_istore_n (i := 3) (pc := 1) C (dq D_Cipher_expandFrom 1 rfl) rfl rfl rfl ?_
  simp only [List.set_cons_zero, List.set_cons_succ]
  have h0 := loop1 4 0 R none rfl hR h8
  rw [gs_id hk] at h0
  exact h0
def us1 (a b c d k : Nat) (R : List Nat) : List Nat := (((R.set k (bo a k)).set (4 + k) (bo b k)).set (8 + k) (bo c k)).set (12 + k) (bo d k)
def us2 (FO : List Nat) (i : Nat) (q : Nat × List Nat) : Nat × List Nat := (tw q.1, exf FO (16 + 16 * i) q.1 q.2)
/-- the keys of four words, laid over a row -/
def keys (FO : List Nat) (a b c d : Nat) (R : List Nat) : List Nat := (it (us2 FO) 0 10 (1, it (us1 a b c d) 0 4 R)).2
theorem us1_len (a b c d k : Nat) (R : List Nat) : (us1 a b c d k R).length = R.length := by simp [us1]
theorem us18 (a b c d k n : Nat) {R : List Nat} (h : by8 R) : by8 (it (us1 a b c d) k n R) := it_inv by8 n k R (fun j T _ _ hT => (((hT.set (bo8 _ _)).set (bo8 _ _)).set (bo8 _ _)).set (bo8 _ _)) h
theorem us2_ok {FO : List Nat} (hF : by8 FO) (n k : Nat) (q : Nat × List Nat) (h : q.1 < 256 ∧ q.2.length = 176 ∧ by8 q.2) : (it (us2 FO) k n q).1 < 256 ∧ (it (us2 FO) k n q).2.length = 176 ∧ by8 (it (us2 FO) k n q).2 :=
  it_inv (fun q : Nat × List Nat => q.1 < 256 ∧ q.2.length = 176 ∧ by8 q.2) n k q (fun j T _ _ hT => by
    obtain ⟨a1, a2, a3⟩ := hT
    have b1 : tw T.1 < 256 := tw8 T.1 a1
    have b2 : (exf FO (16 + 16 * j) T.1 T.2).length = 176 := (exf_len FO (16 + 16 * j) T.1 T.2).trans a2
    have b3 : by8 (exf FO (16 + 16 * j) T.1 T.2) := exf8 hF (16 + 16 * j) a1 a3
    unfold us2
    dsimp only
    exact ⟨b1, b2, b3⟩) h
theorem keys_ok {FO R : List Nat} (hF : by8 FO) (a b c d : Nat) (hR : R.length = 176) (h : by8 R) : (keys FO a b c d R).length = 176 ∧ by8 (keys FO a b c d R) :=
  (us2_ok hF 10 0 _ ⟨show 1 < 256 by omega, by rw [it_len (us1_len a b c d)]; exact hR, us18 a b c d 0 4 h⟩).2
theorem c_use {g : Gp} {h : Hp} {cc t rk bf fo ba a b c d : Nat} {FO R : List Nat} (hc : h[cc]? = some (cpc g t rk bf)) (ht : h[t]? = some (tbc g fo ba)) (hf : h[fo]? = some (ia g FO)) (hk : h[rk]? = some (ia g R)) (hne : rk ≠ fo) (hFO : FO.length = 256) (hR : R.length = 176) (hF8 : by8 FO) (h8 : by8 R) (ha : a < 2 ^ 32) (hb : b < 2 ^ 32) (hcc : c < 2 ^ 32) (hd : d < 2 ^ 32) :
    Con g M_Cipher_use 1 (0, 0) [.ref (zA (gz g) cc), .int (nI a), .int (nI b), .int (nI c), .int (nI d)] h (Ret none (h.set rk (ia g (keys FO a b c d R)))) := by
  have hc1 : ∀ e, (h.set rk e)[cc]? = some (cpc g t rk bf) := fun e => gs_ne (ne_io hk hc) hc
  have ht1 : ∀ e, (h.set rk e)[t]? = some (tbc g fo ba) := fun e => gs_ne (ne_io hk ht) ht
  have hf1 : ∀ e, (h.set rk e)[fo]? = some (ia g FO) := fun e => gs_ne hne hf
  have hk1 : ∀ e, (h.set rk e)[rk]? = some e := fun e => gs_self hk
  refine Con.of (by decide) rfl rfl (L := [some (.ref (zA (gz g) cc)), some (.int (nI a)), some (.int (nI b)), some (.int (nI c)), some (.int (nI d)), none, none]) rfl (fun f C => ?_)
  have loop2 : ∀ (n i pw : Nat) (S : List Nat), i + n = 10 → pw < 256 → S.length = 176 → by8 S → X g f M_Cipher_use (0, 0) (Ret none (h.set rk (ia g (it (us2 FO) i n (pw, S)).2))) (0, 0) 83 [some (.ref (zA (gz g) cc)), some (.int (nI a)), some (.int (nI b)), some (.int (nI c)), some (.int (nI d)), some (.int (nI pw)), some (.int (nI (16 + 16 * i)))] [] (h.set rk (ia g S)) := by
    intro n
    induction n with
    | zero =>
      intro i pw S hin hp hS h8
      refine x_iload (pc := 83) C (dq D_Cipher_use 45 rfl) rfl ?_
      refine x_aload_n (pc := 85) C (dq D_Cipher_use 46 rfl) rfl ?_
      refine x_get (pc := 86) (ci := 2) (j := 1) C (dq D_Cipher_use 47 rfl) rfl rfl (by first | exact hc1 _ | exact hk1 _) rfl k_fl_Cipher_11 ?_
      refine x_alen (pc := 89) C (dq D_Cipher_use 48 rfl) (by first | exact hc1 _ | exact hk1 _) ?_
      refine n_ge_t (pc := 90) (tgt := 114) C (dq D_Cipher_use 49 rfl) (by decide) (by omega) (by omega) ?_
      exact x_vret (pc := 114) C (dq D_Cipher_use 59 rfl) rfl (by decide) ⟨rfl, rfl⟩
    | succ n ih =>
      intro i pw S hin hp hS h8
      refine x_iload (pc := 83) C (dq D_Cipher_use 45 rfl) rfl ?_
      refine x_aload_n (pc := 85) C (dq D_Cipher_use 46 rfl) rfl ?_
      refine x_get (pc := 86) (ci := 2) (j := 1) C (dq D_Cipher_use 47 rfl) rfl rfl (by first | exact hc1 _ | exact hk1 _) rfl k_fl_Cipher_11 ?_
      refine x_alen (pc := 89) C (dq D_Cipher_use 48 rfl) (by first | exact hc1 _ | exact hk1 _) ?_
      refine n_ge_f (pc := 90) (tgt := 114) C (dq D_Cipher_use 49 rfl) (by decide) (by omega) (by omega) ?_
      refine x_aload_n (pc := 93) C (dq D_Cipher_use 50 rfl) rfl ?_
      refine x_iload (pc := 94) C (dq D_Cipher_use 51 rfl) rfl ?_
      refine x_iload (pc := 96) C (dq D_Cipher_use 52 rfl) rfl ?_
      refine x_cV0 (pc := 98) (ci := 2) (M := M_Cipher_expandFrom) C (dq D_Cipher_use 53 rfl) k_ml_Cipher_30 m_Cipher_expandFrom rfl rfl (by first | exact hc1 _ | exact hk1 _) (c_expandFrom (hc1 _) (ht1 _) (hf1 _) (hk1 _) hne hFO hS (by omega) hF8 hp h8) rfl rfl rfl rfl (by decide) ?_
      rw [List.set_set]
      refine x_iload (pc := 101) C (dq D_Cipher_use 54 rfl) rfl ?_
      refine x_cS1 (pc := 103) (M := M_Tables_twice) C (dq D_Cipher_use 55 rfl) k_ml_Cipher_34 m_Tables_twice (c_twice hp) rfl rfl rfl rfl (by decide) ?_
      refine x_istore (i := 5) (pc := 106) C (dq D_Cipher_use 56 rfl) rfl rfl rfl ?_
      simp only [List.set_cons_zero, List.set_cons_succ]
      refine x_iinc (pc := 108) C (dq D_Cipher_use 57 rfl) rfl (ii_16 _) rfl rfl ?_
      simp only [List.set_cons_zero, List.set_cons_succ]
      refine x_goto (pc := 111) (tgt := 83) C (dq D_Cipher_use 58 rfl) (by decide) ?_
      exact ih (i + 1) (tw pw) (exf FO (16 + 16 * i) pw S) (by omega) (tw8 _ hp) (by rw [exf_len]; exact hS) (exf8 hF8 _ hp h8)
  have loop1 : ∀ (n k : Nat) (S : List Nat), k + n = 4 → S.length = 176 → by8 S → X g f M_Cipher_use (0, 0) (Ret none (h.set rk (ia g (it (us2 FO) 0 10 (1, it (us1 a b c d) k n S)).2))) (0, 0) 3 [some (.ref (zA (gz g) cc)), some (.int (nI a)), some (.int (nI b)), some (.int (nI c)), some (.int (nI d)), some (.int (nI k)), none] [] (h.set rk (ia g S)) := by
    intro n
    induction n with
    | zero =>
      intro k S hkn hS h8
      refine x_iload (pc := 3) C (dq D_Cipher_use 2 rfl) rfl ?_
      refine x_iconst (pc := 5) C (dq D_Cipher_use 3 rfl) ci_4 ?_
      refine n_ge_t (pc := 6) (tgt := 76) C (dq D_Cipher_use 4 rfl) (by decide) (by omega) (by omega) ?_
      refine x_iconst (pc := 76) C (dq D_Cipher_use 41 rfl) ci_1 ?_
      refine x_istore (i := 5) (pc := 77) C (dq D_Cipher_use 42 rfl) rfl rfl rfl ?_
      simp only [List.set_cons_zero, List.set_cons_succ]
      refine x_bipush (pc := 79) C (dq D_Cipher_use 43 rfl) cb_16 ?_
      refine x_istore (i := 6) (pc := 81) C (dq D_Cipher_use 44 rfl) rfl rfl rfl ?_
      simp only [List.set_cons_zero, List.set_cons_succ]
      exact loop2 10 0 1 S rfl (by omega) hS h8
    | succ n ih =>
      intro k S hkn hS h8
      refine x_iload (pc := 3) C (dq D_Cipher_use 2 rfl) rfl ?_
      refine x_iconst (pc := 5) C (dq D_Cipher_use 3 rfl) ci_4 ?_
      refine n_ge_f (pc := 6) (tgt := 76) C (dq D_Cipher_use 4 rfl) (by decide) (by omega) (by omega) ?_
      refine x_aload_n (pc := 9) C (dq D_Cipher_use 5 rfl) rfl ?_
      refine x_get (pc := 10) (ci := 2) (j := 1) C (dq D_Cipher_use 6 rfl) rfl rfl (by first | exact hc1 _ | exact hk1 _) rfl k_fl_Cipher_11 ?_
      refine x_iload (pc := 13) C (dq D_Cipher_use 7 rfl) rfl ?_
      refine x_iload_n (pc := 15) C (dq D_Cipher_use 8 rfl) rfl ?_
      refine x_iload (pc := 16) C (dq D_Cipher_use 9 rfl) rfl ?_
      refine x_cSN1 (pc := 18) (M := M_Desk_byteOf) C (dq D_Cipher_use 10 rfl) q_ml_Cipher_26 m_Desk_byteOf (c_byteOf ha (by omega)) rfl rfl rfl rfl (by decide) ?_
      refine x_iast (pc := 21) C (dq D_Cipher_use 11 rfl) (by first | exact hc1 _ | exact hk1 _) (by (try simp only [List.length_set]); omega) ?_
      try rw [List.set_set]
      refine x_aload_n (pc := 22) C (dq D_Cipher_use 12 rfl) rfl ?_
      refine x_get (pc := 23) (ci := 2) (j := 1) C (dq D_Cipher_use 13 rfl) rfl rfl (by first | exact hc1 _ | exact hk1 _) rfl k_fl_Cipher_11 ?_
      refine x_iconst (pc := 26) C (dq D_Cipher_use 14 rfl) ci_4 ?_
      refine x_iload (pc := 27) C (dq D_Cipher_use 15 rfl) rfl ?_
      refine n_iadd (pc := 29) C (dq D_Cipher_use 16 rfl) ?_
      refine x_iload_n (pc := 30) C (dq D_Cipher_use 17 rfl) rfl ?_
      refine x_iload (pc := 31) C (dq D_Cipher_use 18 rfl) rfl ?_
      refine x_cSN1 (pc := 33) (M := M_Desk_byteOf) C (dq D_Cipher_use 19 rfl) q_ml_Cipher_26 m_Desk_byteOf (c_byteOf hb (by omega)) rfl rfl rfl rfl (by decide) ?_
      refine x_iast (pc := 36) C (dq D_Cipher_use 20 rfl) (by first | exact hc1 _ | exact hk1 _) (by rw [List.length_set]; omega) ?_
      try rw [List.set_set]
      refine x_aload_n (pc := 37) C (dq D_Cipher_use 21 rfl) rfl ?_
      refine x_get (pc := 38) (ci := 2) (j := 1) C (dq D_Cipher_use 22 rfl) rfl rfl (by first | exact hc1 _ | exact hk1 _) rfl k_fl_Cipher_11 ?_
      refine x_bipush (pc := 41) C (dq D_Cipher_use 23 rfl) cb_8 ?_
      refine x_iload (pc := 43) C (dq D_Cipher_use 24 rfl) rfl ?_
      refine n_iadd (pc := 45) C (dq D_Cipher_use 25 rfl) ?_
      refine x_iload_n (pc := 46) C (dq D_Cipher_use 26 rfl) rfl ?_
      refine x_iload (pc := 47) C (dq D_Cipher_use 27 rfl) rfl ?_
      refine x_cSN1 (pc := 49) (M := M_Desk_byteOf) C (dq D_Cipher_use 28 rfl) q_ml_Cipher_26 m_Desk_byteOf (c_byteOf hcc (by omega)) rfl rfl rfl rfl (by decide) ?_
      refine x_iast (pc := 52) C (dq D_Cipher_use 29 rfl) (by first | exact hc1 _ | exact hk1 _) (by rw [List.length_set, List.length_set]; omega) ?_
      try rw [List.set_set]
      refine x_aload_n (pc := 53) C (dq D_Cipher_use 30 rfl) rfl ?_
      refine x_get (pc := 54) (ci := 2) (j := 1) C (dq D_Cipher_use 31 rfl) rfl rfl (by first | exact hc1 _ | exact hk1 _) rfl k_fl_Cipher_11 ?_
      refine x_bipush (pc := 57) C (dq D_Cipher_use 32 rfl) cb_12 ?_
      refine x_iload (pc := 59) C (dq D_Cipher_use 33 rfl) rfl ?_
      refine n_iadd (pc := 61) C (dq D_Cipher_use 34 rfl) ?_
      refine x_iload (pc := 62) C (dq D_Cipher_use 35 rfl) rfl ?_
      refine x_iload (pc := 64) C (dq D_Cipher_use 36 rfl) rfl ?_
      refine x_cSN1 (pc := 66) (M := M_Desk_byteOf) C (dq D_Cipher_use 37 rfl) q_ml_Cipher_26 m_Desk_byteOf (c_byteOf hd (by omega)) rfl rfl rfl rfl (by decide) ?_
      refine x_iast (pc := 69) C (dq D_Cipher_use 38 rfl) (by first | exact hc1 _ | exact hk1 _) (by rw [List.length_set, List.length_set, List.length_set]; omega) ?_
      try rw [List.set_set]
      refine x_iinc (pc := 70) C (dq D_Cipher_use 39 rfl) rfl (ii_1 _) rfl rfl ?_
      simp only [List.set_cons_zero, List.set_cons_succ]
      refine x_goto (pc := 73) (tgt := 3) C (dq D_Cipher_use 40 rfl) (by decide) ?_
      exact ih (k + 1) (us1 a b c d k S) (by omega) (by rw [us1_len]; exact hS) ((((h8.set (bo8 _ _)).set (bo8 _ _)).set (bo8 _ _)).set (bo8 _ _))
  refine x_iconst (pc := 0) C (dq D_Cipher_use 0 rfl) ci_0 ?_
  refine x_istore (i := 5) (pc := 1) C (dq D_Cipher_use 1 rfl) rfl rfl rfl ?_
  simp only [List.set_cons_zero, List.set_cons_succ]
  have h0 := loop1 4 0 R rfl hR h8
  rw [gs_id hk] at h0
  exact h0
