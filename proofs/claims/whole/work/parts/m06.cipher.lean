/-- the key's part r, laid over a block -/
def ark (RK : List Nat) (r k : Nat) (S : List Nat) : List Nat := S.set k (S.getD k 0 ^^^ RK.getD (16 * r + k) 0)
theorem ark_len (RK : List Nat) (r k : Nat) (S : List Nat) : (ark RK r k S).length = S.length := List.length_set
theorem ark8 {RK : List Nat} (h : by8 RK) (r n k : Nat) {S : List Nat} (hS : by8 S) : by8 (it (ark RK r) k n S) := it_inv by8 n k S (fun j T _ _ hT => hT.set (xor8 (hT.at _) (h.at _))) hS
theorem c_addRoundKey {g : Gp} {h : Hp} {c t rk bf blk r : Nat} {RK A : List Nat} (hc : h[c]? = some (cpc g t rk bf)) (hk : h[rk]? = some (ia g RK)) (hb : h[blk]? = some (ia g A)) (hne : blk ≠ rk) (hRK : RK.length = 176) (hA : 16 ≤ A.length ∧ A.length < 1000) (hr : r ≤ 10) :
    Con g M_Cipher_addRoundKey 0 (0, 0) [.ref (zA (gz g) c), .ref (zA (gz g) blk), .int (nI r)] h (Ret none (h.set blk (ia g (it (ark RK r) 0 16 A)))) := by
  refine Con.of (by decide) rfl rfl (L := [some (.ref (zA (gz g) c)), some (.ref (zA (gz g) blk)), some (.int (nI r)), none]) rfl (fun f C => ?_)
  have loop : ∀ (n k : Nat) (S : List Nat), k + n = 16 → S.length = A.length → X g f M_Cipher_addRoundKey (0, 0) (Ret none (h.set blk (ia g (it (ark RK r) k n S)))) (0, 0) 2 [some (.ref (zA (gz g) c)), some (.ref (zA (gz g) blk)), some (.int (nI r)), some (.int (nI k))] [] (h.set blk (ia g S)) := by
    have hc1 : ∀ e, (h.set blk e)[c]? = some (cpc g t rk bf) := fun e => gs_ne (ne_io hb hc) hc
    have hk1 : ∀ e, (h.set blk e)[rk]? = some (ia g RK) := fun e => gs_ne hne hk
    have hb1 : ∀ e, (h.set blk e)[blk]? = some e := fun e => gs_self hb
    intro n
    induction n with
    | zero =>
      intro k S hkn hS
      refine x_iload_n (pc := 2) C (dq D_Cipher_addRoundKey 2 rfl) rfl ?_
      refine x_bipush (pc := 3) C (dq D_Cipher_addRoundKey 3 rfl) cb_16 ?_
      refine n_ge_t (pc := 5) (tgt := 31) C (dq D_Cipher_addRoundKey 4 rfl) (by decide) (by omega) (by omega) ?_
      exact x_vret (pc := 31) C (dq D_Cipher_addRoundKey 21 rfl) rfl (by decide) ⟨rfl, rfl⟩
    | succ n ih =>
      intro k S hkn hS
      refine x_iload_n (pc := 2) C (dq D_Cipher_addRoundKey 2 rfl) rfl ?_
      refine x_bipush (pc := 3) C (dq D_Cipher_addRoundKey 3 rfl) cb_16 ?_
      refine n_ge_f (pc := 5) (tgt := 31) C (dq D_Cipher_addRoundKey 4 rfl) (by decide) (by omega) (by omega) ?_
      refine x_aload_n (pc := 8) C (dq D_Cipher_addRoundKey 5 rfl) rfl ?_
      refine x_iload_n (pc := 9) C (dq D_Cipher_addRoundKey 6 rfl) rfl ?_
      refine x_dup2 (pc := 10) C (dq D_Cipher_addRoundKey 7 rfl) rfl rfl ?_
      refine x_iald (pc := 11) C (dq D_Cipher_addRoundKey 8 rfl) (by first | exact hc1 _ | exact hk1 _ | exact hb1 _) (by (try simp only [List.length_set]); omega) ?_
      refine x_aload_n (pc := 12) C (dq D_Cipher_addRoundKey 9 rfl) rfl ?_
      refine x_get (pc := 13) (ci := 2) (j := 1) C (dq D_Cipher_addRoundKey 10 rfl) rfl rfl (by first | exact hc1 _ | exact hk1 _ | exact hb1 _) rfl k_fl_Cipher_11 ?_
      refine x_bipush (pc := 16) C (dq D_Cipher_addRoundKey 11 rfl) cb_16 ?_
      refine x_iload_n (pc := 18) C (dq D_Cipher_addRoundKey 12 rfl) rfl ?_
      refine n_imul (pc := 19) C (dq D_Cipher_addRoundKey 13 rfl) ?_
      refine x_iload_n (pc := 20) C (dq D_Cipher_addRoundKey 14 rfl) rfl ?_
      refine n_iadd (pc := 21) C (dq D_Cipher_addRoundKey 15 rfl) ?_
      refine x_iald (pc := 22) C (dq D_Cipher_addRoundKey 16 rfl) (by first | exact hc1 _ | exact hk1 _ | exact hb1 _) (by (try simp only [List.length_set]); omega) ?_
      refine n_ixor (pc := 23) C (dq D_Cipher_addRoundKey 17 rfl) ?_
      refine x_iast (pc := 24) C (dq D_Cipher_addRoundKey 18 rfl) (by first | exact hc1 _ | exact hk1 _ | exact hb1 _) (by (try simp only [List.length_set]); omega) ?_
      try rw [List.set_set]
      refine x_iinc (pc := 25) C (dq D_Cipher_addRoundKey 19 rfl) rfl (ii_1 _) rfl rfl ?_
      simp only [List.set_cons_zero, List.set_cons_succ]
      refine x_goto (pc := 28) (tgt := 2) C (dq D_Cipher_addRoundKey 20 rfl) (by decide) ?_
      exact ih (k + 1) (ark RK r k S) (by omega) (by rw [ark_len]; exact hS)
  refine x_iconst (pc := 0) C (dq D_Cipher_addRoundKey 0 rfl) ci_0 ?_
  refine x_istore_n (i := 3) (pc := 1) C (dq D_Cipher_addRoundKey 1 rfl) rfl rfl rfl ?_
  simp only [List.set_cons_zero, List.set_cons_succ]
  have h0 := loop 16 0 A rfl rfl
  rw [gs_id hb] at h0
  exact h0
/-- a table's values in the places before -/
def sb (T X0 : List Nat) (k : Nat) (S : List Nat) : List Nat := S.set k (T.getD (X0.getD (pb k) 0) 0)
theorem sb_len (T X0 : List Nat) (k : Nat) (S : List Nat) : (sb T X0 k S).length = S.length := List.length_set
theorem sb8 {T : List Nat} (h : by8 T) (X0 : List Nat) (n k : Nat) {S : List Nat} (hS : by8 S) : by8 (it (sb T X0) k n S) := it_inv by8 n k S (fun j T _ _ hT => hT.set (h.at _)) hS
theorem c_substitute {g : Gp} {h : Hp} {c t rk bf blk fo ba : Nat} {FO BF A : List Nat} (hc : h[c]? = some (cpc g t rk bf)) (ht : h[t]? = some (tbc g fo ba)) (hf : h[fo]? = some (ia g FO)) (hbf : h[bf]? = some (ia g BF)) (hb : h[blk]? = some (ia g A)) (hne : blk ≠ fo ∧ blk ≠ bf ∧ bf ≠ fo) (hFO : FO.length = 256) (hBF : BF.length = 16) (hA : 16 ≤ A.length ∧ A.length < 1000) (h8 : by8 A) :
    Con g M_Cipher_substitute 1 (0, 0) [.ref (zA (gz g) c), .ref (zA (gz g) blk)] h (Ret none ((h.set bf (ia g (A.take 16))).set blk (ia g (it (sb FO (A.take 16)) 0 16 A)))) := by
  refine Con.of (by decide) rfl rfl (L := [some (.ref (zA (gz g) c)), some (.ref (zA (gz g) blk)), none]) rfl (fun f C => ?_)
  have hX : (A.take 16).length = 16 := by rw [List.length_take]; omega
  have hX8 := h8.take 16
  have hb0 : (h.set bf (ia g (A.take 16)))[blk]? = some (ia g A) := gs_ne (Ne.symm hne.2.1) hb
  have loop : ∀ (n k : Nat) (S : List Nat), k + n = 16 → S.length = A.length → X g f M_Cipher_substitute (0, 0) (Ret none ((h.set bf (ia g (A.take 16))).set blk (ia g (it (sb FO (A.take 16)) k n S)))) (0, 0) 14 [some (.ref (zA (gz g) c)), some (.ref (zA (gz g) blk)), some (.int (nI k))] [] ((h.set bf (ia g (A.take 16))).set blk (ia g S)) := by
    have hc1 : ∀ e, ((h.set bf (ia g (A.take 16))).set blk e)[c]? = some (cpc g t rk bf) := fun e => gs_ne (ne_io hb hc) (gs_ne (ne_io hbf hc) hc)
    have ht1 : ∀ e, ((h.set bf (ia g (A.take 16))).set blk e)[t]? = some (tbc g fo ba) := fun e => gs_ne (ne_io hb ht) (gs_ne (ne_io hbf ht) ht)
    have hf1 : ∀ e, ((h.set bf (ia g (A.take 16))).set blk e)[fo]? = some (ia g FO) := fun e => gs_ne hne.1 (gs_ne hne.2.2 hf)
    have hbf1 : ∀ e, ((h.set bf (ia g (A.take 16))).set blk e)[bf]? = some (ia g (A.take 16)) := fun e => gs_ne hne.2.1 (gs_self hbf)
    have hb1 : ∀ e, ((h.set bf (ia g (A.take 16))).set blk e)[blk]? = some e := fun e => gs_self hb0
    intro n
    induction n with
    | zero =>
      intro k S hkn hS
      refine x_iload_n (pc := 14) C (dq D_Cipher_substitute 9 rfl) rfl ?_
      refine x_bipush (pc := 15) C (dq D_Cipher_substitute 10 rfl) cb_16 ?_
      refine n_ge_t (pc := 17) (tgt := 46) C (dq D_Cipher_substitute 11 rfl) (by decide) (by omega) (by omega) ?_
      exact x_vret (pc := 46) C (dq D_Cipher_substitute 26 rfl) rfl (by decide) ⟨rfl, rfl⟩
    | succ n ih =>
      intro k S hkn hS
      have hp : pb k < 16 := Nat.mod_lt _ (by omega)
      have hv : (A.take 16).getD (pb k) 0 < 256 := hX8.at _
      refine x_iload_n (pc := 14) C (dq D_Cipher_substitute 9 rfl) rfl ?_
      refine x_bipush (pc := 15) C (dq D_Cipher_substitute 10 rfl) cb_16 ?_
      refine n_ge_f (pc := 17) (tgt := 46) C (dq D_Cipher_substitute 11 rfl) (by decide) (by omega) (by omega) ?_
      refine x_aload_n (pc := 20) C (dq D_Cipher_substitute 12 rfl) rfl ?_
      refine x_iload_n (pc := 21) C (dq D_Cipher_substitute 13 rfl) rfl ?_
      refine x_aload_n (pc := 22) C (dq D_Cipher_substitute 14 rfl) rfl ?_
      refine x_get (pc := 23) (ci := 2) (j := 0) C (dq D_Cipher_substitute 15 rfl) rfl rfl (by first | exact hc1 _ | exact ht1 _ | exact hf1 _ | exact hbf1 _ | exact hb1 _) rfl k_fl_Cipher_18 ?_
      refine x_get (pc := 26) (ci := 8) (j := 0) C (dq D_Cipher_substitute 16 rfl) rfl rfl (by first | exact hc1 _ | exact ht1 _ | exact hf1 _ | exact hbf1 _ | exact hb1 _) rfl k_fl_Cipher_40 ?_
      refine x_aload_n (pc := 29) C (dq D_Cipher_substitute 17 rfl) rfl ?_
      refine x_get (pc := 30) (ci := 2) (j := 2) C (dq D_Cipher_substitute 18 rfl) rfl rfl (by first | exact hc1 _ | exact ht1 _ | exact hf1 _ | exact hbf1 _ | exact hb1 _) rfl k_fl_Cipher_15 ?_
      refine x_iload_n (pc := 33) C (dq D_Cipher_substitute 19 rfl) rfl ?_
      refine x_cS1 (pc := 34) (M := M_Cipher_placeBefore) C (dq D_Cipher_substitute 20 rfl) k_ml_Cipher_66 m_Cipher_placeBefore (c_placeBefore (by omega)) rfl rfl rfl rfl (by decide) ?_
      refine x_iald (pc := 37) C (dq D_Cipher_substitute 21 rfl) (by first | exact hc1 _ | exact ht1 _ | exact hf1 _ | exact hbf1 _ | exact hb1 _) (by (try simp only [List.length_set]); omega) ?_
      refine x_iald (pc := 38) C (dq D_Cipher_substitute 22 rfl) (by first | exact hc1 _ | exact ht1 _ | exact hf1 _ | exact hbf1 _ | exact hb1 _) (by (try simp only [List.length_set]); omega) ?_
      refine x_iast (pc := 39) C (dq D_Cipher_substitute 23 rfl) (by first | exact hc1 _ | exact ht1 _ | exact hf1 _ | exact hbf1 _ | exact hb1 _) (by (try simp only [List.length_set]); omega) ?_
      try rw [List.set_set]
      refine x_iinc (pc := 40) C (dq D_Cipher_substitute 24 rfl) rfl (ii_1 _) rfl rfl ?_
      simp only [List.set_cons_zero, List.set_cons_succ]
      refine x_goto (pc := 43) (tgt := 14) C (dq D_Cipher_substitute 25 rfl) (by decide) ?_
      exact ih (k + 1) (sb FO (A.take 16) k S) (by omega) (by rw [sb_len]; exact hS)
  refine x_aload_n (pc := 0) C (dq D_Cipher_substitute 0 rfl) rfl ?_
  refine x_iconst (pc := 1) C (dq D_Cipher_substitute 1 rfl) ci_0 ?_
  refine x_aload_n (pc := 2) C (dq D_Cipher_substitute 2 rfl) rfl ?_
  refine x_get (pc := 3) (ci := 2) (j := 2) C (dq D_Cipher_substitute 3 rfl) rfl rfl (hc) rfl k_fl_Cipher_15 ?_
  refine x_iconst (pc := 6) C (dq D_Cipher_substitute 4 rfl) ci_0 ?_
  refine x_bipush (pc := 7) C (dq D_Cipher_substitute 5 rfl) cb_16 ?_
  refine x_copy (pc := 9) C (dq D_Cipher_substitute 6 rfl) k_ml_Cipher_60 hb hbf (by omega) (by omega) (by omega) (by decide) rfl rfl ?_
  rw [cpyT hA.1 hBF]
  refine x_iconst (pc := 12) C (dq D_Cipher_substitute 7 rfl) ci_0 ?_
  refine x_istore_n (i := 2) (pc := 13) C (dq D_Cipher_substitute 8 rfl) rfl rfl rfl ?_
  simp only [List.set_cons_zero, List.set_cons_succ]
  have h0 := loop 16 0 A rfl rfl
  rw [gs_id hb0] at h0
  exact h0
def sbB (T X0 : List Nat) (k : Nat) (S : List Nat) : List Nat := S.set (pb k) (T.getD (X0.getD k 0) 0)
theorem sbB_len (T X0 : List Nat) (k : Nat) (S : List Nat) : (sbB T X0 k S).length = S.length := List.length_set
theorem sbB8 {T : List Nat} (h : by8 T) (X0 : List Nat) (n k : Nat) {S : List Nat} (hS : by8 S) : by8 (it (sbB T X0) k n S) := it_inv by8 n k S (fun j T _ _ hT => hT.set (h.at _)) hS
theorem c_substituteBack {g : Gp} {h : Hp} {c t rk bf blk fo ba : Nat} {BA BF A : List Nat} (hc : h[c]? = some (cpc g t rk bf)) (ht : h[t]? = some (tbc g fo ba)) (hf : h[ba]? = some (ia g BA)) (hbf : h[bf]? = some (ia g BF)) (hb : h[blk]? = some (ia g A)) (hne : blk ≠ ba ∧ blk ≠ bf ∧ bf ≠ ba) (hBA : BA.length = 256) (hBF : BF.length = 16) (hA : 16 ≤ A.length ∧ A.length < 1000) (h8 : by8 A) :
    Con g M_Cipher_substituteBack 1 (0, 0) [.ref (zA (gz g) c), .ref (zA (gz g) blk)] h (Ret none ((h.set bf (ia g (A.take 16))).set blk (ia g (it (sbB BA (A.take 16)) 0 16 A)))) := by
  refine Con.of (by decide) rfl rfl (L := [some (.ref (zA (gz g) c)), some (.ref (zA (gz g) blk)), none]) rfl (fun f C => ?_)
  have hX : (A.take 16).length = 16 := by rw [List.length_take]; omega
  have hX8 := h8.take 16
  have hb0 : (h.set bf (ia g (A.take 16)))[blk]? = some (ia g A) := gs_ne (Ne.symm hne.2.1) hb
  have loop : ∀ (n k : Nat) (S : List Nat), k + n = 16 → S.length = A.length → X g f M_Cipher_substituteBack (0, 0) (Ret none ((h.set bf (ia g (A.take 16))).set blk (ia g (it (sbB BA (A.take 16)) k n S)))) (0, 0) 14 [some (.ref (zA (gz g) c)), some (.ref (zA (gz g) blk)), some (.int (nI k))] [] ((h.set bf (ia g (A.take 16))).set blk (ia g S)) := by
    have hc1 : ∀ e, ((h.set bf (ia g (A.take 16))).set blk e)[c]? = some (cpc g t rk bf) := fun e => gs_ne (ne_io hb hc) (gs_ne (ne_io hbf hc) hc)
    have ht1 : ∀ e, ((h.set bf (ia g (A.take 16))).set blk e)[t]? = some (tbc g fo ba) := fun e => gs_ne (ne_io hb ht) (gs_ne (ne_io hbf ht) ht)
    have hf1 : ∀ e, ((h.set bf (ia g (A.take 16))).set blk e)[ba]? = some (ia g BA) := fun e => gs_ne hne.1 (gs_ne hne.2.2 hf)
    have hbf1 : ∀ e, ((h.set bf (ia g (A.take 16))).set blk e)[bf]? = some (ia g (A.take 16)) := fun e => gs_ne hne.2.1 (gs_self hbf)
    have hb1 : ∀ e, ((h.set bf (ia g (A.take 16))).set blk e)[blk]? = some e := fun e => gs_self hb0
    intro n
    induction n with
    | zero =>
      intro k S hkn hS
      refine x_iload_n (pc := 14) C (dq D_Cipher_substituteBack 9 rfl) rfl ?_
      refine x_bipush (pc := 15) C (dq D_Cipher_substituteBack 10 rfl) cb_16 ?_
      refine n_ge_t (pc := 17) (tgt := 46) C (dq D_Cipher_substituteBack 11 rfl) (by decide) (by omega) (by omega) ?_
      exact x_vret (pc := 46) C (dq D_Cipher_substituteBack 26 rfl) rfl (by decide) ⟨rfl, rfl⟩
    | succ n ih =>
      intro k S hkn hS
      have hp : pb k < 16 := Nat.mod_lt _ (by omega)
      have hv : (A.take 16).getD k 0 < 256 := hX8.at _
      refine x_iload_n (pc := 14) C (dq D_Cipher_substituteBack 9 rfl) rfl ?_
      refine x_bipush (pc := 15) C (dq D_Cipher_substituteBack 10 rfl) cb_16 ?_
      refine n_ge_f (pc := 17) (tgt := 46) C (dq D_Cipher_substituteBack 11 rfl) (by decide) (by omega) (by omega) ?_
      refine x_aload_n (pc := 20) C (dq D_Cipher_substituteBack 12 rfl) rfl ?_
      refine x_iload_n (pc := 21) C (dq D_Cipher_substituteBack 13 rfl) rfl ?_
      refine x_cS1 (pc := 22) (M := M_Cipher_placeBefore) C (dq D_Cipher_substituteBack 14 rfl) k_ml_Cipher_66 m_Cipher_placeBefore (c_placeBefore (by omega)) rfl rfl rfl rfl (by decide) ?_
      refine x_aload_n (pc := 25) C (dq D_Cipher_substituteBack 15 rfl) rfl ?_
      refine x_get (pc := 26) (ci := 2) (j := 0) C (dq D_Cipher_substituteBack 16 rfl) rfl rfl (by first | exact hc1 _ | exact ht1 _ | exact hf1 _ | exact hbf1 _ | exact hb1 _) rfl k_fl_Cipher_18 ?_
      refine x_get (pc := 29) (ci := 8) (j := 1) C (dq D_Cipher_substituteBack 17 rfl) rfl rfl (by first | exact hc1 _ | exact ht1 _ | exact hf1 _ | exact hbf1 _ | exact hb1 _) rfl k_fl_Cipher_69 ?_
      refine x_aload_n (pc := 32) C (dq D_Cipher_substituteBack 18 rfl) rfl ?_
      refine x_get (pc := 33) (ci := 2) (j := 2) C (dq D_Cipher_substituteBack 19 rfl) rfl rfl (by first | exact hc1 _ | exact ht1 _ | exact hf1 _ | exact hbf1 _ | exact hb1 _) rfl k_fl_Cipher_15 ?_
      refine x_iload_n (pc := 36) C (dq D_Cipher_substituteBack 20 rfl) rfl ?_
      refine x_iald (pc := 37) C (dq D_Cipher_substituteBack 21 rfl) (by first | exact hc1 _ | exact ht1 _ | exact hf1 _ | exact hbf1 _ | exact hb1 _) (by (try simp only [List.length_set]); omega) ?_
      refine x_iald (pc := 38) C (dq D_Cipher_substituteBack 22 rfl) (by first | exact hc1 _ | exact ht1 _ | exact hf1 _ | exact hbf1 _ | exact hb1 _) (by (try simp only [List.length_set]); omega) ?_
      refine x_iast (pc := 39) C (dq D_Cipher_substituteBack 23 rfl) (by first | exact hc1 _ | exact ht1 _ | exact hf1 _ | exact hbf1 _ | exact hb1 _) (by (try simp only [List.length_set]); omega) ?_
      try rw [List.set_set]
      refine x_iinc (pc := 40) C (dq D_Cipher_substituteBack 24 rfl) rfl (ii_1 _) rfl rfl ?_
      simp only [List.set_cons_zero, List.set_cons_succ]
      refine x_goto (pc := 43) (tgt := 14) C (dq D_Cipher_substituteBack 25 rfl) (by decide) ?_
      exact ih (k + 1) (sbB BA (A.take 16) k S) (by omega) (by rw [sbB_len]; exact hS)
  refine x_aload_n (pc := 0) C (dq D_Cipher_substituteBack 0 rfl) rfl ?_
  refine x_iconst (pc := 1) C (dq D_Cipher_substituteBack 1 rfl) ci_0 ?_
  refine x_aload_n (pc := 2) C (dq D_Cipher_substituteBack 2 rfl) rfl ?_
  refine x_get (pc := 3) (ci := 2) (j := 2) C (dq D_Cipher_substituteBack 3 rfl) rfl rfl (hc) rfl k_fl_Cipher_15 ?_
  refine x_iconst (pc := 6) C (dq D_Cipher_substituteBack 4 rfl) ci_0 ?_
  refine x_bipush (pc := 7) C (dq D_Cipher_substituteBack 5 rfl) cb_16 ?_
  refine x_copy (pc := 9) C (dq D_Cipher_substituteBack 6 rfl) k_ml_Cipher_60 hb hbf (by omega) (by omega) (by omega) (by decide) rfl rfl ?_
  rw [cpyT hA.1 hBF]
  refine x_iconst (pc := 12) C (dq D_Cipher_substituteBack 7 rfl) ci_0 ?_
  refine x_istore_n (i := 2) (pc := 13) C (dq D_Cipher_substituteBack 8 rfl) rfl rfl rfl ?_
  simp only [List.set_cons_zero, List.set_cons_succ]
  have h0 := loop 16 0 A rfl rfl
  rw [gs_id hb0] at h0
  exact h0
