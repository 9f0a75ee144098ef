def rndB (BA RK : List Nat) (r : Nat) (S : List Nat) : List Nat := it (sbB BA ((if r < 10 then unmix (it (ark RK r) 0 16 S) else it (ark RK r) 0 16 S).take 16)) 0 16 (if r < 10 then unmix (it (ark RK r) 0 16 S) else it (ark RK r) 0 16 S)
def trnB (BA RK S : List Nat) : List Nat := it (ark RK 0) 0 16 (it (fun i => rndB BA RK (10 - i)) 0 10 S)
theorem unmix_len (S : List Nat) : (unmix S).length = S.length := by
  unfold unmix
  rw [mix_len, mix_len, mix_len]
theorem unmix8 {S : List Nat} (h : by8 S) : by8 (unmix S) := mix8 (mix8 (mix8 h))
theorem sbBs_len (T X0 S : List Nat) : (it (sbB T X0) 0 16 S).length = S.length := it_len (sbB_len T X0) 16 0 S
theorem rndB_len (BA RK : List Nat) (r : Nat) (S : List Nat) : (rndB BA RK r S).length = S.length := by
  unfold rndB
  rw [sbBs_len]
  split
  · rw [unmix_len, arks_len]
  · rw [arks_len]
theorem rndB8 {BA RK : List Nat} (hB : by8 BA) (hK : by8 RK) (r : Nat) {S : List Nat} (h : by8 S) : by8 (rndB BA RK r S) := by
  unfold rndB
  refine sbB8 hB _ 16 0 ?_
  split
  · exact unmix8 (ark8 hK r 16 0 h)
  · exact ark8 hK r 16 0 h
theorem trnB_len (BA RK S : List Nat) : (trnB BA RK S).length = S.length := by
  unfold trnB
  rw [arks_len, it_len (fun i S => rndB_len BA RK (10 - i) S)]
theorem trnB8 {BA RK : List Nat} (hB : by8 BA) (hK : by8 RK) {S : List Nat} (h : by8 S) : by8 (trnB BA RK S) :=
  ark8 hK 0 16 0 (it_inv by8 10 0 _ (fun j T _ _ hT => rndB8 hB hK (10 - j) hT) h)
theorem c_turnBack {g : Gp} {h : Hp} {c t rk bf blk fo ba : Nat} {FO BA RK A : List Nat} (hc : cip g h c t rk bf fo ba FO BA RK) (hb : h[blk]? = some (ia g A)) (hne : blk ≠ fo ∧ blk ≠ ba ∧ blk ≠ rk ∧ blk ≠ bf) (hA : 16 ≤ A.length ∧ A.length < 1000) (h8 : by8 A) :
    Con g M_Cipher_turnBack 3 (0, 0) [.ref (zA (gz g) c), .ref (zA (gz g) blk)] h (tnd g h bf blk (trnB BA RK A)) := by
  obtain ⟨BF, hbf, hBF⟩ := hc.bfa
  have hB8 := hc.2.2.2.2.2.2.2.2.2.2.1
  have hK8 := hc.2.2.2.2.2.2.2.2.2.2.2.1
  have hRK := hc.2.2.2.2.2.2.2.2.1
  have hBA := hc.2.2.2.2.2.2.2.1
  have hnf := hc.2.2.2.2.2.2.2.2.2.2.2.2.2.1
  have hbl0 : ∀ F : List Nat, (h.set bf (ia g F))[blk]? = some (ia g A) := fun F => gs_ne (Ne.symm hne.2.2.2) hb
  have hcw : ∀ F S : List Nat, F.length = 16 → cip g ((h.set bf (ia g F)).set blk (ia g S)) c t rk bf fo ba FO BA RK := fun F S hF => (hc.bf hF).blk (hbl0 F) hne
  have hbw : ∀ F S : List Nat, ((h.set bf (ia g F)).set blk (ia g S))[blk]? = some (ia g S) := fun F S => gs_self (hbl0 F)
  have hbfw : ∀ F S : List Nat, ((h.set bf (ia g F)).set blk (ia g S))[bf]? = some (ia g F) := fun F S => gs_ne hne.2.2.2 (gs_self hbf)
  refine Con.of (by decide) rfl rfl (L := [some (.ref (zA (gz g) c)), some (.ref (zA (gz g) blk)), none]) rfl (fun f C => ?_)
  have loop : ∀ (n i : Nat) (F S : List Nat), i + n = 10 → F.length = 16 → S.length = A.length → by8 S → X g f M_Cipher_turnBack (0, 0) (tnd g h bf blk (it (ark RK 0) 0 16 (it (fun i => rndB BA RK (10 - i)) i n S))) (0, 0) 3 [some (.ref (zA (gz g) c)), some (.ref (zA (gz g) blk)), some (.int (nI (10 - i)))] [] ((h.set bf (ia g F)).set blk (ia g S)) := by
    intro n
    induction n with
    | zero =>
      intro i F S hin hF hS h8
      have hw := hcw F S hF
      refine x_iload_n (pc := 3) C (dq D_Cipher_turnBack 2 rfl) rfl ?_
      refine x_iconst (pc := 4) C (dq D_Cipher_turnBack 3 rfl) ci_1 ?_
      refine n_lt_t (pc := 5) (tgt := 35) C (dq D_Cipher_turnBack 4 rfl) (by decide) (by omega) (by omega) ?_
      refine x_aload_n (pc := 35) C (dq D_Cipher_turnBack 19 rfl) rfl ?_
      refine x_aload_n (pc := 36) C (dq D_Cipher_turnBack 20 rfl) rfl ?_
      refine x_iconst (pc := 37) C (dq D_Cipher_turnBack 21 rfl) ci_0 ?_
      refine x_cV0 (pc := 38) (ci := 2) (M := M_Cipher_addRoundKey) C (dq D_Cipher_turnBack 22 rfl) k_ml_Cipher_43 m_Cipher_addRoundKey rfl rfl (hw.1) (c_addRoundKey (r := 0) hw.1 hw.2.2.2.2.1 (hbw _ _) hne.2.2.1 hRK (by omega) (by omega)) rfl rfl rfl rfl (by decide) ?_
      rw [List.set_set]
      exact x_vret (pc := 41) C (dq D_Cipher_turnBack 23 rfl) rfl (by decide) ⟨rfl, F, hF, rfl⟩
    | succ n ih =>
      intro i F S hin hF hS h8
      have hw := hcw F S hF
      refine x_iload_n (pc := 3) C (dq D_Cipher_turnBack 2 rfl) rfl ?_
      refine x_iconst (pc := 4) C (dq D_Cipher_turnBack 3 rfl) ci_1 ?_
      refine n_lt_f (pc := 5) (tgt := 35) C (dq D_Cipher_turnBack 4 rfl) (by decide) (by omega) (by omega) ?_
      refine x_aload_n (pc := 8) C (dq D_Cipher_turnBack 5 rfl) rfl ?_
      refine x_aload_n (pc := 9) C (dq D_Cipher_turnBack 6 rfl) rfl ?_
      refine x_iload_n (pc := 10) C (dq D_Cipher_turnBack 7 rfl) rfl ?_
      refine x_cV0 (pc := 11) (ci := 2) (M := M_Cipher_addRoundKey) C (dq D_Cipher_turnBack 8 rfl) k_ml_Cipher_43 m_Cipher_addRoundKey rfl rfl (hw.1) (c_addRoundKey hw.1 hw.2.2.2.2.1 (hbw F S) hne.2.2.1 hRK (by omega) (by omega)) rfl rfl rfl rfl (by decide) ?_
      rw [List.set_set]
      have hl1 : (it (ark RK (10 - i)) 0 16 S).length = A.length := by rw [arks_len]; exact hS
      have h81 := ark8 hK8 (10 - i) 16 0 h8
      have key : ∀ B : List Nat, B.length = A.length → by8 B → it (sbB BA (B.take 16)) 0 16 B = rndB BA RK (10 - i) S → X g f M_Cipher_turnBack (0, 0) (tnd g h bf blk (it (ark RK 0) 0 16 (it (fun i => rndB BA RK (10 - i)) i (n + 1) S))) (0, 0) 24 [some (.ref (zA (gz g) c)), some (.ref (zA (gz g) blk)), some (.int (nI (10 - i)))] [] ((h.set bf (ia g F)).set blk (ia g B)) := by
        intro B hB hB81 he
        have hw2 := hcw F B hF
        have hT : (B.take 16).length = 16 := by rw [List.length_take]; omega
        refine x_aload_n (pc := 24) C (dq D_Cipher_turnBack 14 rfl) rfl ?_
        refine x_aload_n (pc := 25) C (dq D_Cipher_turnBack 15 rfl) rfl ?_
        refine x_cV0 (pc := 26) (ci := 2) (M := M_Cipher_substituteBack) C (dq D_Cipher_turnBack 16 rfl) k_ml_Cipher_57 m_Cipher_substituteBack rfl rfl (hw2.1) (c_substituteBack hw2.1 hw2.2.1 hw2.2.2.2.1 (hbfw F B) (hbw F B) ⟨hne.2.1, hne.2.2.2, hnf⟩ hBA hF (by omega) hB81) rfl rfl rfl rfl (by decide) ?_
        rw [gs_in (Ne.symm hne.2.2.2), List.set_set, he]
        refine x_iinc (pc := 29) C (dq D_Cipher_turnBack 17 rfl) rfl (iim (by omega)) rfl rfl ?_
        simp only [List.set_cons_zero, List.set_cons_succ]
        refine x_goto (pc := 32) (tgt := 3) C (dq D_Cipher_turnBack 18 rfl) (by decide) ?_
        rw [show 10 - i - 1 = 10 - (i + 1) by omega]
        exact ih (i + 1) (B.take 16) (rndB BA RK (10 - i) S) (by omega) hT (by rw [rndB_len]; exact hS) (rndB8 hB8 hK8 _ h8)
      refine x_iload_n (pc := 14) C (dq D_Cipher_turnBack 9 rfl) rfl ?_
      refine x_bipush (pc := 15) C (dq D_Cipher_turnBack 10 rfl) cb_10 ?_
      refine n_ge (pc := 17) (tgt := 24) C (dq D_Cipher_turnBack 11 rfl) (by decide) (by omega) (fun hq => ?_) (fun hq => ?_)
      · refine key _ hl1 h81 ?_
        unfold rndB
        rw [if_neg (by omega)]
      · refine x_aload_n (pc := 20) C (dq D_Cipher_turnBack 12 rfl) rfl ?_
        refine x_cS0 (pc := 21) (M := M_Cipher_unmix) C (dq D_Cipher_turnBack 13 rfl) k_ml_Cipher_54 m_Cipher_unmix (c_unmix (hbw _ _) (by omega) h81) rfl rfl rfl rfl (by decide) ?_
        rw [List.set_set]
        refine key _ (by rw [unmix_len]; exact hl1) (unmix8 h81) ?_
        unfold rndB
        rw [if_pos hq]
  refine x_bipush (pc := 0) C (dq D_Cipher_turnBack 0 rfl) cb_10 ?_
  refine x_istore_n (i := 2) (pc := 2) C (dq D_Cipher_turnBack 1 rfl) rfl rfl rfl ?_
  simp only [List.set_cons_zero, List.set_cons_succ]
  have h0 := loop 10 0 BF A rfl hBF rfl h8
  rw [gs_id hbf, gs_id hb] at h0
  exact h0
