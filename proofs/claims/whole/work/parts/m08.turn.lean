/-- a round, and all of them -/
def rnd (FO RK : List Nat) (r : Nat) (S : List Nat) : List Nat := it (ark RK r) 0 16 (if r < 10 then mix (it (sb FO (S.take 16)) 0 16 S) else it (sb FO (S.take 16)) 0 16 S)
def trn (FO RK S : List Nat) : List Nat := it (fun i => rnd FO RK (i + 1)) 0 10 (it (ark RK 0) 0 16 S)
theorem arks_len (RK : List Nat) (r : Nat) (S : List Nat) : (it (ark RK r) 0 16 S).length = S.length := it_len (ark_len RK r) 16 0 S
theorem sbs_len (T X0 S : List Nat) : (it (sb T X0) 0 16 S).length = S.length := it_len (sb_len T X0) 16 0 S
theorem rnd_len (FO RK : List Nat) (r : Nat) (S : List Nat) : (rnd FO RK r S).length = S.length := by
  unfold rnd
  rw [arks_len]
  split
  · rw [mix_len, sbs_len]
  · rw [sbs_len]
theorem rnd8 {FO RK : List Nat} (hF : by8 FO) (hK : by8 RK) (r : Nat) {S : List Nat} (h : by8 S) : by8 (rnd FO RK r S) := by
  unfold rnd
  refine ark8 hK r 16 0 ?_
  split
  · exact mix8 (sb8 hF _ 16 0 h)
  · exact sb8 hF _ 16 0 h
theorem trn_len (FO RK S : List Nat) : (trn FO RK S).length = S.length := by
  unfold trn
  rw [it_len (fun i S => rnd_len FO RK (i + 1) S), arks_len]
theorem trn8 {FO RK : List Nat} (hF : by8 FO) (hK : by8 RK) {S : List Nat} (h : by8 S) : by8 (trn FO RK S) :=
  it_inv by8 10 0 _ (fun j T _ _ hT => rnd8 hF hK (j + 1) hT) (ark8 hK 0 16 0 h)
/-- a cipher and its tables among the cells -/
def cip (g : Gp) (h : Hp) (c t rk bf fo ba : Nat) (FO BA RK : List Nat) : Prop :=
  h[c]? = some (cpc g t rk bf) ∧ h[t]? = some (tbc g fo ba) ∧ h[fo]? = some (ia g FO) ∧ h[ba]? = some (ia g BA) ∧ h[rk]? = some (ia g RK) ∧ (∃ BF, h[bf]? = some (ia g BF) ∧ BF.length = 16) ∧ FO.length = 256 ∧ BA.length = 256 ∧ RK.length = 176 ∧ by8 FO ∧ by8 BA ∧ by8 RK ∧ bf ≠ fo ∧ bf ≠ ba ∧ bf ≠ rk ∧ rk ≠ fo ∧ rk ≠ ba
/-- the cipher stays what it is where only its own row, or a block, changes -/
theorem cip.blk {g : Gp} {h : Hp} {c t rk bf fo ba q : Nat} {FO BA RK : List Nat} {e : va_E} {x : ClassId × vp_A} (H : cip g h c t rk bf fo ba FO BA RK) (hq : h[q]? = some (.inl x)) (h1 : q ≠ fo ∧ q ≠ ba ∧ q ≠ rk ∧ q ≠ bf) : cip g (h.set q e) c t rk bf fo ba FO BA RK := by
  obtain ⟨a1, a2, a3, a4, a5, ⟨BF, a6, a7⟩, a8⟩ := H
  exact ⟨gs_ne (ne_io hq a1) a1, gs_ne (ne_io hq a2) a2, gs_ne h1.1 a3, gs_ne h1.2.1 a4, gs_ne h1.2.2.1 a5, ⟨BF, gs_ne h1.2.2.2 a6, a7⟩, a8⟩
theorem cip.bf {g : Gp} {h : Hp} {c t rk bf fo ba : Nat} {FO BA RK F : List Nat} (H : cip g h c t rk bf fo ba FO BA RK) (hF : F.length = 16) : cip g (h.set bf (ia g F)) c t rk bf fo ba FO BA RK := by
  obtain ⟨a1, a2, a3, a4, a5, ⟨BF, a6, a7⟩, a8⟩ := H
  have b := a8.2.2.2.2.2.2
  exact ⟨gs_ne (ne_io a6 a1) a1, gs_ne (ne_io a6 a2) a2, gs_ne b.1 a3, gs_ne b.2.1 a4, gs_ne b.2.2.1 a5, ⟨F, gs_self a6, hF⟩, a8⟩
theorem cip.bfa {g : Gp} {h : Hp} {c t rk bf fo ba : Nat} {FO BA RK : List Nat} (H : cip g h c t rk bf fo ba FO BA RK) : ∃ BF, h[bf]? = some (ia g BF) ∧ BF.length = 16 := H.2.2.2.2.2.1
/-- the cells behind a turn: the row 'before' anyhow, the block turned -/
def tnd (g : Gp) (h : Hp) (bf blk : Nat) (B : List Nat) : Outcome → Hp → Prop := fun o h' => o = .returned none ∧ ∃ F : List Nat, F.length = 16 ∧ h' = (h.set bf (ia g F)).set blk (ia g B)
theorem c_turn {g : Gp} {h : Hp} {c t rk bf blk fo ba : Nat} {FO BA RK A : List Nat} (hc : cip g h c t rk bf fo ba FO BA RK) (hb : h[blk]? = some (ia g A)) (hne : blk ≠ fo ∧ blk ≠ ba ∧ blk ≠ rk ∧ blk ≠ bf) (hA : 16 ≤ A.length ∧ A.length < 1000) (h8 : by8 A) :
    Con g M_Cipher_turn 2 (0, 0) [.ref (zA (gz g) c), .ref (zA (gz g) blk)] h (tnd g h bf blk (trn FO RK A)) := by
  obtain ⟨BF, hbf, hBF⟩ := hc.bfa
  have hF8 := hc.2.2.2.2.2.2.2.2.2.1
  have hK8 := hc.2.2.2.2.2.2.2.2.2.2.2.1
  have hRK := hc.2.2.2.2.2.2.2.2.1
  have hFO := hc.2.2.2.2.2.2.1
  have hnf := hc.2.2.2.2.2.2.2.2.2.2.2.2.1
  have hbl0 : ∀ F : List Nat, (h.set bf (ia g F))[blk]? = some (ia g A) := fun F => gs_ne (Ne.symm hne.2.2.2) hb
  have hcw : ∀ F S : List Nat, F.length = 16 → cip g ((h.set bf (ia g F)).set blk (ia g S)) c t rk bf fo ba FO BA RK := fun F S hF => (hc.bf hF).blk (hbl0 F) hne
  have hbw : ∀ F S : List Nat, ((h.set bf (ia g F)).set blk (ia g S))[blk]? = some (ia g S) := fun F S => gs_self (hbl0 F)
  have hbfw : ∀ F S : List Nat, ((h.set bf (ia g F)).set blk (ia g S))[bf]? = some (ia g F) := fun F S => gs_ne hne.2.2.2 (gs_self hbf)
  refine Con.of (by decide) rfl rfl (L := [some (.ref (zA (gz g) c)), some (.ref (zA (gz g) blk)), none]) rfl (fun f C => ?_)
  have loop : ∀ (n i : Nat) (F S : List Nat), i + n = 10 → F.length = 16 → S.length = A.length → by8 S → X g f M_Cipher_turn (0, 0) (tnd g h bf blk (it (fun i => rnd FO RK (i + 1)) i n S)) (0, 0) 8 [some (.ref (zA (gz g) c)), some (.ref (zA (gz g) blk)), some (.int (nI (i + 1)))] [] ((h.set bf (ia g F)).set blk (ia g S)) := by
    intro n
    induction n with
    | zero =>
      intro i F S hin hF hS h8
      refine x_iload_n (pc := 8) C (dq D_Cipher_turn 6 rfl) rfl ?_
      refine x_bipush (pc := 9) C (dq D_Cipher_turn 7 rfl) cb_10 ?_
      refine n_gt_t (pc := 11) (tgt := 41) C (dq D_Cipher_turn 8 rfl) (by decide) (by omega) (by omega) ?_
      exact x_vret (pc := 41) C (dq D_Cipher_turn 23 rfl) rfl (by decide) ⟨rfl, F, hF, rfl⟩
    | succ n ih =>
      intro i F S hin hF hS h8
      have hw := hcw F S hF
      have hT : (S.take 16).length = 16 := by rw [List.length_take]; omega
      refine x_iload_n (pc := 8) C (dq D_Cipher_turn 6 rfl) rfl ?_
      refine x_bipush (pc := 9) C (dq D_Cipher_turn 7 rfl) cb_10 ?_
      refine n_gt_f (pc := 11) (tgt := 41) C (dq D_Cipher_turn 8 rfl) (by decide) (by omega) (by omega) ?_
      refine x_aload_n (pc := 14) C (dq D_Cipher_turn 9 rfl) rfl ?_
      refine x_aload_n (pc := 15) C (dq D_Cipher_turn 10 rfl) rfl ?_
      refine x_cV0 (pc := 16) (ci := 2) (M := M_Cipher_substitute) C (dq D_Cipher_turn 11 rfl) k_ml_Cipher_47 m_Cipher_substitute rfl rfl (hw.1) (c_substitute hw.1 hw.2.1 hw.2.2.1 (hbfw F S) (hbw F S) ⟨hne.1, hne.2.2.2, hnf⟩ hFO hF (by omega) h8) rfl rfl rfl rfl (by decide) ?_
      rw [gs_in (Ne.symm hne.2.2.2), List.set_set]
      have hl1 : (it (sb FO (S.take 16)) 0 16 S).length = A.length := by rw [sbs_len]; exact hS
      have h81 := sb8 hF8 (S.take 16) 16 0 h8
      have key : ∀ B : List Nat, B.length = A.length → by8 B → it (ark RK (i + 1)) 0 16 B = rnd FO RK (i + 1) S → X g f M_Cipher_turn (0, 0) (tnd g h bf blk (it (fun i => rnd FO RK (i + 1)) i (n + 1) S)) (0, 0) 29 [some (.ref (zA (gz g) c)), some (.ref (zA (gz g) blk)), some (.int (nI (i + 1)))] [] ((h.set bf (ia g (S.take 16))).set blk (ia g B)) := by
        intro B hB hB8 he
        have hw2 := hcw (S.take 16) B hT
        refine x_aload_n (pc := 29) C (dq D_Cipher_turn 17 rfl) rfl ?_
        refine x_aload_n (pc := 30) C (dq D_Cipher_turn 18 rfl) rfl ?_
        refine x_iload_n (pc := 31) C (dq D_Cipher_turn 19 rfl) rfl ?_
        refine x_cV0 (pc := 32) (ci := 2) (M := M_Cipher_addRoundKey) C (dq D_Cipher_turn 20 rfl) k_ml_Cipher_43 m_Cipher_addRoundKey rfl rfl (hw2.1) (c_addRoundKey hw2.1 hw2.2.2.2.2.1 (hbw _ _) hne.2.2.1 hRK (by omega) (by omega)) rfl rfl rfl rfl (by decide) ?_
        refine x_iinc (pc := 35) C (dq D_Cipher_turn 21 rfl) rfl (ii_1 _) rfl rfl ?_
        simp only [List.set_cons_zero, List.set_cons_succ]
        rw [List.set_set, he]
        refine x_goto (pc := 38) (tgt := 8) C (dq D_Cipher_turn 22 rfl) (by decide) ?_
        exact ih (i + 1) (S.take 16) (rnd FO RK (i + 1) S) (by omega) hT (by rw [rnd_len]; exact hS) (rnd8 hF8 hK8 _ h8)
      refine x_iload_n (pc := 19) C (dq D_Cipher_turn 12 rfl) rfl ?_
      refine x_bipush (pc := 20) C (dq D_Cipher_turn 13 rfl) cb_10 ?_
      refine n_ge (pc := 22) (tgt := 29) C (dq D_Cipher_turn 14 rfl) (by decide) (by omega) (fun hq => ?_) (fun hq => ?_)
      · refine key _ hl1 h81 ?_
        unfold rnd
        rw [if_neg (by omega)]
      · refine x_aload_n (pc := 25) C (dq D_Cipher_turn 15 rfl) rfl ?_
        refine x_cS0 (pc := 26) (M := M_Cipher_mix) C (dq D_Cipher_turn 16 rfl) k_ml_Cipher_51 m_Cipher_mix (c_mix (hbw _ _) (by omega) h81) rfl rfl rfl rfl (by decide) ?_
        rw [List.set_set]
        refine key _ (by rw [mix_len]; exact hl1) (mix8 h81) ?_
        unfold rnd
        rw [if_pos hq]
  refine x_aload_n (pc := 0) C (dq D_Cipher_turn 0 rfl) rfl ?_
  refine x_aload_n (pc := 1) C (dq D_Cipher_turn 1 rfl) rfl ?_
  refine x_iconst (pc := 2) C (dq D_Cipher_turn 2 rfl) ci_0 ?_
  refine x_cV0 (pc := 3) (ci := 2) (M := M_Cipher_addRoundKey) C (dq D_Cipher_turn 3 rfl) k_ml_Cipher_43 m_Cipher_addRoundKey rfl rfl (hc.1) (c_addRoundKey (r := 0) hc.1 hc.2.2.2.2.1 hb hne.2.2.1 hRK hA (by omega)) rfl rfl rfl rfl (by decide) ?_
  refine x_iconst (pc := 6) C (dq D_Cipher_turn 4 rfl) ci_1 ?_
  refine x_istore_n (i := 2) (pc := 7) C (dq D_Cipher_turn 5 rfl) rfl rfl rfl ?_
  simp only [List.set_cons_zero, List.set_cons_succ]
  have h0 := loop 10 0 BF (it (ark RK 0) 0 16 A) rfl hBF (arks_len RK 0 A) (ark8 hK8 0 16 0 h8)
  rw [gs_id hbf] at h0
  exact h0
