/-- a turn of the unwrapping at row i, all rows, all six -/
def uws (BA RK : List Nat) (n j i : Nat) (B : List Nat) : List Nat := ly (trnB BA RK (nm (lf B i) (n * j + i))) B i
def uwr (BA RK : List Nat) (n j : Nat) (B : List Nat) : List Nat := it (fun i => uws BA RK n j (n - i)) 0 n B
def uwn (BA RK : List Nat) (n : Nat) (B : List Nat) : List Nat := it (fun j => uwr BA RK n (5 - j)) 0 6 B
theorem uws_ok {BA RK : List Nat} (hB : by8 BA) (hK : by8 RK) {n j i m : Nat} {B : List Nat} (hi : 8 * i + 8 ≤ m) (hx : n * j + i < 256) (h : B.length = m ∧ by8 B) : (uws BA RK n j i B).length = m ∧ by8 (uws BA RK n j i B) := by
  have h1 : (trnB BA RK (nm (lf B i) (n * j + i))).length = 16 := by rw [trnB_len, nm_len, lf_len (by omega)]
  exact ⟨by rw [uws, ly_len h1 (by omega)]; exact h.1, ly8 i (trnB8 hB hK (nm8 (lf8 i h.2) hx)) h.2⟩
theorem uwr_ok {BA RK : List Nat} (hB : by8 BA) (hK : by8 RK) {n j m : Nat} (hn : n ≤ 10) (hm : 8 * n + 8 ≤ m) (hj : j < 6) {B : List Nat} (h : B.length = m ∧ by8 B) : (uwr BA RK n j B).length = m ∧ by8 (uwr BA RK n j B) :=
  it_inv (fun B : List Nat => B.length = m ∧ by8 B) n 0 B (fun i T _ hi hT => uws_ok hB hK (by omega) (num_lt hn hj (by omega)) hT) h
theorem uwn_ok {BA RK : List Nat} (hB : by8 BA) (hK : by8 RK) {n m : Nat} (hn : n ≤ 10) (hm : 8 * n + 8 ≤ m) {B : List Nat} (h : B.length = m ∧ by8 B) : (uwn BA RK n B).length = m ∧ by8 (uwn BA RK n B) :=
  it_inv (fun B : List Nat => B.length = m ∧ by8 B) 6 0 B (fun j T _ hj hT => uwr_ok hB hK hn hm (by omega) hT) h
theorem c_unwind {g : Gp} {h : Hp} {w c t rk bf fo ba kb r b n : Nat} {FO BA RK K B : List Nat} (hc : cip g h c t rk bf fo ba FO BA RK) (hw : h[w]? = some (wrc g c kb)) (hk : h[kb]? = some (ia g K)) (hr : h[r]? = some (rwc g b n)) (hb : h[b]? = some (ia g B)) (hnk : kb ≠ fo ∧ kb ≠ ba ∧ kb ≠ rk ∧ kb ≠ bf) (hnb : b ≠ fo ∧ b ≠ ba ∧ b ≠ rk ∧ b ≠ bf) (hne : kb ≠ b) (hK : K.length = 16) (hK8 : by8 K) (hn : 16 ≤ n ∧ n ≤ B.length ∧ B.length = 88) (hB8 : by8 B) :
    Con g M_Wrapping_unwind 4 (0, 0) [.ref (zA (gz g) w), .ref (zA (gz g) r)] h (wnp g h bf kb b (uwn BA RK (n / 8 - 1) B)) := by
  obtain ⟨BF, hbf, hBF⟩ := hc.bfa
  have hB88 := hc.2.2.2.2.2.2.2.2.2.2.1
  have hR8 := hc.2.2.2.2.2.2.2.2.2.2.2.1
  generalize hN : n / 8 - 1 = N
  have hN1 : N ≤ 10 ∧ 8 * N + 8 ≤ 88 := by omega
  have e1 : ∀ F K B : List Nat, (((h.set bf (ia g F)).set kb (ia g K)).set b (ia g B))[w]? = some (wrc g c kb) := fun F K B => gs_ne (ne_io hb hw) (gs_ne (ne_io hk hw) (gs_ne (ne_io hbf hw) hw))
  have e2 : ∀ F K B : List Nat, (((h.set bf (ia g F)).set kb (ia g K)).set b (ia g B))[r]? = some (rwc g b n) := fun F K B => gs_ne (ne_io hb hr) (gs_ne (ne_io hk hr) (gs_ne (ne_io hbf hr) hr))
  have k0 : ∀ F : List Nat, (h.set bf (ia g F))[kb]? = some (ia g K) := fun F => gs_ne (Ne.symm hnk.2.2.2) hk
  have b0 : ∀ F K : List Nat, ((h.set bf (ia g F)).set kb (ia g K))[b]? = some (ia g B) := fun F K => gs_ne hne (gs_ne (Ne.symm hnb.2.2.2) hb)
  have e3 : ∀ F K B : List Nat, (((h.set bf (ia g F)).set kb (ia g K)).set b (ia g B))[kb]? = some (ia g K) := fun F K B => gs_ne (Ne.symm hne) (gs_self (k0 F))
  have e4 : ∀ F K B : List Nat, (((h.set bf (ia g F)).set kb (ia g K)).set b (ia g B))[b]? = some (ia g B) := fun F K B => gs_self (b0 F K)
  have e5 : ∀ F K B : List Nat, F.length = 16 → cip g (((h.set bf (ia g F)).set kb (ia g K)).set b (ia g B)) c t rk bf fo ba FO BA RK := fun F K B hF => ((hc.bf hF).blk (k0 F) hnk).blk (b0 F K) hnb
  have s1 : ∀ (F K B : List Nat) (e : va_E), (((h.set bf (ia g F)).set kb (ia g K)).set b (ia g B)).set kb e = ((h.set bf (ia g F)).set kb e).set b (ia g B) := fun F K B e => gs_in hne
  have s2 : ∀ (F K B : List Nat) (e e' : va_E), ((((h.set bf (ia g F)).set kb (ia g K)).set b (ia g B)).set bf e).set kb e' = ((h.set bf e).set kb e').set b (ia g B) := fun F K B e e' => by
    rw [List.set_comm _ _ hnb.2.2.2, List.set_comm _ _ hnk.2.2.2, List.set_set, gs_in hne]
  refine Con.of (by decide) rfl rfl (L := [some (.ref (zA (gz g) w)), some (.ref (zA (gz g) r)), none, none, none]) rfl (fun f C => ?_)
  have rows : ∀ (d i j : Nat) (F K S : List Nat), i + d = N → j < 6 → F.length = 16 → K.length = 16 → by8 K → S.length = 88 → by8 S →
      (∀ F K : List Nat, F.length = 16 → K.length = 16 → by8 K → X g f M_Wrapping_unwind (0, 0) (wnp g h bf kb b (uwn BA RK N B)) (0, 0) 66 [some (.ref (zA (gz g) w)), some (.ref (zA (gz g) r)), some (.int (nI N)), some (.int (nI j)), some (.int (nI 0))] [] (((h.set bf (ia g F)).set kb (ia g K)).set b (ia g (it (fun i => uws BA RK N j (N - i)) i d S)))) →
      X g f M_Wrapping_unwind (0, 0) (wnp g h bf kb b (uwn BA RK N B)) (0, 0) 19 [some (.ref (zA (gz g) w)), some (.ref (zA (gz g) r)), some (.int (nI N)), some (.int (nI j)), some (.int (nI d))] [] (((h.set bf (ia g F)).set kb (ia g K)).set b (ia g S)) := by
    intro d
    induction d with
    | zero =>
      intro i j F K S hid hj hF hK hK8 hS hS8 go
      refine x_iload (pc := 19) C (dq D_Wrapping_unwind 13 rfl) rfl ?_
      refine x_iconst (pc := 21) C (dq D_Wrapping_unwind 14 rfl) ci_1 ?_
      refine n_lt_t (pc := 22) (tgt := 66) C (dq D_Wrapping_unwind 15 rfl) (by decide) (by omega) (by omega) ?_
      exact go F K hF hK hK8
    | succ d ih =>
      intro i j F K S hid hj hF hK hK8 hS hS8 go
      have hl := lf_len (B := S) (i := d + 1) (by omega)
      have hl8 := lf8 (d + 1) hS8
      have hx := num_lt hN1.1 hj (show d + 1 ≤ N by omega)
      refine x_iload (pc := 19) C (dq D_Wrapping_unwind 13 rfl) rfl ?_
      refine x_iconst (pc := 21) C (dq D_Wrapping_unwind 14 rfl) ci_1 ?_
      refine n_lt_f (pc := 22) (tgt := 66) C (dq D_Wrapping_unwind 15 rfl) (by decide) (by omega) (by omega) ?_
      refine x_aload_n (pc := 25) C (dq D_Wrapping_unwind 16 rfl) rfl ?_
      refine x_aload_n (pc := 26) C (dq D_Wrapping_unwind 17 rfl) rfl ?_
      refine x_iload (pc := 27) C (dq D_Wrapping_unwind 18 rfl) rfl ?_
      refine x_cV0 (pc := 29) (ci := 10) (M := M_Wrapping_lift) C (dq D_Wrapping_unwind 19 rfl) k_ml_Wrapping_25 m_Wrapping_lift rfl rfl (e1 _ _ _) (c_lift (e1 _ _ _) (e3 _ _ _) (e2 _ _ _) (e4 _ _ _) hne hK (by omega)) rfl rfl rfl rfl (by decide) ?_
      rw [s1]
      refine x_aload_n (pc := 32) C (dq D_Wrapping_unwind 20 rfl) rfl ?_
      refine x_iload_n (pc := 33) C (dq D_Wrapping_unwind 21 rfl) rfl ?_
      refine x_iload_n (pc := 34) C (dq D_Wrapping_unwind 22 rfl) rfl ?_
      refine n_imul (pc := 35) C (dq D_Wrapping_unwind 23 rfl) ?_
      refine x_iload (pc := 36) C (dq D_Wrapping_unwind 24 rfl) rfl ?_
      refine n_iadd (pc := 38) C (dq D_Wrapping_unwind 25 rfl) ?_
      refine x_cV0 (pc := 39) (ci := 10) (M := M_Wrapping_addNumber) C (dq D_Wrapping_unwind 26 rfl) k_ml_Wrapping_35 m_Wrapping_addNumber rfl rfl (e1 _ _ _) (c_addNumber (e1 _ _ _) (e3 _ _ _) hl) rfl rfl rfl rfl (by decide) ?_
      rw [s1]
      have hm : (nm (lf S (d + 1)) (N * j + (d + 1))).length = 16 := by rw [nm_len]; exact hl
      have hm8 := nm8 hl8 hx
      refine x_aload_n (pc := 42) C (dq D_Wrapping_unwind 27 rfl) rfl ?_
      refine x_get (pc := 43) (ci := 10) (j := 0) C (dq D_Wrapping_unwind 28 rfl) rfl rfl (by first | exact e1 _ _ _ | exact (e5 _ _ _ hF).1) rfl k_fl_Wrapping_15 ?_
      refine x_aload_n (pc := 46) C (dq D_Wrapping_unwind 29 rfl) rfl ?_
      refine x_get (pc := 47) (ci := 10) (j := 1) C (dq D_Wrapping_unwind 30 rfl) rfl rfl (by first | exact e1 _ _ _ | exact (e5 _ _ _ hF).1) rfl k_fl_Wrapping_9 ?_
      refine x_cV (pc := 50) (ci := 2) (M := M_Cipher_turnBack) C (dq D_Wrapping_unwind 31 rfl) k_ml_Wrapping_42 m_Cipher_turnBack rfl rfl (by first | exact e1 _ _ _ | exact (e5 _ _ _ hF).1) (c_turnBack (e5 _ _ _ hF) (e3 _ _ _) hnk (by omega) hm8) rfl rfl rfl rfl (by decide) (fun o h2 hp => ?_)
      obtain ⟨rfl, F2, hF2, rfl⟩ := hp
      refine ⟨none, rfl, ?_⟩
      rw [s2]
      have ht : (trnB BA RK (nm (lf S (d + 1)) (N * j + (d + 1)))).length = 16 := by rw [trnB_len]; exact hm
      have ht8 := trnB8 hB88 hR8 hm8
      show X g f M_Wrapping_unwind (0, 0) (wnp g h bf kb b (uwn BA RK N B)) (0, 0) 53 [some (.ref (zA (gz g) w)), some (.ref (zA (gz g) r)), some (.int (nI N)), some (.int (nI j)), some (.int (nI (d + 1)))] [] (((h.set bf (ia g F2)).set kb (ia g (trnB BA RK (nm (lf S (d + 1)) (N * j + (d + 1)))))).set b (ia g S))
      refine x_aload_n (pc := 53) C (dq D_Wrapping_unwind 32 rfl) rfl ?_
      refine x_aload_n (pc := 54) C (dq D_Wrapping_unwind 33 rfl) rfl ?_
      refine x_iload (pc := 55) C (dq D_Wrapping_unwind 34 rfl) rfl ?_
      refine x_cV0 (pc := 57) (ci := 10) (M := M_Wrapping_lay) C (dq D_Wrapping_unwind 35 rfl) k_ml_Wrapping_39 m_Wrapping_lay rfl rfl (e1 _ _ _) (c_lay (e1 _ _ _) (e3 _ _ _) (e2 _ _ _) (e4 _ _ _) hne ht (by omega)) rfl rfl rfl rfl (by decide) ?_
      rw [List.set_set]
      refine x_iinc (pc := 60) C (dq D_Wrapping_unwind 36 rfl) rfl (iim (by omega)) rfl rfl ?_
      simp only [List.set_cons_zero, List.set_cons_succ]
      refine x_goto (pc := 63) (tgt := 19) C (dq D_Wrapping_unwind 37 rfl) (by decide) ?_
      obtain ⟨q1, q2⟩ := uws_ok hB88 hR8 (m := 88) (by omega) hx ⟨hS, hS8⟩
      have e0 : N - i = d + 1 := by omega
      refine ih (i + 1) j F2 _ (uws BA RK N j (d + 1) S) (by omega) hj hF2 ht ht8 q1 q2 ?_
      intro F3 K3 a1 a2 a3
      have := go F3 K3 a1 a2 a3
      rw [it, e0] at this
      exact this
  have turns : ∀ (d j : Nat) (x : Int32) (F K S : List Nat) (l4 : Option Value), j + d = 6 → (d = 0 → x = -1) → (∀ e, d = e + 1 → x = nI e) → F.length = 16 → K.length = 16 → by8 K → S.length = 88 → by8 S → it (fun j => uwr BA RK N (5 - j)) j d S = uwn BA RK N B →
      X g f M_Wrapping_unwind (0, 0) (wnp g h bf kb b (uwn BA RK N B)) (0, 0) 12 [some (.ref (zA (gz g) w)), some (.ref (zA (gz g) r)), some (.int (nI N)), some (.int (x)), l4] [] (((h.set bf (ia g F)).set kb (ia g K)).set b (ia g S)) := by
    intro d
    induction d with
    | zero =>
      intro j x F K S l4 hjd hx0 hx1 hF hK hK8 hS hS8 he
      obtain rfl := hx0 rfl
      refine x_iload_n (pc := 12) C (dq D_Wrapping_unwind 9 rfl) rfl ?_
      refine x_iflt (pc := 13) (tgt := 72) C (dq D_Wrapping_unwind 10 rfl) (by decide) (fun _ => ?_) (fun q => absurd (by decide) q)
      exact x_vret (pc := 72) C (dq D_Wrapping_unwind 40 rfl) rfl (by decide) ⟨rfl, F, K, hF, hK, hK8, by rw [← he]; rfl⟩
    | succ d ih =>
      intro j x F K S l4 hjd hx0 hx1 hF hK hK8 hS hS8 he
      obtain rfl := hx1 d rfl
      have e0 : 5 - j = d := by omega
      refine x_iload_n (pc := 12) C (dq D_Wrapping_unwind 9 rfl) rfl ?_
      refine n_iflt_f (pc := 13) (tgt := 72) C (dq D_Wrapping_unwind 10 rfl) (by decide) (by omega) (by omega) ?_
      refine x_iload_n (pc := 16) C (dq D_Wrapping_unwind 11 rfl) rfl ?_
      refine x_istore (i := 4) (pc := 17) C (dq D_Wrapping_unwind 12 rfl) rfl rfl rfl ?_
      simp only [List.set_cons_zero, List.set_cons_succ]
      refine rows N 0 d F K S (by omega) (by omega) hF hK hK8 hS hS8 (fun F2 K2 hF2 hK2 hK28 => ?_)
      obtain ⟨q1, q2⟩ := uwr_ok hB88 hR8 (n := N) (j := d) (m := 88) (by omega) (by omega) (by omega) ⟨hS, hS8⟩
      refine x_iinc (pc := 66) C (dq D_Wrapping_unwind 38 rfl) rfl rfl rfl rfl ?_
      simp only [List.set_cons_zero, List.set_cons_succ]
      refine x_goto (pc := 69) (tgt := 12) C (dq D_Wrapping_unwind 39 rfl) (by decide) ?_
      refine ih (j + 1) _ F2 K2 (uwr BA RK N d S) _ (by omega) (fun z => by subst z; decide +kernel) (fun e z => by subst z; exact iim (by omega)) hF2 hK2 hK28 q1 q2 ?_
      rw [it, e0] at he
      exact he
  refine x_aload_n (pc := 0) C (dq D_Wrapping_unwind 0 rfl) rfl ?_
  refine x_get (pc := 1) (ci := 7) (j := 1) C (dq D_Wrapping_unwind 1 rfl) rfl rfl (hr) rfl k_fl_Wrapping_19 ?_
  refine x_bipush (pc := 4) C (dq D_Wrapping_unwind 2 rfl) cb_8 ?_
  refine n_idiv (pc := 6) C (dq D_Wrapping_unwind 3 rfl) (by omega) (by omega) (by omega) ?_
  refine x_iconst (pc := 7) C (dq D_Wrapping_unwind 4 rfl) ci_1 ?_
  refine n_isub (pc := 8) C (dq D_Wrapping_unwind 5 rfl) (by omega) ?_
  rw [hN]
  refine x_istore_n (i := 2) (pc := 9) C (dq D_Wrapping_unwind 6 rfl) rfl rfl rfl ?_
  simp only [List.set_cons_zero, List.set_cons_succ]
  refine x_iconst (pc := 10) C (dq D_Wrapping_unwind 7 rfl) ci_5 ?_
  refine x_istore_n (i := 3) (pc := 11) C (dq D_Wrapping_unwind 8 rfl) rfl rfl rfl ?_
  simp only [List.set_cons_zero, List.set_cons_succ]
  have h0 := turns 6 0 (nI 5) BF K B none rfl (fun z => by cases z) (fun e z => by rw [show e = 5 by omega]) hBF hK hK8 hn.2.2 hB8 rfl
  rw [gs_id hbf, gs_id hk, gs_id hb] at h0
  exact h0
