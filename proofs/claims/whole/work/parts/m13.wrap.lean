abbrev wrc (g : Gp) (c kb : Nat) : va_E := .inr (10, [.ref (zA (gz g) c), .ref (zA (gz g) kb)])
theorem cpy8 {A B : List Nat} {sp dp n : Nat} (hA : by8 A) (hB : by8 B) : by8 (cpy A B sp dp n) := by
  intro v hv
  unfold cpy at hv
  rcases List.mem_append.mp hv with h | h
  · exact hB v (List.mem_of_mem_take h)
  · rcases List.mem_append.mp h with h | h
    · exact hA v (List.mem_of_mem_drop (List.mem_of_mem_take h))
    · exact hB v (List.mem_of_mem_drop h)
/-- A and row i of eight bytes -/
def lf (B : List Nat) (i : Nat) : List Nat := B.take 8 ++ (B.drop (8 * i)).take 8
def ly (K B : List Nat) (i : Nat) : List Nat := cpy K (cpy K B 0 0 8) 8 (8 * i) 8
def nm (K : List Nat) (x : Nat) : List Nat := K.set 7 (K.getD 7 0 ^^^ x)
theorem lf_eq {B K : List Nat} {i : Nat} (hB : 8 ≤ B.length) (hK : K.length = 16) : cpy B (cpy B K 0 0 8) (8 * i) 8 8 = lf B i := by
  unfold cpy lf
  have h1 : (List.take 8 B).length = 8 := by rw [List.length_take]; omega
  simp only [List.take_zero, List.nil_append, List.drop_zero, Nat.zero_add]
  rw [List.take_append_of_le_length (by omega), List.take_of_length_le (l := List.take 8 B) (by omega), List.drop_append]
  rw [List.drop_of_length_le (l := List.take 8 B) (by omega), h1, List.nil_append, List.drop_drop, List.drop_of_length_le (l := K) (by omega), List.append_nil]
theorem lf_len {B : List Nat} {i : Nat} (h : 8 * i + 8 ≤ B.length) : (lf B i).length = 16 := by
  unfold lf
  rw [List.length_append, List.length_take, List.length_take, List.length_drop]
  omega
theorem lf8 {B : List Nat} (i : Nat) (h : by8 B) : by8 (lf B i) := (h.take 8).app (fun v hv => h v (List.mem_of_mem_drop (List.mem_of_mem_take hv)))
theorem ly_len {K B : List Nat} {i : Nat} (hK : K.length = 16) (h : 8 * i + 8 ≤ B.length) : (ly K B i).length = B.length := by
  unfold ly
  have h1 : (cpy K B 0 0 8).length = B.length := cpy_length (by omega) (by omega)
  rw [cpy_length (by omega) (by omega), h1]
theorem ly8 {K B : List Nat} (i : Nat) (hK : by8 K) (h : by8 B) : by8 (ly K B i) := cpy8 hK (cpy8 hK h)
theorem nm_len (K : List Nat) (x : Nat) : (nm K x).length = K.length := List.length_set
theorem nm8 {K : List Nat} {x : Nat} (h : by8 K) (hx : x < 256) : by8 (nm K x) := h.set (xor8 (h.at _) hx)
theorem c_lift {g : Gp} {h : Hp} {w c kb r b n i : Nat} {K B : List Nat} (hw : h[w]? = some (wrc g c kb)) (hk : h[kb]? = some (ia g K)) (hr : h[r]? = some (rwc g b n)) (hb : h[b]? = some (ia g B)) (hne : kb ≠ b) (hK : K.length = 16) (hi : 8 * i + 8 ≤ B.length ∧ B.length < 1000) :
    Con g M_Wrapping_lift 1 (0, 0) [.ref (zA (gz g) w), .ref (zA (gz g) r), .int (nI i)] h (Ret none (h.set kb (ia g (lf B i)))) := by
  have hk1 : ∀ e, (h.set kb e)[kb]? = some e := fun e => gs_self hk
  have hw1 : ∀ e, (h.set kb e)[w]? = some (wrc g c kb) := fun e => gs_ne (ne_io hk hw) hw
  have hr1 : ∀ e, (h.set kb e)[r]? = some (rwc g b n) := fun e => gs_ne (ne_io hk hr) hr
  have hb1 : ∀ e, (h.set kb e)[b]? = some (ia g B) := fun e => gs_ne hne hb
  have hl : (cpy B K 0 0 8).length = 16 := by rw [cpy_length (by omega) (by omega)]; exact hK
  refine Con.of (by decide) rfl rfl (L := [some (.ref (zA (gz g) w)), some (.ref (zA (gz g) r)), some (.int (nI i))]) rfl (fun f C => ?_)
  refine x_aload_n (pc := 0) C (dq D_Wrapping_lift 0 rfl) rfl ?_
  refine x_get (pc := 1) (ci := 7) (j := 0) C (dq D_Wrapping_lift 1 rfl) rfl rfl (by first | exact hw | exact hr) rfl k_fl_Wrapping_45 ?_
  refine x_iconst (pc := 4) C (dq D_Wrapping_lift 2 rfl) ci_0 ?_
  refine x_aload_n (pc := 5) C (dq D_Wrapping_lift 3 rfl) rfl ?_
  refine x_get (pc := 6) (ci := 10) (j := 1) C (dq D_Wrapping_lift 4 rfl) rfl rfl (by first | exact hw | exact hr) rfl k_fl_Wrapping_9 ?_
  refine x_iconst (pc := 9) C (dq D_Wrapping_lift 5 rfl) ci_0 ?_
  refine x_bipush (pc := 10) C (dq D_Wrapping_lift 6 rfl) cb_8 ?_
  refine x_copy (pc := 12) C (dq D_Wrapping_lift 7 rfl) k_ml_Wrapping_48 hb hk (by omega) (by omega) (by omega) (by decide) rfl rfl ?_
  refine x_aload_n (pc := 15) C (dq D_Wrapping_lift 8 rfl) rfl ?_
  refine x_get (pc := 16) (ci := 7) (j := 0) C (dq D_Wrapping_lift 9 rfl) rfl rfl (by first | exact hw1 _ | exact hr1 _) rfl k_fl_Wrapping_45 ?_
  refine x_bipush (pc := 19) C (dq D_Wrapping_lift 10 rfl) cb_8 ?_
  refine x_iload_n (pc := 21) C (dq D_Wrapping_lift 11 rfl) rfl ?_
  refine n_imul (pc := 22) C (dq D_Wrapping_lift 12 rfl) ?_
  refine x_aload_n (pc := 23) C (dq D_Wrapping_lift 13 rfl) rfl ?_
  refine x_get (pc := 24) (ci := 10) (j := 1) C (dq D_Wrapping_lift 14 rfl) rfl rfl (by first | exact hw1 _ | exact hr1 _) rfl k_fl_Wrapping_9 ?_
  refine x_bipush (pc := 27) C (dq D_Wrapping_lift 15 rfl) cb_8 ?_
  refine x_bipush (pc := 29) C (dq D_Wrapping_lift 16 rfl) cb_8 ?_
  refine x_copy (pc := 31) C (dq D_Wrapping_lift 17 rfl) k_ml_Wrapping_48 (hb1 _) (hk1 _) (by omega) (by omega) (by omega) (by decide) rfl rfl ?_
  rw [List.set_set, lf_eq (by omega) hK]
  exact x_vret (pc := 34) C (dq D_Wrapping_lift 18 rfl) rfl (by decide) ⟨rfl, rfl⟩
theorem c_lay {g : Gp} {h : Hp} {w c kb r b n i : Nat} {K B : List Nat} (hw : h[w]? = some (wrc g c kb)) (hk : h[kb]? = some (ia g K)) (hr : h[r]? = some (rwc g b n)) (hb : h[b]? = some (ia g B)) (hne : kb ≠ b) (hK : K.length = 16) (hi : 8 * i + 8 ≤ B.length ∧ B.length < 1000) :
    Con g M_Wrapping_lay 1 (0, 0) [.ref (zA (gz g) w), .ref (zA (gz g) r), .int (nI i)] h (Ret none (h.set b (ia g (ly K B i)))) := by
  have hk1 : ∀ e, (h.set b e)[kb]? = some (ia g K) := fun e => gs_ne (Ne.symm hne) hk
  have hw1 : ∀ e, (h.set b e)[w]? = some (wrc g c kb) := fun e => gs_ne (ne_io hb hw) hw
  have hr1 : ∀ e, (h.set b e)[r]? = some (rwc g b n) := fun e => gs_ne (ne_io hb hr) hr
  have hb1 : ∀ e, (h.set b e)[b]? = some e := fun e => gs_self hb
  have hl : (cpy K B 0 0 8).length = B.length := cpy_length (by omega) (by omega)
  refine Con.of (by decide) rfl rfl (L := [some (.ref (zA (gz g) w)), some (.ref (zA (gz g) r)), some (.int (nI i))]) rfl (fun f C => ?_)
  refine x_aload_n (pc := 0) C (dq D_Wrapping_lay 0 rfl) rfl ?_
  refine x_get (pc := 1) (ci := 10) (j := 1) C (dq D_Wrapping_lay 1 rfl) rfl rfl (by first | exact hw | exact hr) rfl k_fl_Wrapping_9 ?_
  refine x_iconst (pc := 4) C (dq D_Wrapping_lay 2 rfl) ci_0 ?_
  refine x_aload_n (pc := 5) C (dq D_Wrapping_lay 3 rfl) rfl ?_
  refine x_get (pc := 6) (ci := 7) (j := 0) C (dq D_Wrapping_lay 4 rfl) rfl rfl (by first | exact hw | exact hr) rfl k_fl_Wrapping_45 ?_
  refine x_iconst (pc := 9) C (dq D_Wrapping_lay 5 rfl) ci_0 ?_
  refine x_bipush (pc := 10) C (dq D_Wrapping_lay 6 rfl) cb_8 ?_
  refine x_copy (pc := 12) C (dq D_Wrapping_lay 7 rfl) k_ml_Wrapping_48 hk hb (by omega) (by omega) (by omega) (by decide) rfl rfl ?_
  refine x_aload_n (pc := 15) C (dq D_Wrapping_lay 8 rfl) rfl ?_
  refine x_get (pc := 16) (ci := 10) (j := 1) C (dq D_Wrapping_lay 9 rfl) rfl rfl (by first | exact hw1 _ | exact hr1 _) rfl k_fl_Wrapping_9 ?_
  refine x_bipush (pc := 19) C (dq D_Wrapping_lay 10 rfl) cb_8 ?_
  refine x_aload_n (pc := 21) C (dq D_Wrapping_lay 11 rfl) rfl ?_
  refine x_get (pc := 22) (ci := 7) (j := 0) C (dq D_Wrapping_lay 12 rfl) rfl rfl (by first | exact hw1 _ | exact hr1 _) rfl k_fl_Wrapping_45 ?_
  refine x_bipush (pc := 25) C (dq D_Wrapping_lay 13 rfl) cb_8 ?_
  refine x_iload_n (pc := 27) C (dq D_Wrapping_lay 14 rfl) rfl ?_
  refine n_imul (pc := 28) C (dq D_Wrapping_lay 15 rfl) ?_
  refine x_bipush (pc := 29) C (dq D_Wrapping_lay 16 rfl) cb_8 ?_
  refine x_copy (pc := 31) C (dq D_Wrapping_lay 17 rfl) k_ml_Wrapping_48 (hk1 _) (hb1 _) (by omega) (by omega) (by omega) (by decide) rfl rfl ?_
  rw [List.set_set]
  exact x_vret (pc := 34) C (dq D_Wrapping_lay 18 rfl) rfl (by decide) ⟨rfl, rfl⟩
theorem c_addNumber {g : Gp} {h : Hp} {w c kb x : Nat} {K : List Nat} (hw : h[w]? = some (wrc g c kb)) (hk : h[kb]? = some (ia g K)) (hK : K.length = 16) :
    Con g M_Wrapping_addNumber 0 (0, 0) [.ref (zA (gz g) w), .int (nI x)] h (Ret none (h.set kb (ia g (nm K x)))) := by
  refine Con.of (by decide) rfl rfl (L := [some (.ref (zA (gz g) w)), some (.int (nI x))]) rfl (fun f C => ?_)
  refine x_aload_n (pc := 0) C (dq D_Wrapping_addNumber 0 rfl) rfl ?_
  refine x_get (pc := 1) (ci := 10) (j := 1) C (dq D_Wrapping_addNumber 1 rfl) rfl rfl (by first | exact hw | exact hk) rfl k_fl_Wrapping_9 ?_
  refine x_bipush (pc := 4) C (dq D_Wrapping_addNumber 2 rfl) cb_7 ?_
  refine x_dup2 (pc := 6) C (dq D_Wrapping_addNumber 3 rfl) rfl rfl ?_
  refine x_iald (pc := 7) C (dq D_Wrapping_addNumber 4 rfl) (by first | exact hw | exact hk) (by (try simp only [List.length_set]); omega) ?_
  refine x_iload_n (pc := 8) C (dq D_Wrapping_addNumber 5 rfl) rfl ?_
  refine n_ixor (pc := 9) C (dq D_Wrapping_addNumber 6 rfl) ?_
  refine x_iast (pc := 10) C (dq D_Wrapping_addNumber 7 rfl) (by first | exact hw | exact hk) (by (try simp only [List.length_set]); omega) ?_
  try rw [List.set_set]
  exact x_vret (pc := 11) C (dq D_Wrapping_addNumber 8 rfl) rfl (by decide) ⟨rfl, rfl⟩
/-- a turn of the wrapping at row i, all rows, all six -/
def ws (FO RK : List Nat) (n j i : Nat) (B : List Nat) : List Nat := ly (nm (trn FO RK (lf B i)) (n * j + i)) B i
def wr (FO RK : List Nat) (n j : Nat) (B : List Nat) : List Nat := it (fun i => ws FO RK n j (i + 1)) 0 n B
def wnd (FO RK : List Nat) (n : Nat) (B : List Nat) : List Nat := it (wr FO RK n) 0 6 B
theorem ws_ok {FO RK : List Nat} (hF : by8 FO) (hK : by8 RK) {n j i m : Nat} {B : List Nat} (hi : 8 * i + 8 ≤ m) (hx : n * j + i < 256) (h : B.length = m ∧ by8 B) : (ws FO RK n j i B).length = m ∧ by8 (ws FO RK n j i B) := by
  have h1 : (nm (trn FO RK (lf B i)) (n * j + i)).length = 16 := by rw [nm_len, trn_len, lf_len (by omega)]
  exact ⟨by rw [ws, ly_len h1 (by omega)]; exact h.1, ly8 i (nm8 (trn8 hF hK (lf8 i h.2)) hx) h.2⟩
theorem num_lt {n j i : Nat} (hn : n ≤ 10) (hj : j < 6) (hi : i ≤ n) : n * j + i < 256 := by
  have : n * j ≤ 10 * 5 := Nat.mul_le_mul hn (by omega)
  omega
theorem wr_ok {FO RK : List Nat} (hF : by8 FO) (hK : by8 RK) {n j m : Nat} (hn : n ≤ 10) (hm : 8 * n + 8 ≤ m) (hj : j < 6) {B : List Nat} (h : B.length = m ∧ by8 B) : (wr FO RK n j B).length = m ∧ by8 (wr FO RK n j B) :=
  it_inv (fun B : List Nat => B.length = m ∧ by8 B) n 0 B (fun i T _ hi hT => ws_ok hF hK (by omega) (num_lt hn hj (by omega)) hT) h
theorem wnd_ok {FO RK : List Nat} (hF : by8 FO) (hK : by8 RK) {n m : Nat} (hn : n ≤ 10) (hm : 8 * n + 8 ≤ m) {B : List Nat} (h : B.length = m ∧ by8 B) : (wnd FO RK n B).length = m ∧ by8 (wnd FO RK n B) :=
  it_inv (fun B : List Nat => B.length = m ∧ by8 B) 6 0 B (fun j T _ hj hT => wr_ok hF hK hn hm (by omega) hT) h
/-- the cells behind a winding: 'before' and the block anyhow -/
def wnp (g : Gp) (h : Hp) (bf kb b : Nat) (B : List Nat) : Outcome → Hp → Prop := fun o h' => o = .returned none ∧ ∃ F K : List Nat, F.length = 16 ∧ K.length = 16 ∧ by8 K ∧ h' = ((h.set bf (ia g F)).set kb (ia g K)).set b (ia g B)
theorem c_wind {g : Gp} {h : Hp} {w c t rk bf fo ba kb r b n : Nat} {FO BA RK K B : List Nat} (hc : cip g h c t rk bf fo ba FO BA RK) (hw : h[w]? = some (wrc g c kb)) (hk : h[kb]? = some (ia g K)) (hr : h[r]? = some (rwc g b n)) (hb : h[b]? = some (ia g B)) (hnk : kb ≠ fo ∧ kb ≠ ba ∧ kb ≠ rk ∧ kb ≠ bf) (hnb : b ≠ fo ∧ b ≠ ba ∧ b ≠ rk ∧ b ≠ bf) (hne : kb ≠ b) (hK : K.length = 16) (hK8 : by8 K) (hn : 16 ≤ n ∧ n ≤ B.length ∧ B.length = 88) (hB8 : by8 B) :
    Con g M_Wrapping_wind 3 (0, 0) [.ref (zA (gz g) w), .ref (zA (gz g) r)] h (wnp g h bf kb b (wnd FO RK (n / 8 - 1) B)) := by
  obtain ⟨BF, hbf, hBF⟩ := hc.bfa
  have hF8 := hc.2.2.2.2.2.2.2.2.2.1
  have hR8 := hc.2.2.2.2.2.2.2.2.2.2.2.1
  generalize hN : n / 8 - 1 = N
  have hN1 : N ≤ 10 ∧ 8 * N + 8 ≤ 88 := by omega
  have e1 : ∀ F K B : List Nat, (((h.set bf (ia g F)).set kb (ia g K)).set b (ia g B))[w]? = some (wrc g c kb) := fun F K B => gs_ne (ne_io hb hw) (gs_ne (ne_io hk hw) (gs_ne (ne_io hbf hw) hw))
  have e2 : ∀ F K B : List Nat, (((h.set bf (ia g F)).set kb (ia g K)).set b (ia g B))[r]? = some (rwc g b n) := fun F K B => gs_ne (ne_io hb hr) (gs_ne (ne_io hk hr) (gs_ne (ne_io hbf hr) hr))
  have k0 : ∀ F : List Nat, (h.set bf (ia g F))[kb]? = some (ia g K) := fun F => gs_ne (Ne.symm hnk.2.2.2) hk
  have b0 : ∀ F K : List Nat, ((h.set bf (ia g F)).set kb (ia g K))[b]? = some (ia g B) := fun F K => gs_ne hne (gs_ne (Ne.symm hnb.2.2.2) hb)
  have e3 : ∀ F K B : List Nat, (((h.set bf (ia g F)).set kb (ia g K)).set b (ia g B))[kb]? = some (ia g K) := fun F K B => gs_ne (Ne.symm hne) (gs_self (k0 F))
  have e4 : ∀ F K B : List Nat, (((h.set bf (ia g F)).set kb (ia g K)).set b (ia g B))[b]? = some (ia g B) := fun F K B => gs_self (b0 F K)
  have e5 : ∀ F K B : List Nat, F.length = 16 → cip g (((h.set bf (ia g F)).set kb (ia g K)).set b (ia g B)) c t rk bf fo ba FO BA RK := fun F K B hF => ((hc.bf hF).blk (k0 F) hnk).blk (b0 F K) hnb
  have s1 : ∀ (F K B : List Nat) (e : va_E), (((h.set bf (ia g F)).set kb (ia g K)).set b (ia g B)).set kb e = ((h.set bf (ia g F)).set kb e).set b (ia g B) := fun F K B e => gs_in hne
  have s2 : ∀ (F K B : List Nat) (e e' : va_E), ((((h.set bf (ia g F)).set kb (ia g K)).set b (ia g B)).set bf e).set kb e' = ((h.set bf e).set kb e').set b (ia g B) := fun F K B e e' => by
    rw [List.set_comm _ _ hnb.2.2.2, List.set_comm _ _ hnk.2.2.2, List.set_set, gs_in hne]
  refine Con.of (by decide) rfl rfl (L := [some (.ref (zA (gz g) w)), some (.ref (zA (gz g) r)), none, none, none]) rfl (fun f C => ?_)
  have rows : ∀ (d i j : Nat) (F K S : List Nat), i + d = N → j < 6 → F.length = 16 → K.length = 16 → by8 K → S.length = 88 → by8 S →
      (∀ F K : List Nat, F.length = 16 → K.length = 16 → by8 K → X g f M_Wrapping_wind (0, 0) (wnp g h bf kb b (wnd FO RK N B)) (0, 0) 68 [some (.ref (zA (gz g) w)), some (.ref (zA (gz g) r)), some (.int (nI N)), some (.int (nI j)), some (.int (nI (N + 1)))] [] (((h.set bf (ia g F)).set kb (ia g K)).set b (ia g (it (fun i => ws FO RK N j (i + 1)) i d S)))) →
      X g f M_Wrapping_wind (0, 0) (wnp g h bf kb b (wnd FO RK N B)) (0, 0) 21 [some (.ref (zA (gz g) w)), some (.ref (zA (gz g) r)), some (.int (nI N)), some (.int (nI j)), some (.int (nI (i + 1)))] [] (((h.set bf (ia g F)).set kb (ia g K)).set b (ia g S)) := by
    intro d
    induction d with
    | zero =>
      intro i j F K S hid hj hF hK hK8 hS hS8 go
      obtain rfl : i = N := by omega
      refine x_iload (pc := 21) C (dq D_Wrapping_wind 14 rfl) rfl ?_
      refine x_iload_n (pc := 23) C (dq D_Wrapping_wind 15 rfl) rfl ?_
      refine n_gt_t (pc := 24) (tgt := 68) C (dq D_Wrapping_wind 16 rfl) (by decide) (by omega) (by omega) ?_
      exact go F K hF hK hK8
    | succ d ih =>
      intro i j F K S hid hj hF hK hK8 hS hS8 go
      have hl := lf_len (B := S) (i := i + 1) (by omega)
      have hl8 := lf8 (i + 1) hS8
      refine x_iload (pc := 21) C (dq D_Wrapping_wind 14 rfl) rfl ?_
      refine x_iload_n (pc := 23) C (dq D_Wrapping_wind 15 rfl) rfl ?_
      refine n_gt_f (pc := 24) (tgt := 68) C (dq D_Wrapping_wind 16 rfl) (by decide) (by omega) (by omega) ?_
      refine x_aload_n (pc := 27) C (dq D_Wrapping_wind 17 rfl) rfl ?_
      refine x_aload_n (pc := 28) C (dq D_Wrapping_wind 18 rfl) rfl ?_
      refine x_iload (pc := 29) C (dq D_Wrapping_wind 19 rfl) rfl ?_
      refine x_cV0 (pc := 31) (ci := 10) (M := M_Wrapping_lift) C (dq D_Wrapping_wind 20 rfl) k_ml_Wrapping_25 m_Wrapping_lift rfl rfl (e1 _ _ _) (c_lift (e1 _ _ _) (e3 _ _ _) (e2 _ _ _) (e4 _ _ _) hne hK (by omega)) rfl rfl rfl rfl (by decide) ?_
      rw [s1]
      refine x_aload_n (pc := 34) C (dq D_Wrapping_wind 21 rfl) rfl ?_
      refine x_get (pc := 35) (ci := 10) (j := 0) C (dq D_Wrapping_wind 22 rfl) rfl rfl (by first | exact e1 _ _ _ | exact (e5 _ _ _ hF).1) rfl k_fl_Wrapping_15 ?_
      refine x_aload_n (pc := 38) C (dq D_Wrapping_wind 23 rfl) rfl ?_
      refine x_get (pc := 39) (ci := 10) (j := 1) C (dq D_Wrapping_wind 24 rfl) rfl rfl (by first | exact e1 _ _ _ | exact (e5 _ _ _ hF).1) rfl k_fl_Wrapping_9 ?_
      refine x_cV (pc := 42) (ci := 2) (M := M_Cipher_turn) C (dq D_Wrapping_wind 25 rfl) k_ml_Wrapping_29 m_Cipher_turn rfl rfl (by first | exact e1 _ _ _ | exact (e5 _ _ _ hF).1) (c_turn (e5 _ _ _ hF) (e3 _ _ _) hnk (by omega) hl8) rfl rfl rfl rfl (by decide) (fun o h2 hp => ?_)
      obtain ⟨rfl, F2, hF2, rfl⟩ := hp
      refine ⟨none, rfl, ?_⟩
      rw [s2]
      have ht : (trn FO RK (lf S (i + 1))).length = 16 := by rw [trn_len]; exact hl
      have ht8 := trn8 hF8 hR8 hl8
      have hx := num_lt hN1.1 hj (show i + 1 ≤ N by omega)
      show X g f M_Wrapping_wind (0, 0) (wnp g h bf kb b (wnd FO RK N B)) (0, 0) 45 [some (.ref (zA (gz g) w)), some (.ref (zA (gz g) r)), some (.int (nI N)), some (.int (nI j)), some (.int (nI (i + 1)))] [] (((h.set bf (ia g F2)).set kb (ia g (trn FO RK (lf S (i + 1))))).set b (ia g S))
      refine x_aload_n (pc := 45) C (dq D_Wrapping_wind 26 rfl) rfl ?_
      refine x_iload_n (pc := 46) C (dq D_Wrapping_wind 27 rfl) rfl ?_
      refine x_iload_n (pc := 47) C (dq D_Wrapping_wind 28 rfl) rfl ?_
      refine n_imul (pc := 48) C (dq D_Wrapping_wind 29 rfl) ?_
      refine x_iload (pc := 49) C (dq D_Wrapping_wind 30 rfl) rfl ?_
      refine n_iadd (pc := 51) C (dq D_Wrapping_wind 31 rfl) ?_
      refine x_cV0 (pc := 52) (ci := 10) (M := M_Wrapping_addNumber) C (dq D_Wrapping_wind 32 rfl) k_ml_Wrapping_35 m_Wrapping_addNumber rfl rfl (e1 _ _ _) (c_addNumber (e1 _ _ _) (e3 _ _ _) ht) rfl rfl rfl rfl (by decide) ?_
      rw [s1]
      refine x_aload_n (pc := 55) C (dq D_Wrapping_wind 33 rfl) rfl ?_
      refine x_aload_n (pc := 56) C (dq D_Wrapping_wind 34 rfl) rfl ?_
      refine x_iload (pc := 57) C (dq D_Wrapping_wind 35 rfl) rfl ?_
      refine x_cV0 (pc := 59) (ci := 10) (M := M_Wrapping_lay) C (dq D_Wrapping_wind 36 rfl) k_ml_Wrapping_39 m_Wrapping_lay rfl rfl (e1 _ _ _) (c_lay (e1 _ _ _) (e3 _ _ _) (e2 _ _ _) (e4 _ _ _) hne (by rw [nm_len]; exact ht) (by omega)) rfl rfl rfl rfl (by decide) ?_
      rw [List.set_set]
      refine x_iinc (pc := 62) C (dq D_Wrapping_wind 37 rfl) rfl (ii_1 _) rfl rfl ?_
      simp only [List.set_cons_zero, List.set_cons_succ]
      refine x_goto (pc := 65) (tgt := 21) C (dq D_Wrapping_wind 38 rfl) (by decide) ?_
      obtain ⟨q1, q2⟩ := ws_ok hF8 hR8 (m := 88) (by omega) hx ⟨hS, hS8⟩
      exact ih (i + 1) j F2 _ (ws FO RK N j (i + 1) S) (by omega) hj hF2 (by rw [nm_len]; exact ht) (nm8 ht8 hx) q1 q2 go
  have turns : ∀ (d j : Nat) (F K S : List Nat) (l4 : Option Value), j + d = 6 → F.length = 16 → K.length = 16 → by8 K → S.length = 88 → by8 S → it (wr FO RK N) j d S = wnd FO RK N B →
      X g f M_Wrapping_wind (0, 0) (wnp g h bf kb b (wnd FO RK N B)) (0, 0) 12 [some (.ref (zA (gz g) w)), some (.ref (zA (gz g) r)), some (.int (nI N)), some (.int (nI j)), l4] [] (((h.set bf (ia g F)).set kb (ia g K)).set b (ia g S)) := by
    intro d
    induction d with
    | zero =>
      intro j F K S l4 hjd hF hK hK8 hS hS8 he
      refine x_iload_n (pc := 12) C (dq D_Wrapping_wind 9 rfl) rfl ?_
      refine x_bipush (pc := 13) C (dq D_Wrapping_wind 10 rfl) cb_6 ?_
      refine n_ge_t (pc := 15) (tgt := 74) C (dq D_Wrapping_wind 11 rfl) (by decide) (by omega) (by omega) ?_
      exact x_vret (pc := 74) C (dq D_Wrapping_wind 41 rfl) rfl (by decide) ⟨rfl, F, K, hF, hK, hK8, by rw [← he]; rfl⟩
    | succ d ih =>
      intro j F K S l4 hjd hF hK hK8 hS hS8 he
      refine x_iload_n (pc := 12) C (dq D_Wrapping_wind 9 rfl) rfl ?_
      refine x_bipush (pc := 13) C (dq D_Wrapping_wind 10 rfl) cb_6 ?_
      refine n_ge_f (pc := 15) (tgt := 74) C (dq D_Wrapping_wind 11 rfl) (by decide) (by omega) (by omega) ?_
      refine x_iconst (pc := 18) C (dq D_Wrapping_wind 12 rfl) ci_1 ?_
      refine x_istore (i := 4) (pc := 19) C (dq D_Wrapping_wind 13 rfl) rfl rfl rfl ?_
      simp only [List.set_cons_zero, List.set_cons_succ]
      refine rows N 0 j F K S (by omega) (by omega) hF hK hK8 hS hS8 (fun F2 K2 hF2 hK2 hK28 => ?_)
      obtain ⟨q1, q2⟩ := wr_ok hF8 hR8 (n := N) (j := j) (m := 88) (by omega) (by omega) (by omega) ⟨hS, hS8⟩
      refine x_iinc (pc := 68) C (dq D_Wrapping_wind 39 rfl) rfl (ii_1 _) rfl rfl ?_
      simp only [List.set_cons_zero, List.set_cons_succ]
      refine x_goto (pc := 71) (tgt := 12) C (dq D_Wrapping_wind 40 rfl) (by decide) ?_
      exact ih (j + 1) F2 K2 (wr FO RK N j S) _ (by omega) hF2 hK2 hK28 q1 q2 he
  refine x_aload_n (pc := 0) C (dq D_Wrapping_wind 0 rfl) rfl ?_
  refine x_get (pc := 1) (ci := 7) (j := 1) C (dq D_Wrapping_wind 1 rfl) rfl rfl (hr) rfl k_fl_Wrapping_19 ?_
  refine x_bipush (pc := 4) C (dq D_Wrapping_wind 2 rfl) cb_8 ?_
  refine n_idiv (pc := 6) C (dq D_Wrapping_wind 3 rfl) (by omega) (by omega) (by omega) ?_
  refine x_iconst (pc := 7) C (dq D_Wrapping_wind 4 rfl) ci_1 ?_
  refine n_isub (pc := 8) C (dq D_Wrapping_wind 5 rfl) (by omega) ?_
  rw [hN]
  refine x_istore_n (i := 2) (pc := 9) C (dq D_Wrapping_wind 6 rfl) rfl rfl rfl ?_
  simp only [List.set_cons_zero, List.set_cons_succ]
  refine x_iconst (pc := 10) C (dq D_Wrapping_wind 7 rfl) ci_0 ?_
  refine x_istore_n (i := 3) (pc := 11) C (dq D_Wrapping_wind 8 rfl) rfl rfl rfl ?_
  simp only [List.set_cons_zero, List.set_cons_succ]
  have h0 := turns 6 0 BF K B none rfl hBF hK hK8 hn.2.2 hB8 rfl
  rw [gs_id hbf, gs_id hk, gs_id hb] at h0
  exact h0
