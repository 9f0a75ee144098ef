/-! The law's start. -/
theorem rep8 (n : Nat) : by8 (List.replicate n 0) := fun v hv => by rw [List.eq_of_mem_replicate hv]; decide
theorem rl88 : l88 (List.replicate 88 0) := ⟨List.length_replicate, rep8 88⟩
theorem rl16 : l16 (List.replicate 16 0) := ⟨List.length_replicate, rep8 16⟩
theorem mh_push {g : Gp} {P : Hp} {cd ni no nt nr nl : Nat} {ar : List (List Nat)} {e : va_E} : mh g P cd ni no nt nr nl ar [] ++ [e] = mh g P cd ni no nt nr nl ar [e] := by
  unfold mh
  simp
theorem mh_len {g : Gp} {P : Hp} {cd ni no nt nr nl : Nat} {ar : List (List Nat)} (hP : P.length = 44) (ha : ar.length = 14) : (mh g P cd ni no nt nr nl ar []).length = 59 := by
  unfold mh
  simp [hP, ha]
/-- the desk as it is made -/
def D0h (g : Gp) : Hp := dh g 0 0 0 0 0 0 0 0 0 0 FB0.1 FB0.2 PW0 K00 (List.replicate 16 0) K00 (List.replicate 16 0) (List.replicate 16 0) (List.replicate 16 0) (List.replicate 16 0) (List.replicate 88 0) (List.replicate 88 0) (List.replicate 88 0) (List.replicate 88 0) (List.replicate 88 0) (List.replicate 88 0) (List.replicate 16 0) (List.replicate 16 0) (List.replicate 16 0) (List.replicate 88 0) (List.replicate 88 0) (List.replicate 88 0) []
theorem D0h_len (g : Gp) : (D0h g).length = 44 := by
  unfold D0h
  rw [dh_len]
  rfl
theorem D0h_dok (g : Gp) (S : Hp) : dok g S FB0.1 FB0.2 0 0 0 [0, 0, 0, 0, 0] [List.replicate 88 0, List.replicate 88 0, List.replicate 88 0, List.replicate 88 0, List.replicate 88 0] K00 K00 (List.replicate 88 0) (List.replicate 88 0) (D0h g ++ S) := by
  unfold D0h
  rw [← dh_ap]
  exact dok.mk ⟨List.length_replicate, List.length_replicate, rl16, rl16, rl16, rl88, rl16, rl16, rl16, rl88, by omega, by omega⟩
theorem K00_ok : kok K00 := keys_ok FB0_ok.1.2 0 0 0 0 List.length_replicate (rep8 176)
theorem W1_ok : (mky TU0.1 0 0 0 0 0 z88).length = 88 ∧ by32 (mky TU0.1 0 0 0 0 0 z88) := mky_ok TU0_ok.1.2 0 (by omega) (by omega) (by omega) (by omega) z88_ok
theorem W00_ok : W00.length = 88 ∧ by32 W00 := mky_ok TU0_ok.1.2 44 (by omega) (by omega) (by omega) (by omega) W1_ok
theorem W00_0 : kr 0 W00 K00 := by
  unfold W00 K00
  rw [TU_FB]
  exact kr_other (keys_kr FB0_ok.1.2 (by omega) List.length_replicate z88_ok (by omega) (by omega) (by omega) (by omega)) (by omega)
theorem W00_44 : kr 44 W00 K00 := by
  have h := W1_ok
  unfold W00 K00
  rw [TU_FB] at h ⊢
  exact keys_kr FB0_ok.1.2 (by omega) List.length_replicate h (by omega) (by omega) (by omega) (by omega)
theorem JS0 {g : Gp} {P : Hp} (hP : P.length = 44) (hd : ∀ S, dok g S FB0.1 FB0.2 0 0 0 [0, 0, 0, 0, 0] [List.replicate 88 0, List.replicate 88 0, List.replicate 88 0, List.replicate 88 0, List.replicate 88 0] K00 K00 (List.replicate 88 0) (List.replicate 88 0) (P ++ S)) : JSc g FB0.1 FB0.2 0 0 (mh g P 0 0 0 0 0 0 [W00, TU0.1, TU0.2, z88, List.replicate 112 0, List.replicate 5 0, List.replicate 200 0, List.replicate 16 0, List.replicate 16 0, List.replicate 112 0, List.replicate 112 0, List.replicate 16 0, List.replicate 16 0, List.replicate 16 0] [lc g 0]) := by
  rw [TU_FB]
  refine JSc.mk (ct := 0) (ni := 0) (no := 0) (NL := [0, 0, 0, 0, 0]) (BL := [List.replicate 88 0, List.replicate 88 0, List.replicate 88 0, List.replicate 88 0, List.replicate 88 0]) (K1 := K00) (K2 := K00) (IN := List.replicate 88 0) (OU := List.replicate 88 0) (W := W00) (INm := z88) (OUT := List.replicate 112 0) (IS := List.replicate 5 0) (IB := List.replicate 200 0) ⟨_, P, by unfold mh; exact hd _, hP, 0, 0, List.replicate 16 0, List.replicate 16 0, List.replicate 112 0, List.replicate 112 0, List.replicate 16 0, List.replicate 16 0, List.replicate 16 0, ⟨rl16.1, rl16.2, rl16.1, rl16.2⟩, ⟨List.length_replicate, rep8 112⟩, ⟨List.length_replicate, rep8 112⟩, rl16, rl16, rl16, rfl⟩ ?_ ?_ ?_
  · refine ⟨FB0_ok, K00_ok, K00_ok, rl88, rl88, fun i hi => ?_, by omega, by omega, by omega⟩
    match i, hi with
    | 0, _ | 1, _ | 2, _ | 3, _ | 4, _ => exact ⟨rl88, Nat.zero_le _⟩
  · exact ⟨FB0_ok.1, FB0_ok.2, W00_ok, rl88, ⟨List.length_replicate, rep8 112⟩, ⟨List.length_replicate, fun i => by rw [gd_rep]; omega⟩, ⟨List.length_replicate, rep8 200⟩, by omega, by omega, by omega⟩
  · exact ⟨W00_0, W00_44, fun q hq => by omega, fun q hq => by omega, fun i hi => by omega⟩

theorem law_begin {g : Gp} {f : Fm} {b L : Nat} {xs : Nat → Int32} (C : Cx g f M_law 10 mcL) (hno : noTr g) (hx : ext g (fS f)) (hcs : cst (fS f)) (hX : va_X b L xs (fS f) (fS f).heap) (hb : b < gz g) (hL : L ≤ 3072) : X g f M_law mcL PL (0, 0) 0 [some (.ref b), none, none, none, none, none, none] [] [] := by
  have hQ0 : ([] : Hp).length = 0 := rfl
  show X g f M_law mcL PL (0, 0) 0 _ [] (([] : Hp) ++ [])
  refine x_newQ (pc := 0) (ci := 0) (m := 0) (k := 0) (fs := [.null, .null, .null, .null, .null, .null, .null]) C (dq D_law 0 rfl) hQ0 rfl rfl k_cl_Law_8 k_it_Desk k_in_Desk (fun j hj => match j, hj with | 0, _ => rfl | 1, _ => rfl | 2, _ => rfl | 3, _ => rfl | 4, _ => rfl | 5, _ => rfl | 6, _ => rfl | j + 7, hj => absurd hj (by show ¬ (j + 7 < 7); omega)) (by omega) (by decide) ?_
  refine x_dup (pc := 3) C (dq D_law 1 rfl) rfl ?_
  refine x_cIC0 (pc := 4) (M := M_Desk_init) (h2 := D0h g) C hcs (dq D_law 2 rfl) k_ml_Law_45 m_Desk_init (c_Desk_init (Q := []) (m := 0) rfl (by omega) rfl rfl) rfl rfl rfl (by decide) (by decide) ?_
  refine x_astore_n (i := 1) (pc := 7) C (dq D_law 3 rfl) rfl rfl rfl ?_
  simp only [List.set_cons_zero, List.set_cons_succ]
  have hP44 := D0h_len g
  have hdk := D0h_dok g
  generalize D0h g = P at hP44 hdk
  rw [show P = P ++ [] from (List.append_nil P).symm]
  refine x_newQ (pc := 8) (ci := 1) (Q := P) (m := 44) (k := 0) (fs := [.int (nI 0), .null, .null, .null, .int (nI 0), .null, .int (nI 0), .null, .int (nI 0), .null, .null, .null, .null, .int (nI 0), .null, .int (nI 0), .null, .null, .null, .null]) C (dq D_law 4 rfl) hP44 rfl rfl k_cl_Law_46 k_it_Model k_in_Model (fun j hj => match j, hj with | 0, _ => rfl | 1, _ => rfl | 2, _ => rfl | 3, _ => rfl | 4, _ => rfl | 5, _ => rfl | 6, _ => rfl | 7, _ => rfl | 8, _ => rfl | 9, _ => rfl | 10, _ => rfl | 11, _ => rfl | 12, _ => rfl | 13, _ => rfl | 14, _ => rfl | 15, _ => rfl | 16, _ => rfl | 17, _ => rfl | 18, _ => rfl | 19, _ => rfl | j + 20, hj => absurd hj (by show ¬ (j + 20 < 20); omega)) (by omega) (by decide) ?_
  refine x_dup (pc := 11) C (dq D_law 5 rfl) rfl ?_
  refine x_cI0 (pc := 12) (M := M_Model_init) C (dq D_law 6 rfl) k_ml_Law_48 m_Model_init (c_Model_init hP44) rfl rfl rfl (by decide) (by decide) ?_
  refine x_astore_n (i := 2) (pc := 15) C (dq D_law 7 rfl) rfl rfl rfl ?_
  simp only [List.set_cons_zero, List.set_cons_succ]
  refine x_iconst (pc := 16) C (dq D_law 8 rfl) ci_1 ?_
  refine x_newl (pc := 17) C (dq D_law 9 rfl) (by rw [mh_len hP44 rfl]; omega) (by decide) ?_
  rw [mh_len hP44 rfl, mh_push]
  refine x_astore_n (i := 3) (pc := 19) C (dq D_law 10 rfl) rfl rfl rfl ?_
  simp only [List.set_cons_zero, List.set_cons_succ]
  refine x_iconst (pc := 20) C (dq D_law 11 rfl) ci_0 ?_
  refine x_istore (i := 4) (pc := 21) C (dq D_law 12 rfl) rfl rfl rfl ?_
  simp only [List.set_cons_zero, List.set_cons_succ]
  exact law_loop C hno hx hX hb hL 3073 0 0 0 _ none none _ (by omega) (by omega) (JS0 hP44 hdk) (by decide) (by decide)
theorem Tc_it {ci : Nat} (h : Nat.blt ci Cls.length = true) : Cond.instantiable (Tc ci).1 (Tc ci).2.2 ∈ tb := by
  have h1 : ci < 11 := Nat.le_of_ble_eq_true h
  match ci, h1 with
  | 0, _ => exact k_it_Desk
  | 1, _ => exact k_it_Model
  | 2, _ => exact k_it_Cipher
  | 3, _ => exact k_it_Items
  | 4, _ => exact k_it_Marked
  | 5, _ => exact k_it_Marker
  | 6, _ => exact k_it_Padded
  | 7, _ => exact k_it_Row
  | 8, _ => exact k_it_Tables
  | 9, _ => exact k_it_Wrapped
  | 10, _ => exact k_it_Wrapping
theorem ao_ra {s : State} {c : String} (h : va_AO c s) : ∃ cA : ClassId, ArrOfT s cA (.object c) ∧ va_RA s cA (.object c) := by
  obtain ⟨comp, cA, k, h1, h2, h3, h4, h5⟩ := Cond.arrayOver_spec (va_AO.use (A := #[]) h)
  exact ⟨cA, fun n z => ⟨fun k h => (by cases h), k, h3, comp, h4⟩, k, comp, h3, h4, h1, h5⟩
theorem K_of {s : State} {A : Array Value} (hts : ∀ w ∈ tb, w.before A s = true) (hao : ∀ c ∈ nwA, va_AO c s) : ∃ (D : va_G) (cA : Nat → ClassId), va_K D Cls [(cA 0, .int), (cA 1, .long), (cA 2, .object R_Row), (cA 3, .object R_Cipher), (cA 4, .object R_Way)] s := by
  have h1 : ∀ c : Nat, ∃ q : ClassId × (Nat → Nat), ∀ r : vw_C, Cls[c]? = some r → u_Kn s r.1 r.2.1 r.2.2 q.1 q.2 := by
    intro c
    by_cases hc : Nat.blt c Cls.length = true
    · obtain ⟨cC, iS, hk⟩ := u_known (C := (Tc c).1) (T := (Tc c).2.1) (N := (Tc c).2.2) (n := (Tc c).2.2) hts (Tc_in hc) (hts _ (Tc_it hc))
      refine ⟨(cC, iS), fun r hr => ?_⟩
      have := (Tc_at hc).symm.trans hr
      cases this
      exact hk
    · refine ⟨(0, fun _ => 0), fun r hr => absurd (List.getElem?_eq_some_iff.mp hr).1 (fun q => hc (Nat.ble_eq_true_of_le q))⟩
  obtain ⟨D, hD⟩ := Classical.axiomOfChoice h1
  obtain ⟨c0, k0, p0, a1, a2, a3⟩ := Cond.arrayClass_spec (hts _ k_ac_int)
  obtain ⟨c1, k1, p1, b1, b2, b3⟩ := Cond.arrayClass_spec (hts _ k_ac_long)
  obtain ⟨c2, r2, r2'⟩ := ao_ra (hao R_Row (by simp [nwA]))
  obtain ⟨c3, r3, r3'⟩ := ao_ra (hao R_Cipher (by simp [nwA]))
  obtain ⟨c4, r4, r4'⟩ := ao_ra (hao R_Way (by simp [nwA]))
  refine ⟨(fun c => (D c).1, fun c => (D c).2), fun t => match t with | 0 => c0 | 1 => c1 | 2 => c2 | 3 => c3 | _ => c4, fun c r hr => hD c r hr, fun k q hk => ?_⟩
  match k, hk with
  | 0, hk => cases hk; exact ⟨fun n z => ⟨fun k h => (by cases h), k0, a2, p0, a3⟩, a1⟩
  | 1, hk => cases hk; exact ⟨fun n z => ⟨fun k h => (by cases h), k1, b2, p1, b3⟩, b1⟩
  | 2, hk => cases hk; exact ⟨r2, r2'⟩
  | 3, hk => cases hk; exact ⟨r3, r3'⟩
  | 4, hk => cases hk; exact ⟨r4, r4'⟩
theorem tbl_i {w : Cond} (i : Nat) (h : tables_1[i]? = some w) : w ∈ lw_tbl := List.mem_append_right _ (List.mem_of_getElem? h)
theorem nz_of {s : State} {A : Array Value} (hts : ∀ w ∈ lw_tbl, w.before A s = true) : nzw s := by
  refine ⟨fun q hq => ?_, fun q hq => ?_, fun q hq => ?_⟩
  · simp only [nwM, List.mem_cons, List.not_mem_nil, or_false] at hq
    rcases hq with rfl | rfl | rfl | rfl | rfl | rfl | rfl | rfl
    · exact va_Nw.of rfl (hts _ (tbl_i 65 (by decide +kernel)))
    · exact va_Nw.of rfl (hts _ (tbl_i 104 (by decide +kernel)))
    · exact va_Nw.of rfl (hts _ (tbl_i 148 (by decide +kernel)))
    · exact va_Nw.of rfl (hts _ (tbl_i 168 (by decide +kernel)))
    · exact va_Nw.of rfl (hts _ (tbl_i 196 (by decide +kernel)))
    · exact va_Nw.of rfl (hts _ (tbl_i 206 (by decide +kernel)))
    · exact va_Nw.of rfl (hts _ (tbl_i 215 (by decide +kernel)))
    · exact va_Nw.of rfl (hts _ (tbl_i 543 (by decide +kernel)))
  · simp only [nwD, List.mem_cons, List.not_mem_nil, or_false] at hq
    rcases hq with rfl | rfl | rfl | rfl
    · exact va_Nw.of rfl (hts _ (tbl_i 501 (by decide +kernel)))
    · exact va_Nw.of rfl (hts _ (tbl_i 514 (by decide +kernel)))
    · exact va_Nw.of rfl (hts _ (tbl_i 581 (by decide +kernel)))
    · exact va_Nw.of rfl (hts _ (tbl_i 595 (by decide +kernel)))
  · simp only [nwA, List.mem_cons, List.not_mem_nil, or_false] at hq
    rcases hq with rfl | rfl | rfl
    · exact va_AO.of (hts _ (tbl_i 147 (by decide +kernel)))
    · exact va_AO.of (hts _ (tbl_i 160 (by decide +kernel)))
    · exact va_AO.of (hts _ (tbl_i 162 (by decide +kernel)))
theorem cst_of {s : State} {A : Array Value} (hts : ∀ w ∈ lw_tbl, w.before A s = true) : cst s := ⟨va_Nw.of rfl (hts _ (tbl_i 863 (by decide +kernel))), va_Nw.of rfl (hts _ (tbl_i 865 (by decide +kernel))), va_Nw.of rfl (hts _ (tbl_i 864 (by decide +kernel)))⟩
/-! what stays while the cells that were there stay -/
section MV
variable {A A' : Array Value} {s V : State}
theorem ls_at {o n d : String} (hW : s.WarmedH V.vm) (hq : ∀ q : Nat, q < s.heap.size → V.heap[q]? = s.heap[q]?) (h : (Cond.laysStatic o n d).before A s = true) : (Cond.laysStatic o n d).before A' V = true := by
  have h1 : (Cond.laysStatic o n d).before A (s.setVm V.vm) = true := Cond.holds_shifted (State.Shifted.of_warmed hW) _ [] rfl h
  obtain ⟨c, k, i, f, a, cell, g1, g2, g3, g4, g5, g6, g7, g8, g9⟩ := Cond.laysStatic_spec h1
  have g5' : s.heap[a]? = some cell := g5
  have e5 : V.heap[a]? = some cell := (hq a (Array.getElem?_eq_some_iff.mp g5').1).trans g5'
  have e1 : V.vm.findClass o = some c := g1
  have e2 : V.fieldFound? o n d = some (c, k, i, f) := g2
  unfold Cond.before Cond.holds
  simp [Cond.value, e1, e2, g3, g4, e5, g6, g7, g8, g9]
theorem ir_at {o n d : String} (hW : s.WarmedH V.vm) (hq : ∀ q : Nat, q < s.heap.size → V.heap[q]? = s.heap[q]?) (h : (Cond.isRef (.static o n d)).before A s = true) : (Cond.isRef (.static o n d)).before A' V = true := by
  have h1 : (Cond.isRef (.static o n d)).before A (s.setVm V.vm) = true := Cond.holds_shifted (State.Shifted.of_warmed hW) _ [] rfl h
  have e : V.fieldNamed? o n d true = (s.setVm V.vm).fieldNamed? o n d true := rfl
  unfold Cond.before Cond.holds at h1 ⊢
  simp only [Cond.value, Term.eval] at h1 ⊢
  rw [e]
  cases hf : (s.setVm V.vm).fieldNamed? o n d true with
  | none => simp [hf] at h1
  | some x =>
    obtain ⟨c, k, slot⟩ := x
    cases hs : k.statics with
    | none => simp [hf, hs] at h1
    | some a =>
      cases hh : s.heap[a]? with
      | none => simp [hf, hs, hh] at h1
      | some cell =>
        have e5 : V.heap[a]? = some cell := (hq a (Array.getElem?_eq_some_iff.mp hh).1).trans hh
        simp [hf, hs, hh] at h1
        simp [hs, e5]
        exact h1
theorem nc_at {a b : String} (hW : s.WarmedH V.vm) (h : (Cond.not (.castable a b)).before A s = true) : (Cond.not (.castable a b)).before A' V = true := by
  have h1 := Cond.castAtom_setVm hW.alike (.not (.castable a b)) rfl h
  unfold Cond.before Cond.holds at h1 ⊢
  simp only [Cond.value] at h1 ⊢
  exact h1
/-- words that move so -/
def mv (w : Cond) : Bool := (w.onTables && w.keeps) || (match w with
  | .castable _ _ => true
  | .declares _ => true
  | .laysStatic _ _ _ => true
  | .isRef (.static _ _ _) => true
  | _ => false)
theorem mv_at {w : Cond} (hm : mv w = true) (hW : s.WarmedH V.vm) (hq : ∀ q : Nat, q < s.heap.size → V.heap[q]? = s.heap[q]?) (h : w.before A s = true) : w.before A' V = true := by
  by_cases hg : (w.onTables && w.keeps) = true
  · exact word_at hW (Or.inl hg) h
  · unfold mv at hm
    rw [Bool.or_eq_true] at hm
    rcases hm with hm | hm
    · exact absurd hm hg
    · split at hm
      · exact va_Nw.use rfl (va_Nw.warmC hW (va_Nw.of rfl h))
      · exact va_Nw.use rfl (va_Nw.warmD hW (va_Nw.of rfl h))
      · exact ls_at hW hq h
      · exact ir_at hW hq h
      · cases hm
end MV
theorem XW_mv : XW.all mv = true := by decide +kernel
def XR : List Cond := [.isRef (.static "java/lang/Throwable" "UNASSIGNED_STACK" "[Ljava/lang/StackTraceElement;"), .isRef (.static "java/lang/Throwable" "SUPPRESSED_SENTINEL" "Ljava/util/List;")]
theorem XW_in : XW.all (fun w => decide (w ∈ tables_1) || decide (w ∈ XR)) = true := by decide +kernel
theorem XS_in : XS.all (fun z => decide (Cond.stringRef R_Desk z.1 z.2 ∈ tables_1)) = true := by decide +kernel
theorem ext_of {g : Gp} {s : State} {A : Array Value} (hz : gz g = s.heap.size) (hts : ∀ w ∈ lw_tbl, w.before A s = true) (hgv : (Jvm.Cond.and given_1 narrow_1).before A s = true) : ext g s := by
  have hs := flat_of_before _ hgv
  have hr : ∀ w ∈ XR, w.before A s = true := by
    intro w hw
    simp only [XR, List.mem_cons, List.not_mem_nil, or_false] at hw
    rcases hw with rfl | rfl
    · exact hs _ (by decide +kernel)
    · exact hs _ (by decide +kernel)
  have hn : ∀ z ∈ XN, (Cond.not (.castable z.1 z.2)).before A s = true := by
    intro z hz
    simp only [XN, List.mem_cons, List.not_mem_nil, or_false] at hz
    rcases hz with rfl | rfl
    · exact hs _ (by decide +kernel)
    · exact hs _ (by decide +kernel)
  have hx : ∀ z ∈ XS, (Cond.exactly (.string R_Desk z.1) "java/lang/String").before A s = true := by
    intro z hz
    simp only [XS, List.mem_cons, List.not_mem_nil, or_false] at hz
    rcases hz with rfl | rfl | rfl | rfl | rfl | rfl | rfl | rfl | rfl | rfl | rfl | rfl
    · exact hs _ (by decide +kernel)
    · exact hs _ (by decide +kernel)
    · exact hs _ (by decide +kernel)
    · exact hs _ (by decide +kernel)
    · exact hs _ (by decide +kernel)
    · exact hs _ (by decide +kernel)
    · exact hs _ (by decide +kernel)
    · exact hs _ (by decide +kernel)
    · exact hs _ (by decide +kernel)
    · exact hs _ (by decide +kernel)
    · exact hs _ (by decide +kernel)
    · exact hs _ (by decide +kernel)
  intro V hW hq
  rw [hz] at hq
  refine ⟨fun w hw args => ?_, fun z hz args => nc_at hW (hn z hz), fun z hz => ?_⟩
  · refine mv_at (A := A) (List.all_eq_true.mp XW_mv w hw) hW hq ?_
    have h1 := List.all_eq_true.mp XW_in w hw
    rw [Bool.or_eq_true, decide_eq_true_eq, decide_eq_true_eq] at h1
    rcases h1 with h1 | h1
    · exact hts w (List.mem_append_right _ h1)
    · exact hr w h1
  · have h1 := List.all_eq_true.mp XS_in z hz
    rw [decide_eq_true_eq] at h1
    obtain ⟨a, c, cell, k, e1, -⟩ := Cond.exactly_spec (hx z hz)
    exact ⟨a, vk_R.warm hW (vk_R.of (A := A) (hts _ (List.mem_append_right _ h1)) e1)⟩
theorem W_room {p : Program} {l : Launch} {e : Env} {R R' : Room} {s : State} {m : MethodId} {args : Array Value} {below : List Frame} {meth : Method} {c : Code} {H : Heap} {locs : List Loc} {cells slots : Nat} {Q : State → Prop} {g : JFrame} (k : W p l e R' s m args below meth c H locs cells slots Q g) (h : s.hasRoom e.platform R = true → s.hasRoom e.platform R' = true) : W p l e R s m args below meth c H locs cells slots Q g :=
  fun T hT XX => k T hT { XX with room := h XX.room }
theorem room_L {s : State} {pl : Platform} (h : s.hasRoom pl room_1 = true) : s.hasRoom pl (rmo 10 mcL) = true := by
  unfold State.hasRoom at h ⊢
  simp only [Bool.and_eq_true, decide_eq_true_eq] at h ⊢
  obtain ⟨⟨⟨⟨h1, h2, h3, h4, h5, h6⟩, h7⟩, h8⟩, h9⟩ := h
  have e1 : room_1.locals = 366 := rfl
  have e2 : (rmo 10 mcL).locals = 360 := rfl
  rw [e1] at h1 h4 h5
  rw [e2]
  exact ⟨⟨⟨⟨by omega, h2, h3, by omega, by omega, h6⟩, h7⟩, h8⟩, h9⟩
theorem whole_go {p : Program} {e : Env} {s : State} {m : MethodId} {below : List Frame} {meth : Method} {c : Code} (l : Launch) {b L : Nat} {xs : Nat → Int32} (hL : L ≤ 3072) (hno : ∀ e : Env, l.admits e → e.platform.stackTraces = false) (h1 : p.tables.exec = Jvm.exec) (h2 : c.code = code) (h3 : meth.sig.returnType = ret) (h4 : c.maxLocals = 7) (h5 : s.vm.findClass R_Law = some m.cls) (hts : ∀ w ∈ lw_tbl, w.before #[Value.ref b] s = true) (hX : va_X b L xs s s.heap) (hbl : b < s.heap.size) (hlk : meth.locks = false) (hgv : (Jvm.Cond.and given_1 narrow_1).before #[Value.ref b] s = true) (hnm : meth.name = x.name) :
    ∃ (g : Gp) (f : Fm), fB f = below ∧ fS f = s ∧ gz g = s.heap.size ∧ W p l e room_1 s m #[Value.ref b] below meth c s.heap [] 0 0 (XQ g f mcL PL) (entryFrame m ([Value.ref b] : List Value).toArray 7) := by
  have htb : ∀ w ∈ tb, w.before #[Value.ref b] s = true := fun w hw => hts w (List.mem_filter.mp hw).1
  have hz := nz_of hts
  obtain ⟨D, cA, hK⟩ := K_of htb hz.2.2
  have C : Cx ((l, D, cA, s.heap.size) : Gp) ((p, e, rmo 10 mcL, s, m, #[Value.ref b], below, meth, c, none) : Fm) M_law 10 mcL := ⟨h1, h2, h3, htb, h5, h4, hlk, hK, hz, hnm, rfl, Nat.le_refl _⟩
  have hl := lin_lx (av := [Value.ref b]) (n := 7) rfl (lv_entry [Value.ref b] (by rw [lg_one _ rfl]; exact Nat.le_of_ble_eq_true rfl))
  refine ⟨(l, D, cA, s.heap.size), (p, e, rmo 10 mcL, s, m, #[Value.ref b], below, meth, c, none), rfl, rfl, rfl, ?_⟩
  refine W_room (R' := rmo 10 mcL) ?_ room_L
  rw [lg_entry_eq]
  exact law_begin C hno (ext_of rfl hts hgv) (cst_of hts) hX hbl hL s.heap [] _ ⟨fun k x h => (by cases h), Nat.le_refl _, fun _ => rfl⟩ va_S.rf hl
