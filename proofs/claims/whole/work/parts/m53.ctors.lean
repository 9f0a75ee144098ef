/-! What makes cells; the constructors. -/
section XN
variable {g : Gp} {f : Fm} {md : MD} {fr : Nat} {mc : Nat × Nat} {Post : Outcome → Hp → Prop} {n : Nat × Nat} {pc : Nat} {L : List (Option Value)} {st : List Value} {Q Xs : Hp} {m k : Nat}
theorem ql (hQ : Q.length = m) : (Q ++ Xs)[m + k]? = Xs[k]? := by
  rw [List.getElem?_append_right (by omega), hQ, Nat.add_sub_cancel_left]
theorem qg {e : va_E} (hQ : Q.length = m) (h : Xs[k]? = some e) : (Q ++ Xs)[m + k]? = some e := (ql hQ).trans h
theorem qs {e : va_E} (hQ : Q.length = m) : (Q ++ Xs).set (m + k) e = Q ++ Xs.set k e := by
  rw [List.set_append_right _ _ (by omega), hQ, Nat.add_sub_cancel_left]
theorem qlen (hQ : Q.length = m) (hk : Xs.length = k) : (Q ++ Xs).length = m + k := by rw [List.length_append, hQ, hk]
theorem x_newQ {ci idx : Nat} {fs : List Value} (C : Cx g f md fr mc) (d : decode md.2.1 pc = .ok (.new idx, 3)) (hQ : Q.length = m) (hk : Xs.length = k) (hc : Nat.blt ci Cls.length = true) (hw : Cond.classLink md.1.cls idx (Tc ci).1 ∈ tb) (hi : Cond.instantiable (Tc ci).1 (Tc ci).2.2 ∈ tb) (hn : Cond.initialized (Tc ci).1 ∈ tb) (hfs : ∀ j, j < (Tc ci).2.2 → defaultValue (Tc_ty ci j) = vp_V fs j) (hlt : m + k < 60) (hm : n.1 + 1 ≤ mc.1 ∧ n.2 + (Tc ci).2.2 ≤ mc.2)
    (kk : X g f md mc Post (n.1 + 1, n.2 + (Tc ci).2.2) (pc + 3) L (.ref (zA (gz g) (m + k)) :: st) (Q ++ (Xs ++ [.inr (ci, fs)]))) : X g f md mc Post n pc L st (Q ++ Xs) := by
  have hl := qlen hQ hk
  refine x_new C d hc hw hi hn hfs (by rw [hl]; exact hlt) hm ?_
  rw [hl, List.append_assoc]
  exact kk
theorem x_newiQ {N : Nat} (C : Cx g f md fr mc) (d : decode md.2.1 pc = .ok (.newarray .int, 2)) (hQ : Q.length = m) (hk : Xs.length = k) (hN : N < 2 ^ 20) (hlt : m + k < 60) (hm : n.1 + 1 ≤ mc.1 ∧ n.2 + N ≤ mc.2) (kk : X g f md mc Post (n.1 + 1, n.2 + N) (pc + 2) L (.ref (zA (gz g) (m + k)) :: st) (Q ++ (Xs ++ [ia g (List.replicate N 0)]))) : X g f md mc Post n pc L (.int (nI N) :: st) (Q ++ Xs) := by
  have hl := qlen hQ hk
  refine x_newi C d hN (by rw [hl]; exact hlt) hm ?_
  rw [hl, List.append_assoc]
  exact kk
theorem x_anew {t N idx : Nat} {cn : String} {A : List (Option Nat)} {h : Hp} (C : Cx g f md fr mc) (d : decode md.2.1 pc = .ok (.anewarray idx, 3)) (hw : Cond.classLink md.1.cls idx cn ∈ tb) (ho : cn ∈ nwA) (ht : (gT g)[t]? = some (gC g t, .object cn)) (hA : A = List.replicate N none) (hN : N < 2 ^ 20) (hlt : h.length < 60) (hm : n.1 + 1 ≤ mc.1 ∧ n.2 + N ≤ mc.2) (kk : X g f md mc Post (n.1 + 1, n.2 + N) (pc + 3) L (.ref (zA (gz g) h.length) :: st) (h ++ [ra g t A])) : X g f md mc Post n pc L (.int (nI N) :: st) h := by
  intro H locs ls hR hS hl
  have hcl : (nI N).toNatClampNeg = N := nI_clamp (by omega)
  refine W.anew C.exec C.code C.own (C.ts _ hw) (va_AO.use (C.nw.2.2 _ ho)) rfl d rfl (nI_pos (by omega)) (by rw [hcl]; omega) (by rw [C.room]; exact hm.1) (by rw [C.room, hcl]; exact hm.2) fun cA kA comp f1 f2 f3 f4 => ?_
  obtain ⟨kA', comp', k1, k2, k3, k4⟩ := (C.K.2 t _ ht).2
  have hcA : cA = gC g t := Option.some.inj (f1.symm.trans k4)
  subst hcA
  rw [hcl]
  generalize hH1 : H.push ({ cls := gC g t, slots := Array.replicate N .null, vm := .none } : Cell) = H1
  have z1 : H1.size = H.size + 1 := by rw [← hH1, Array.size_push]
  have e1 : H1[H.size]? = some (arrV (gC g t) N (fun _ => .null)) := by rw [← hH1, Array.getElem?_push_size, ← arrV_new]
  have o1 : ∀ q : Nat, q < H.size → H1[q]? = H[q]? := fun q hq => by rw [← hH1, Array.getElem?_push, if_neg (Nat.ne_of_lt hq)]
  have hz := hR.2.2 hlt
  have := kk H1 locs ls (Rl.push hlt hR (by
    show H1[zA (gz g) h.length]? = some (vp_cell (gC g t) (A.length, .inr (.inr (.inr (.inr (fun k => A.getD k none))))))
    rw [show zA (gz g) h.length = H.size from hz.symm, e1, vp_cell_q, hA, List.length_replicate]
    congr 2
    funext q
    rw [List.getD_eq_getElem?_getD, List.getElem?_replicate]
    split <;> rfl) z1 o1) (hS.grow z1 o1) hl
  rw [show zA (gz g) h.length = H.size from hz.symm] at this
  exact this
theorem x_anewQ {t N idx : Nat} {cn : String} {A : List (Option Nat)} (C : Cx g f md fr mc) (d : decode md.2.1 pc = .ok (.anewarray idx, 3)) (hQ : Q.length = m) (hk : Xs.length = k) (hw : Cond.classLink md.1.cls idx cn ∈ tb) (ho : cn ∈ nwA) (ht : (gT g)[t]? = some (gC g t, .object cn)) (hA : A = List.replicate N none) (hN : N < 2 ^ 20) (hlt : m + k < 60) (hm : n.1 + 1 ≤ mc.1 ∧ n.2 + N ≤ mc.2) (kk : X g f md mc Post (n.1 + 1, n.2 + N) (pc + 3) L (.ref (zA (gz g) (m + k)) :: st) (Q ++ (Xs ++ [ra g t A]))) : X g f md mc Post n pc L (.int (nI N) :: st) (Q ++ Xs) := by
  have hl := qlen hQ hk
  refine x_anew C d hw ho ht hA hN (by rw [hl]; exact hlt) hm ?_
  rw [hl, List.append_assoc]
  exact kk
theorem x_aastC {a i t v ci : Nat} {r : vw_C} {E : String} {vs : List Value} {A : List (Option Nat)} {h : Hp} (C : Cx g f md fr mc) (d : decode md.2.1 pc = .ok (.aastore, 1)) (ha : h[a]? = some (ra g t A)) (ht : (gT g)[t]? = some (gC g t, .object E)) (hca : va_Nw (.castable r.1 E) (fS f)) (hv : h[v]? = some (.inr (ci, vs))) (hc : Cls[ci]? = some r) (hi : i < A.length ∧ A.length < 2 ^ 31) (k : X g f md mc Post n (pc + 1) L st (h.set a (ra g t (A.set i (some (zA (gz g) v)))))) : X g f md mc Post n pc L (.ref (zA (gz g) v) :: .int (nI i) :: .ref (zA (gz g) a) :: st) h := by
  intro H locs ls hR hS hl
  obtain ⟨r', hr', cellV, g1, g2, g3, -⟩ := hR.1 v _ (wl_get hv)
  have hcls := (C.K.1 ci r hc).2
  obtain ⟨kA, comp, k1, k2, k3, -⟩ := (C.K.2 t _ ht).2
  obtain ⟨kE, hkE, -⟩ := Vm.findClass_spec k3
  obtain ⟨c0, t1, f1, f2, f3⟩ := Cond.castable_spec (va_Nw.use (A := fA f) rfl hca)
  cases hcls.1.symm.trans f1
  cases k3.symm.trans f2
  obtain ⟨kC, hkC, -⟩ := hcls.2
  refine W.aast C.exec C.code (hR.1 a _ (wl_get ha)) (fun q h => by cases h) (fun h => by cases h) k1 k2 rfl hkE ⟨nI_pos (Nat.lt_trans hi.1 hi.2), by show _ < (arrV _ _ _).slots.size; rw [arrV_size, nI_clamp (Nat.lt_trans hi.1 hi.2)]; exact hi.1⟩ g1 (fun q h => by rw [g3] at h; cases h) (by rw [g2]; exact hkC) (by rw [g2]; exact f3) rfl rfl d fun H1 e z oq => ?_
  refine k H1 _ ls (hR.put ha ?_ z oq) (hS.put z oq (zA_zle g a)) hl
  show H1[zA (gz g) a]? = some (vp_cell (gC g t) ((A.set i (some (zA (gz g) v))).length, .inr (.inr (.inr (.inr (fun k => (A.set i (some (zA (gz g) v))).getD k none))))))
  rw [e, List.length_set, vp_cell_q, vp_cell_q, arrV_store, nI_clamp (Nat.lt_trans hi.1 hi.2)]
  congr 2
  funext q
  rw [List.getD_eq_getElem?_getD, List.getElem?_set]
  by_cases hq : i = q
  · subst hq
    simp [updV, va_rf, hi.1]
  · simp [updV, hq, Ne.symm hq]
variable {M : MD} {fr2 na idx : Nat} {mc2 : Nat × Nat} {As rest : List Value} {h h2 : Hp}
theorem x_cI0 {a : Nat} (C : Cx g f md fr mc) (d : decode md.2.1 pc = .ok (.invokespecial idx, 3)) (hw : Cond.methodLink md.1.cls idx M.1 ∈ tb) (hm : mI M na) (hc : Con g M fr2 mc2 (.ref a :: As) h (Ret none h2)) (hst : st = As.reverse ++ .ref a :: rest) (hlen : As.length = na) (hcat : Nat.ble (rest.map fun v => v.category).sum 8 = true) (hfr : rmK fr2 fr M.2.2.1 = true) (hmc : n.1 + mc2.1 ≤ mc.1 ∧ n.2 + mc2.2 ≤ mc.2)
    (k : X g f md mc Post (n.1 + mc2.1, n.2 + mc2.2) (pc + 3) L rest h2) : X g f md mc Post n pc L st h :=
  x_callI C d hw hm hc hst hlen hcat hfr hmc (fun o h3 hp => ⟨none, hp.1, by rw [hp.2]; exact k⟩)
theorem x_cIN0 {a : Nat} {host : String} (C : Cx g f md fr mc) (d : decode md.2.1 pc = .ok (.invokespecial idx, 3)) (hw : (md.1.cls, idx, M.1, host) ∈ nwM) (hm : mI M na) (hc : Con g M fr2 mc2 (.ref a :: As) h (Ret none h2)) (hst : st = As.reverse ++ .ref a :: rest) (hlen : As.length = na) (hcat : Nat.ble (rest.map fun v => v.category).sum 8 = true) (hfr : rmK fr2 fr M.2.2.1 = true) (hmc : n.1 + mc2.1 ≤ mc.1 ∧ n.2 + mc2.2 ≤ mc.2)
    (k : X g f md mc Post (n.1 + mc2.1, n.2 + mc2.2) (pc + 3) L rest h2) : X g f md mc Post n pc L st h :=
  x_callIN C d hw hm hc hst hlen hcat hfr hmc (fun o h3 hp => ⟨none, hp.1, by rw [hp.2]; exact k⟩)
end XN

theorem c_Way_init {g : Gp} {h : Hp} {a : Nat} : Con g M_Way_init 1 (0, 0) [.ref (zA (gz g) a)] h (Ret none h) := by
  refine Con.of (by decide) rfl rfl (L := [some (.ref (zA (gz g) a))]) rfl (fun f C => ?_)
  refine x_aload_n (pc := 0) C (dq D_Way_init 0 rfl) rfl ?_
  refine x_objInit (pc := 1) C (dq D_Way_init 1 rfl) k_ml_Way_1 rfl rfl ?_
  exact x_vret (pc := 4) C (dq D_Way_init 2 rfl) rfl (by decide) ⟨rfl, rfl⟩
theorem c_Row_init {g : Gp} {Q : Hp} {m : Nat} {h h' : Hp} (hQ : Q.length = m) (h60 : m + 2 < 60) (he : h = Q ++ [.inr (7, [.null, .int (nI 0)])]) (he' : h' = Q ++ [rwc g (m + 1) 0, ia g (List.replicate 88 0)]) : Con g M_Row_init 1 (1, 88) [.ref (zA (gz g) (m + 0))] h (Ret none h') := by
  subst he
  subst he'
  refine Con.of (by decide) rfl rfl (L := [some (.ref (zA (gz g) (m + 0)))]) rfl (fun f C => ?_)
  refine x_aload_n (pc := 0) C (dq D_Row_init 0 rfl) rfl ?_
  refine x_objInit (pc := 1) C (dq D_Row_init 1 rfl) k_ml_Row_3 rfl rfl ?_
  refine x_aload_n (pc := 4) C (dq D_Row_init 2 rfl) rfl ?_
  refine x_bipush (pc := 5) C (dq D_Row_init 3 rfl) cb_88 ?_
  refine x_newiQ (pc := 7) (k := 1) C (dq D_Row_init 4 rfl) hQ rfl (by decide) (by omega) (by decide) ?_
  simp only [List.cons_append, List.nil_append]
  refine x_put (pc := 9) (ci := 7) (j := 0) (ty := .array .int) C (dq D_Row_init 5 rfl) rfl rfl (qg hQ rfl) rfl k_fl_Row_9 (Or.inr ⟨rfl, rfl, rfl⟩) (by decide +kernel) rfl rfl ?_
  simp only [List.set_cons_zero, List.set_cons_succ]
  rw [qs hQ]
  simp only [List.set_cons_zero, List.set_cons_succ]
  refine x_aload_n (pc := 12) C (dq D_Row_init 6 rfl) rfl ?_
  refine x_iconst (pc := 13) C (dq D_Row_init 7 rfl) ci_0 ?_
  refine x_put (pc := 14) (ci := 7) (j := 1) (ty := .int) C (dq D_Row_init 8 rfl) rfl rfl (qg hQ rfl) rfl k_fl_Row_15 (Or.inl rfl) (by decide +kernel) rfl rfl ?_
  simp only [List.set_cons_zero, List.set_cons_succ]
  rw [qs hQ]
  simp only [List.set_cons_zero, List.set_cons_succ]
  exact x_vret (pc := 17) C (dq D_Row_init 9 rfl) rfl (by decide) ⟨rfl, rfl⟩
theorem c_Wrapping_init {g : Gp} {Q : Hp} {m : Nat} {h h' : Hp} {c : Nat} (hQ : Q.length = m) (h60 : m + 2 < 60) (he : h = Q ++ [.inr (10, [.null, .null])]) (he' : h' = Q ++ [wrc g c (m + 1), ia g (List.replicate 16 0)]) : Con g M_Wrapping_init 1 (1, 16) [.ref (zA (gz g) (m + 0)), .ref (zA (gz g) c)] h (Ret none h') := by
  subst he
  subst he'
  refine Con.of (by decide) rfl rfl (L := [some (.ref (zA (gz g) (m + 0))), some (.ref (zA (gz g) c))]) rfl (fun f C => ?_)
  refine x_aload_n (pc := 0) C (dq D_Wrapping_init 0 rfl) rfl ?_
  refine x_objInit (pc := 1) C (dq D_Wrapping_init 1 rfl) k_ml_Wrapping_3 rfl rfl ?_
  refine x_aload_n (pc := 4) C (dq D_Wrapping_init 2 rfl) rfl ?_
  refine x_bipush (pc := 5) C (dq D_Wrapping_init 3 rfl) cb_16 ?_
  refine x_newiQ (pc := 7) (k := 1) C (dq D_Wrapping_init 4 rfl) hQ rfl (by decide) (by omega) (by decide) ?_
  simp only [List.cons_append, List.nil_append]
  refine x_put (pc := 9) (ci := 10) (j := 1) (ty := .array .int) C (dq D_Wrapping_init 5 rfl) rfl rfl (qg hQ rfl) rfl k_fl_Wrapping_9 (Or.inr ⟨rfl, rfl, rfl⟩) (by decide +kernel) rfl rfl ?_
  simp only [List.set_cons_zero, List.set_cons_succ]
  rw [qs hQ]
  simp only [List.set_cons_zero, List.set_cons_succ]
  refine x_aload_n (pc := 12) C (dq D_Wrapping_init 6 rfl) rfl ?_
  refine x_aload_n (pc := 13) C (dq D_Wrapping_init 7 rfl) rfl ?_
  refine x_put (pc := 14) (ci := 10) (j := 0) (ty := .object "SealingDesk$Cipher") C (dq D_Wrapping_init 8 rfl) rfl rfl (qg hQ rfl) rfl k_fl_Wrapping_15 (Or.inr ⟨rfl, rfl, rfl⟩) (by decide +kernel) rfl rfl ?_
  simp only [List.set_cons_zero, List.set_cons_succ]
  rw [qs hQ]
  simp only [List.set_cons_zero, List.set_cons_succ]
  exact x_vret (pc := 17) C (dq D_Wrapping_init 9 rfl) rfl (by decide) ⟨rfl, rfl⟩
theorem c_Marker_init {g : Gp} {Q : Hp} {m : Nat} {h h' : Hp} {c : Nat} (hQ : Q.length = m) (h60 : m + 5 < 60) (he : h = Q ++ [.inr (5, [.null, .null, .null, .null])]) (he' : h' = Q ++ [mkc g c (m + 1) (m + 2) (m + 3), ia g (List.replicate 16 0), ia g (List.replicate 16 0), rwc g (m + 4) 0, ia g (List.replicate 88 0)]) : Con g M_Marker_init 2 (4, 122) [.ref (zA (gz g) (m + 0)), .ref (zA (gz g) c)] h (Ret none h') := by
  subst he
  subst he'
  refine Con.of (by decide) rfl rfl (L := [some (.ref (zA (gz g) (m + 0))), some (.ref (zA (gz g) c))]) rfl (fun f C => ?_)
  refine x_aload_n (pc := 0) C (dq D_Marker_init 0 rfl) rfl ?_
  refine x_objInit (pc := 1) C (dq D_Marker_init 1 rfl) k_ml_Marker_3 rfl rfl ?_
  refine x_aload_n (pc := 4) C (dq D_Marker_init 2 rfl) rfl ?_
  refine x_bipush (pc := 5) C (dq D_Marker_init 3 rfl) cb_16 ?_
  refine x_newiQ (pc := 7) (k := 1) C (dq D_Marker_init 4 rfl) hQ rfl (by decide) (by omega) (by decide) ?_
  simp only [List.cons_append, List.nil_append]
  refine x_put (pc := 9) (ci := 5) (j := 1) (ty := .array .int) C (dq D_Marker_init 5 rfl) rfl rfl (qg hQ rfl) rfl k_fl_Marker_9 (Or.inr ⟨rfl, rfl, rfl⟩) (by decide +kernel) rfl rfl ?_
  simp only [List.set_cons_zero, List.set_cons_succ]
  rw [qs hQ]
  simp only [List.set_cons_zero, List.set_cons_succ]
  refine x_aload_n (pc := 12) C (dq D_Marker_init 6 rfl) rfl ?_
  refine x_bipush (pc := 13) C (dq D_Marker_init 7 rfl) cb_16 ?_
  refine x_newiQ (pc := 15) (k := 2) C (dq D_Marker_init 8 rfl) hQ rfl (by decide) (by omega) (by decide) ?_
  simp only [List.cons_append, List.nil_append]
  refine x_put (pc := 17) (ci := 5) (j := 2) (ty := .array .int) C (dq D_Marker_init 9 rfl) rfl rfl (qg hQ rfl) rfl k_fl_Marker_15 (Or.inr ⟨rfl, rfl, rfl⟩) (by decide +kernel) rfl rfl ?_
  simp only [List.set_cons_zero, List.set_cons_succ]
  rw [qs hQ]
  simp only [List.set_cons_zero, List.set_cons_succ]
  refine x_aload_n (pc := 20) C (dq D_Marker_init 10 rfl) rfl ?_
  refine x_newQ (pc := 21) (ci := 7) (k := 3) (fs := [.null, .int (nI 0)]) C (dq D_Marker_init 11 rfl) hQ rfl rfl k_cl_Marker_18 k_it_Row k_in_Row (fun j hj => match j, hj with | 0, _ => rfl | 1, _ => rfl | j + 2, hj => absurd hj (by show ¬ (j + 2 < 2); omega)) (by omega) (by decide) ?_
  simp only [List.cons_append, List.nil_append]
  refine x_dup (pc := 24) C (dq D_Marker_init 12 rfl) rfl ?_
  refine x_cIN0 (pc := 25) (M := M_Row_init) C (dq D_Marker_init 13 rfl) q_ml_Marker_20 m_Row_init (c_Row_init (Q := Q ++ [.inr (5, [.null, .ref (zA (gz g) (m + 1)), .ref (zA (gz g) (m + 2)), .null]), ia g (List.replicate 16 0), ia g (List.replicate 16 0)]) (m := m + 3) (h' := Q ++ [.inr (5, [.null, .ref (zA (gz g) (m + 1)), .ref (zA (gz g) (m + 2)), .null]), ia g (List.replicate 16 0), ia g (List.replicate 16 0), rwc g (m + 4) 0, ia g (List.replicate 88 0)]) (qlen hQ rfl) (by omega) (by rw [List.append_assoc]; rfl) (by rw [List.append_assoc]; rfl)) rfl rfl rfl (by decide) (by decide) ?_
  refine x_put (pc := 28) (ci := 5) (j := 3) (ty := .object "SealingDesk$Row") C (dq D_Marker_init 14 rfl) rfl rfl (qg hQ rfl) rfl k_fl_Marker_21 (Or.inr ⟨rfl, rfl, rfl⟩) (by decide +kernel) rfl rfl ?_
  simp only [List.set_cons_zero, List.set_cons_succ]
  rw [qs hQ]
  simp only [List.set_cons_zero, List.set_cons_succ]
  refine x_aload_n (pc := 31) C (dq D_Marker_init 15 rfl) rfl ?_
  refine x_aload_n (pc := 32) C (dq D_Marker_init 16 rfl) rfl ?_
  refine x_put (pc := 33) (ci := 5) (j := 0) (ty := .object "SealingDesk$Cipher") C (dq D_Marker_init 17 rfl) rfl rfl (qg hQ rfl) rfl k_fl_Marker_25 (Or.inr ⟨rfl, rfl, rfl⟩) (by decide +kernel) rfl rfl ?_
  simp only [List.set_cons_zero, List.set_cons_succ]
  rw [qs hQ]
  simp only [List.set_cons_zero, List.set_cons_succ]
  exact x_vret (pc := 36) C (dq D_Marker_init 18 rfl) rfl (by decide) ⟨rfl, rfl⟩
theorem c_Marked_init {g : Gp} {Q : Hp} {m : Nat} {h h' : Hp} {k i c : Nat} (hQ : Q.length = m) (h60 : m + 4 < 60) (he : h = Q ++ [.inr (4, [.null, .null, .null, .null, .null, .null])]) (he' : h' = Q ++ [.inr (4, [.ref (zA (gz g) k), .ref (zA (gz g) i), .ref (zA (gz g) c), .ref (zA (gz g) (m + 1)), .ref (zA (gz g) (m + 2)), .ref (zA (gz g) (m + 3))]), ia g (List.replicate 16 0), ia g (List.replicate 16 0), ia g (List.replicate 16 0)]) : Con g M_Marked_init 2 (3, 48) [.ref (zA (gz g) (m + 0)), .ref (zA (gz g) k), .ref (zA (gz g) i), .ref (zA (gz g) c)] h (Ret none h') := by
  subst he
  subst he'
  refine Con.of (by decide) rfl rfl (L := [some (.ref (zA (gz g) (m + 0))), some (.ref (zA (gz g) k)), some (.ref (zA (gz g) i)), some (.ref (zA (gz g) c))]) rfl (fun f C => ?_)
  refine x_aload_n (pc := 0) C (dq D_Marked_init 0 rfl) rfl ?_
  refine x_cIN0 (pc := 1) (M := M_Way_init) C (dq D_Marked_init 1 rfl) q_ml_Marked_3 m_Way_init (c_Way_init) rfl rfl rfl (by decide) (by decide) ?_
  refine x_aload_n (pc := 4) C (dq D_Marked_init 2 rfl) rfl ?_
  refine x_bipush (pc := 5) C (dq D_Marked_init 3 rfl) cb_16 ?_
  refine x_newiQ (pc := 7) (k := 1) C (dq D_Marked_init 4 rfl) hQ rfl (by decide) (by omega) (by decide) ?_
  simp only [List.cons_append, List.nil_append]
  refine x_put (pc := 9) (ci := 4) (j := 3) (ty := .array .int) C (dq D_Marked_init 5 rfl) rfl rfl (qg hQ rfl) rfl k_fl_Marked_9 (Or.inr ⟨rfl, rfl, rfl⟩) (by decide +kernel) rfl rfl ?_
  simp only [List.set_cons_zero, List.set_cons_succ]
  rw [qs hQ]
  simp only [List.set_cons_zero, List.set_cons_succ]
  refine x_aload_n (pc := 12) C (dq D_Marked_init 6 rfl) rfl ?_
  refine x_bipush (pc := 13) C (dq D_Marked_init 7 rfl) cb_16 ?_
  refine x_newiQ (pc := 15) (k := 2) C (dq D_Marked_init 8 rfl) hQ rfl (by decide) (by omega) (by decide) ?_
  simp only [List.cons_append, List.nil_append]
  refine x_put (pc := 17) (ci := 4) (j := 4) (ty := .array .int) C (dq D_Marked_init 9 rfl) rfl rfl (qg hQ rfl) rfl k_fl_Marked_15 (Or.inr ⟨rfl, rfl, rfl⟩) (by decide +kernel) rfl rfl ?_
  simp only [List.set_cons_zero, List.set_cons_succ]
  rw [qs hQ]
  simp only [List.set_cons_zero, List.set_cons_succ]
  refine x_aload_n (pc := 20) C (dq D_Marked_init 10 rfl) rfl ?_
  refine x_bipush (pc := 21) C (dq D_Marked_init 11 rfl) cb_16 ?_
  refine x_newiQ (pc := 23) (k := 3) C (dq D_Marked_init 12 rfl) hQ rfl (by decide) (by omega) (by decide) ?_
  simp only [List.cons_append, List.nil_append]
  refine x_put (pc := 25) (ci := 4) (j := 5) (ty := .array .int) C (dq D_Marked_init 13 rfl) rfl rfl (qg hQ rfl) rfl k_fl_Marked_18 (Or.inr ⟨rfl, rfl, rfl⟩) (by decide +kernel) rfl rfl ?_
  simp only [List.set_cons_zero, List.set_cons_succ]
  rw [qs hQ]
  simp only [List.set_cons_zero, List.set_cons_succ]
  refine x_aload_n (pc := 28) C (dq D_Marked_init 14 rfl) rfl ?_
  refine x_aload_n (pc := 29) C (dq D_Marked_init 15 rfl) rfl ?_
  refine x_put (pc := 30) (ci := 4) (j := 0) (ty := .object "SealingDesk$Marker") C (dq D_Marked_init 16 rfl) rfl rfl (qg hQ rfl) rfl k_fl_Marked_21 (Or.inr ⟨rfl, rfl, rfl⟩) (by decide +kernel) rfl rfl ?_
  simp only [List.set_cons_zero, List.set_cons_succ]
  rw [qs hQ]
  simp only [List.set_cons_zero, List.set_cons_succ]
  refine x_aload_n (pc := 33) C (dq D_Marked_init 17 rfl) rfl ?_
  refine x_aload_n (pc := 34) C (dq D_Marked_init 18 rfl) rfl ?_
  refine x_put (pc := 35) (ci := 4) (j := 1) (ty := .object "SealingDesk$Items") C (dq D_Marked_init 19 rfl) rfl rfl (qg hQ rfl) rfl k_fl_Marked_25 (Or.inr ⟨rfl, rfl, rfl⟩) (by decide +kernel) rfl rfl ?_
  simp only [List.set_cons_zero, List.set_cons_succ]
  rw [qs hQ]
  simp only [List.set_cons_zero, List.set_cons_succ]
  refine x_aload_n (pc := 38) C (dq D_Marked_init 20 rfl) rfl ?_
  refine x_aload_n (pc := 39) C (dq D_Marked_init 21 rfl) rfl ?_
  refine x_put (pc := 40) (ci := 4) (j := 2) (ty := .object "SealingDesk$Cipher") C (dq D_Marked_init 22 rfl) rfl rfl (qg hQ rfl) rfl k_fl_Marked_29 (Or.inr ⟨rfl, rfl, rfl⟩) (by decide +kernel) rfl rfl ?_
  simp only [List.set_cons_zero, List.set_cons_succ]
  rw [qs hQ]
  simp only [List.set_cons_zero, List.set_cons_succ]
  exact x_vret (pc := 43) C (dq D_Marked_init 23 rfl) rfl (by decide) ⟨rfl, rfl⟩
theorem c_Wrapped_init {g : Gp} {Q : Hp} {m : Nat} {h h' : Hp} {w : Nat} (hQ : Q.length = m) (h60 : m + 1 < 60) (he : h = Q ++ [.inr (9, [.null])]) (he' : h' = Q ++ [.inr (9, [.ref (zA (gz g) w)])]) : Con g M_Wrapped_init 2 (0, 0) [.ref (zA (gz g) (m + 0)), .ref (zA (gz g) w)] h (Ret none h') := by
  subst he
  subst he'
  refine Con.of (by decide) rfl rfl (L := [some (.ref (zA (gz g) (m + 0))), some (.ref (zA (gz g) w))]) rfl (fun f C => ?_)
  refine x_aload_n (pc := 0) C (dq D_Wrapped_init 0 rfl) rfl ?_
  refine x_cIN0 (pc := 1) (M := M_Way_init) C (dq D_Wrapped_init 1 rfl) q_ml_Wrapped_3 m_Way_init (c_Way_init) rfl rfl rfl (by decide) (by decide) ?_
  refine x_aload_n (pc := 4) C (dq D_Wrapped_init 2 rfl) rfl ?_
  refine x_aload_n (pc := 5) C (dq D_Wrapped_init 3 rfl) rfl ?_
  refine x_put (pc := 6) (ci := 9) (j := 0) (ty := .object "SealingDesk$Wrapping") C (dq D_Wrapped_init 4 rfl) rfl rfl (qg hQ rfl) rfl k_fl_Wrapped_9 (Or.inr ⟨rfl, rfl, rfl⟩) (by decide +kernel) rfl rfl ?_
  simp only [List.set_cons_zero, List.set_cons_succ]
  rw [qs hQ]
  simp only [List.set_cons_zero, List.set_cons_succ]
  exact x_vret (pc := 9) C (dq D_Wrapped_init 5 rfl) rfl (by decide) ⟨rfl, rfl⟩
theorem c_Padded_init {g : Gp} {Q : Hp} {m : Nat} {h h' : Hp} {w c : Nat} (hQ : Q.length = m) (h60 : m + 1 < 60) (he : h = Q ++ [.inr (6, [.null, .null])]) (he' : h' = Q ++ [.inr (6, [.ref (zA (gz g) w), .ref (zA (gz g) c)])]) : Con g M_Padded_init 2 (0, 0) [.ref (zA (gz g) (m + 0)), .ref (zA (gz g) w), .ref (zA (gz g) c)] h (Ret none h') := by
  subst he
  subst he'
  refine Con.of (by decide) rfl rfl (L := [some (.ref (zA (gz g) (m + 0))), some (.ref (zA (gz g) w)), some (.ref (zA (gz g) c))]) rfl (fun f C => ?_)
  refine x_aload_n (pc := 0) C (dq D_Padded_init 0 rfl) rfl ?_
  refine x_cIN0 (pc := 1) (M := M_Way_init) C (dq D_Padded_init 1 rfl) q_ml_Padded_3 m_Way_init (c_Way_init) rfl rfl rfl (by decide) (by decide) ?_
  refine x_aload_n (pc := 4) C (dq D_Padded_init 2 rfl) rfl ?_
  refine x_aload_n (pc := 5) C (dq D_Padded_init 3 rfl) rfl ?_
  refine x_put (pc := 6) (ci := 6) (j := 0) (ty := .object "SealingDesk$Wrapping") C (dq D_Padded_init 4 rfl) rfl rfl (qg hQ rfl) rfl k_fl_Padded_9 (Or.inr ⟨rfl, rfl, rfl⟩) (by decide +kernel) rfl rfl ?_
  simp only [List.set_cons_zero, List.set_cons_succ]
  rw [qs hQ]
  simp only [List.set_cons_zero, List.set_cons_succ]
  refine x_aload_n (pc := 9) C (dq D_Padded_init 5 rfl) rfl ?_
  refine x_aload_n (pc := 10) C (dq D_Padded_init 6 rfl) rfl ?_
  refine x_put (pc := 11) (ci := 6) (j := 1) (ty := .object "SealingDesk$Cipher") C (dq D_Padded_init 7 rfl) rfl rfl (qg hQ rfl) rfl k_fl_Padded_15 (Or.inr ⟨rfl, rfl, rfl⟩) (by decide +kernel) rfl rfl ?_
  simp only [List.set_cons_zero, List.set_cons_succ]
  rw [qs hQ]
  simp only [List.set_cons_zero, List.set_cons_succ]
  exact x_vret (pc := 14) C (dq D_Padded_init 8 rfl) rfl (by decide) ⟨rfl, rfl⟩
theorem c_Items_init {g : Gp} {Q : Hp} {m : Nat} {h h' : Hp} (hQ : Q.length = m) (h60 : m + 12 < 60) (he : h = Q ++ [.inr (3, [.null, .int (nI 0)])]) (he' : h' = Q ++ [.inr (3, [.ref (zA (gz g) (m + 1)), .int (nI 0)]), ra g 2 [some (zA (gz g) (m + 2)), some (zA (gz g) (m + 4)), some (zA (gz g) (m + 6)), some (zA (gz g) (m + 8)), some (zA (gz g) (m + 10))], rwc g (m + 3) 0, ia g (List.replicate 88 0), rwc g (m + 5) 0, ia g (List.replicate 88 0), rwc g (m + 7) 0, ia g (List.replicate 88 0), rwc g (m + 9) 0, ia g (List.replicate 88 0), rwc g (m + 11) 0, ia g (List.replicate 88 0)]) : Con g M_Items_init 2 (11, 455) [.ref (zA (gz g) (m + 0))] h (Ret none h') := by
  subst he
  subst he'
  refine Con.of (by decide) rfl rfl (L := [some (.ref (zA (gz g) (m + 0))), none]) rfl (fun f C => ?_)
  refine x_aload_n (pc := 0) C (dq D_Items_init 0 rfl) rfl ?_
  refine x_objInit (pc := 1) C (dq D_Items_init 1 rfl) k_ml_Items_3 rfl rfl ?_
  refine x_aload_n (pc := 4) C (dq D_Items_init 2 rfl) rfl ?_
  refine x_iconst (pc := 5) C (dq D_Items_init 3 rfl) ci_5 ?_
  refine x_anewQ (pc := 6) (k := 1) (t := 2) (A := [none, none, none, none, none]) C (dq D_Items_init 4 rfl) hQ rfl k_cl_Items_9 (by simp [nwA]) rfl rfl (by decide) (by omega) (by decide) ?_
  simp only [List.cons_append, List.nil_append]
  refine x_put (pc := 9) (ci := 3) (j := 0) (ty := .array (.object "SealingDesk$Row")) C (dq D_Items_init 5 rfl) rfl rfl (qg hQ rfl) rfl k_fl_Items_11 (Or.inr ⟨rfl, rfl, rfl⟩) (by decide +kernel) rfl rfl ?_
  simp only [List.set_cons_zero, List.set_cons_succ]
  rw [qs hQ]
  simp only [List.set_cons_zero, List.set_cons_succ]
  refine x_aload_n (pc := 12) C (dq D_Items_init 6 rfl) rfl ?_
  refine x_iconst (pc := 13) C (dq D_Items_init 7 rfl) ci_0 ?_
  refine x_put (pc := 14) (ci := 3) (j := 1) (ty := .int) C (dq D_Items_init 8 rfl) rfl rfl (qg hQ rfl) rfl k_fl_Items_17 (Or.inl rfl) (by decide +kernel) rfl rfl ?_
  simp only [List.set_cons_zero, List.set_cons_succ]
  rw [qs hQ]
  simp only [List.set_cons_zero, List.set_cons_succ]
  refine x_iconst (pc := 17) C (dq D_Items_init 9 rfl) ci_0 ?_
  refine x_istore_n (i := 1) (pc := 18) C (dq D_Items_init 10 rfl) rfl rfl rfl ?_
  simp only [List.set_cons_zero, List.set_cons_succ]
  refine x_iload_n (pc := 19) C (dq D_Items_init 11 rfl) rfl ?_
  refine x_aload_n (pc := 20) C (dq D_Items_init 12 rfl) rfl ?_
  refine x_get (pc := 21) (ci := 3) (j := 0) C (dq D_Items_init 13 rfl) rfl rfl (qg hQ rfl) rfl k_fl_Items_11 ?_
  refine x_rlenN (pc := 24) (N := 5) C (dq D_Items_init 14 rfl) (qg hQ rfl) rfl rfl ?_
  refine n_ge_f (pc := 25) (tgt := 47) C (dq D_Items_init 15 rfl) (by decide) (by omega) (by omega) ?_
  refine x_aload_n (pc := 28) C (dq D_Items_init 16 rfl) rfl ?_
  refine x_get (pc := 29) (ci := 3) (j := 0) C (dq D_Items_init 17 rfl) rfl rfl (qg hQ rfl) rfl k_fl_Items_11 ?_
  refine x_iload_n (pc := 32) C (dq D_Items_init 18 rfl) rfl ?_
  refine x_newQ (pc := 33) (ci := 7) (k := 2) (fs := [.null, .int (nI 0)]) C (dq D_Items_init 19 rfl) hQ rfl rfl k_cl_Items_9 k_it_Row k_in_Row (fun j hj => match j, hj with | 0, _ => rfl | 1, _ => rfl | j + 2, hj => absurd hj (by show ¬ (j + 2 < 2); omega)) (by omega) (by decide) ?_
  simp only [List.cons_append, List.nil_append]
  refine x_dup (pc := 36) C (dq D_Items_init 20 rfl) rfl ?_
  refine x_cIN0 (pc := 37) (M := M_Row_init) C (dq D_Items_init 21 rfl) q_ml_Items_21 m_Row_init (c_Row_init (Q := Q ++ [.inr (3, [.ref (zA (gz g) (m + 1)), .int (nI 0)]), ra g 2 [none, none, none, none, none]]) (m := m + 2) (h' := Q ++ [.inr (3, [.ref (zA (gz g) (m + 1)), .int (nI 0)]), ra g 2 [none, none, none, none, none], rwc g (m + 3) 0, ia g (List.replicate 88 0)]) (qlen hQ rfl) (by omega) (by rw [List.append_assoc]; rfl) (by rw [List.append_assoc]; rfl)) rfl rfl rfl (by decide) (by decide) ?_
  refine x_aast (pc := 40) C (dq D_Items_init 22 rfl) (qg hQ rfl) rfl (qg hQ rfl) rfl ⟨by simp, by simp⟩ ?_
  rw [qs hQ]
  simp only [List.set_cons_zero, List.set_cons_succ]
  refine x_iinc (pc := 41) C (dq D_Items_init 23 rfl) rfl (ii_1 _) rfl rfl ?_
  simp only [List.set_cons_zero, List.set_cons_succ]
  refine x_goto (pc := 44) (tgt := 19) C (dq D_Items_init 24 rfl) (by decide) ?_
  refine x_iload_n (pc := 19) C (dq D_Items_init 11 rfl) rfl ?_
  refine x_aload_n (pc := 20) C (dq D_Items_init 12 rfl) rfl ?_
  refine x_get (pc := 21) (ci := 3) (j := 0) C (dq D_Items_init 13 rfl) rfl rfl (qg hQ rfl) rfl k_fl_Items_11 ?_
  refine x_rlenN (pc := 24) (N := 5) C (dq D_Items_init 14 rfl) (qg hQ rfl) rfl rfl ?_
  refine n_ge_f (pc := 25) (tgt := 47) C (dq D_Items_init 15 rfl) (by decide) (by omega) (by omega) ?_
  refine x_aload_n (pc := 28) C (dq D_Items_init 16 rfl) rfl ?_
  refine x_get (pc := 29) (ci := 3) (j := 0) C (dq D_Items_init 17 rfl) rfl rfl (qg hQ rfl) rfl k_fl_Items_11 ?_
  refine x_iload_n (pc := 32) C (dq D_Items_init 18 rfl) rfl ?_
  refine x_newQ (pc := 33) (ci := 7) (k := 4) (fs := [.null, .int (nI 0)]) C (dq D_Items_init 19 rfl) hQ rfl rfl k_cl_Items_9 k_it_Row k_in_Row (fun j hj => match j, hj with | 0, _ => rfl | 1, _ => rfl | j + 2, hj => absurd hj (by show ¬ (j + 2 < 2); omega)) (by omega) (by decide) ?_
  simp only [List.cons_append, List.nil_append]
  refine x_dup (pc := 36) C (dq D_Items_init 20 rfl) rfl ?_
  refine x_cIN0 (pc := 37) (M := M_Row_init) C (dq D_Items_init 21 rfl) q_ml_Items_21 m_Row_init (c_Row_init (Q := Q ++ [.inr (3, [.ref (zA (gz g) (m + 1)), .int (nI 0)]), ra g 2 [some (zA (gz g) (m + 2)), none, none, none, none], rwc g (m + 3) 0, ia g (List.replicate 88 0)]) (m := m + 4) (h' := Q ++ [.inr (3, [.ref (zA (gz g) (m + 1)), .int (nI 0)]), ra g 2 [some (zA (gz g) (m + 2)), none, none, none, none], rwc g (m + 3) 0, ia g (List.replicate 88 0), rwc g (m + 5) 0, ia g (List.replicate 88 0)]) (qlen hQ rfl) (by omega) (by rw [List.append_assoc]; rfl) (by rw [List.append_assoc]; rfl)) rfl rfl rfl (by decide) (by decide) ?_
  refine x_aast (pc := 40) C (dq D_Items_init 22 rfl) (qg hQ rfl) rfl (qg hQ rfl) rfl ⟨by simp, by simp⟩ ?_
  rw [qs hQ]
  simp only [List.set_cons_zero, List.set_cons_succ]
  refine x_iinc (pc := 41) C (dq D_Items_init 23 rfl) rfl (ii_1 _) rfl rfl ?_
  simp only [List.set_cons_zero, List.set_cons_succ]
  refine x_goto (pc := 44) (tgt := 19) C (dq D_Items_init 24 rfl) (by decide) ?_
  refine x_iload_n (pc := 19) C (dq D_Items_init 11 rfl) rfl ?_
  refine x_aload_n (pc := 20) C (dq D_Items_init 12 rfl) rfl ?_
  refine x_get (pc := 21) (ci := 3) (j := 0) C (dq D_Items_init 13 rfl) rfl rfl (qg hQ rfl) rfl k_fl_Items_11 ?_
  refine x_rlenN (pc := 24) (N := 5) C (dq D_Items_init 14 rfl) (qg hQ rfl) rfl rfl ?_
  refine n_ge_f (pc := 25) (tgt := 47) C (dq D_Items_init 15 rfl) (by decide) (by omega) (by omega) ?_
  refine x_aload_n (pc := 28) C (dq D_Items_init 16 rfl) rfl ?_
  refine x_get (pc := 29) (ci := 3) (j := 0) C (dq D_Items_init 17 rfl) rfl rfl (qg hQ rfl) rfl k_fl_Items_11 ?_
  refine x_iload_n (pc := 32) C (dq D_Items_init 18 rfl) rfl ?_
  refine x_newQ (pc := 33) (ci := 7) (k := 6) (fs := [.null, .int (nI 0)]) C (dq D_Items_init 19 rfl) hQ rfl rfl k_cl_Items_9 k_it_Row k_in_Row (fun j hj => match j, hj with | 0, _ => rfl | 1, _ => rfl | j + 2, hj => absurd hj (by show ¬ (j + 2 < 2); omega)) (by omega) (by decide) ?_
  simp only [List.cons_append, List.nil_append]
  refine x_dup (pc := 36) C (dq D_Items_init 20 rfl) rfl ?_
  refine x_cIN0 (pc := 37) (M := M_Row_init) C (dq D_Items_init 21 rfl) q_ml_Items_21 m_Row_init (c_Row_init (Q := Q ++ [.inr (3, [.ref (zA (gz g) (m + 1)), .int (nI 0)]), ra g 2 [some (zA (gz g) (m + 2)), some (zA (gz g) (m + 4)), none, none, none], rwc g (m + 3) 0, ia g (List.replicate 88 0), rwc g (m + 5) 0, ia g (List.replicate 88 0)]) (m := m + 6) (h' := Q ++ [.inr (3, [.ref (zA (gz g) (m + 1)), .int (nI 0)]), ra g 2 [some (zA (gz g) (m + 2)), some (zA (gz g) (m + 4)), none, none, none], rwc g (m + 3) 0, ia g (List.replicate 88 0), rwc g (m + 5) 0, ia g (List.replicate 88 0), rwc g (m + 7) 0, ia g (List.replicate 88 0)]) (qlen hQ rfl) (by omega) (by rw [List.append_assoc]; rfl) (by rw [List.append_assoc]; rfl)) rfl rfl rfl (by decide) (by decide) ?_
  refine x_aast (pc := 40) C (dq D_Items_init 22 rfl) (qg hQ rfl) rfl (qg hQ rfl) rfl ⟨by simp, by simp⟩ ?_
  rw [qs hQ]
  simp only [List.set_cons_zero, List.set_cons_succ]
  refine x_iinc (pc := 41) C (dq D_Items_init 23 rfl) rfl (ii_1 _) rfl rfl ?_
  simp only [List.set_cons_zero, List.set_cons_succ]
  refine x_goto (pc := 44) (tgt := 19) C (dq D_Items_init 24 rfl) (by decide) ?_
  refine x_iload_n (pc := 19) C (dq D_Items_init 11 rfl) rfl ?_
  refine x_aload_n (pc := 20) C (dq D_Items_init 12 rfl) rfl ?_
  refine x_get (pc := 21) (ci := 3) (j := 0) C (dq D_Items_init 13 rfl) rfl rfl (qg hQ rfl) rfl k_fl_Items_11 ?_
  refine x_rlenN (pc := 24) (N := 5) C (dq D_Items_init 14 rfl) (qg hQ rfl) rfl rfl ?_
  refine n_ge_f (pc := 25) (tgt := 47) C (dq D_Items_init 15 rfl) (by decide) (by omega) (by omega) ?_
  refine x_aload_n (pc := 28) C (dq D_Items_init 16 rfl) rfl ?_
  refine x_get (pc := 29) (ci := 3) (j := 0) C (dq D_Items_init 17 rfl) rfl rfl (qg hQ rfl) rfl k_fl_Items_11 ?_
  refine x_iload_n (pc := 32) C (dq D_Items_init 18 rfl) rfl ?_
  refine x_newQ (pc := 33) (ci := 7) (k := 8) (fs := [.null, .int (nI 0)]) C (dq D_Items_init 19 rfl) hQ rfl rfl k_cl_Items_9 k_it_Row k_in_Row (fun j hj => match j, hj with | 0, _ => rfl | 1, _ => rfl | j + 2, hj => absurd hj (by show ¬ (j + 2 < 2); omega)) (by omega) (by decide) ?_
  simp only [List.cons_append, List.nil_append]
  refine x_dup (pc := 36) C (dq D_Items_init 20 rfl) rfl ?_
  refine x_cIN0 (pc := 37) (M := M_Row_init) C (dq D_Items_init 21 rfl) q_ml_Items_21 m_Row_init (c_Row_init (Q := Q ++ [.inr (3, [.ref (zA (gz g) (m + 1)), .int (nI 0)]), ra g 2 [some (zA (gz g) (m + 2)), some (zA (gz g) (m + 4)), some (zA (gz g) (m + 6)), none, none], rwc g (m + 3) 0, ia g (List.replicate 88 0), rwc g (m + 5) 0, ia g (List.replicate 88 0), rwc g (m + 7) 0, ia g (List.replicate 88 0)]) (m := m + 8) (h' := Q ++ [.inr (3, [.ref (zA (gz g) (m + 1)), .int (nI 0)]), ra g 2 [some (zA (gz g) (m + 2)), some (zA (gz g) (m + 4)), some (zA (gz g) (m + 6)), none, none], rwc g (m + 3) 0, ia g (List.replicate 88 0), rwc g (m + 5) 0, ia g (List.replicate 88 0), rwc g (m + 7) 0, ia g (List.replicate 88 0), rwc g (m + 9) 0, ia g (List.replicate 88 0)]) (qlen hQ rfl) (by omega) (by rw [List.append_assoc]; rfl) (by rw [List.append_assoc]; rfl)) rfl rfl rfl (by decide) (by decide) ?_
  refine x_aast (pc := 40) C (dq D_Items_init 22 rfl) (qg hQ rfl) rfl (qg hQ rfl) rfl ⟨by simp, by simp⟩ ?_
  rw [qs hQ]
  simp only [List.set_cons_zero, List.set_cons_succ]
  refine x_iinc (pc := 41) C (dq D_Items_init 23 rfl) rfl (ii_1 _) rfl rfl ?_
  simp only [List.set_cons_zero, List.set_cons_succ]
  refine x_goto (pc := 44) (tgt := 19) C (dq D_Items_init 24 rfl) (by decide) ?_
  refine x_iload_n (pc := 19) C (dq D_Items_init 11 rfl) rfl ?_
  refine x_aload_n (pc := 20) C (dq D_Items_init 12 rfl) rfl ?_
  refine x_get (pc := 21) (ci := 3) (j := 0) C (dq D_Items_init 13 rfl) rfl rfl (qg hQ rfl) rfl k_fl_Items_11 ?_
  refine x_rlenN (pc := 24) (N := 5) C (dq D_Items_init 14 rfl) (qg hQ rfl) rfl rfl ?_
  refine n_ge_f (pc := 25) (tgt := 47) C (dq D_Items_init 15 rfl) (by decide) (by omega) (by omega) ?_
  refine x_aload_n (pc := 28) C (dq D_Items_init 16 rfl) rfl ?_
  refine x_get (pc := 29) (ci := 3) (j := 0) C (dq D_Items_init 17 rfl) rfl rfl (qg hQ rfl) rfl k_fl_Items_11 ?_
  refine x_iload_n (pc := 32) C (dq D_Items_init 18 rfl) rfl ?_
  refine x_newQ (pc := 33) (ci := 7) (k := 10) (fs := [.null, .int (nI 0)]) C (dq D_Items_init 19 rfl) hQ rfl rfl k_cl_Items_9 k_it_Row k_in_Row (fun j hj => match j, hj with | 0, _ => rfl | 1, _ => rfl | j + 2, hj => absurd hj (by show ¬ (j + 2 < 2); omega)) (by omega) (by decide) ?_
  simp only [List.cons_append, List.nil_append]
  refine x_dup (pc := 36) C (dq D_Items_init 20 rfl) rfl ?_
  refine x_cIN0 (pc := 37) (M := M_Row_init) C (dq D_Items_init 21 rfl) q_ml_Items_21 m_Row_init (c_Row_init (Q := Q ++ [.inr (3, [.ref (zA (gz g) (m + 1)), .int (nI 0)]), ra g 2 [some (zA (gz g) (m + 2)), some (zA (gz g) (m + 4)), some (zA (gz g) (m + 6)), some (zA (gz g) (m + 8)), none], rwc g (m + 3) 0, ia g (List.replicate 88 0), rwc g (m + 5) 0, ia g (List.replicate 88 0), rwc g (m + 7) 0, ia g (List.replicate 88 0), rwc g (m + 9) 0, ia g (List.replicate 88 0)]) (m := m + 10) (h' := Q ++ [.inr (3, [.ref (zA (gz g) (m + 1)), .int (nI 0)]), ra g 2 [some (zA (gz g) (m + 2)), some (zA (gz g) (m + 4)), some (zA (gz g) (m + 6)), some (zA (gz g) (m + 8)), none], rwc g (m + 3) 0, ia g (List.replicate 88 0), rwc g (m + 5) 0, ia g (List.replicate 88 0), rwc g (m + 7) 0, ia g (List.replicate 88 0), rwc g (m + 9) 0, ia g (List.replicate 88 0), rwc g (m + 11) 0, ia g (List.replicate 88 0)]) (qlen hQ rfl) (by omega) (by rw [List.append_assoc]; rfl) (by rw [List.append_assoc]; rfl)) rfl rfl rfl (by decide) (by decide) ?_
  refine x_aast (pc := 40) C (dq D_Items_init 22 rfl) (qg hQ rfl) rfl (qg hQ rfl) rfl ⟨by simp, by simp⟩ ?_
  rw [qs hQ]
  simp only [List.set_cons_zero, List.set_cons_succ]
  refine x_iinc (pc := 41) C (dq D_Items_init 23 rfl) rfl (ii_1 _) rfl rfl ?_
  simp only [List.set_cons_zero, List.set_cons_succ]
  refine x_goto (pc := 44) (tgt := 19) C (dq D_Items_init 24 rfl) (by decide) ?_
  refine x_iload_n (pc := 19) C (dq D_Items_init 11 rfl) rfl ?_
  refine x_aload_n (pc := 20) C (dq D_Items_init 12 rfl) rfl ?_
  refine x_get (pc := 21) (ci := 3) (j := 0) C (dq D_Items_init 13 rfl) rfl rfl (qg hQ rfl) rfl k_fl_Items_11 ?_
  refine x_rlenN (pc := 24) (N := 5) C (dq D_Items_init 14 rfl) (qg hQ rfl) rfl rfl ?_
  refine n_ge_t (pc := 25) (tgt := 47) C (dq D_Items_init 15 rfl) (by decide) (by omega) (by omega) ?_
  exact x_vret (pc := 47) C (dq D_Items_init 25 rfl) rfl (by decide) ⟨rfl, rfl⟩
