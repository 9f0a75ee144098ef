/-! Catching: a call that throws, and the entry of the caller's table that takes it. -/
section XF
variable {E : CtlPost} {e : Env} {d : Bool} {acts : List Action} {s : State} {f : JFrame} {a : Addr} {Q : Handler → Pre}
theorem xc_go {x : ExceptionTableEntry} {t : List ExceptionTableEntry} {c : ClassId} {cell : Cell} (hx : covers x f.pc = true) (h0 : x.catchType ≠ 0) (hl : s.vm.ClassLinks e.platform f.method.cls x.catchType c) (hcell : s.heap[a]? = some cell) (hobj : ∀ k, cell.vm ≠ .statics k)
    (hk : ∃ k, s.vm.classes[cell.cls]? = some k) (hc : ∃ k, s.vm.classes[c]? = some k) :
    wp (findHandler.go f a (x :: t)) Q E e d acts s ↔ if s.vm.assignable cell.cls c = true then Q (.found x.handlerPc) d acts (s.setVm (s.vm.noted f.method.cls x.catchType (.cls c))) else wp (findHandler.go f a t) Q E e d acts (s.setVm (s.vm.noted f.method.cls x.catchType (.cls c))) := by
  simp only [covers] at hx
  obtain ⟨ha, ht⟩ := (resolveClass_links e.toSetting hl).op (op := VmOp.resolveClass f.method.cls x.catchType) rfl
  have hal : s.vm.Alike (s.vm.noted f.method.cls x.catchType (.cls c)) := (Vm.Alike.refl s.vm).noted _ _ _
  obtain ⟨k1, hk1⟩ := hk
  obtain ⟨k2, hk2⟩ := hc
  obtain ⟨k3, hk3, -⟩ := hal.2.2 _ _ hk1
  obtain ⟨k4, hk4, -⟩ := hal.2.2 _ _ hk2
  have hfit : (s.vm.noted f.method.cls x.catchType (.cls c)).assignable cell.cls c = s.vm.assignable cell.cls c := hal.assignable _ _
  cases hq : s.vm.assignable cell.cls c <;> rw [hq] at hfit <;> simp [findHandler.go, hx, h0, ha, ht, hcell, hobj, hk3, hk4, hfit, VmOp.dirties, VmOp.acts]
end XF
/-- the search ends with h, and leaves these tables -/
def fnd (e : Env) (s : State) (f : JFrame) (a : Addr) (h : Handler) (vm' : Vm) : Prop := ∀ (Q : Handler → Pre) (E : CtlPost) (d : Bool) (acts : List Action), wp (findHandler f a) Q E e d acts s ↔ Q h d acts (s.setVm vm')
theorem fnd_step {e : Env} {s : State} {a : Addr} {f : JFrame} {r : List Frame} {pc : Nat} {vm' : Vm} (hf : fnd e s f a (.found pc) vm') :
    (stepThrowing e s a (.java f :: r)).Is ((s.setVm vm').setFrames (.java { f with pc := pc, stack := [.ref a] } :: r)) [] := by
  simp only [stepThrowing, searchFrame, vmDo]
  generalize hr : Sem.go _ e false [] s = res
  obtain ⟨as, rfl, ha⟩ := Sem.eq_ok_of hr (a := Handler.found pc) (s' := s.setVm vm') (acts' := []) (by simp [hf _ _ _ _])
  exact ⟨rfl, ha⟩
theorem fnd_caught {tb : Tables} {e : Env} {s target : State} {g : JFrame} {c : Code} {below : List Frame} {a : Addr} (h : At s g.method c below) {pc : Nat} {vm' : Vm} (hf : fnd e ((s.setTop g).pushFrame (.throwing a)) g a (.found pc) vm')
    (hrest : Steps tb e below ((s.setVm vm').setTop { g with pc := pc, stack := [.ref a] }) target) : Steps tb e below ((s.setTop g).pushFrame (.throwing a)) target := by
  obtain ⟨hgo, hw⟩ := h.throwing a
  refine Steps.head hgo hw ?_
  rw [stepThread_throwing (frames_entered h.top _), (fnd_step (s := (s.setTop g).pushFrame (.throwing a)) hf).1]
  obtain ⟨g₀, hg⟩ := Option.isSome_iff_exists.mp h.top
  obtain ⟨r, hr⟩ := State.topJava?_eq_some.mp hg
  have hr' : (s.setVm vm').frames = .java g₀ :: r := hr
  have key : ∀ (u : State) (F G : List Frame), ((u.setFrames F).setVm vm').setFrames G = (u.setVm vm').setFrames G := fun u F G => by
    have h1 : (u.setFrames F).setVm vm' = (u.setVm vm').setFrames F := rfl
    rw [h1, State.setFrames_setFrames]
  rw [State.setTop_of_frames _ hr'] at hrest
  rw [hr, List.tail_cons, State.pushFrame, key, State.setTop_of_frames _ hr, key]
  exact hrest
theorem tab_cons {l : List ExceptionTableEntry} {q : Nat × Nat × Nat × Nat} {rs : List (Nat × Nat × Nat × Nat)} (h : l.map (fun h => (h.startPc, h.endPc, h.handlerPc, h.catchType)) = q :: rs) : ∃ x t, l = x :: t ∧ x.startPc = q.1 ∧ x.endPc = q.2.1 ∧ x.handlerPc = q.2.2.1 ∧ x.catchType = q.2.2.2 ∧ t.map (fun h => (h.startPc, h.endPc, h.handlerPc, h.catchType)) = rs := by
  cases l with
  | nil => cases h
  | cons x t =>
    rw [List.map_cons] at h
    injection h with h1 h2
    subst h1
    exact ⟨x, t, rfl, rfl, rfl, rfl, rfl, h2⟩
section XH
variable {p : Program} {l : Launch} {e : Env} {R : Room} {s : State} {m : MethodId} {args : Array Value} {below : List Frame} {meth : Method} {c : Code} {T : State} {locs : List Loc} {cells slots : Nat}
/-- what resolving a catch type leaves -/
theorem xh_link (X : Stand p l e R s m args below meth c T locs cells slots) {own name : String} {ct : Nat} (hown : s.vm.findClass own = some m.cls) (hlink : (Cond.classLink own ct name).before args s = true) :
    ∃ cT, s.vm.findClass name = some cT ∧ T.vm.ClassLinks e.platform m.cls ct cT ∧ (∃ k, s.vm.classes[cT]? = some k) ∧ (∃ k, T.vm.classes[cT]? = some k) ∧ s.WarmedH (T.vm.noted m.cls ct (.cls cT)) := by
  have hpl : e.platform.magicAccessors = ({} : Platform).magicAccessors := by rw [X.admits.platform]
  obtain ⟨cT, hcT, hcl⟩ := Cond.classLink_spec hown hlink e.platform hpl
  obtain ⟨dk, _, _, kt, hd, _, _, _, _, hkt, _, hopen⟩ := hcl.here
  obtain ⟨kt', hkt', -⟩ := X.warmed.alike.2.2 _ _ hkt
  exact ⟨cT, hcT, X.warmed.classLinks hcl, ⟨kt, hkt⟩, ⟨kt', hkt'⟩, X.warmed.noted hd hopen (State.rightAt_cls hcl)⟩
theorem xh_one (X : Stand p l e R s m args below meth c T locs cells slots) (a : Addr) {g : JFrame} (hg : g.method = m) {own name : String} (hown : s.vm.findClass own = some m.cls) {s0 e0 hp ct : Nat} {rs : List (Nat × Nat × Nat × Nat)} (htab : c.exceptionTable.toList.map (fun h => (h.startPc, h.endPc, h.handlerPc, h.catchType)) = (s0, e0, hp, ct) :: rs)
    (hcov : s0 ≤ g.pc ∧ g.pc < e0) (h0 : ct ≠ 0) (hlink : (Cond.classLink own ct name).before args s = true) (hcast : (Cond.castable name name).before args s = true) {cell : Cell} (hcell : T.heap[a]? = some cell) (hvm : cell.vm = .none) (hcls : s.vm.findClass name = some cell.cls) :
    ∃ vm', Stand p l e R s m args below meth c (T.setVm vm') locs cells slots ∧ ∀ target, Steps p.tables e below ((T.setVm vm').setTop { g with pc := hp, stack := [.ref a] }) target → Steps p.tables e below ((T.setTop g).pushFrame (.throwing a)) target := by
  obtain ⟨cT, hcT, hcl, hk, hk', hW⟩ := xh_link X hown hlink
  cases hcls.symm.trans hcT
  obtain ⟨c3, c4, w1, w2, w3⟩ := Cond.castable_spec hcast
  cases hcls.symm.trans w1
  cases hcls.symm.trans w2
  obtain ⟨x, t, hx, x1, x2, x3, x4, -⟩ := tab_cons htab
  dsimp only at x1 x2 x3 x4
  subst x1; subst x2; subst x3; subst x4
  refine ⟨_, X.noted hW, fun target hrest => ?_⟩
  subst hg
  refine fnd_caught X.here (fun Q E d acts => ?_) hrest
  have hfit : T.vm.assignable cell.cls cell.cls = true := by rw [X.warmed.alike.assignable]; exact w3
  rw [W.findHandler_eq (s := (T.setTop g).pushFrame (.throwing a)) (meth := meth) X.method' X.code, hx]
  rw [xc_go (s := (T.setTop g).pushFrame (.throwing a)) (cell := cell) (c := cell.cls) (by simp [covers, hcov.1, hcov.2]) h0 hcl hcell (fun k q => by rw [hvm] at q; cases q) hk' hk']
  rw [if_pos (show ((T.setTop g).pushFrame (.throwing a)).vm.assignable cell.cls cell.cls = true from hfit)]
  exact Iff.rfl
theorem xh_two (X : Stand p l e R s m args below meth c T locs cells slots) (a : Addr) {g : JFrame} (hg : g.method = m) {own name name0 : String} (hown : s.vm.findClass own = some m.cls) {s0 e0 hp0 ct0 s1 e1 hp ct : Nat} {rs : List (Nat × Nat × Nat × Nat)} (htab : c.exceptionTable.toList.map (fun h => (h.startPc, h.endPc, h.handlerPc, h.catchType)) = (s0, e0, hp0, ct0) :: (s1, e1, hp, ct) :: rs)
    (hcov0 : s0 ≤ g.pc ∧ g.pc < e0) (hcov : s1 ≤ g.pc ∧ g.pc < e1) (h00 : ct0 ≠ 0) (h0 : ct ≠ 0) (hlink0 : (Cond.classLink own ct0 name0).before args s = true) (hlink : (Cond.classLink own ct name).before args s = true) (hcast : (Cond.castable name name).before args s = true) (hnc : (Cond.not (.castable name name0)).before args s = true) {cell : Cell} (hcell : T.heap[a]? = some cell) (hvm : cell.vm = .none) (hcls : s.vm.findClass name = some cell.cls) :
    ∃ vm', Stand p l e R s m args below meth c (T.setVm vm') locs cells slots ∧ ∀ target, Steps p.tables e below ((T.setVm vm').setTop { g with pc := hp, stack := [.ref a] }) target → Steps p.tables e below ((T.setTop g).pushFrame (.throwing a)) target := by
  obtain ⟨c0, hc0, hcl0, hk0, hk0', hW0⟩ := xh_link X hown hlink0
  have X1 := X.noted hW0
  obtain ⟨cT, hcT, hcl, hk, hk', hW⟩ := xh_link X1 hown hlink
  cases hcls.symm.trans hcT
  obtain ⟨c3, c4, w1, w2, w3⟩ := Cond.castable_spec hcast
  cases hcls.symm.trans w1
  cases hcls.symm.trans w2
  have hno : s.vm.assignable cell.cls c0 = false := by
    simp only [Cond.before, Cond.holds, Cond.value, hcls, hc0] at hnc
    cases hq : s.vm.assignable cell.cls c0 with
    | false => rfl
    | true => simp [hq] at hnc
  obtain ⟨x, t, hx, x1, x2, x3, x4, ht⟩ := tab_cons htab
  obtain ⟨y, t2, hy, y1, y2, y3, y4, -⟩ := tab_cons ht
  dsimp only at x1 x2 x3 x4 y1 y2 y3 y4
  subst x1; subst x2; subst x3; subst x4; subst y1; subst y2; subst y3; subst y4
  refine ⟨_, X1.noted hW, fun target hrest => ?_⟩
  subst hg
  refine fnd_caught X.here (fun Q E d acts => ?_) hrest
  have hal1 := X1.warmed.alike
  have hfit : (T.vm.noted g.method.cls x.catchType (.cls c0)).assignable cell.cls cell.cls = true := by
    have := hal1.assignable cell.cls cell.cls
    rw [show (T.setVm (T.vm.noted g.method.cls x.catchType (.cls c0))).vm = T.vm.noted g.method.cls x.catchType (.cls c0) from rfl] at this
    rw [this]; exact w3
  have hno' : T.vm.assignable cell.cls c0 = false := by rw [X.warmed.alike.assignable]; exact hno
  obtain ⟨kc, hkc⟩ := hk
  obtain ⟨kc', hkc', -⟩ := X.warmed.alike.2.2 _ _ hkc
  rw [W.findHandler_eq (s := (T.setTop g).pushFrame (.throwing a)) (meth := meth) X.method' X.code, hx]
  rw [xc_go (s := (T.setTop g).pushFrame (.throwing a)) (cell := cell) (c := c0) (by simp [covers, hcov0.1, hcov0.2]) h00 hcl0 hcell (fun k q => by rw [hvm] at q; cases q) ⟨kc', hkc'⟩ hk0']
  rw [if_neg (show ¬ ((T.setTop g).pushFrame (.throwing a)).vm.assignable cell.cls c0 = true from by rw [Stand.throwing_vm, hno']; decide), hy]
  refine (xc_go (s := ((T.setTop g).pushFrame (.throwing a)).setVm (T.vm.noted g.method.cls x.catchType (.cls c0))) (cell := cell) (c := cell.cls) (by simp [covers, hcov.1, hcov.2]) h0 hcl hcell (fun k q => by rw [hvm] at q; cases q) hk' hk').trans ?_
  rw [if_pos (show (((T.setTop g).pushFrame (.throwing a)).setVm (T.vm.noted g.method.cls x.catchType (.cls c0))).vm.assignable cell.cls cell.cls = true from hfit)]
  exact Iff.rfl
end XH
section XG
variable {g : Gp} {f : Fm} {md : MD} {fr : Nat} {mc : Nat × Nat} {Post : Outcome → Hp → Prop} {n : Nat × Nat} {pc : Nat} {L : List (Option Value)} {st : List Value} {h : Hp} {M : MD} {fr2 na idx : Nat} {As rest : List Value} {cls : String}
set_option maxHeartbeats 1000000 in
/-- a call that throws, up to the note that it leaves over the caller's frame -/
theorem x_thrown {a ci : Nat} {vs : List Value} (C : Cx g f md fr mc) (d : decode md.2.1 pc = .ok (.invokevirtual idx, 3)) (hw : Cond.methodLink md.1.cls idx M.1 ∈ tb) (hm : mV M na) (hci : Nat.blt ci Cls.length = true) (hcl : (Tc ci).1 = M.1.cls) (ha : h[a]? = some (.inr (ci, vs))) (hc : Thr g M fr2 cls (.ref (zA (gz g) a) :: As) h) (hx : ext g (fS f))
    (hst : st = As.reverse ++ .ref (zA (gz g) a) :: rest) (hlen : As.length = na) (hcat : Nat.ble (rest.map fun v => v.category).sum 8 = true) (hfr : rmK fr2 fr M.2.2.1 = true) (hmc : n.1 + 1 ≤ mc.1 ∧ n.2 + 6 ≤ mc.2)
    (k : ∀ (T : State) (L2 : List Loc) (ls : Array Slot) (x : Nat) (ce : Cell), Rl g h T.heap → va_S (zle g) (fS f).heap T.heap L2 → lx ls md.2.2.1 L → T.heap[x]? = some ce → (fS f).vm.findClass cls = some ce.cls → ce.vm = .none → Stand (fP f) (gl g) (fE f) (fR f) (fS f) (fI f) (fA f) (fB f) (fM f) (fC f) T L2 (n.1 + 1) (n.2 + 6) → ∃ t, Steps (fP f).tables (fE f) (fB f) ((T.setTop (F0 (fI f) pc ls rest)).pushFrame (.throwing x)) t ∧ XQ g f mc Post t) : X g f md mc Post n pc L st h := by
  intro H locs ls hR hS hl T hT XX
  obtain ⟨m1, m2, m3, m4, m5⟩ := hm
  have hrec := va_recv C.K hR.1 (Tc_at hci) (wl_get ha)
  rw [hcl] at hrec
  obtain ⟨cellB, hcB, hoB, hclB⟩ := hrec
  obtain ⟨mk, methM, hnamed, hmethM, hstM, habM⟩ := Cond.instanceMethod_spec (C.ts _ m1)
  obtain ⟨methM', cM, hmethM', -, -, -, -, -, -, hsigM⟩ := Cond.code_spec hnamed (C.ts _ m4)
  cases hmethM.symm.trans hmethM'
  obtain ⟨c2, r2, m2', q1, q2, q3, q4, kP, hkP, hkPi⟩ := Cond.selects_spec (C.ts _ m2)
  cases hclB.symm.trans q1
  cases (State.methodFound?_of_named hnamed ⟨m5.1, m5.2.1⟩).symm.trans q2
  cases hnamed.symm.trans q3
  have hselP : selectMethod (fE f).platform (fS f).vm cellB.cls mk = .method mk := by rw [Launch.admits_selectMethod XX.admits]; exact q4
  have hnp : As.length = methM.sig.parameters.length := by
    have h1 := m5.2.2
    rw [hsigM] at h1
    rw [hlen]
    exact (Option.some.inj h1).symm
  obtain ⟨vm₁, X₁, hstep₁⟩ := XX.invokevirtual C.exec C.own (C.ts _ hw) hnamed hmethM hstM hkP hkPi ⟨m5.1, m5.2.1⟩ (a := zA (gz g) a) (cell := cellB) (by rw [hT]; exact hcB)
    (fun z h => by rw [h] at hoB; cases hoB) hselP hmethM habM hkP hkPi (g := F0 (fI f) pc ls st) rfl (argsL := As) (rest := rest) hnp hst (by rw [C.code]; exact d)
  have tsU : ∀ w ∈ tb, ∀ a', w.before a' (T.setVm vm₁) = true := fun w hw a' => word_at X₁.warmed (tb_good hw) (C.ts w hw)
  have hnU := X₁.named hnamed
  obtain ⟨methY, cY, hmY, hcY, -, hlY, -, -, -, -⟩ := Cond.code_spec hnU (tsU _ m4 #[])
  obtain ⟨kY, hkY, -⟩ := className_of_methodNamed hnU
  have hinitY := Cond.initialized_spec (findClass_of_methodNamed hnU) hkY (tsU _ m3 #[])
  have hrm := rmK.ok (mc2 := (1, 6)) C hfr
  have hcat' := Nat.le_of_ble_eq_true hcat
  have hAt : At (T.setVm vm₁) (fI f) (fC f) (fB f) := X₁.here
  have happ : (headSpec (wz M) (rmo fr2 (1, 6))).appliesLoose M.1 (fE f).platform ((T.setVm vm₁).calling (F0 (fI f) pc ls rest) mk (.ref (zA (gz g) a) :: As).toArray) = true :=
    Spec.appliesLoose_calling (g := F0 (fI f) pc ls rest) (ig := .invokevirtual idx) (len := 3) hAt (by rw [C.code]; exact d) hnU hkY hinitY
      (X₁.room_calling (g := F0 (fI f) pc ls rest) (R' := rmo fr2 (1, 6)) (by rw [C.ml]; exact hl.1) hmY hcY hrm.1 (by rw [hlY]; have := hrm.2; show 2 * 0 + (rest.map fun v => v.category).sum + _ + _ ≤ _; omega) (by rw [C.room]; exact hmc.1) (by rw [C.room]; exact hmc.2))
      (atoms_intro fun w hw => by
        rcases List.mem_cons.mp hw with rfl | hw
        · exact tsU _ m4 _
        · exact tsU _ hw _)
  obtain ⟨mid, hmid⟩ := hAt.above
  have hfr' : ((T.setVm vm₁).setTop (F0 (fI f) pc ls rest)).frames = (.java (F0 (fI f) pc ls rest) :: mid) ++ fB f := by rw [State.frames_setTop' _ hAt.top, hmid]; rfl
  have hold : ∀ q : Nat, q < gz g → T.heap[q]? = (fS f).heap[q]? := fun q hq => by
    rw [hT]
    exact hS.2.1 q (Nat.lt_of_lt_of_le hq C.z) (fun z => by have : gz g ≤ q := z; omega)
  obtain ⟨o, s₂, hsteps, -, hend, hq⟩ := Steps.callFree hc (fP f) X₁.admits X₁.cas X₁.clock (acts := []) hfr' happ
    ⟨Px_blind _ _ (F0 (fI f) pc ls rest) mk (Px_pre C hR (T.setVm vm₁) hT X₁.warmed), hx.next X₁.warmed hold⟩ trivial
  obtain ⟨x, ce, rfl, r1, r2, r3, r4, r5, r6, L2, r7, r8⟩ := hq
  rw [State.frames_setTop' _ hAt.top, X₁.tail] at hend
  obtain ⟨T', X', w1, w2, w3⟩ := X₁.outOfThrown (g := F0 (fI f) pc ls rest) rfl (mk := mk) (a := (Value.ref (zA (gz g) a) :: As).toArray) (t := s₂) (x := x) (L := L2) (k := 1) (n := 6) hend r6 r7
  have hh : T'.heap = s₂.heap := by rw [w3, Stand.throwing_heap]
  have r5' : T.heap.size ≤ s₂.heap.size ∧ ∀ q : Nat, q < T.heap.size → ¬ zle g q → s₂.heap[q]? = T.heap[q]? := r5
  have hS1 : (fS f).heap.size ≤ T.heap.size := by rw [hT]; exact hS.1
  obtain ⟨t, b1, b2⟩ := k T' (locs ++ L2) ls x ce (by rw [hh]; exact r4)
    ⟨by rw [hh]; exact Nat.le_trans hS1 r5'.1, fun q h1 h2 => by rw [hh, r5'.2 q (Nat.lt_of_lt_of_le h1 hS1) h2, hT]; exact hS.2.1 q h1 h2, fun q hq => by
      rcases List.mem_append.mp hq with hh | hh
      · exact hS.2.2 q hh
      · exact r8 q hh⟩ hl (by rw [hh]; exact r1) (by rw [← X₁.warmed.alike.findClass]; exact r2) r3 X'
  refine ⟨t, hstep₁ _ (fun acts => ?_), b2⟩
  rw [doInvoke_state]
  refine hsteps.trans ?_
  rw [w3]
  exact b1
theorem x_try1 {a ci s0 e0 hp ct : Nat} {vs : List Value} {rs : List (Nat × Nat × Nat × Nat)} (C : Cx g f md fr mc) (d : decode md.2.1 pc = .ok (.invokevirtual idx, 3)) (hw : Cond.methodLink md.1.cls idx M.1 ∈ tb) (hm : mV M na) (hci : Nat.blt ci Cls.length = true) (hcl : (Tc ci).1 = M.1.cls) (ha : h[a]? = some (.inr (ci, vs))) (hc : Thr g M fr2 cls (.ref (zA (gz g) a) :: As) h) (hx : ext g (fS f))
    (htab : (fC f).exceptionTable.toList.map (fun h => (h.startPc, h.endPc, h.handlerPc, h.catchType)) = (s0, e0, hp, ct) :: rs) (hcov : s0 ≤ pc ∧ pc < e0) (h0 : ct ≠ 0) (hlk : Cond.classLink md.1.cls ct cls ∈ tb) (hcast : Cond.castable cls cls ∈ XW)
    (hst : st = As.reverse ++ .ref (zA (gz g) a) :: rest) (hlen : As.length = na) (hcat : Nat.ble (rest.map fun v => v.category).sum 8 = true) (hfr : rmK fr2 fr M.2.2.1 = true) (hmc : n.1 + 1 ≤ mc.1 ∧ n.2 + 6 ≤ mc.2)
    (k : ∀ x, X g f md mc Post (n.1 + 1, n.2 + 6) hp L [.ref x] h) : X g f md mc Post n pc L st h := by
  refine x_thrown C d hw hm hci hcl ha hc hx hst hlen hcat hfr hmc (fun T L2 ls x ce r1 r2 r3 r4 r5 r6 X2 => ?_)
  obtain ⟨vm', X3, st3⟩ := xh_one X2 x (g := F0 (fI f) pc ls rest) rfl C.own htab hcov h0 (C.ts _ hlk) (hx.here.1 _ hcast _) r4 r6 r5
  obtain ⟨t, b1, b2⟩ := k x T.heap L2 ls r1 r2 r3 (T.setVm vm') rfl X3
  exact ⟨t, st3 t b1, b2⟩
theorem x_try2 {a ci s0 e0 hp0 ct0 s1 e1 hp ct : Nat} {cls0 : String} {vs : List Value} {rs : List (Nat × Nat × Nat × Nat)} (C : Cx g f md fr mc) (d : decode md.2.1 pc = .ok (.invokevirtual idx, 3)) (hw : Cond.methodLink md.1.cls idx M.1 ∈ tb) (hm : mV M na) (hci : Nat.blt ci Cls.length = true) (hcl : (Tc ci).1 = M.1.cls) (ha : h[a]? = some (.inr (ci, vs))) (hc : Thr g M fr2 cls (.ref (zA (gz g) a) :: As) h) (hx : ext g (fS f))
    (htab : (fC f).exceptionTable.toList.map (fun h => (h.startPc, h.endPc, h.handlerPc, h.catchType)) = (s0, e0, hp0, ct0) :: (s1, e1, hp, ct) :: rs) (hcov0 : s0 ≤ pc ∧ pc < e0) (hcov : s1 ≤ pc ∧ pc < e1) (h00 : ct0 ≠ 0) (h0 : ct ≠ 0) (hlk0 : Cond.classLink md.1.cls ct0 cls0 ∈ tb) (hlk : Cond.classLink md.1.cls ct cls ∈ tb) (hcast : Cond.castable cls cls ∈ XW) (hnc : (cls, cls0) ∈ XN)
    (hst : st = As.reverse ++ .ref (zA (gz g) a) :: rest) (hlen : As.length = na) (hcat : Nat.ble (rest.map fun v => v.category).sum 8 = true) (hfr : rmK fr2 fr M.2.2.1 = true) (hmc : n.1 + 1 ≤ mc.1 ∧ n.2 + 6 ≤ mc.2)
    (k : ∀ x, X g f md mc Post (n.1 + 1, n.2 + 6) hp L [.ref x] h) : X g f md mc Post n pc L st h := by
  refine x_thrown C d hw hm hci hcl ha hc hx hst hlen hcat hfr hmc (fun T L2 ls x ce r1 r2 r3 r4 r5 r6 X2 => ?_)
  obtain ⟨vm', X3, st3⟩ := xh_two X2 x (g := F0 (fI f) pc ls rest) rfl C.own htab hcov0 hcov h00 h0 (C.ts _ hlk0) (C.ts _ hlk) (hx.here.1 _ hcast _) (hx.here.2.1 _ hnc _) r4 r6 r5
  obtain ⟨t, b1, b2⟩ := k x T.heap L2 ls r1 r2 r3 (T.setVm vm') rfl X3
  exact ⟨t, st3 t b1, b2⟩
end XG
/-- a method with a table of handlers -/
def wzh (md : MD) (hs : List (Nat × Nat × Nat × Nat)) : List Cond := .codeWith md.1 md.2.1 md.2.2.1 md.2.2.2 hs :: tb
def ConW (g : Gp) (md : MD) (hs : List (Nat × Nat × Nat × Nat)) (fr : Nat) (mc : Nat × Nat) (av : List Value) (h : Hp) (Post : Outcome → Hp → Prop) : Prop :=
  Met (gl g) md.1 (wzh md hs) (rmo fr mc) (fun a U => Px g av h a U ∧ ext g U) (Qx g Post) mc.1 mc.2 (zle g)
theorem ConW.of {g : Gp} {md : MD} {hs : List (Nat × Nat × Nat × Nat)} {fr : Nat} {mc : Nat × Nat} {av : List Value} {h : Hp} {Post : Outcome → Hp → Prop} (hy : plainName md.1.cls = true) (hc : (av.all fun v => v.category == 1) = true) (hn : Nat.ble av.length md.2.2.1 = true) {L : List (Option Value)} (hL : lin av md.2.2.1 = L)
    (body : ∀ f : Fm, Cx g f md fr mc → ext g (fS f) → (fC f).exceptionTable.toList.map (fun h => (h.startPc, h.endPc, h.handlerPc, h.catchType)) = hs → X g f md mc Post (0, 0) 0 L [] h) : ConW g md hs fr mc av h Post := by
  refine va_MetW (cc := md.2.1) (maxL := md.2.2.1) (ret := md.2.2.2) (ws' := tb) (hh := hs) hy rfl ?_
  intro p e s m args below meth c s₁ B hml hv
  obtain ⟨⟨rfl, hR, hK, hz⟩, hx⟩ := hv
  have hts := atoms_spec (ws := wzh md hs) B.pre
  have hl := lin_lx hc (lv_entry av (by rw [lg_one av hc]; exact Nat.le_of_ble_eq_true hn))
  rw [hL] at hl
  rw [lg_entry_eq]
  have htab : c.exceptionTable.toList.map (fun h => (h.startPc, h.endPc, h.handlerPc, h.catchType)) = hs := by
    obtain ⟨m9, meth9, c9, hn9, h1, h2, -, -, h3, -⟩ := Cond.codeWith_spec (hts _ List.mem_cons_self)
    cases B.named.symm.trans hn9
    cases B.method.symm.trans h1
    cases (Stand.of_body B).code.symm.trans h2
    exact h3
  exact W.monoQ (body (p, e, (headSpec (wzh md hs) (rmo fr mc)).room, s, m, av.toArray, below, meth, c, none) ⟨B.exec, B.bytes, B.returns, fun w hw => hts w (List.mem_cons_of_mem _ hw), findClass_of_methodNamed B.named, hml, B.notSynchronized, hK, hz, (name_of_methodNamed B.named B.method).1, rfl, Nat.le_trans (Nat.le_add_right _ _) hR.2.1⟩ hx htab s.heap [] _ hR va_S.rf hl) (fun t q => XQ.to rfl q)
def mSW (M : MD) (hs : List (Nat × Nat × Nat × Nat)) (na : Nat) : Prop := Cond.static M.1 ∈ tb ∧ Cond.initialized M.1.cls ∈ tb ∧ Cond.codeWith M.1 M.2.1 M.2.2.1 M.2.2.2 hs ∈ tb ∧ mP M na
section XK
variable {g : Gp} {f : Fm} {md : MD} {fr : Nat} {mc : Nat × Nat} {Post : Outcome → Hp → Prop} {n : Nat × Nat} {pc : Nat} {L : List (Option Value)} {st : List Value} {h : Hp} {M : MD} {fr2 na idx : Nat} {mc2 : Nat × Nat} {Post2 : Outcome → Hp → Prop} {As rest : List Value}
theorem x_callSW {hs : List (Nat × Nat × Nat × Nat)} (C : Cx g f md fr mc) (hx : ext g (fS f)) (d : decode md.2.1 pc = .ok (.invokestatic idx, 3)) (hw : Cond.methodLink md.1.cls idx M.1 ∈ tb) (hm : mSW M hs na) (hc : ConW g M hs fr2 mc2 As h Post2)
    (hst : st = As.reverse ++ rest) (hlen : As.length = na) (hcat : Nat.ble (rest.map fun v => v.category).sum 8 = true) (hfr : rmK fr2 fr M.2.2.1 = true) (hmc : n.1 + mc2.1 ≤ mc.1 ∧ n.2 + mc2.2 ≤ mc.2)
    (k : ∀ o h2, Post2 o h2 → ∃ r, o = .returned r ∧ X g f md mc Post (n.1 + mc2.1, n.2 + mc2.2) (pc + 3) L (r.toList ++ rest) h2) : X g f md mc Post n pc L st h := by
  obtain ⟨m1, m3, m4, m5⟩ := hm
  refine x_run (av := As) C (fun H locs ls hR hS hl => ?_) k
  intro T hT XX
  have hrm := rmK.ok (mc2 := mc2) C hfr
  have hgood : ∀ w ∈ wzh M hs, ∀ (a' : Array Value) (U : State), (fS f).WarmedH U.vm → w.before a' U = true := fun w hw a' U hW => by
    rcases List.mem_cons.mp hw with rfl | hw
    · exact word_at hW (tb_good m4) (C.ts _ m4)
    · exact word_at hW (tb_good hw) (C.ts _ hw)
  have hblind : FrameBlind (fun a U => Px g As h a U ∧ ext g U) := fun a U g2 mk q => ⟨Px_blind a U g2 mk q.1, q.2.next (V := U.calling g2 mk a) (State.WarmedH.refl U) (fun _ _ => rfl)⟩
  have hold : ∀ q : Nat, q < gz g → T.heap[q]? = (fS f).heap[q]? := fun q hq => by
    rw [hT]
    exact hS.2.1 q (Nat.lt_of_lt_of_le hq C.z) (fun z => by have : gz g ≤ q := z; omega)
  have hK : Back (gl g) (fR f) (fP f) (fE f) (fB f) (fS f) (fA f) M.1 3 8 (PreOf (fR f) mc2.1 mc2.2 (fun a U => Px g As h a U ∧ ext g U)) (PostOf (Qx g Post2) mc2.1 mc2.2 (zle g)) :=
    va_backW (hh := hs) hc hblind rfl rfl hrm.1 hrm.2 hgood List.mem_cons_self (fun a' U hW => word_at hW (tb_good m3) (C.ts _ m3))
  obtain ⟨mk, methM, cM, hnamed, hmethM, -, -, -, -, -, -, hsigM⟩ := Cond.codeWith_spec (C.ts _ m4)
  obtain ⟨v, vm₁, ⟨U', l2, c2, s2⟩, hW₁, X', ⟨g', mk', t, L', e1, e2, hq, h1, hL, h2, h3⟩, st2⟩ := XX.staticBack C.exec C.own (C.ts _ hw) (C.ts _ m1) (C.ts _ m3) hnamed hmethM hsigM ⟨m5.1, m5.2.1⟩ hK (g := F0 (fI f) pc ls st) rfl (by rw [C.ml]; exact hl.1) (s₀ := T.setTop (F0 (fI f) pc ls st)) (Steps.refl _) (argsL := As) (rest := rest)
    (fun sig hs => by have := m5.2.2; rw [hs] at this; rw [hlen]; exact (Option.some.inj this).symm) hst (lv_room (Nat.le_of_ble_eq_true hcat)) (by rw [C.code]; exact d)
    (fun vm₁ hW₁ => ⟨(mcK_ok C hmc).1, (mcK_ok C hmc).2, Px_pre C hR (T.setVm vm₁) hT hW₁, hx.next (V := T.setVm vm₁) hW₁ hold⟩)
  dsimp only [Pt.U, Pt.locs, Pt.cells, Pt.slots] at X' e1 e2 h1 h2 h3 st2
  subst h1; subst h2; subst h3
  exact ⟨v, (T.setVm vm₁).calling g' mk' As.toArray, t, U', L', hT, X', hL, e1, e2, hq, fun tg htg => st2.trans htg⟩
end XK
