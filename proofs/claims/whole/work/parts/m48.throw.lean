/-! Throwing: an exception made and thrown by a method of the desk. -/
def exN : List String := ["java/lang/RuntimeException", "java/lang/Exception"]
def XW : List Cond := Bundle.ownAtoms R_Desk 78 R_IndexOutOfBoundsException exN ++ (Bundle.ownAtoms R_Desk 89 R_IllegalArgumentException exN ++ Bundle.ownAtoms R_Desk 98 R_IllegalStateException exN)
def XN : List (String × String) := [(R_IllegalStateException, R_IllegalArgumentException), (R_IllegalArgumentException, R_IndexOutOfBoundsException)]
def XP : List String := [R_IndexOutOfBoundsException, R_IllegalArgumentException, R_IllegalStateException]
def XS : List (Nat × String) := [(76, "there are keys 0 and 1 alone"), (87, "a word gives 1 to 4 bytes"), (96, "the input would be too long"), (114, "the input has no such byte"), (116, "bytes are 0 to 255"), (122, "the input is too long for an item"), (127, "there are as many items as there may be"), (137, "the cipher takes 16 bytes"), (154, "there are ways 0 to 2 alone"), (159, "this way does not seal so many bytes"), (168, "this way does not open so many bytes"), (174, "the output has no such byte")]
/-- what the start gives of exceptions, from here on -/
def ext (g : Gp) (U : State) : Prop := ∀ V : State, U.WarmedH V.vm → (∀ q : Nat, q < gz g → V.heap[q]? = U.heap[q]?) → (∀ w ∈ XW, ∀ args, w.before args V = true) ∧ (∀ z ∈ XN, ∀ args, (Cond.not (.castable z.1 z.2)).before args V = true) ∧ ∀ z ∈ XS, ∃ a, vk_R R_Desk z.1 z.2 a V
theorem ext.next {g : Gp} {U V : State} (h : ext g U) (hW : U.WarmedH V.vm) (hq : ∀ q : Nat, q < gz g → V.heap[q]? = U.heap[q]?) : ext g V :=
  fun Z h1 h2 => h Z (State.WarmedH.trans hW h1) (fun q z => (h2 q z).trans (hq q z))
theorem ext.here {g : Gp} {U : State} (h : ext g U) : (∀ w ∈ XW, ∀ args, w.before args U = true) ∧ (∀ z ∈ XN, ∀ args, (Cond.not (.castable z.1 z.2)).before args U = true) ∧ ∀ z ∈ XS, ∃ a, vk_R R_Desk z.1 z.2 a U := h U (State.WarmedH.refl U) (fun _ _ => rfl)
/-- no stack traces -/
def noTr (g : Gp) : Prop := ∀ e : Env, (gl g).admits e → e.platform.stackTraces = false
theorem same_nil {s t : State} {cells slots : Nat} (h : s.sameButNew t [] cells slots) : ∀ q : Nat, q < s.heap.size → t.heap[q]? = s.heap[q]? := by
  intro q hq
  obtain ⟨c', h1, h2, h3, h4⟩ := h.2.2.2.2.2 q s.heap[q] (Array.getElem?_eq_getElem hq)
  rw [h1, Array.getElem?_eq_getElem hq]
  congr 1
  have h5 : c'.slots = s.heap[q].slots := Array.ext_getElem? (fun i => h4 i (by simp))
  rw [h2, h5]
/-- a walk that has made nothing so far stands as well over its start with the heap at hand -/
theorem stand_again {p : Program} {l : Launch} {e : Env} {R : Room} {s : State} {m : MethodId} {args : Array Value} {below : List Frame} {meth : Method} {c : Code} {T : State} {locs : List Loc}
    (X : Stand p l e R s m args below meth c T locs 0 0) : T.heap.size = s.heap.size ∧ T.slotsUsed = s.slotsUsed ∧ Stand p l e R ({ s with heap := T.heap } : State) m args below meth c T [] 0 0 := by
  have h1 : T.heap.size = s.heap.size := by
    have a := X.same.2.1
    have b := X.heapSize
    have a' : s.heap.size ≤ T.heap.size := a
    omega
  have h2 : T.slotsUsed = s.slotsUsed := by
    have a : T.slotsUsed = s.slotsUsed + _ := X.same.2.2.2.1
    have b := X.same.2.2.2.2.1
    rw [a]
    omega
  refine ⟨h1, h2, ?_⟩
  have hb := X.book
  have hr := X.room
  have e0 := X.same.1
  refine ⟨X.admits, X.cas, X.clock, X.frames, ?_, X.hears, X.method, X.code, X.here, X.tail, X.warmed, X.limits, X.bytes, ?_⟩
  · unfold State.hasRoom at hr ⊢
    simp only [Bool.and_eq_true, decide_eq_true_eq] at hr ⊢
    obtain ⟨⟨⟨⟨r1, r2⟩, r3⟩, r4⟩, r5⟩ := hr
    refine ⟨⟨⟨⟨r1, r2⟩, by show T.heap.size + _ ≤ _; rw [h1]; exact r3⟩, r4⟩, ?_⟩
    unfold State.slotsTrue at hb ⊢
    rw [h2] at hb
    exact hb
  · refine ⟨?_, Nat.le_refl _, Nat.le_refl _, ?_, ?_, fun a c hc => ⟨c, hc, rfl, rfl, fun _ _ => rfl⟩⟩
    · exact e0
    · show T.slotsUsed = s.slotsUsed + ((T.heap.toList.drop T.heap.size).map (·.slots.size)).sum
      rw [h2, List.drop_of_length_le (by rw [Array.length_toList]; exact Nat.le_refl _)]
      rfl
    · show ((T.heap.toList.drop T.heap.size).map (·.slots.size)).sum ≤ 0
      rw [List.drop_of_length_le (by rw [Array.length_toList]; exact Nat.le_refl _)]
      exact Nat.le_refl _
/-- a method that throws: from the arguments av and the cells h, which stay as they are, an exception of the class cls -/
def Thr (g : Gp) (md : MD) (fr : Nat) (cls : String) (av : List Value) (h : Hp) : Prop :=
  MetFree (gl g) md.1 (headSpec (wz md) (rmo fr (1, 6))) (fun a U => Px g av h a U ∧ ext g U) (fun _ _ _ _ _ => True)
    (fun _ st o t => ∃ (x : Nat) (ce : Cell), o = .threw x ∧ t.heap[x]? = some ce ∧ st.vm.findClass cls = some ce.cls ∧ ce.vm = .none ∧ Rl g h t.heap ∧ va_F (zle g) st t ∧ st.WarmedH t.vm ∧ ∃ L, st.sameButNew ({ t with vm := st.vm } : State) L 1 6 ∧ ∀ q ∈ L, zle g q.base)
theorem lg_one : ∀ vs : List Value, (vs.all fun v => v.category == 1) = true → (lg_sl vs).length = vs.length := by
  intro vs
  induction vs with
  | nil => intro _; rfl
  | cons v vs ih =>
    intro h
    rw [List.all_cons, Bool.and_eq_true, beq_iff_eq] at h
    have h2 := ih h.2
    have h3 : lg_sl (v :: vs) = [.val v] ++ lg_sl vs := by simp [lg_sl, h.1]
    rw [h3, List.length_append, h2]
    show 1 + vs.length = vs.length + 1
    omega
theorem Thr.of {g : Gp} {md : MD} {fr : Nat} {cls : String} {av : List Value} {h : Hp} (hy : plainName md.1.cls = true) (hc : (av.all fun v => v.category == 1) = true) (hn : Nat.ble av.length md.2.2.1 = true) {L : List (Option Value)} (hL : lin av md.2.2.1 = L)
    (body : ∀ f : Fm, Cx g f md fr (1, 6) → fT f = some cls → ext g (fS f) → (fC f).exceptionTable.isEmpty = true → X g f md (1, 6) (fun o h' => (∃ x, o = .threw x) ∧ h' = h) (0, 0) 0 L [] h) : Thr g md fr cls av h := by
  refine MetFree.of_bodyS (code := md.2.1) (maxLocals := md.2.2.1) (ret := md.2.2.2) hy ?_ ?_
  · intro args s m hh hnm
    obtain ⟨meth, c, h1, h2, h3, h4, h5, h6, -, -⟩ := Cond.code_spec hnm (atoms_spec (ws := wz md) hh _ List.mem_cons_self)
    exact ⟨meth, c, h1, h2, h3, h4, h5, h6⟩
  · intro p e s m args below meth c s₁ B hml hP _
    obtain ⟨⟨rfl, hR, hK, hz⟩, hx⟩ := hP
    have hts := atoms_spec (ws := wz md) B.pre
    have hl := lin_lx hc (lv_entry av (by rw [lg_one av hc]; exact Nat.le_of_ble_eq_true hn))
    rw [hL] at hl
    have hh0 : s₁.heap = s.heap := by rw [B.state]; rfl
    have key := body (p, e, (headSpec (wz md) (rmo fr (1, 6))).room, s, m, av.toArray, below, meth, c, some cls) ⟨B.exec, B.bytes, B.returns, fun w hw => hts w (List.mem_cons_of_mem _ hw), findClass_of_methodNamed B.named, hml, B.notSynchronized, hK, hz, (name_of_methodNamed B.named B.method).1, rfl, Nat.le_trans (Nat.le_add_right _ _) hR.2.1⟩ rfl hx (B.noHandlers (hts _ List.mem_cons_self)) s.heap [] _ hR va_S.rf hl
    have K : W p (gl g) e (headSpec (wz md) (rmo fr (1, 6))).room s m av.toArray below meth c s.heap [] 0 0 (XQ g (p, e, (headSpec (wz md) (rmo fr (1, 6))).room, s, m, av.toArray, below, meth, c, some cls) (1, 6) (fun o h' => (∃ x, o = .threw x) ∧ h' = h)) (entryFrame m av.toArray md.2.2.1) := by
      rw [lg_entry_eq]
      exact key
    obtain ⟨t, a1, o, b1, b2, ⟨⟨h', ⟨hth, rfl⟩, hR'⟩, hF⟩, hoc, b5, L', b6, b7⟩ := K s₁ hh0 (Stand.of_body B)
    obtain ⟨x, rfl⟩ := hth
    rcases hoc with ⟨v, hv⟩ | ⟨cls', a, ce, c1, c2, c3, c4, c5⟩
    · cases hv
    · cases c2
      cases c1
      exact ⟨t, _, a1, b1, b2, x, ce, rfl, c3, c4, c5, hR', hF, b5, L', b6, b7⟩
section XT
variable {g : Gp} {f : Fm} {md : MD} {fr : Nat} {mc : Nat × Nat} {Post : Outcome → Hp → Prop} {n : Nat × Nat} {pc : Nat} {L : List (Option Value)} {st : List Value} {h : Hp}
set_option maxHeartbeats 1000000 in
theorem x_throw {cls tx : String} {ix ic is : Nat} (C : Cx g f md fr (1, 6)) (hT : fT f = some cls) (hx : ext g (fS f)) (hno : noTr g) (he : (fC f).exceptionTable.isEmpty = true) (hown : md.1.cls = R_Desk)
    (d0 : decode md.2.1 pc = .ok (.new ix, 3)) (d1 : decode md.2.1 (pc + 3) = .ok (.dup, 1)) (d2 : decode md.2.1 (pc + 3 + 1) = .ok (.ldc is, 2)) (d3 : decode md.2.1 (pc + 3 + 1 + 2) = .ok (.invokespecial ic, 3)) (d4 : decode md.2.1 (pc + 3 + 1 + 2 + 3) = .ok (.athrow, 1))
    (hw : Cond.classLink R_Desk ix cls ∈ tb) (hi : Cond.instantiable cls 6 ∈ tb) (hn : Cond.initialized cls ∈ tb) (hfit : Bundle.fit cls = true) (hat : ∀ w ∈ Bundle.ownAtoms R_Desk ic cls exN, w ∈ XW) (hs : (is, tx) ∈ XS) (hlen : 60 ≤ h.length) (hfr : Nat.ble 6 fr = true)
    (hp : ∀ x, Post (.threw x) h) : X g f md (1, 6) Post (0, 0) pc L [] h := by
  intro H locs ls hR hS hl T hT0 XX
  obtain ⟨z1, z2, X0⟩ := stand_again XX
  have hfr6 := Nat.le_of_ble_eq_true hfr
  have hgz : gz g ≤ (fS f).heap.size := C.z
  have hx' : ext g ({ fS f with heap := T.heap } : State) := by
    refine hx.next (State.WarmedH.refl (fS f)) (fun q hq => ?_)
    show T.heap[q]? = (fS f).heap[q]?
    rw [hT0]
    exact hS.2.1 q (by omega) (fun z => by have : gz g ≤ q := z; omega)
  have ts : ∀ w ∈ tb, w.before (fA f) ({ fS f with heap := T.heap } : State) = true := fun w hw => word_at (U := ({ fS f with heap := T.heap } : State)) (State.WarmedH.refl (fS f)) (tb_good hw) (C.ts w hw)
  have ho : ({ fS f with heap := T.heap } : State).vm.findClass R_Desk = some (fI f).cls := by rw [← hown]; exact C.own
  obtain ⟨q, hq⟩ := hx'.here.2.2 _ hs
  have K : W (fP f) (gl g) (fE f) (fR f) ({ fS f with heap := T.heap } : State) (fI f) (fA f) (fB f) (fM f) (fC f) T.heap [] 0 0 (XQ g f (1, 6) Post) (F0 (fI f) pc ls []) := by
    refine W.newc C.exec C.code ho (ts _ hw) (ts _ hi) (ts _ hn) rfl d0 (by rw [C.room]; exact Nat.le_refl _) (by rw [C.room]; exact Nat.le_refl _) (fun cC kC g1 g2 g3 g4 => ?_)
    refine lv_dup (va := .ref T.heap.size) C.exec C.code d1 rfl ?_
    refine va_ldcS C.exec C.code ho hq d2 ?_
    intro T2 hT2 X2
    obtain ⟨U, s1, s2, s3, s4, s5, ce, s6, s7⟩ := X2.ctorThrowS C.exec (hno _ X2.admits) (own := R_Desk) (cls := cls) (names := exN) (ic := ic) ho hfit (by decide) (fun w hw => hx'.here.1 w (hat w hw) _) (fun _ hh => by cases hh) (a := T.heap.size) g1 g2 (by rw [hT2]; simp [freshCell]) (Nat.le_refl _) (msg := .ref q) rfl
      (g := F0 (fI f) (pc + 3 + 1 + 2) ls [.ref q, .ref T.heap.size, .ref T.heap.size]) rfl (by rw [C.ml]; exact hl.1) rfl rfl (rest := []) rfl (by rw [C.code]; exact d3) (by rw [C.code]; exact d4) (covers_of_empty he _) (by rw [C.room]; show 2 + 3 < fr; omega) (by rw [C.room]; show 2 * 0 + 1 + (13 * (2 + 1) + 42) ≤ 36 * fr; omega) C.locks
    have keep : ∀ q : Nat, q < T.heap.size → U.heap[q]? = T.heap[q]? := by
      have k := same_nil s5
      exact k
    refine ⟨U, s1, .threw T.heap.size, s2, s3, ⟨⟨h, hp _, ?_⟩, ?_⟩, Or.inr ⟨cls, _, ce, hT, rfl, s6, s7.cls, s7.vm⟩, s4, locs, ?_, hS.2.2⟩
    · have hsz : T.heap.size ≤ U.heap.size := s5.2.1
      have h1 := hR.2.1
      rw [← hT0] at h1
      refine ⟨?_, by omega, fun z => by omega⟩
      have hR1 := hR.1
      rw [← hT0] at hR1
      exact hR1.kept (fun k x hx => keep x.1 ((hR1 k x hx).lt))
    · refine ⟨?_, fun q h1 h2 => ?_⟩
      · have hsz : T.heap.size ≤ U.heap.size := s5.2.1
        omega
      · rw [keep q (by omega), hT0]
        exact hS.2.1 q h1 h2
    · obtain ⟨y1, y2, y3, y4, y5, y6⟩ := s5
      have y2' : T.heap.size ≤ U.heap.size := y2
      have y3' : U.heap.size ≤ T.heap.size + 1 := y3
      refine ⟨y1, by show (fS f).heap.size ≤ U.heap.size; omega, by show U.heap.size ≤ (fS f).heap.size + 1; omega, ?_, ?_, fun a c hc => ?_⟩
      · have : U.slotsUsed = (fS f).slotsUsed + ((U.heap.toList.drop T.heap.size).map (·.slots.size)).sum := y4
        rw [z1] at this
        exact this
      · have : ((U.heap.toList.drop T.heap.size).map (·.slots.size)).sum ≤ 6 := y5
        rw [z1] at this
        exact this
      · obtain ⟨c', v1, v2, v3, v4⟩ := XX.same.2.2.2.2.2 a c hc
        refine ⟨c', ?_, v2, v3, v4⟩
        show U.heap[a]? = some c'
        have v1' : T.heap[a]? = some c' := v1
        rw [keep a (Array.getElem?_eq_some_iff.mp v1').1]
        exact v1'
  exact K T rfl X0
end XT
