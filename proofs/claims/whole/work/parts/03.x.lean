/-- an int array's contents, as a list of naturals -/
def la (L : List Nat) : Nat → Int32 := fun k => nI (L.getD k 0)
theorem la_at (L : List Nat) {i : Nat} (h : i < 2 ^ 31) : la L (nI i).toNatClampNeg = nI (L.getD i 0) := by
  unfold la
  rw [nI_clamp h]
theorem la_set {L : List Nat} {i v : Nat} (h : i < L.length) : upd (la L) i (nI v) = la (L.set i v) := by
  funext k
  unfold upd la
  by_cases hk : k = i
  · subst hk
    rw [if_pos rfl, List.getD_eq_getElem?_getD, List.getElem?_set_self h]
    rfl
  · rw [if_neg hk, List.getD_eq_getElem?_getD, List.getD_eq_getElem?_getD, List.getElem?_set_ne (Ne.symm hk)]
theorem la_zero (n : Nat) : (fun _ => (0 : Int32)) = la (List.replicate n 0) := by
  funext k
  unfold la
  rw [List.getD_eq_getElem?_getD, List.getElem?_replicate]
  split <;> rfl
/-- n places of f, from sp on, laid over g from dp on -/
def cpy (f g : List Nat) (sp dp n : Nat) : List Nat := g.take dp ++ ((f.drop sp).take n ++ g.drop (dp + n))
theorem cpy_length {f g : List Nat} {sp dp n : Nat} (h1 : sp + n ≤ f.length) (h2 : dp + n ≤ g.length) : (cpy f g sp dp n).length = g.length := by
  simp [cpy]
  omega
theorem la_cpy {f g : List Nat} {sp dp n : Nat} (h1 : sp + n ≤ f.length) (h2 : dp + n ≤ g.length) : va_cpy (la f) (la g) sp dp n = la (cpy f g sp dp n) := by
  funext k
  unfold va_cpy la cpy
  rw [List.getD_eq_getElem?_getD (l := List.take dp g ++ _)]
  by_cases hk : k < dp
  · rw [if_neg (by omega), List.getElem?_append_left (by simp; omega), List.getElem?_take_of_lt hk, List.getD_eq_getElem?_getD]
  · rw [List.getElem?_append_right (by simp; omega)]
    have e1 : (List.take dp g).length = dp := by simp; omega
    rw [e1]
    by_cases hk2 : k < dp + n
    · rw [if_pos (by omega), List.getElem?_append_left (by simp; omega), List.getElem?_take_of_lt (by omega), List.getElem?_drop, List.getD_eq_getElem?_getD]
    · have e2 : (List.take n (List.drop sp f)).length = n := by simp; omega
      rw [if_neg (by omega), List.getElem?_append_right (by rw [e2]; omega), e2, List.getElem?_drop, List.getD_eq_getElem?_getD]
      congr 3
      omega
theorem nx_and (a b : Nat) : nI a &&& nI b = nI (a &&& b) := by
  apply Int32.toBitVec_inj.1
  show BitVec.ofNat 32 a &&& BitVec.ofNat 32 b = BitVec.ofNat 32 (a &&& b)
  rw [BitVec.ofNat_and]
theorem nx_xor (a b : Nat) : nI a ^^^ nI b = nI (a ^^^ b) := by
  apply Int32.toBitVec_inj.1
  show BitVec.ofNat 32 a ^^^ BitVec.ofNat 32 b = BitVec.ofNat 32 (a ^^^ b)
  rw [BitVec.ofNat_xor]
theorem nx_or (a b : Nat) : nI a ||| nI b = nI (a ||| b) := by
  apply Int32.toBitVec_inj.1
  show BitVec.ofNat 32 a ||| BitVec.ofNat 32 b = BitVec.ofNat 32 (a ||| b)
  rw [BitVec.ofNat_or]
theorem ln_s31 : ∀ n, n < 32 → ((nI n &&& 31).toBitVec.smod 32).toNat = n := by decide +kernel
theorem ln_u31 : ∀ n, n < 32 → (((nI n).toUInt32 &&& Int32.toUInt32 31).toBitVec % 32).toNat = n := by decide +kernel
/-! Worlds by number: the cells that the run has made, in the order of their making; a frame in one word; rows of the walk. -/
abbrev Hp : Type := List va_E
def zA (z i : Nat) : Nat := z + i
def wl (z : Nat) (h : Hp) : va_W := h.zipIdx.map (fun q => (zA z q.2, q.1))
theorem wl_at (z : Nat) (h : Hp) (i : Nat) : (wl z h)[i]? = (h[i]?).map (fun e => (zA z i, e)) := by
  unfold wl
  rw [List.getElem?_map, List.getElem?_zipIdx]
  cases h[i]? <;> simp
theorem wl_get {z : Nat} {h : Hp} {i : Nat} {e : va_E} (hi : h[i]? = some e) : (wl z h)[i]? = some (zA z i, e) := by
  rw [wl_at, hi]
  rfl
theorem wl_len (z : Nat) (h : Hp) : (wl z h).length = h.length := by simp [wl]
theorem wl_set (z : Nat) (h : Hp) (i : Nat) (e : va_E) : wl z (h.set i e) = (wl z h).set i (zA z i, e) := by
  apply List.ext_getElem?
  intro j
  rw [wl_at, List.getElem?_set, List.getElem?_set, wl_len]
  by_cases hj : i = j
  · subst hj
    simp only [if_true]
    split <;> rfl
  · simp only [hj, if_false, wl_at]
theorem wl_push (z : Nat) (h : Hp) (e : va_E) : wl z (h ++ [e]) = wl z h ++ [(zA z h.length, e)] := by
  unfold wl
  rw [List.zipIdx_append]
  simp
theorem wl_of {z : Nat} {h : Hp} {i : Nat} {q : Nat × va_E} (hi : (wl z h)[i]? = some q) : q.1 = z + i := by
  rw [wl_at] at hi
  cases hh : h[i]? with
  | none => rw [hh] at hi; simp at hi
  | some e => rw [hh] at hi; simp at hi; rw [← hi]; rfl
theorem wl_D (z : Nat) (h : Hp) : va_D (fun q => z ≤ q) (wl z h) := by
  refine ⟨fun i j p q hi hj hpq => ?_, fun k q hk => ?_⟩
  · have h1 := wl_of hi
    have h2 := wl_of hj
    omega
  · have h1 := wl_of hk
    show z ≤ q.1
    omega
/-- launch, classes and their slots, classes of arrays, the first address -/
abbrev Gp : Type := Launch × va_G × (Nat → ClassId) × Nat
abbrev gl (g : Gp) : Launch := g.1
abbrev gD (g : Gp) : va_G := g.2.1
abbrev gC (g : Gp) : Nat → ClassId := g.2.2.1
abbrev gz (g : Gp) : Nat := g.2.2.2
def gT (g : Gp) : List (ClassId × FieldType) := [(gC g 0, .int), (gC g 1, .long), (gC g 2, .object R_Row), (gC g 3, .object R_Cipher), (gC g 4, .object R_Way)]
def zle (g : Gp) : Nat → Prop := fun q => gz g ≤ q
/-- the heap holds the cells h from the first address on, and no more while they are fewer than 60 -/
def Rl (g : Gp) (h : Hp) (H : Heap) : Prop := va_P (gD g) Cls (wl (gz g) h) H ∧ gz g + h.length ≤ H.size ∧ (h.length < 60 → H.size = gz g + h.length)
/-- a method: name, code, room for locals, answer -/
abbrev MD : Type := MethodName × ByteArray × Nat × Option FieldType
def wz (md : MD) : List Cond := .code md.1 md.2.1 md.2.2.1 md.2.2.2 :: tb
def rmo (fr : Nat) (mc : Nat × Nat) : Room := { frames := fr, cells := mc.1, slots := mc.2, locals := 36 * fr }
/-- the words that aren't good ones -/
def nzw (U : State) : Prop := (∀ q ∈ nwM, va_Nw (.methodLinkNest q.1 q.2.1 q.2.2.1 q.2.2.2) U) ∧ (∀ x ∈ nwD, va_Nw (.declares x) U) ∧ ∀ c ∈ nwA, va_AO c U
theorem nzw.warm {s U : State} (hW : s.WarmedH U.vm) (h : nzw s) : nzw U := ⟨fun q hq => va_Nw.warmM hW (h.1 q hq), fun x hx => va_Nw.warmD hW (h.2.1 x hx), fun c hc => va_AO.moved hW.alike (h.2.2 c hc)⟩
theorem nzw.same {s U : State} (hv : s.vm = U.vm) (h : nzw s) : nzw U := ⟨fun q hq => va_Nw.same rfl hv (h.1 q hq), fun x hx => va_Nw.same rfl hv (h.2.1 x hx), fun c hc => va_AO.moved (by rw [hv]; exact Vm.Alike.refl _) (h.2.2 c hc)⟩
/-- a method's end -/
def Qx (g : Gp) (Post : Outcome → Hp → Prop) : Array Value → State → Outcome → State → Prop := fun _ st o t => (∃ h', Post o h' ∧ Rl g h' t.heap) ∧ va_F (zle g) st t
def Px (g : Gp) (av : List Value) (h : Hp) : Array Value → State → Prop := va_Pc av (fun U => Rl g h U.heap ∧ va_K (gD g) Cls (gT g) U ∧ nzw U)
/-- a contract: on the arguments av and the cells h the method ends with Post -/
def Con (g : Gp) (md : MD) (fr : Nat) (mc : Nat × Nat) (av : List Value) (h : Hp) (Post : Outcome → Hp → Prop) : Prop :=
  Met (gl g) md.1 (wz md) (rmo fr mc) (Px g av h) (Qx g Post) mc.1 mc.2 (zle g)
/-- an exact end -/
def Ret (r : Option Value) (h : Hp) : Outcome → Hp → Prop := fun o h' => o = .returned r ∧ h' = h
/-- the locals -/
def lx (ls : Array Slot) (nL : Nat) (L : List (Option Value)) : Prop := ls.size = nL ∧ lv_wf ls ∧ ∀ (i : Nat) (v : Value), L[i]? = some (some v) → ls[i]? = some (.val v)
def lp (L : List (Option Value)) : List (Nat × Value) := L.zipIdx.filterMap (fun q => q.1.map (fun v => (q.2, v)))
theorem lp_mem {L : List (Option Value)} {i : Nat} {v : Value} : (i, v) ∈ lp L ↔ L[i]? = some (some v) := by
  unfold lp
  rw [List.mem_filterMap]
  constructor
  · rintro ⟨⟨x, j⟩, h1, h2⟩
    have h3 := List.mem_zipIdx_iff_getElem?.mp h1
    cases x with
    | none => simp at h2
    | some w =>
      simp at h2
      obtain ⟨rfl, rfl⟩ := h2
      exact h3
  · intro h
    exact ⟨(some v, i), List.mem_zipIdx_iff_getElem?.mpr h, rfl⟩
theorem lx_has {ls : Array Slot} {nL : Nat} {L : List (Option Value)} (h : lx ls nL L) : lv_has ls nL (lp L) :=
  ⟨h.1, h.2.1, fun q hq => h.2.2 q.1 q.2 (lp_mem.mp hq)⟩
/-- no long stands just below place i -/
def ok1 (L : List (Option Value)) : Nat → Bool
  | 0 => true
  | j + 1 => match L[j]? with
    | some (some v) => !(v.category == 2)
    | _ => true
theorem ok1_spec {L : List (Option Value)} {i j : Nat} {v : Value} (h : ok1 L i = true) (hj : L[j]? = some (some v)) : (!(j + 1 == i && v.category == 2)) = true := by
  cases i with
  | zero => simp
  | succ k =>
    by_cases hk : j = k
    · subst hk
      simp only [ok1, hj] at h
      simpa using h
    · have : (j + 1 == k + 1) = false := by simpa using hk
      rw [this]
      rfl
theorem lx_st1 {ls : Array Slot} {nL i : Nat} {L : List (Option Value)} {v : Value} (hok : ok1 L i = true) (h : lv_has ls nL ((i, v) :: (lp L).filter (fun q => !(q.1 == i) && !(q.1 + 1 == i && q.2.category == 2)))) : lx ls nL (L.set i (some v)) := by
  refine ⟨h.1, h.2.1, fun j w hj => ?_⟩
  rw [List.getElem?_set] at hj
  by_cases hij : i = j
  · subst hij
    simp only [if_true] at hj
    split at hj
    · cases hj
      exact h.2.2 (i, v) List.mem_cons_self
    · cases hj
  · simp only [hij, if_false] at hj
    refine h.2.2 (j, w) (List.mem_cons_of_mem _ (List.mem_filter.mpr ⟨lp_mem.mpr hj, ?_⟩))
    rw [Bool.and_eq_true]
    exact ⟨by simpa using fun e => hij e.symm, ok1_spec hok hj⟩
theorem lx_st2 {ls : Array Slot} {nL i : Nat} {L : List (Option Value)} {v : Value} (hok : ok1 L i = true) (h : lv_has ls nL ((i, v) :: (lp L).filter (fun q => !(q.1 == i) && (!(q.1 == i + 1) && !(q.1 + 1 == i && q.2.category == 2))))) : lx ls nL ((L.set i (some v)).set (i + 1) none) := by
  refine ⟨h.1, h.2.1, fun j w hj => ?_⟩
  rw [List.getElem?_set] at hj
  by_cases hij1 : i + 1 = j
  · simp only [hij1, if_true] at hj
    split at hj <;> cases hj
  · simp only [hij1, if_false] at hj
    rw [List.getElem?_set] at hj
    by_cases hij : i = j
    · subst hij
      simp only [if_true] at hj
      split at hj
      · cases hj
        exact h.2.2 (i, v) List.mem_cons_self
      · cases hj
    · simp only [hij, if_false] at hj
      refine h.2.2 (j, w) (List.mem_cons_of_mem _ (List.mem_filter.mpr ⟨lp_mem.mpr hj, ?_⟩))
      rw [Bool.and_eq_true, Bool.and_eq_true]
      exact ⟨by simpa using fun e => hij e.symm, by simpa using fun e => hij1 e.symm, ok1_spec hok hj⟩
/-- the locals at a method's entry (no long among its arguments) -/
def lin (av : List Value) (n : Nat) : List (Option Value) := av.map some ++ List.replicate (n - av.length) none
theorem lv_args_at : ∀ (vs : List Value) (k i : Nat) (v : Value), (vs.all fun v => v.category == 1) = true → vs[i]? = some v → (k + i, v) ∈ lv_args k vs
  | [], k, i, v, _, h => by simp at h
  | a :: vs, k, i, v, hc, h => by
    rw [List.all_cons, Bool.and_eq_true, beq_iff_eq] at hc
    cases i with
    | zero =>
      simp at h
      subst h
      exact List.mem_cons_self
    | succ i =>
      rw [List.getElem?_cons_succ] at h
      have h1 := lv_args_at vs (k + 1) i v hc.2 h
      refine List.mem_cons_of_mem _ ?_
      rw [if_neg (by rw [hc.1]; decide)]
      rw [show k + (i + 1) = k + 1 + i by omega]
      exact h1
theorem lin_lx {av : List Value} {n : Nat} {ls : Array Slot} (hc : (av.all fun v => v.category == 1) = true) (h : lv_has ls n (lv_args 0 av)) : lx ls n (lin av n) := by
  refine ⟨h.1, h.2.1, fun i v hi => ?_⟩
  unfold lin at hi
  by_cases hl : i < av.length
  · rw [List.getElem?_append_left (by simpa using hl), List.getElem?_map] at hi
    cases ha : av[i]? with
    | none => rw [ha] at hi; cases hi
    | some w =>
      rw [ha] at hi
      simp at hi
      subst hi
      have := lv_args_at av 0 i w hc ha
      rw [Nat.zero_add] at this
      exact h.2.2 (i, w) this
  · rw [List.getElem?_append_right (by simpa using hl), List.getElem?_replicate] at hi
    split at hi <;> cases hi
/-- a frame's fixed things: program, environment, room, start, method, arguments, frames below, the method's entry, its code -/
abbrev Fm : Type := Program × Env × Room × State × MethodId × Array Value × List Frame × Method × Code × Option String
abbrev fP (f : Fm) : Program := f.1
abbrev fE (f : Fm) : Env := f.2.1
abbrev fR (f : Fm) : Room := f.2.2.1
abbrev fS (f : Fm) : State := f.2.2.2.1
abbrev fI (f : Fm) : MethodId := f.2.2.2.2.1
abbrev fA (f : Fm) : Array Value := f.2.2.2.2.2.1
abbrev fB (f : Fm) : List Frame := f.2.2.2.2.2.2.1
abbrev fM (f : Fm) : Method := f.2.2.2.2.2.2.2.1
abbrev fC (f : Fm) : Code := f.2.2.2.2.2.2.2.2.1
/-- the class that the method may throw -/
abbrev fT (f : Fm) : Option String := f.2.2.2.2.2.2.2.2.2
/-- it returned, or it threw what it may throw -/
def oc (f : Fm) (o : Outcome) (t : State) : Prop := (∃ v, o = .returned v) ∨ ∃ (cls : String) (a : Nat) (ce : Cell), fT f = some cls ∧ o = .threw a ∧ t.heap[a]? = some ce ∧ (fS f).vm.findClass cls = some ce.cls ∧ ce.vm = .none
def XQ (g : Gp) (f : Fm) (mc : Nat × Nat) (Post : Outcome → Hp → Prop) : State → Prop := fun t => ∃ o, t.status = .running ∧ Ended t (fB f) o ∧ Qx g Post (fA f) (fS f) o t ∧ oc f o t ∧ (fS f).WarmedH t.vm ∧ ∃ L, (fS f).sameButNew ({ t with vm := (fS f).vm } : State) L mc.1 mc.2 ∧ ∀ q ∈ L, zle g q.base
theorem XQ.of {g : Gp} {f : Fm} {mc : Nat × Nat} {Post : Outcome → Hp → Prop} {t : State} (h : MQ (fB f) (Qx g Post) (fA f) (fS f) mc.1 mc.2 (zle g) t) : XQ g f mc Post t := by
  obtain ⟨o, a, b, c, L, ⟨r, w, q⟩, z⟩ := h
  exact ⟨o, a, b, c, Or.inl r, w, L, q, z⟩
theorem XQ.to {g : Gp} {f : Fm} {mc : Nat × Nat} {Post : Outcome → Hp → Prop} {t : State} (hT : fT f = none) (h : XQ g f mc Post t) : MQ (fB f) (Qx g Post) (fA f) (fS f) mc.1 mc.2 (zle g) t := by
  obtain ⟨o, a, b, c, r, w, L, q, z⟩ := h
  refine ⟨o, a, b, c, L, ⟨?_, w, q⟩, z⟩
  rcases r with r | ⟨cls, _, _, r, _⟩
  · exact r
  · rw [hT] at r
    cases r
theorem W.monoQ {p : Program} {l : Launch} {e : Env} {R : Room} {s : State} {m : MethodId} {args : Array Value} {below : List Frame} {meth : Method} {c : Code} {H : Heap} {locs : List Loc} {cells slots : Nat} {Q Q2 : State → Prop} {g : JFrame} (k : W p l e R s m args below meth c H locs cells slots Q g) (h : ∀ t, Q t → Q2 t) : W p l e R s m args below meth c H locs cells slots Q2 g := by
  intro T hT XX
  obtain ⟨t, a, b⟩ := k T hT XX
  exact ⟨t, a, h t b⟩
/-- the walk: at pc, with locals L, operand stack st, cells h, the method comes to its end with Post -/
def X (g : Gp) (f : Fm) (md : MD) (mc : Nat × Nat) (Post : Outcome → Hp → Prop) (n : Nat × Nat) (pc : Nat) (L : List (Option Value)) (st : List Value) (h : Hp) : Prop :=
  ∀ (H : Heap) (locs : List Loc) (ls : Array Slot), Rl g h H → va_S (zle g) (fS f).heap H locs → lx ls md.2.2.1 L →
    W (fP f) (gl g) (fE f) (fR f) (fS f) (fI f) (fA f) (fB f) (fM f) (fC f) H locs n.1 n.2 (XQ g f mc Post) (F0 (fI f) pc ls st)
/-- what a frame knows -/
def Cx (g : Gp) (f : Fm) (md : MD) (fr : Nat) (mc : Nat × Nat) : Prop :=
  (fP f).tables.exec = Jvm.exec ∧ (fC f).code = md.2.1 ∧ (fM f).sig.returnType = md.2.2.2 ∧ (∀ w ∈ tb, w.before (fA f) (fS f) = true) ∧ (fS f).vm.findClass md.1.cls = some (fI f).cls ∧
  (fC f).maxLocals = md.2.2.1 ∧ (fM f).locks = false ∧ va_K (gD g) Cls (gT g) (fS f) ∧ nzw (fS f) ∧ (fM f).name = md.1.name ∧ (fR f) = rmo fr mc ∧ gz g ≤ (fS f).heap.size
section XC
variable {g : Gp} {f : Fm} {md : MD} {fr : Nat} {mc : Nat × Nat}
theorem Cx.exec (C : Cx g f md fr mc) : (fP f).tables.exec = Jvm.exec := C.1
theorem Cx.code (C : Cx g f md fr mc) : (fC f).code = md.2.1 := C.2.1
theorem Cx.ret (C : Cx g f md fr mc) : (fM f).sig.returnType = md.2.2.2 := C.2.2.1
theorem Cx.ts (C : Cx g f md fr mc) : ∀ w ∈ tb, w.before (fA f) (fS f) = true := C.2.2.2.1
theorem Cx.own (C : Cx g f md fr mc) : (fS f).vm.findClass md.1.cls = some (fI f).cls := C.2.2.2.2.1
theorem Cx.ml (C : Cx g f md fr mc) : (fC f).maxLocals = md.2.2.1 := C.2.2.2.2.2.1
theorem Cx.locks (C : Cx g f md fr mc) : (fM f).locks = false := C.2.2.2.2.2.2.1
theorem Cx.K (C : Cx g f md fr mc) : va_K (gD g) Cls (gT g) (fS f) := C.2.2.2.2.2.2.2.1
theorem Cx.nw (C : Cx g f md fr mc) : nzw (fS f) := C.2.2.2.2.2.2.2.2.1
theorem Cx.name (C : Cx g f md fr mc) : (fM f).name = md.1.name := C.2.2.2.2.2.2.2.2.2.1
theorem Cx.room (C : Cx g f md fr mc) : (fR f) = rmo fr mc := C.2.2.2.2.2.2.2.2.2.2.1
theorem Cx.z (C : Cx g f md fr mc) : gz g ≤ (fS f).heap.size := C.2.2.2.2.2.2.2.2.2.2.2
end XC
theorem Con.of {g : Gp} {md : MD} {fr : Nat} {mc : Nat × Nat} {av : List Value} {h : Hp} {Post : Outcome → Hp → Prop} (hy : plainName md.1.cls = true) (hc : (av.all fun v => v.category == 1) = true) (hn : Nat.ble av.length md.2.2.1 = true) {L : List (Option Value)} (hL : lin av md.2.2.1 = L)
    (body : ∀ f : Fm, Cx g f md fr mc → X g f md mc Post (0, 0) 0 L [] h) : Con g md fr mc av h Post := by
  refine Met.ofW (cc := md.2.1) (maxL := md.2.2.1) (ret := md.2.2.2) (ws' := tb) hy rfl ?_
  intro p e s m args below meth c s₁ B hml hv
  obtain ⟨rfl, hR, hK, hz⟩ := hv
  have hts := atoms_spec (ws := wz md) B.pre
  have hl0 : (lg_sl av).length ≤ md.2.2.1 := by
    have h1 : ∀ vs : List Value, (vs.all fun v => v.category == 1) = true → (lg_sl vs).length = vs.length := by
      intro vs
      induction vs with
      | nil => intro _; rfl
      | cons v vs ih =>
        intro h
        rw [List.all_cons, Bool.and_eq_true, beq_iff_eq] at h
        have h2 := ih h.2
        have h3 : lg_sl (v :: vs) = [.val v] ++ lg_sl vs := by simp [lg_sl, h.1]
        rw [h3, List.length_append, h2]
        show 1 + vs.length = vs.length + 1
        omega
    rw [h1 av hc]
    exact Nat.le_of_ble_eq_true hn
  have hl := lin_lx hc (lv_entry av hl0)
  rw [hL] at hl
  rw [lg_entry_eq]
  exact W.monoQ (body (p, e, (headSpec (wz md) (rmo fr mc)).room, s, m, av.toArray, below, meth, c, none) ⟨B.exec, B.bytes, B.returns, fun w hw => hts w (List.mem_cons_of_mem _ hw), findClass_of_methodNamed B.named, hml, B.notSynchronized, hK, hz, (name_of_methodNamed B.named B.method).1, rfl, Nat.le_trans (Nat.le_add_right _ _) hR.2.1⟩ s.heap [] _ hR va_S.rf hl) (fun t q => XQ.to rfl q)
theorem Con.weaken {g : Gp} {md : MD} {fr : Nat} {mc : Nat × Nat} {av : List Value} {h : Hp} {Post Post' : Outcome → Hp → Prop} (H : Con g md fr mc av h Post) (hp : ∀ o h', Post o h' → Post' o h') : Con g md fr mc av h Post' := by
  intro p e ha hc hk s m args below hf happ hP hKK
  obtain ⟨s₂, o, h1, h2, h3, ⟨⟨h', q1, q2⟩, q3⟩, q4⟩ := H p e ha hc hk s m args below hf happ hP hKK
  exact ⟨s₂, o, h1, h2, h3, ⟨⟨h', hp _ _ q1, q2⟩, q3⟩, q4⟩
section XR
variable {g : Gp} {f : Fm} {md : MD} {fr : Nat} {mc : Nat × Nat} {Post : Outcome → Hp → Prop} {n : Nat × Nat} {pc : Nat} {L : List (Option Value)} {st : List Value} {h : Hp}
theorem x_iconst {a : Int} {v : Int32} (C : Cx g f md fr mc) (d : decode md.2.1 pc = .ok (.iconst a, 1)) (hv : Int32.ofInt a = v) (k : X g f md mc Post n (pc + 1) L (.int v :: st) h) : X g f md mc Post n pc L (st) h :=
  fun H locs ls hR hS hl => lv_iconst C.exec C.code d hv (k H locs ls hR hS hl)
theorem x_bipush {a : Int} {v : Int32} (C : Cx g f md fr mc) (d : decode md.2.1 pc = .ok (.bipush a, 2)) (hv : (Int8.ofInt a).toInt32 = v) (k : X g f md mc Post n (pc + 2) L (.int v :: st) h) : X g f md mc Post n pc L (st) h :=
  fun H locs ls hR hS hl => lv_bipush C.exec C.code d hv (k H locs ls hR hS hl)
theorem x_sipush {a : Int} {v : Int32} (C : Cx g f md fr mc) (d : decode md.2.1 pc = .ok (.sipush a, 3)) (hv : (Int16.ofInt a).toInt32 = v) (k : X g f md mc Post n (pc + 3) L (.int v :: st) h) : X g f md mc Post n pc L (st) h :=
  fun H locs ls hR hS hl => lv_sipush C.exec C.code d hv (k H locs ls hR hS hl)
theorem x_lconst {a : Fin 2} {v : Int64} (C : Cx g f md fr mc) (d : decode md.2.1 pc = .ok (.lconst a, 1)) (hv : Int64.ofNat (a : Nat) = v) (k : X g f md mc Post n (pc + 1) L (.long v :: st) h) : X g f md mc Post n pc L (st) h :=
  fun H locs ls hR hS hl => lv_lconst C.exec C.code d hv (k H locs ls hR hS hl)
theorem x_iload_n {q : Fin 4} {x : Int32} (C : Cx g f md fr mc) (d : decode md.2.1 pc = .ok (.iload_n q, 1)) (hk : L[(q : Nat)]? = some (some (.int x))) (k : X g f md mc Post n (pc + 1) L (.int x :: st) h) : X g f md mc Post n pc L (st) h :=
  fun H locs ls hR hS hl => lv_iload_n C.exec C.code d rfl (hl.2.2 _ _ hk) (k H locs ls hR hS hl)
theorem x_iload {q : Nat} {x : Int32} (C : Cx g f md fr mc) (d : decode md.2.1 pc = .ok (.iload q, 2)) (hk : L[q]? = some (some (.int x))) (k : X g f md mc Post n (pc + 2) L (.int x :: st) h) : X g f md mc Post n pc L (st) h :=
  fun H locs ls hR hS hl => lv_iload C.exec C.code d (hl.2.2 _ _ hk) (k H locs ls hR hS hl)
theorem x_istore_n {q : Fin 4} {i : Nat} {x : Int32} (C : Cx g f md fr mc) (d : decode md.2.1 pc = .ok (.istore_n q, 1)) (hi : (q : Nat) = i) (hn : Nat.blt (i) md.2.2.1 = true) (hok : ok1 L i = true) (k : X g f md mc Post n (pc + 1) (L.set i (some (.int x))) st h) : X g f md mc Post n pc L (.int x :: st) h := fun H locs ls hR hS hl => lv_istore_n C.exec C.code d hi (lx_has hl) (Nat.le_of_ble_eq_true hn) rfl (fun ls2 h2 => k H locs ls2 hR hS (lx_st1 hok h2))
theorem x_istore {q i : Nat} {x : Int32} (C : Cx g f md fr mc) (d : decode md.2.1 pc = .ok (.istore q, 2)) (hi : q = i) (hn : Nat.blt (i) md.2.2.1 = true) (hok : ok1 L i = true) (k : X g f md mc Post n (pc + 2) (L.set i (some (.int x))) st h) : X g f md mc Post n pc L (.int x :: st) h := by
  subst hi
  exact fun H locs ls hR hS hl => lv_istore C.exec C.code d (lx_has hl) (Nat.le_of_ble_eq_true hn) rfl (fun ls2 h2 => k H locs ls2 hR hS (lx_st1 hok h2))
theorem x_lload_n {q : Fin 4} {x : Int64} (C : Cx g f md fr mc) (d : decode md.2.1 pc = .ok (.lload_n q, 1)) (hk : L[(q : Nat)]? = some (some (.long x))) (k : X g f md mc Post n (pc + 1) L (.long x :: st) h) : X g f md mc Post n pc L (st) h :=
  fun H locs ls hR hS hl => lv_lload_n C.exec C.code d rfl (hl.2.2 _ _ hk) (k H locs ls hR hS hl)
theorem x_lload {q : Nat} {x : Int64} (C : Cx g f md fr mc) (d : decode md.2.1 pc = .ok (.lload q, 2)) (hk : L[q]? = some (some (.long x))) (k : X g f md mc Post n (pc + 2) L (.long x :: st) h) : X g f md mc Post n pc L (st) h :=
  fun H locs ls hR hS hl => lv_lload C.exec C.code d (hl.2.2 _ _ hk) (k H locs ls hR hS hl)
theorem x_lstore_n {q : Fin 4} {i : Nat} {x : Int64} (C : Cx g f md fr mc) (d : decode md.2.1 pc = .ok (.lstore_n q, 1)) (hi : (q : Nat) = i) (hn : Nat.blt (i + 1) md.2.2.1 = true) (hok : ok1 L i = true) (k : X g f md mc Post n (pc + 1) ((L.set i (some (.long x))).set (i + 1) none) st h) : X g f md mc Post n pc L (.long x :: st) h := fun H locs ls hR hS hl => lv_lstore_n C.exec C.code d hi (lx_has hl) (Nat.le_of_ble_eq_true hn) rfl (fun ls2 h2 => k H locs ls2 hR hS (lx_st2 hok h2))
theorem x_lstore {q i : Nat} {x : Int64} (C : Cx g f md fr mc) (d : decode md.2.1 pc = .ok (.lstore q, 2)) (hi : q = i) (hn : Nat.blt (i + 1) md.2.2.1 = true) (hok : ok1 L i = true) (k : X g f md mc Post n (pc + 2) ((L.set i (some (.long x))).set (i + 1) none) st h) : X g f md mc Post n pc L (.long x :: st) h := by
  subst hi
  exact fun H locs ls hR hS hl => lv_lstore C.exec C.code d (lx_has hl) (Nat.le_of_ble_eq_true hn) rfl (fun ls2 h2 => k H locs ls2 hR hS (lx_st2 hok h2))
theorem x_aload_n {q : Fin 4} {x : Nat} (C : Cx g f md fr mc) (d : decode md.2.1 pc = .ok (.aload_n q, 1)) (hk : L[(q : Nat)]? = some (some (.ref x))) (k : X g f md mc Post n (pc + 1) L (.ref x :: st) h) : X g f md mc Post n pc L (st) h :=
  fun H locs ls hR hS hl => lv_aload_n C.exec C.code d rfl (hl.2.2 _ _ hk) (k H locs ls hR hS hl)
theorem x_aload {q : Nat} {x : Nat} (C : Cx g f md fr mc) (d : decode md.2.1 pc = .ok (.aload q, 2)) (hk : L[q]? = some (some (.ref x))) (k : X g f md mc Post n (pc + 2) L (.ref x :: st) h) : X g f md mc Post n pc L (st) h :=
  fun H locs ls hR hS hl => lv_aload C.exec C.code d (hl.2.2 _ _ hk) (k H locs ls hR hS hl)
theorem x_astore_n {q : Fin 4} {i : Nat} {x : Nat} (C : Cx g f md fr mc) (d : decode md.2.1 pc = .ok (.astore_n q, 1)) (hi : (q : Nat) = i) (hn : Nat.blt (i) md.2.2.1 = true) (hok : ok1 L i = true) (k : X g f md mc Post n (pc + 1) (L.set i (some (.ref x))) st h) : X g f md mc Post n pc L (.ref x :: st) h := fun H locs ls hR hS hl => lv_astore_n C.exec C.code d hi (lx_has hl) (Nat.le_of_ble_eq_true hn) rfl (fun ls2 h2 => k H locs ls2 hR hS (lx_st1 hok h2))
theorem x_astore {q i : Nat} {x : Nat} (C : Cx g f md fr mc) (d : decode md.2.1 pc = .ok (.astore q, 2)) (hi : q = i) (hn : Nat.blt (i) md.2.2.1 = true) (hok : ok1 L i = true) (k : X g f md mc Post n (pc + 2) (L.set i (some (.ref x))) st h) : X g f md mc Post n pc L (.ref x :: st) h := by
  subst hi
  exact fun H locs ls hR hS hl => lv_astore C.exec C.code d (lx_has hl) (Nat.le_of_ble_eq_true hn) rfl (fun ls2 h2 => k H locs ls2 hR hS (lx_st1 hok h2))
theorem x_iinc {q : Nat} {a : Int} {x v : Int32} (C : Cx g f md fr mc) (d : decode md.2.1 pc = .ok (.iinc q a, 3)) (hk : L[q]? = some (some (.int x))) (hv : x + Int32.ofInt a = v) (hn : Nat.blt q md.2.2.1 = true) (hok : ok1 L q = true) (k : X g f md mc Post n (pc + 3) (L.set q (some (.int v))) st h) : X g f md mc Post n pc L st h := by
  intro H locs ls hR hS hl
  obtain ⟨j, hj⟩ := List.getElem?_of_mem (lp_mem.mpr hk)
  exact lv_iinc C.exec C.code d (lx_has hl) hj hv (Nat.le_of_ble_eq_true hn) rfl (fun ls2 h2 => k H locs ls2 hR hS (lx_st1 hok h2))
theorem x_iadd {x y : Int32} (C : Cx g f md fr mc) (d : decode md.2.1 pc = .ok (.iadd, 1))  (k : X g f md mc Post n (pc + 1) L (.int (x + y) :: st) h) : X g f md mc Post n pc L (.int y :: .int x :: st) h :=
  fun H locs ls hR hS hl => lv_iadd C.exec C.code d (k H locs ls hR hS hl)
theorem x_isub {x y : Int32} (C : Cx g f md fr mc) (d : decode md.2.1 pc = .ok (.isub, 1))  (k : X g f md mc Post n (pc + 1) L (.int (x - y) :: st) h) : X g f md mc Post n pc L (.int y :: .int x :: st) h :=
  fun H locs ls hR hS hl => lv_isub C.exec C.code d (k H locs ls hR hS hl)
theorem x_imul {x y : Int32} (C : Cx g f md fr mc) (d : decode md.2.1 pc = .ok (.imul, 1))  (k : X g f md mc Post n (pc + 1) L (.int (x * y) :: st) h) : X g f md mc Post n pc L (.int y :: .int x :: st) h :=
  fun H locs ls hR hS hl => lv_imul C.exec C.code d (k H locs ls hR hS hl)
theorem x_iand {x y : Int32} (C : Cx g f md fr mc) (d : decode md.2.1 pc = .ok (.iand, 1))  (k : X g f md mc Post n (pc + 1) L (.int (x &&& y) :: st) h) : X g f md mc Post n pc L (.int y :: .int x :: st) h :=
  fun H locs ls hR hS hl => lv_iand C.exec C.code d (k H locs ls hR hS hl)
theorem x_ior {x y : Int32} (C : Cx g f md fr mc) (d : decode md.2.1 pc = .ok (.ior, 1))  (k : X g f md mc Post n (pc + 1) L (.int (x ||| y) :: st) h) : X g f md mc Post n pc L (.int y :: .int x :: st) h :=
  fun H locs ls hR hS hl => lv_ior C.exec C.code d (k H locs ls hR hS hl)
theorem x_ixor {x y : Int32} (C : Cx g f md fr mc) (d : decode md.2.1 pc = .ok (.ixor, 1))  (k : X g f md mc Post n (pc + 1) L (.int (x ^^^ y) :: st) h) : X g f md mc Post n pc L (.int y :: .int x :: st) h :=
  fun H locs ls hR hS hl => lv_ixor C.exec C.code d (k H locs ls hR hS hl)
theorem x_ladd {x y : Int64} (C : Cx g f md fr mc) (d : decode md.2.1 pc = .ok (.ladd, 1))  (k : X g f md mc Post n (pc + 1) L (.long (x + y) :: st) h) : X g f md mc Post n pc L (.long y :: .long x :: st) h :=
  fun H locs ls hR hS hl => lv_ladd C.exec C.code d (k H locs ls hR hS hl)
theorem x_land {x y : Int64} (C : Cx g f md fr mc) (d : decode md.2.1 pc = .ok (.land, 1))  (k : X g f md mc Post n (pc + 1) L (.long (x &&& y) :: st) h) : X g f md mc Post n pc L (.long y :: .long x :: st) h :=
  fun H locs ls hR hS hl => lv_land C.exec C.code d (k H locs ls hR hS hl)
theorem x_lor {x y : Int64} (C : Cx g f md fr mc) (d : decode md.2.1 pc = .ok (.lor, 1))  (k : X g f md mc Post n (pc + 1) L (.long (x ||| y) :: st) h) : X g f md mc Post n pc L (.long y :: .long x :: st) h :=
  fun H locs ls hR hS hl => lv_lor C.exec C.code d (k H locs ls hR hS hl)
theorem x_i2l {x : Int32} {v : Int64} (C : Cx g f md fr mc) (d : decode md.2.1 pc = .ok (.i2l, 1)) (hv : x.toInt64 = v) (k : X g f md mc Post n (pc + 1) L (.long v :: st) h) : X g f md mc Post n pc L (.int x :: st) h :=
  fun H locs ls hR hS hl => lv_i2l C.exec C.code d hv (k H locs ls hR hS hl)
theorem x_l2i {x : Int64} {v : Int32} (C : Cx g f md fr mc) (d : decode md.2.1 pc = .ok (.l2i, 1)) (hv : x.toInt32 = v) (k : X g f md mc Post n (pc + 1) L (.int v :: st) h) : X g f md mc Post n pc L (.long x :: st) h :=
  fun H locs ls hR hS hl => lv_l2i C.exec C.code d hv (k H locs ls hR hS hl)
theorem x_lshl {x v : Int64} {y : Int32} (C : Cx g f md fr mc) (d : decode md.2.1 pc = .ok (.lshl, 1)) (hv : x <<< (y.toInt64 &&& 63) = v) (k : X g f md mc Post n (pc + 1) L (.long v :: st) h) : X g f md mc Post n pc L (.int y :: .long x :: st) h :=
  fun H locs ls hR hS hl => lv_lshl C.exec C.code d hv (k H locs ls hR hS hl)
theorem x_lshr {x v : Int64} {y : Int32} (C : Cx g f md fr mc) (d : decode md.2.1 pc = .ok (.lshr, 1)) (hv : x >>> (y.toInt64 &&& 63) = v) (k : X g f md mc Post n (pc + 1) L (.long v :: st) h) : X g f md mc Post n pc L (.int y :: .long x :: st) h :=
  fun H locs ls hR hS hl => lv_lshr C.exec C.code d hv (k H locs ls hR hS hl)
theorem x_dup {a : Value} (C : Cx g f md fr mc) (d : decode md.2.1 pc = .ok (.dup, 1)) (ha : a.category = 1) (k : X g f md mc Post n (pc + 1) L (a :: a :: st) h) : X g f md mc Post n pc L (a :: st) h :=
  fun H locs ls hR hS hl => lv_dup C.exec C.code d ha (k H locs ls hR hS hl)
theorem x_dup2 {a b : Value} (C : Cx g f md fr mc) (d : decode md.2.1 pc = .ok (.dup2, 1)) (ha : a.category = 1) (hb : b.category = 1) (k : X g f md mc Post n (pc + 1) L (a :: b :: a :: b :: st) h) : X g f md mc Post n pc L (a :: b :: st) h :=
  fun H locs ls hR hS hl => lv_dup2_11 C.exec C.code d ha hb (k H locs ls hR hS hl)
theorem x_pop {a : Value} (C : Cx g f md fr mc) (d : decode md.2.1 pc = .ok (.pop, 1)) (ha : a.category = 1) (k : X g f md mc Post n (pc + 1) L (st) h) : X g f md mc Post n pc L (a :: st) h :=
  fun H locs ls hR hS hl => lv_pop C.exec C.code d ha (k H locs ls hR hS hl)
theorem x_goto {off : Int} {tgt : Nat} (C : Cx g f md fr mc) (d : decode md.2.1 pc = .ok (.goto off, 3)) (ht : (pc : Int) + off = (tgt : Int)) (k : X g f md mc Post n tgt L st h) : X g f md mc Post n pc L st h :=
  fun H locs ls hR hS hl => lv_goto C.exec C.code d ht (k H locs ls hR hS hl)
theorem x_ifeq {x : Int32} {off : Int} {tgt : Nat} (C : Cx g f md fr mc) (d : decode md.2.1 pc = .ok (.ifCond .eq off, 3)) (ht : (pc : Int) + off = (tgt : Int)) (kt : x = 0 → X g f md mc Post n tgt L st h) (kf : ¬ x = 0 → X g f md mc Post n (pc + 3) L st h) : X g f md mc Post n pc L (.int x :: st) h :=
  fun H locs ls hR hS hl => lv_if_eq C.exec C.code d ht (fun q => kt q H locs ls hR hS hl) (fun q => kf q H locs ls hR hS hl)
theorem x_eq {x y : Int32} {off : Int} {tgt : Nat} (C : Cx g f md fr mc) (d : decode md.2.1 pc = .ok (.if_icmp .eq off, 3)) (ht : (pc : Int) + off = (tgt : Int)) (kt : x = y → X g f md mc Post n tgt L st h) (kf : ¬ x = y → X g f md mc Post n (pc + 3) L st h) : X g f md mc Post n pc L (.int y :: .int x :: st) h :=
  fun H locs ls hR hS hl => lv_icmp_eq C.exec C.code d ht (fun q => kt q H locs ls hR hS hl) (fun q => kf q H locs ls hR hS hl)
theorem x_ifne {x : Int32} {off : Int} {tgt : Nat} (C : Cx g f md fr mc) (d : decode md.2.1 pc = .ok (.ifCond .ne off, 3)) (ht : (pc : Int) + off = (tgt : Int)) (kt : ¬ x = 0 → X g f md mc Post n tgt L st h) (kf : x = 0 → X g f md mc Post n (pc + 3) L st h) : X g f md mc Post n pc L (.int x :: st) h :=
  fun H locs ls hR hS hl => lv_if_ne C.exec C.code d ht (fun q => kt q H locs ls hR hS hl) (fun q => kf q H locs ls hR hS hl)
theorem x_ne {x y : Int32} {off : Int} {tgt : Nat} (C : Cx g f md fr mc) (d : decode md.2.1 pc = .ok (.if_icmp .ne off, 3)) (ht : (pc : Int) + off = (tgt : Int)) (kt : ¬ x = y → X g f md mc Post n tgt L st h) (kf : x = y → X g f md mc Post n (pc + 3) L st h) : X g f md mc Post n pc L (.int y :: .int x :: st) h :=
  fun H locs ls hR hS hl => lv_icmp_ne C.exec C.code d ht (fun q => kt q H locs ls hR hS hl) (fun q => kf q H locs ls hR hS hl)
theorem x_iflt {x : Int32} {off : Int} {tgt : Nat} (C : Cx g f md fr mc) (d : decode md.2.1 pc = .ok (.ifCond .lt off, 3)) (ht : (pc : Int) + off = (tgt : Int)) (kt : x < 0 → X g f md mc Post n tgt L st h) (kf : ¬ x < 0 → X g f md mc Post n (pc + 3) L st h) : X g f md mc Post n pc L (.int x :: st) h :=
  fun H locs ls hR hS hl => lv_if_lt C.exec C.code d ht (fun q => kt q H locs ls hR hS hl) (fun q => kf q H locs ls hR hS hl)
theorem x_lt {x y : Int32} {off : Int} {tgt : Nat} (C : Cx g f md fr mc) (d : decode md.2.1 pc = .ok (.if_icmp .lt off, 3)) (ht : (pc : Int) + off = (tgt : Int)) (kt : x < y → X g f md mc Post n tgt L st h) (kf : ¬ x < y → X g f md mc Post n (pc + 3) L st h) : X g f md mc Post n pc L (.int y :: .int x :: st) h :=
  fun H locs ls hR hS hl => lv_icmp_lt C.exec C.code d ht (fun q => kt q H locs ls hR hS hl) (fun q => kf q H locs ls hR hS hl)
theorem x_ifge {x : Int32} {off : Int} {tgt : Nat} (C : Cx g f md fr mc) (d : decode md.2.1 pc = .ok (.ifCond .ge off, 3)) (ht : (pc : Int) + off = (tgt : Int)) (kt : 0 ≤ x → X g f md mc Post n tgt L st h) (kf : ¬ 0 ≤ x → X g f md mc Post n (pc + 3) L st h) : X g f md mc Post n pc L (.int x :: st) h :=
  fun H locs ls hR hS hl => lv_if_ge C.exec C.code d ht (fun q => kt q H locs ls hR hS hl) (fun q => kf q H locs ls hR hS hl)
theorem x_ge {x y : Int32} {off : Int} {tgt : Nat} (C : Cx g f md fr mc) (d : decode md.2.1 pc = .ok (.if_icmp .ge off, 3)) (ht : (pc : Int) + off = (tgt : Int)) (kt : y ≤ x → X g f md mc Post n tgt L st h) (kf : ¬ y ≤ x → X g f md mc Post n (pc + 3) L st h) : X g f md mc Post n pc L (.int y :: .int x :: st) h :=
  fun H locs ls hR hS hl => lv_icmp_ge C.exec C.code d ht (fun q => kt q H locs ls hR hS hl) (fun q => kf q H locs ls hR hS hl)
theorem x_ifgt {x : Int32} {off : Int} {tgt : Nat} (C : Cx g f md fr mc) (d : decode md.2.1 pc = .ok (.ifCond .gt off, 3)) (ht : (pc : Int) + off = (tgt : Int)) (kt : 0 < x → X g f md mc Post n tgt L st h) (kf : ¬ 0 < x → X g f md mc Post n (pc + 3) L st h) : X g f md mc Post n pc L (.int x :: st) h :=
  fun H locs ls hR hS hl => lv_if_gt C.exec C.code d ht (fun q => kt q H locs ls hR hS hl) (fun q => kf q H locs ls hR hS hl)
theorem x_gt {x y : Int32} {off : Int} {tgt : Nat} (C : Cx g f md fr mc) (d : decode md.2.1 pc = .ok (.if_icmp .gt off, 3)) (ht : (pc : Int) + off = (tgt : Int)) (kt : y < x → X g f md mc Post n tgt L st h) (kf : ¬ y < x → X g f md mc Post n (pc + 3) L st h) : X g f md mc Post n pc L (.int y :: .int x :: st) h :=
  fun H locs ls hR hS hl => lv_icmp_gt C.exec C.code d ht (fun q => kt q H locs ls hR hS hl) (fun q => kf q H locs ls hR hS hl)
theorem x_ifle {x : Int32} {off : Int} {tgt : Nat} (C : Cx g f md fr mc) (d : decode md.2.1 pc = .ok (.ifCond .le off, 3)) (ht : (pc : Int) + off = (tgt : Int)) (kt : x ≤ 0 → X g f md mc Post n tgt L st h) (kf : ¬ x ≤ 0 → X g f md mc Post n (pc + 3) L st h) : X g f md mc Post n pc L (.int x :: st) h :=
  fun H locs ls hR hS hl => lv_if_le C.exec C.code d ht (fun q => kt q H locs ls hR hS hl) (fun q => kf q H locs ls hR hS hl)
theorem x_le {x y : Int32} {off : Int} {tgt : Nat} (C : Cx g f md fr mc) (d : decode md.2.1 pc = .ok (.if_icmp .le off, 3)) (ht : (pc : Int) + off = (tgt : Int)) (kt : x ≤ y → X g f md mc Post n tgt L st h) (kf : ¬ x ≤ y → X g f md mc Post n (pc + 3) L st h) : X g f md mc Post n pc L (.int y :: .int x :: st) h :=
  fun H locs ls hR hS hl => lv_icmp_le C.exec C.code d ht (fun q => kt q H locs ls hR hS hl) (fun q => kf q H locs ls hR hS hl)
theorem n_eq {a b : Nat} {off : Int} {tgt : Nat} (C : Cx g f md fr mc) (d : decode md.2.1 pc = .ok (.if_icmp .eq off, 3)) (ht : (pc : Int) + off = (tgt : Int)) (hx : a < 2 ^ 31 ∧ b < 2 ^ 31) (kt : a = b → X g f md mc Post n tgt L st h) (kf : a ≠ b → X g f md mc Post n (pc + 3) L st h) : X g f md mc Post n pc L (.int (nI b) :: .int (nI a) :: st) h :=
  x_eq C d ht (fun q => kt ((nI_eq hx.1 hx.2).mp q)) (fun q => kf fun z => q ((nI_eq hx.1 hx.2).mpr z))
theorem n_eq_t {a b : Nat} {off : Int} {tgt : Nat} (C : Cx g f md fr mc) (d : decode md.2.1 pc = .ok (.if_icmp .eq off, 3)) (ht : (pc : Int) + off = (tgt : Int)) (hx : a < 2 ^ 31 ∧ b < 2 ^ 31) (q : a = b) (k : X g f md mc Post n tgt L st h) : X g f md mc Post n pc L (.int (nI b) :: .int (nI a) :: st) h :=
  n_eq C d ht hx (fun _ => k) (fun z => absurd q (by omega))
theorem n_eq_f {a b : Nat} {off : Int} {tgt : Nat} (C : Cx g f md fr mc) (d : decode md.2.1 pc = .ok (.if_icmp .eq off, 3)) (ht : (pc : Int) + off = (tgt : Int)) (hx : a < 2 ^ 31 ∧ b < 2 ^ 31) (q : a ≠ b) (k : X g f md mc Post n (pc + 3) L st h) : X g f md mc Post n pc L (.int (nI b) :: .int (nI a) :: st) h :=
  n_eq C d ht hx (fun z => absurd q (by omega)) (fun _ => k)
theorem n_ifeq {a : Nat} {off : Int} {tgt : Nat} (C : Cx g f md fr mc) (d : decode md.2.1 pc = .ok (.ifCond .eq off, 3)) (ht : (pc : Int) + off = (tgt : Int)) (hx : a < 2 ^ 31) (kt : a = 0 → X g f md mc Post n tgt L st h) (kf : a ≠ 0 → X g f md mc Post n (pc + 3) L st h) : X g f md mc Post n pc L (.int (nI a) :: st) h := by
  have hx : a < 2 ^ 31 ∧ 0 < 2 ^ 31 := ⟨hx, by omega⟩
  refine x_ifeq C d ht ?_ ?_
  · rw [← nI_0]
    exact (fun q => kt ((nI_eq hx.1 hx.2).mp q))
  · rw [← nI_0]
    exact (fun q => kf fun z => q ((nI_eq hx.1 hx.2).mpr z))
theorem n_ifeq_t {a : Nat} {off : Int} {tgt : Nat} (C : Cx g f md fr mc) (d : decode md.2.1 pc = .ok (.ifCond .eq off, 3)) (ht : (pc : Int) + off = (tgt : Int)) (hx : a < 2 ^ 31) (q : a = 0) (k : X g f md mc Post n tgt L st h) : X g f md mc Post n pc L (.int (nI a) :: st) h :=
  n_ifeq C d ht hx (fun _ => k) (fun z => absurd q (by omega))
theorem n_ifeq_f {a : Nat} {off : Int} {tgt : Nat} (C : Cx g f md fr mc) (d : decode md.2.1 pc = .ok (.ifCond .eq off, 3)) (ht : (pc : Int) + off = (tgt : Int)) (hx : a < 2 ^ 31) (q : a ≠ 0) (k : X g f md mc Post n (pc + 3) L st h) : X g f md mc Post n pc L (.int (nI a) :: st) h :=
  n_ifeq C d ht hx (fun z => absurd q (by omega)) (fun _ => k)
theorem n_ne {a b : Nat} {off : Int} {tgt : Nat} (C : Cx g f md fr mc) (d : decode md.2.1 pc = .ok (.if_icmp .ne off, 3)) (ht : (pc : Int) + off = (tgt : Int)) (hx : a < 2 ^ 31 ∧ b < 2 ^ 31) (kt : a ≠ b → X g f md mc Post n tgt L st h) (kf : a = b → X g f md mc Post n (pc + 3) L st h) : X g f md mc Post n pc L (.int (nI b) :: .int (nI a) :: st) h :=
  x_ne C d ht (fun q => kt fun z => q ((nI_eq hx.1 hx.2).mpr z)) (fun q => kf ((nI_eq hx.1 hx.2).mp q))
theorem n_ne_t {a b : Nat} {off : Int} {tgt : Nat} (C : Cx g f md fr mc) (d : decode md.2.1 pc = .ok (.if_icmp .ne off, 3)) (ht : (pc : Int) + off = (tgt : Int)) (hx : a < 2 ^ 31 ∧ b < 2 ^ 31) (q : a ≠ b) (k : X g f md mc Post n tgt L st h) : X g f md mc Post n pc L (.int (nI b) :: .int (nI a) :: st) h :=
  n_ne C d ht hx (fun _ => k) (fun z => absurd q (by omega))
theorem n_ne_f {a b : Nat} {off : Int} {tgt : Nat} (C : Cx g f md fr mc) (d : decode md.2.1 pc = .ok (.if_icmp .ne off, 3)) (ht : (pc : Int) + off = (tgt : Int)) (hx : a < 2 ^ 31 ∧ b < 2 ^ 31) (q : a = b) (k : X g f md mc Post n (pc + 3) L st h) : X g f md mc Post n pc L (.int (nI b) :: .int (nI a) :: st) h :=
  n_ne C d ht hx (fun z => absurd q (by omega)) (fun _ => k)
theorem n_ifne {a : Nat} {off : Int} {tgt : Nat} (C : Cx g f md fr mc) (d : decode md.2.1 pc = .ok (.ifCond .ne off, 3)) (ht : (pc : Int) + off = (tgt : Int)) (hx : a < 2 ^ 31) (kt : a ≠ 0 → X g f md mc Post n tgt L st h) (kf : a = 0 → X g f md mc Post n (pc + 3) L st h) : X g f md mc Post n pc L (.int (nI a) :: st) h := by
  have hx : a < 2 ^ 31 ∧ 0 < 2 ^ 31 := ⟨hx, by omega⟩
  refine x_ifne C d ht ?_ ?_
  · rw [← nI_0]
    exact (fun q => kt fun z => q ((nI_eq hx.1 hx.2).mpr z))
  · rw [← nI_0]
    exact (fun q => kf ((nI_eq hx.1 hx.2).mp q))
theorem n_ifne_t {a : Nat} {off : Int} {tgt : Nat} (C : Cx g f md fr mc) (d : decode md.2.1 pc = .ok (.ifCond .ne off, 3)) (ht : (pc : Int) + off = (tgt : Int)) (hx : a < 2 ^ 31) (q : a ≠ 0) (k : X g f md mc Post n tgt L st h) : X g f md mc Post n pc L (.int (nI a) :: st) h :=
  n_ifne C d ht hx (fun _ => k) (fun z => absurd q (by omega))
theorem n_ifne_f {a : Nat} {off : Int} {tgt : Nat} (C : Cx g f md fr mc) (d : decode md.2.1 pc = .ok (.ifCond .ne off, 3)) (ht : (pc : Int) + off = (tgt : Int)) (hx : a < 2 ^ 31) (q : a = 0) (k : X g f md mc Post n (pc + 3) L st h) : X g f md mc Post n pc L (.int (nI a) :: st) h :=
  n_ifne C d ht hx (fun z => absurd q (by omega)) (fun _ => k)
theorem n_lt {a b : Nat} {off : Int} {tgt : Nat} (C : Cx g f md fr mc) (d : decode md.2.1 pc = .ok (.if_icmp .lt off, 3)) (ht : (pc : Int) + off = (tgt : Int)) (hx : a < 2 ^ 31 ∧ b < 2 ^ 31) (kt : a < b → X g f md mc Post n tgt L st h) (kf : b ≤ a → X g f md mc Post n (pc + 3) L st h) : X g f md mc Post n pc L (.int (nI b) :: .int (nI a) :: st) h :=
  x_lt C d ht (fun q => kt ((nI_ltI hx.1 hx.2).mp q)) (fun q => kf (Nat.le_of_not_lt fun z => q ((nI_ltI hx.1 hx.2).mpr z)))
theorem n_lt_t {a b : Nat} {off : Int} {tgt : Nat} (C : Cx g f md fr mc) (d : decode md.2.1 pc = .ok (.if_icmp .lt off, 3)) (ht : (pc : Int) + off = (tgt : Int)) (hx : a < 2 ^ 31 ∧ b < 2 ^ 31) (q : a < b) (k : X g f md mc Post n tgt L st h) : X g f md mc Post n pc L (.int (nI b) :: .int (nI a) :: st) h :=
  n_lt C d ht hx (fun _ => k) (fun z => absurd q (by omega))
theorem n_lt_f {a b : Nat} {off : Int} {tgt : Nat} (C : Cx g f md fr mc) (d : decode md.2.1 pc = .ok (.if_icmp .lt off, 3)) (ht : (pc : Int) + off = (tgt : Int)) (hx : a < 2 ^ 31 ∧ b < 2 ^ 31) (q : b ≤ a) (k : X g f md mc Post n (pc + 3) L st h) : X g f md mc Post n pc L (.int (nI b) :: .int (nI a) :: st) h :=
  n_lt C d ht hx (fun z => absurd q (by omega)) (fun _ => k)
theorem n_iflt {a : Nat} {off : Int} {tgt : Nat} (C : Cx g f md fr mc) (d : decode md.2.1 pc = .ok (.ifCond .lt off, 3)) (ht : (pc : Int) + off = (tgt : Int)) (hx : a < 2 ^ 31) (kt : a < 0 → X g f md mc Post n tgt L st h) (kf : 0 ≤ a → X g f md mc Post n (pc + 3) L st h) : X g f md mc Post n pc L (.int (nI a) :: st) h := by
  have hx : a < 2 ^ 31 ∧ 0 < 2 ^ 31 := ⟨hx, by omega⟩
  refine x_iflt C d ht ?_ ?_
  · rw [← nI_0]
    exact (fun q => kt ((nI_ltI hx.1 hx.2).mp q))
  · rw [← nI_0]
    exact (fun q => kf (Nat.le_of_not_lt fun z => q ((nI_ltI hx.1 hx.2).mpr z)))
theorem n_iflt_t {a : Nat} {off : Int} {tgt : Nat} (C : Cx g f md fr mc) (d : decode md.2.1 pc = .ok (.ifCond .lt off, 3)) (ht : (pc : Int) + off = (tgt : Int)) (hx : a < 2 ^ 31) (q : a < 0) (k : X g f md mc Post n tgt L st h) : X g f md mc Post n pc L (.int (nI a) :: st) h :=
  n_iflt C d ht hx (fun _ => k) (fun z => absurd q (by omega))
theorem n_iflt_f {a : Nat} {off : Int} {tgt : Nat} (C : Cx g f md fr mc) (d : decode md.2.1 pc = .ok (.ifCond .lt off, 3)) (ht : (pc : Int) + off = (tgt : Int)) (hx : a < 2 ^ 31) (q : 0 ≤ a) (k : X g f md mc Post n (pc + 3) L st h) : X g f md mc Post n pc L (.int (nI a) :: st) h :=
  n_iflt C d ht hx (fun z => absurd q (by omega)) (fun _ => k)
theorem n_ge {a b : Nat} {off : Int} {tgt : Nat} (C : Cx g f md fr mc) (d : decode md.2.1 pc = .ok (.if_icmp .ge off, 3)) (ht : (pc : Int) + off = (tgt : Int)) (hx : a < 2 ^ 31 ∧ b < 2 ^ 31) (kt : b ≤ a → X g f md mc Post n tgt L st h) (kf : a < b → X g f md mc Post n (pc + 3) L st h) : X g f md mc Post n pc L (.int (nI b) :: .int (nI a) :: st) h :=
  x_ge C d ht (fun q => kt ((nI_leI hx.2 hx.1).mp q)) (fun q => kf (Nat.lt_of_not_le fun z => q ((nI_leI hx.2 hx.1).mpr z)))
theorem n_ge_t {a b : Nat} {off : Int} {tgt : Nat} (C : Cx g f md fr mc) (d : decode md.2.1 pc = .ok (.if_icmp .ge off, 3)) (ht : (pc : Int) + off = (tgt : Int)) (hx : a < 2 ^ 31 ∧ b < 2 ^ 31) (q : b ≤ a) (k : X g f md mc Post n tgt L st h) : X g f md mc Post n pc L (.int (nI b) :: .int (nI a) :: st) h :=
  n_ge C d ht hx (fun _ => k) (fun z => absurd q (by omega))
theorem n_ge_f {a b : Nat} {off : Int} {tgt : Nat} (C : Cx g f md fr mc) (d : decode md.2.1 pc = .ok (.if_icmp .ge off, 3)) (ht : (pc : Int) + off = (tgt : Int)) (hx : a < 2 ^ 31 ∧ b < 2 ^ 31) (q : a < b) (k : X g f md mc Post n (pc + 3) L st h) : X g f md mc Post n pc L (.int (nI b) :: .int (nI a) :: st) h :=
  n_ge C d ht hx (fun z => absurd q (by omega)) (fun _ => k)
theorem n_ifge {a : Nat} {off : Int} {tgt : Nat} (C : Cx g f md fr mc) (d : decode md.2.1 pc = .ok (.ifCond .ge off, 3)) (ht : (pc : Int) + off = (tgt : Int)) (hx : a < 2 ^ 31) (kt : 0 ≤ a → X g f md mc Post n tgt L st h) (kf : a < 0 → X g f md mc Post n (pc + 3) L st h) : X g f md mc Post n pc L (.int (nI a) :: st) h := by
  have hx : a < 2 ^ 31 ∧ 0 < 2 ^ 31 := ⟨hx, by omega⟩
  refine x_ifge C d ht ?_ ?_
  · rw [← nI_0]
    exact (fun q => kt ((nI_leI hx.2 hx.1).mp q))
  · rw [← nI_0]
    exact (fun q => kf (Nat.lt_of_not_le fun z => q ((nI_leI hx.2 hx.1).mpr z)))
theorem n_ifge_t {a : Nat} {off : Int} {tgt : Nat} (C : Cx g f md fr mc) (d : decode md.2.1 pc = .ok (.ifCond .ge off, 3)) (ht : (pc : Int) + off = (tgt : Int)) (hx : a < 2 ^ 31) (q : 0 ≤ a) (k : X g f md mc Post n tgt L st h) : X g f md mc Post n pc L (.int (nI a) :: st) h :=
  n_ifge C d ht hx (fun _ => k) (fun z => absurd q (by omega))
theorem n_ifge_f {a : Nat} {off : Int} {tgt : Nat} (C : Cx g f md fr mc) (d : decode md.2.1 pc = .ok (.ifCond .ge off, 3)) (ht : (pc : Int) + off = (tgt : Int)) (hx : a < 2 ^ 31) (q : a < 0) (k : X g f md mc Post n (pc + 3) L st h) : X g f md mc Post n pc L (.int (nI a) :: st) h :=
  n_ifge C d ht hx (fun z => absurd q (by omega)) (fun _ => k)
theorem n_gt {a b : Nat} {off : Int} {tgt : Nat} (C : Cx g f md fr mc) (d : decode md.2.1 pc = .ok (.if_icmp .gt off, 3)) (ht : (pc : Int) + off = (tgt : Int)) (hx : a < 2 ^ 31 ∧ b < 2 ^ 31) (kt : b < a → X g f md mc Post n tgt L st h) (kf : a ≤ b → X g f md mc Post n (pc + 3) L st h) : X g f md mc Post n pc L (.int (nI b) :: .int (nI a) :: st) h :=
  x_gt C d ht (fun q => kt ((nI_ltI hx.2 hx.1).mp q)) (fun q => kf (Nat.le_of_not_lt fun z => q ((nI_ltI hx.2 hx.1).mpr z)))
theorem n_gt_t {a b : Nat} {off : Int} {tgt : Nat} (C : Cx g f md fr mc) (d : decode md.2.1 pc = .ok (.if_icmp .gt off, 3)) (ht : (pc : Int) + off = (tgt : Int)) (hx : a < 2 ^ 31 ∧ b < 2 ^ 31) (q : b < a) (k : X g f md mc Post n tgt L st h) : X g f md mc Post n pc L (.int (nI b) :: .int (nI a) :: st) h :=
  n_gt C d ht hx (fun _ => k) (fun z => absurd q (by omega))
theorem n_gt_f {a b : Nat} {off : Int} {tgt : Nat} (C : Cx g f md fr mc) (d : decode md.2.1 pc = .ok (.if_icmp .gt off, 3)) (ht : (pc : Int) + off = (tgt : Int)) (hx : a < 2 ^ 31 ∧ b < 2 ^ 31) (q : a ≤ b) (k : X g f md mc Post n (pc + 3) L st h) : X g f md mc Post n pc L (.int (nI b) :: .int (nI a) :: st) h :=
  n_gt C d ht hx (fun z => absurd q (by omega)) (fun _ => k)
theorem n_ifgt {a : Nat} {off : Int} {tgt : Nat} (C : Cx g f md fr mc) (d : decode md.2.1 pc = .ok (.ifCond .gt off, 3)) (ht : (pc : Int) + off = (tgt : Int)) (hx : a < 2 ^ 31) (kt : 0 < a → X g f md mc Post n tgt L st h) (kf : a ≤ 0 → X g f md mc Post n (pc + 3) L st h) : X g f md mc Post n pc L (.int (nI a) :: st) h := by
  have hx : a < 2 ^ 31 ∧ 0 < 2 ^ 31 := ⟨hx, by omega⟩
  refine x_ifgt C d ht ?_ ?_
  · rw [← nI_0]
    exact (fun q => kt ((nI_ltI hx.2 hx.1).mp q))
  · rw [← nI_0]
    exact (fun q => kf (Nat.le_of_not_lt fun z => q ((nI_ltI hx.2 hx.1).mpr z)))
theorem n_ifgt_t {a : Nat} {off : Int} {tgt : Nat} (C : Cx g f md fr mc) (d : decode md.2.1 pc = .ok (.ifCond .gt off, 3)) (ht : (pc : Int) + off = (tgt : Int)) (hx : a < 2 ^ 31) (q : 0 < a) (k : X g f md mc Post n tgt L st h) : X g f md mc Post n pc L (.int (nI a) :: st) h :=
  n_ifgt C d ht hx (fun _ => k) (fun z => absurd q (by omega))
theorem n_ifgt_f {a : Nat} {off : Int} {tgt : Nat} (C : Cx g f md fr mc) (d : decode md.2.1 pc = .ok (.ifCond .gt off, 3)) (ht : (pc : Int) + off = (tgt : Int)) (hx : a < 2 ^ 31) (q : a ≤ 0) (k : X g f md mc Post n (pc + 3) L st h) : X g f md mc Post n pc L (.int (nI a) :: st) h :=
  n_ifgt C d ht hx (fun z => absurd q (by omega)) (fun _ => k)
theorem n_le {a b : Nat} {off : Int} {tgt : Nat} (C : Cx g f md fr mc) (d : decode md.2.1 pc = .ok (.if_icmp .le off, 3)) (ht : (pc : Int) + off = (tgt : Int)) (hx : a < 2 ^ 31 ∧ b < 2 ^ 31) (kt : a ≤ b → X g f md mc Post n tgt L st h) (kf : b < a → X g f md mc Post n (pc + 3) L st h) : X g f md mc Post n pc L (.int (nI b) :: .int (nI a) :: st) h :=
  x_le C d ht (fun q => kt ((nI_leI hx.1 hx.2).mp q)) (fun q => kf (Nat.lt_of_not_le fun z => q ((nI_leI hx.1 hx.2).mpr z)))
theorem n_le_t {a b : Nat} {off : Int} {tgt : Nat} (C : Cx g f md fr mc) (d : decode md.2.1 pc = .ok (.if_icmp .le off, 3)) (ht : (pc : Int) + off = (tgt : Int)) (hx : a < 2 ^ 31 ∧ b < 2 ^ 31) (q : a ≤ b) (k : X g f md mc Post n tgt L st h) : X g f md mc Post n pc L (.int (nI b) :: .int (nI a) :: st) h :=
  n_le C d ht hx (fun _ => k) (fun z => absurd q (by omega))
theorem n_le_f {a b : Nat} {off : Int} {tgt : Nat} (C : Cx g f md fr mc) (d : decode md.2.1 pc = .ok (.if_icmp .le off, 3)) (ht : (pc : Int) + off = (tgt : Int)) (hx : a < 2 ^ 31 ∧ b < 2 ^ 31) (q : b < a) (k : X g f md mc Post n (pc + 3) L st h) : X g f md mc Post n pc L (.int (nI b) :: .int (nI a) :: st) h :=
  n_le C d ht hx (fun z => absurd q (by omega)) (fun _ => k)
theorem n_ifle {a : Nat} {off : Int} {tgt : Nat} (C : Cx g f md fr mc) (d : decode md.2.1 pc = .ok (.ifCond .le off, 3)) (ht : (pc : Int) + off = (tgt : Int)) (hx : a < 2 ^ 31) (kt : a ≤ 0 → X g f md mc Post n tgt L st h) (kf : 0 < a → X g f md mc Post n (pc + 3) L st h) : X g f md mc Post n pc L (.int (nI a) :: st) h := by
  have hx : a < 2 ^ 31 ∧ 0 < 2 ^ 31 := ⟨hx, by omega⟩
  refine x_ifle C d ht ?_ ?_
  · rw [← nI_0]
    exact (fun q => kt ((nI_leI hx.1 hx.2).mp q))
  · rw [← nI_0]
    exact (fun q => kf (Nat.lt_of_not_le fun z => q ((nI_leI hx.1 hx.2).mpr z)))
theorem n_ifle_t {a : Nat} {off : Int} {tgt : Nat} (C : Cx g f md fr mc) (d : decode md.2.1 pc = .ok (.ifCond .le off, 3)) (ht : (pc : Int) + off = (tgt : Int)) (hx : a < 2 ^ 31) (q : a ≤ 0) (k : X g f md mc Post n tgt L st h) : X g f md mc Post n pc L (.int (nI a) :: st) h :=
  n_ifle C d ht hx (fun _ => k) (fun z => absurd q (by omega))
theorem n_ifle_f {a : Nat} {off : Int} {tgt : Nat} (C : Cx g f md fr mc) (d : decode md.2.1 pc = .ok (.ifCond .le off, 3)) (ht : (pc : Int) + off = (tgt : Int)) (hx : a < 2 ^ 31) (q : 0 < a) (k : X g f md mc Post n (pc + 3) L st h) : X g f md mc Post n pc L (.int (nI a) :: st) h :=
  n_ifle C d ht hx (fun z => absurd q (by omega)) (fun _ => k)
theorem n_iadd {a b : Nat} (C : Cx g f md fr mc) (d : decode md.2.1 pc = .ok (.iadd, 1))  (k : X g f md mc Post n (pc + 1) L (.int (nI (a + b)) :: st) h) : X g f md mc Post n pc L (.int (nI b) :: .int (nI a) :: st) h := by
  refine x_iadd C d ?_
  rw [nI_add]
  exact k
theorem n_isub {a b : Nat} (C : Cx g f md fr mc) (d : decode md.2.1 pc = .ok (.isub, 1)) (hb : b ≤ a) (k : X g f md mc Post n (pc + 1) L (.int (nI (a - b)) :: st) h) : X g f md mc Post n pc L (.int (nI b) :: .int (nI a) :: st) h := by
  refine x_isub C d ?_
  rw [pk_sub hb]
  exact k
theorem n_imul {a b : Nat} (C : Cx g f md fr mc) (d : decode md.2.1 pc = .ok (.imul, 1))  (k : X g f md mc Post n (pc + 1) L (.int (nI (a * b)) :: st) h) : X g f md mc Post n pc L (.int (nI b) :: .int (nI a) :: st) h := by
  refine x_imul C d ?_
  rw [pk_mul]
  exact k
theorem n_ixor {a b : Nat} (C : Cx g f md fr mc) (d : decode md.2.1 pc = .ok (.ixor, 1))  (k : X g f md mc Post n (pc + 1) L (.int (nI (a ^^^ b)) :: st) h) : X g f md mc Post n pc L (.int (nI b) :: .int (nI a) :: st) h := by
  refine x_ixor C d ?_
  rw [nx_xor]
  exact k
theorem n_iand {a b : Nat} (C : Cx g f md fr mc) (d : decode md.2.1 pc = .ok (.iand, 1))  (k : X g f md mc Post n (pc + 1) L (.int (nI (a &&& b)) :: st) h) : X g f md mc Post n pc L (.int (nI b) :: .int (nI a) :: st) h := by
  refine x_iand C d ?_
  rw [nx_and]
  exact k
theorem n_ior {a b : Nat} (C : Cx g f md fr mc) (d : decode md.2.1 pc = .ok (.ior, 1))  (k : X g f md mc Post n (pc + 1) L (.int (nI (a ||| b)) :: st) h) : X g f md mc Post n pc L (.int (nI b) :: .int (nI a) :: st) h := by
  refine x_ior C d ?_
  rw [nx_or]
  exact k
theorem n_ishl {a b : Nat} (C : Cx g f md fr mc) (d : decode md.2.1 pc = .ok (.ishl, 1)) (hb : b < 32) (ha : a * 2 ^ b < 2 ^ 32) (k : X g f md mc Post n (pc + 1) L (.int (nI (a * 2 ^ b)) :: st) h) : X g f md mc Post n pc L (.int (nI b) :: .int (nI a) :: st) h := by
  intro H locs ls hR hS hl
  refine lv_ishl C.exec C.code d ?_
  rw [pk_shlN _ b (ln_s31 b hb) ha]
  exact k H locs ls hR hS hl
theorem n_ishr {a b : Nat} (C : Cx g f md fr mc) (d : decode md.2.1 pc = .ok (.ishr, 1)) (hb : b < 32) (ha : a < 2 ^ 31) (k : X g f md mc Post n (pc + 1) L (.int (nI (a / 2 ^ b)) :: st) h) : X g f md mc Post n pc L (.int (nI b) :: .int (nI a) :: st) h := by
  intro H locs ls hR hS hl
  refine lv_ishr C.exec C.code d ?_
  rw [pk_shrN ha _ b (ln_s31 b hb)]
  exact k H locs ls hR hS hl
theorem n_iushr {a b : Nat} (C : Cx g f md fr mc) (d : decode md.2.1 pc = .ok (.iushr, 1)) (hb : b < 32) (ha : a < 2 ^ 32) (k : X g f md mc Post n (pc + 1) L (.int (nI (a / 2 ^ b)) :: st) h) : X g f md mc Post n pc L (.int (nI b) :: .int (nI a) :: st) h := by
  intro H locs ls hR hS hl
  exact lv_iushr C.exec C.code d (pk_ushrN ha _ b (ln_u31 b hb)) (k H locs ls hR hS hl)
theorem n_idiv {a b : Nat} (C : Cx g f md fr mc) (d : decode md.2.1 pc = .ok (.idiv, 1)) (ha : a < 2 ^ 31) (h0 : 0 < b) (hb : b < 2 ^ 31) (k : X g f md mc Post n (pc + 1) L (.int (nI (a / b)) :: st) h) : X g f md mc Post n pc L (.int (nI b) :: .int (nI a) :: st) h := by
  intro H locs ls hR hS hl
  refine lv_idiv C.exec C.code d (nI_ne0 h0 hb) ?_
  rw [pk_div ha h0 hb]
  exact k H locs ls hR hS hl
theorem n_irem {a b : Nat} (C : Cx g f md fr mc) (d : decode md.2.1 pc = .ok (.irem, 1)) (ha : a < 2 ^ 31) (h0 : 0 < b) (hb : b < 2 ^ 31) (k : X g f md mc Post n (pc + 1) L (.int (nI (a % b)) :: st) h) : X g f md mc Post n pc L (.int (nI b) :: .int (nI a) :: st) h := by
  intro H locs ls hR hS hl
  refine lv_irem C.exec C.code d (nI_ne0 h0 hb) ?_
  rw [pk_rem ha h0 hb]
  exact k H locs ls hR hS hl
/-- an int array -/
def ia (g : Gp) (A : List Nat) : va_E := .inl (gC g 0, A.length, .inl (la A))
/-- an array of references -/
def ra (g : Gp) (t : Nat) (A : List (Option Nat)) : va_E := .inl (gC g t, A.length, .inr (.inr (.inr (.inr (fun k => A.getD k none)))))
theorem zA_zle (g : Gp) (a : Nat) : zle g (zA (gz g) a) := Nat.le_add_right _ _
theorem Rl.put {H H1 : Heap} {a : Nat} {e0 e : va_E} (hR : Rl g h H) (ha : h[a]? = some e0) (he : va_at (gD g) Cls (zA (gz g) a, e) H1) (z : H1.size = H.size) (oq : ∀ q : Nat, q ≠ zA (gz g) a → H1[q]? = H[q]?) : Rl g (h.set a e) H1 :=
  ⟨by rw [wl_set]; exact hR.1.set (wl_D _ _) (wl_get ha) he oq, by rw [z, List.length_set]; exact hR.2.1, fun q => by rw [z, List.length_set]; exact hR.2.2 (by rwa [List.length_set] at q)⟩
theorem Rl.push {H H1 : Heap} {e : va_E} (hlt : h.length < 60) (hR : Rl g h H) (he : va_at (gD g) Cls (zA (gz g) h.length, e) H1) (z : H1.size = H.size + 1) (oq : ∀ q : Nat, q < H.size → H1[q]? = H[q]?) : Rl g (h ++ [e]) H1 := by
  have ez : H1.size = gz g + (h ++ [e]).length := by rw [z, hR.2.2 hlt, List.length_append, List.length_singleton, Nat.add_assoc]
  refine ⟨?_, Nat.le_of_eq ez.symm, fun _ => ez⟩
  rw [wl_push]
  refine (hR.1.kept (fun k x hx => oq x.1 ((hR.1 k x hx).lt))).app (fun k x hx => ?_)
  have hz : k < 1 := (List.getElem?_eq_some_iff.mp hx).1
  rw [show k = 0 by omega] at hx
  cases hx
  exact he
theorem va_S.grow {A : Nat → Prop} {H0 H H1 : Heap} {locs : List Loc} (hS : va_S A H0 H locs) (z : H1.size = H.size + 1) (oq : ∀ q : Nat, q < H.size → H1[q]? = H[q]?) : va_S A H0 H1 locs :=
  ⟨Nat.le_trans hS.1 (by omega), fun x h1 h2 => (oq x (Nat.lt_of_lt_of_le h1 hS.1)).trans (hS.2.1 x h1 h2), hS.2.2⟩
theorem x_iald {a i : Nat} {A : List Nat} (C : Cx g f md fr mc) (d : decode md.2.1 pc = .ok (.iaload, 1)) (ha : h[a]? = some (ia g A)) (hk : i < A.length ∧ A.length < 2 ^ 31) (k : X g f md mc Post n (pc + 1) L (.int (nI (A.getD i 0)) :: st) h) : X g f md mc Post n pc L (.int (nI i) :: .ref (zA (gz g) a) :: st) h :=
  fun H locs ls hR hS hl => va_iald C.exec C.code C.K hR.1 a 0 (wl_get ha) rfl (vp_in_nI hk.1 hk.2) d (by rw [la_at A (Nat.lt_trans hk.1 hk.2)]; exact k H locs ls hR hS hl)
theorem x_iast {a i v : Nat} {A : List Nat} (C : Cx g f md fr mc) (d : decode md.2.1 pc = .ok (.iastore, 1)) (ha : h[a]? = some (ia g A)) (hk : i < A.length ∧ A.length < 2 ^ 31) (k : X g f md mc Post n (pc + 1) L st (h.set a (ia g (A.set i v)))) : X g f md mc Post n pc L (.int (nI v) :: .int (nI i) :: .ref (zA (gz g) a) :: st) h := by
  intro H locs ls hR hS hl
  refine W.iast C.exec C.code (hR.1 a _ (wl_get ha)) ((C.K.2 0 _ rfl).1 A.length (fun j => .int (la A j))) (fun q => by cases q) (by show ¬ (nI i < 0 ∨ (arrV _ _ _).slots.size ≤ _); rw [arrV_size]; exact vp_in_nI hk.1 hk.2) rfl rfl d fun H1 e z oq => ?_
  refine k H1 _ ls (hR.put ha ?_ z oq) (hS.put z oq (zA_zle g a)) hl
  show H1[zA (gz g) a]? = some (vp_cell (gC g 0) ((A.set i v).length, .inl (la (A.set i v))))
  rw [e, List.length_set, vp_cell_i, vp_cell_i, arrV_store, nI_clamp (Nat.lt_trans hk.1 hk.2), ← la_set hk.1]
  congr 2
  funext q
  by_cases hq : q = i
  · subst hq
    simp [updV, upd]
  · simp [updV, upd, hq]
theorem x_alen {a : Nat} {A : List Nat} (C : Cx g f md fr mc) (d : decode md.2.1 pc = .ok (.arraylength, 1)) (ha : h[a]? = some (ia g A)) (k : X g f md mc Post n (pc + 1) L (.int (nI A.length) :: st) h) : X g f md mc Post n pc L (.ref (zA (gz g) a) :: st) h :=
  fun H locs ls hR hS hl => va_alen (x := (A.length, .inl (la A))) C.exec C.code C.K hR.1 a 0 (wl_get ha) (ty := .int) rfl rfl d (k H locs ls hR hS hl)
theorem x_rlen {a t : Nat} {ty : FieldType} {A : List (Option Nat)} (C : Cx g f md fr mc) (d : decode md.2.1 pc = .ok (.arraylength, 1)) (ha : h[a]? = some (ra g t A)) (ht : (gT g)[t]? = some (gC g t, ty)) (k : X g f md mc Post n (pc + 1) L (.int (nI A.length) :: st) h) : X g f md mc Post n pc L (.ref (zA (gz g) a) :: st) h :=
  fun H locs ls hR hS hl => va_alen (x := (A.length, .inr (.inr (.inr (.inr (fun k => A.getD k none)))))) C.exec C.code C.K hR.1 a t (wl_get ha) (ty := ty) ht rfl d (k H locs ls hR hS hl)
theorem x_aald {a i t v : Nat} {cn : String} {A : List (Option Nat)} (C : Cx g f md fr mc) (d : decode md.2.1 pc = .ok (.aaload, 1)) (ha : h[a]? = some (ra g t A)) (ht : (gT g)[t]? = some (gC g t, .object cn)) (hv : A[i]? = some (some v)) (hn : A.length < 2 ^ 31) (k : X g f md mc Post n (pc + 1) L (.ref v :: st) h) : X g f md mc Post n pc L (.int (nI i) :: .ref (zA (gz g) a) :: st) h := by
  intro H locs ls hR hS hl
  have hi : i < A.length := (List.getElem?_eq_some_iff.mp hv).1
  refine va_aldq C.exec C.code C.K hR.1 a t (wl_get ha) ht (vp_in_nI hi hn) d ?_
  rw [nI_clamp (Nat.lt_trans hi hn), List.getD_eq_getElem?_getD, hv]
  exact k H locs ls hR hS hl
theorem x_aast {a i t v ci : Nat} {r : vw_C} {vs : List Value} {A : List (Option Nat)} (C : Cx g f md fr mc) (d : decode md.2.1 pc = .ok (.aastore, 1)) (ha : h[a]? = some (ra g t A)) (ht : (gT g)[t]? = some (gC g t, .object r.1)) (hv : h[v]? = some (.inr (ci, vs))) (hc : Cls[ci]? = some r) (hi : i < A.length ∧ A.length < 2 ^ 31) (k : X g f md mc Post n (pc + 1) L st (h.set a (ra g t (A.set i (some (zA (gz g) v)))))) : X g f md mc Post n pc L (.ref (zA (gz g) v) :: .int (nI i) :: .ref (zA (gz g) a) :: st) h := by
  intro H locs ls hR hS hl
  obtain ⟨r', hr', cellV, g1, g2, g3, -⟩ := hR.1 v _ (wl_get hv)
  have hcls := (C.K.1 ci r hc).2
  obtain ⟨kA, comp, k1, k2, k3, -⟩ := (C.K.2 t _ ht).2
  have hcomp : comp = (gD g).1 ci := Option.some.inj (k3.symm.trans hcls.1)
  subst hcomp
  obtain ⟨kC, hkC, -⟩ := hcls.2
  refine W.aast C.exec C.code (hR.1 a _ (wl_get ha)) (fun q h => by cases h) (fun h => by cases h) k1 k2 rfl hkC ⟨nI_pos (Nat.lt_trans hi.1 hi.2), by show _ < (arrV _ _ _).slots.size; rw [arrV_size, nI_clamp (Nat.lt_trans hi.1 hi.2)]; exact hi.1⟩ g1 (fun q h => by rw [g3] at h; cases h) (by rw [g2]; exact hkC) (by rw [g2]; exact va_assign hcls) rfl rfl d fun H1 e z oq => ?_
  refine k H1 _ ls (hR.put ha ?_ z oq) (hS.put z oq (zA_zle g a)) hl
  show H1[zA (gz g) a]? = some (vp_cell (gC g t) ((A.set i (some (zA (gz g) v))).length, .inr (.inr (.inr (.inr (fun k => (A.set i (some (zA (gz g) v))).getD k none))))))
  rw [e, List.length_set, vp_cell_q, vp_cell_q, arrV_store, nI_clamp (Nat.lt_trans hi.1 hi.2)]
  congr 2
  funext q
  rw [List.getD_eq_getElem?_getD, List.getElem?_set]
  by_cases hq : i = q
  · subst hq
    simp [updV, va_rf, hi.1]
  · simp [updV, hq, Ne.symm hq]
theorem x_get {a ci j idx : Nat} {fs : List Value} {v : Value} (C : Cx g f md fr mc) (d : decode md.2.1 pc = .ok (.getfield idx, 3)) (hc : Nat.blt ci Cls.length = true) (hj : Nat.blt j (Tc ci).2.2 = true) (ha : h[a]? = some (.inr (ci, fs))) (hv : fs[j]? = some v) (hw : Cond.fieldLink md.1.cls idx ((Tc ci).2.1 j).1 ((Tc ci).2.1 j).2.1 ((Tc ci).2.1 j).2.2.1 ∈ tb) (k : X g f md mc Post n (pc + 3) L (v :: st) h) : X g f md mc Post n pc L (.ref (zA (gz g) a) :: st) h :=
  fun H locs ls hR hS hl => va_get (tys := gT g) C.exec C.code C.ts (Tc_in hc) C.own C.K hR.1 a (wl_get ha) (Tc_at hc) j (Nat.le_of_ble_eq_true hj) (C.ts _ hw) (fun _ q => q) hv d (k H locs ls hR hS hl)
theorem x_put {a ci j idx : Nat} {fs : List Value} {v : Value} {ty : FieldType} (C : Cx g f md fr mc) (d : decode md.2.1 pc = .ok (.putfield idx, 3)) (hc : Nat.blt ci Cls.length = true) (hj : Nat.blt j (Tc ci).2.2 = true) (ha : h[a]? = some (.inr (ci, fs))) (hl0 : Nat.blt j fs.length = true) (hw : Cond.fieldLink md.1.cls idx ((Tc ci).2.1 j).1 ((Tc ci).2.1 j).2.1 ((Tc ci).2.1 j).2.2.1 ∈ tb)
    (hfin : ((Tc ci).2.1 j).2.2.2 = false ∨ (md.1.name = "<init>" ∧ ((Tc ci).2.1 j).1 = md.1.cls ∧ ((Tc ci).2.1 j).2.2.2 = true)) (hd : parseFieldDescriptor ((Tc ci).2.1 j).2.2.1 = some ty) (hnr : narrow ty v = v) (hfit : fits ty v = true) (k : X g f md mc Post n (pc + 3) L st (h.set a (.inr (ci, fs.set j v)))) : X g f md mc Post n pc L (v :: .ref (zA (gz g) a) :: st) h := by
  intro H locs ls hR hS hl
  have hcA := Tc_at hc
  have hjN : j < (Tc ci).2.2 := Nat.le_of_ble_eq_true hj
  have hap := va_apart (own := md.1.cls) C.ts (Tc_in hc) (Tc_ty ci) (Tc_tyok hc) (Tc_nm hc) C.K hcA
  obtain ⟨r, h1, cell, q1, q2, q3, q4⟩ := hR.1 a _ (wl_get ha)
  have hr : r = ((Tc ci).1, (Tc ci).2.1, (Tc ci).2.2) := Option.some.inj (h1.symm.trans hcA)
  subst hr
  obtain ⟨hSl, hfc, kC, hkC, hkind⟩ := C.K.1 ci _ hcA
  obtain ⟨cf, kf, fi, ff, hi, hsl⟩ := hSl j hjN
  have hlay := C.ts _ (Tc_in hc _ (u_in_lay hjN))
  have hst := (u_facts hfc hkC (u_lays C.ts (Tc_in hc) hjN) hi).1
  have fin : ∀ H1 : Heap, H1[zA (gz g) a]? = some (cell.setSlot ff.slot v) → H1.size = H.size → (∀ q : Nat, q ≠ zA (gz g) a → H1[q]? = H[q]?) → Rl g (h.set a (.inr (ci, fs.set j v))) H1 ∧ va_S (zle g) (fS f).heap H1 (locs ++ [⟨zA (gz g) a, ff.slot⟩]) := by
    intro H1 e1 e2 e3
    rw [hsl] at e1
    exact ⟨hR.put ha ⟨_, hcA, t_OB.to (V := updV (vp_V fs) j v) ⟨_, e1, q2, q3, t_set q4 hap hjN v⟩ (fun i _ => vp_updV_set (Nat.le_of_ble_eq_true hl0) v i)⟩ e2 e3, hS.put e2 e3 (zA_zle g a)⟩
  unfold u_lay at hlay
  rcases hfin with hfin | ⟨hin, hdecl, hfin⟩
  · rw [if_neg (by rw [hfin]; decide)] at hlay
    have h6 := u_store hfc hkC hkind hlay hi hd hnr hfit
    refine W.putK C.exec C.code (f := ff) ⟨C.own, C.ts _ hw, ⟨_, _, _, hi⟩, hst⟩ (by rw [q2]; exact h6) q1 q3 (by rw [hsl]; exact k2_hasslot (q4 j hjN)) rfl rfl d fun H1 e1 e2 e3 => ?_
    obtain ⟨x1, x2⟩ := fin H1 e1 e2 e3
    exact k H1 _ ls x1 x2 hl
  · rw [if_pos hfin] at hlay
    have hcf : (fI f).cls = cf := by
      obtain ⟨_, _, c', _, _, _, -, -, hf', -, -, -, hown2, -⟩ := Cond.laysFinal_spec hlay
      have e1 : c' = cf := by have := hi.symm.trans hf'; simp at this; exact this.1.symm
      rw [hdecl] at hown2
      rw [← e1]; exact Option.some.inj (C.own.symm.trans hown2)
    have h6 := u_fits hfc hkC hkind (Or.inr hlay) hi hd hnr hfit
    refine W.putFinK C.exec C.code C.own (C.ts _ hw) hi hst hcf (C.name.trans hin) (by rw [q2]; exact h6) q1 q3 (by rw [hsl]; exact k2_hasslot (q4 j hjN)) rfl rfl d fun H1 e1 e2 e3 => ?_
    obtain ⟨x1, x2⟩ := fin H1 e1 e2 e3
    exact k H1 _ ls x1 x2 hl
theorem x_new {ci idx : Nat} {fs : List Value} (C : Cx g f md fr mc) (d : decode md.2.1 pc = .ok (.new idx, 3)) (hc : Nat.blt ci Cls.length = true) (hw : Cond.classLink md.1.cls idx (Tc ci).1 ∈ tb) (hi : Cond.instantiable (Tc ci).1 (Tc ci).2.2 ∈ tb) (hn : Cond.initialized (Tc ci).1 ∈ tb) (hfs : ∀ j, j < (Tc ci).2.2 → defaultValue (Tc_ty ci j) = vp_V fs j) (hlt : h.length < 60) (hm : n.1 + 1 ≤ mc.1 ∧ n.2 + (Tc ci).2.2 ≤ mc.2)
    (k : X g f md mc Post (n.1 + 1, n.2 + (Tc ci).2.2) (pc + 3) L (.ref (zA (gz g) h.length) :: st) (h ++ [.inr (ci, fs)])) : X g f md mc Post n pc L st h := by
  intro H locs ls hR hS hl
  have hcA := Tc_at hc
  have hKn := C.K.1 ci _ hcA
  refine W.newcK C.exec C.code C.own (C.ts _ hw) (C.ts _ hi) (C.ts _ hn) rfl d (by rw [C.room]; exact hm.1) (by rw [C.room]; exact hm.2) hKn.2.1 (hR.2.2 hlt) fun H1 kC hkC e1 z1 o1 => ?_
  exact k H1 locs ls (Rl.push hlt hR ⟨_, hcA, (u_born (Tc_ty ci) C.ts (Tc_in hc) hKn hkC e1 (Tc_tyok hc)).to hfs⟩ (by rw [z1, hR.2.2 hlt]) (fun q hq => o1 q (by rw [← hR.2.2 hlt]; exact hq))) (hS.grow (by rw [z1, hR.2.2 hlt]) (fun q hq => o1 q (by rw [← hR.2.2 hlt]; exact hq))) hl
theorem x_newi {N : Nat} (C : Cx g f md fr mc) (d : decode md.2.1 pc = .ok (.newarray .int, 2)) (hN : N < 2 ^ 20) (hlt : h.length < 60) (hm : n.1 + 1 ≤ mc.1 ∧ n.2 + N ≤ mc.2) (k : X g f md mc Post (n.1 + 1, n.2 + N) (pc + 2) L (.ref (zA (gz g) h.length) :: st) (h ++ [ia g (List.replicate N 0)])) : X g f md mc Post n pc L (.int (nI N) :: st) h := by
  intro H locs ls hR hS hl
  refine va_newaK (atype := .int) C.exec C.code (C.ts _ k_ac_int) rfl d rfl (nI_pos (by omega)) (nI_clamp (by omega)) (by show N * 4 ≤ _; omega) (by rw [C.room]; exact hm.1) (by rw [C.room]; exact hm.2) (hR.2.2 hlt) fun H1 cA e1 z1 o1 hAr hNm => ?_
  have hcA : cA = gC g 0 := Option.some.inj (hNm.symm.trans (C.K.2 0 _ rfl).2)
  subst hcA
  refine k H1 locs ls (Rl.push hlt hR ?_ (by rw [z1, hR.2.2 hlt]) (fun q hq => o1 q (by rw [← hR.2.2 hlt]; exact hq))) (hS.grow (by rw [z1, hR.2.2 hlt]) (fun q hq => o1 q (by rw [← hR.2.2 hlt]; exact hq))) hl
  show H1[zA (gz g) h.length]? = some (vp_cell (gC g 0) ((List.replicate N 0).length, .inl (la (List.replicate N 0))))
  rw [List.length_replicate, ← la_zero, vp_cell_i]
  exact e1
theorem x_iret {v : Int32} (C : Cx g f md fr mc) (d : decode md.2.1 pc = .ok (.ireturn, 1)) (hr : md.2.2.2 = some .int) (hm : n.1 ≤ mc.1 ∧ n.2 ≤ mc.2) (hp : Post (.returned (some (.int v))) h) : X g f md mc Post n pc L [.int v] h :=
  fun H locs ls hR hS hl => W.monoQ (Q := MQ (fB f) (Qx g Post) (fA f) (fS f) mc.1 mc.2 (zle g)) (W.widen hm.1 hm.2 (W.iret C.exec C.code (C.ret.trans hr) (fun t ht hW => ⟨⟨h, hp, by rw [ht]; exact hR⟩, hS.F ht⟩) hS.2.2 d C.locks)) (fun t q => XQ.of q)
theorem x_zret {v : Int32} {ty : FieldType} (C : Cx g f md fr mc) (d : decode md.2.1 pc = .ok (.ireturn, 1)) (hr : md.2.2.2 = some ty) (hn : narrow ty (.int v) = .int v) (hm : n.1 ≤ mc.1 ∧ n.2 ≤ mc.2) (hp : Post (.returned (some (.int v))) h) : X g f md mc Post n pc L [.int v] h :=
  fun H locs ls hR hS hl => W.monoQ (Q := MQ (fB f) (Qx g Post) (fA f) (fS f) mc.1 mc.2 (zle g)) (W.widen hm.1 hm.2 (W.zret C.exec C.code (C.ret.trans hr) hn (fun t ht hW => ⟨⟨h, hp, by rw [ht]; exact hR⟩, hS.F ht⟩) hS.2.2 d C.locks)) (fun t q => XQ.of q)
theorem x_vret (C : Cx g f md fr mc) (d : decode md.2.1 pc = .ok (.return_, 1)) (hr : md.2.2.2 = none) (hm : n.1 ≤ mc.1 ∧ n.2 ≤ mc.2) (hp : Post (.returned none) h) : X g f md mc Post n pc L [] h :=
  fun H locs ls hR hS hl => W.monoQ (Q := MQ (fB f) (Qx g Post) (fA f) (fS f) mc.1 mc.2 (zle g)) (W.widen hm.1 hm.2 (W.vret C.exec C.code (C.ret.trans hr) (fun t ht hW => ⟨⟨h, hp, by rw [ht]; exact hR⟩, hS.F ht⟩) hS.2.2 d C.locks)) (fun t q => XQ.of q)
theorem x_objInit {idx a : Nat} (C : Cx g f md fr mc) (d : decode md.2.1 pc = .ok (.invokespecial idx, 3)) (hw : Cond.methodLink md.1.cls idx objectInit ∈ tb) (hfr : Nat.ble 1 fr = true) (hs : Nat.ble (st.map fun v => v.category).sum 20 = true) (k : X g f md mc Post n (pc + 3) L st h) : X g f md mc Post n pc L (.ref a :: st) h :=
  fun H locs ls hR hS hl => W.objInit C.exec C.code C.own (C.ts _ hw) (C.ts _ k_im_Object_init) (C.ts _ k_cd_Object_init) rfl (by rw [C.ml]; exact hl.1) rfl d (by rw [C.room]; exact Nat.le_of_ble_eq_true hfr) (by rw [C.room]; have h1 := Nat.le_of_ble_eq_true hfr; have h2 := Nat.le_of_ble_eq_true hs; show 2 * 0 + _ + 12 ≤ 36 * fr; omega) (k H locs ls hR hS hl)
/-- a call that comes back -/
theorem x_run {mc2 : Nat × Nat} {Post2 : Outcome → Hp → Prop} {av rest : List Value} (C : Cx g f md fr mc) (hr : ∀ (H : Heap) (locs : List Loc) (ls : Array Slot), Rl g h H → va_S (zle g) (fS f).heap H locs → lx ls md.2.2.1 L → va_Run (fP f) (gl g) (fE f) (fR f) (fS f) (fI f) (fA f) (fB f) (fM f) (fC f) H locs n.1 n.2 mc2.1 mc2.2 (F0 (fI f) pc ls st) rest (Qx g Post2 av.toArray) (zle g))
    (k : ∀ o h2, Post2 o h2 → ∃ r, o = .returned r ∧ X g f md mc Post (n.1 + mc2.1, n.2 + mc2.2) (pc + 3) L (r.toList ++ rest) h2) : X g f md mc Post n pc L st h := by
  intro H locs ls hR hS hl T hT XX
  obtain ⟨v, st₀, t, T', Lc, h0, X', hL, e1, e2, ⟨⟨h2, hp, hR2⟩, hz, hk⟩, stp⟩ := hr H locs ls hR hS hl T hT XX
  obtain ⟨r, hr0, kk⟩ := k _ h2 hp
  cases hr0
  rw [h0] at hz hk
  obtain ⟨t2, a1, b1⟩ := kk T'.heap (locs ++ Lc) ls (by rw [e1]; exact hR2)
    ⟨Nat.le_trans hS.1 (by rw [e1]; exact hz), fun q h1 h2 => by rw [e1, hk q (Nat.lt_of_lt_of_le h1 hS.1) h2]; exact hS.2.1 q h1 h2, fun q hq => by
      rcases List.mem_append.mp hq with h | h
      · exact hS.2.2 q h
      · exact hL q h⟩ hl T' rfl X'
  exact ⟨t2, stp t2 a1, b1⟩

theorem Px_blind {av : List Value} : FrameBlind (Px g av h) := fun a U g2 mk q => by
  obtain ⟨q0, q1, qK, qz⟩ := q
  exact ⟨q0, q1, va_K.moved (u := U) (U := U.calling g2 mk a) (Vm.Alike.refl U.vm) qK, qz.same rfl⟩
theorem Px_pre {av : List Value} {H : Heap} (C : Cx g f md fr mc) (hR : Rl g h H) : ∀ U : State, U.heap = H → (fS f).WarmedH U.vm → Px g av h av.toArray U :=
  fun U hU hW => ⟨rfl, by rw [hU]; exact hR, va_K.moved hW.alike C.K, C.nw.warm hW⟩
theorem tb_good {w : Cond} (h : w ∈ tb) : (w.onTables && w.keeps) = true ∨ ∃ ty, w = .arrayClass ty := good_of_word (List.mem_filter.mp h).2
theorem tb_wz {M : MD} (h : Cond.code M.1 M.2.1 M.2.2.1 M.2.2.2 ∈ tb) : GoodIn tb (wz M) := by
  intro w hw
  rcases List.mem_cons.mp hw with rfl | hw
  · exact ⟨h, tb_good h⟩
  · exact ⟨hw, tb_good hw⟩
theorem tb_app {a : List Cond} {b : List Cond} (h1 : ∀ w ∈ a, w ∈ tb) (h2 : GoodIn tb b) : GoodIn tb (a ++ b) := by
  intro w hw
  rcases List.mem_append.mp hw with hw | hw
  · exact ⟨h1 w hw, tb_good (h1 w hw)⟩
  · exact h2 w hw
/-- the number of a method's parameters, and that it is no handle -/
def mP (M : MD) (na : Nat) : Prop := M.1.cls ≠ "java/lang/invoke/MethodHandle" ∧ M.1.cls ≠ "java/lang/invoke/VarHandle" ∧ (parseMethodDescriptor M.1.desc).map (fun d => d.parameters.length) = some na
def mV (M : MD) (na : Nat) : Prop := Cond.instanceMethod M.1 ∈ tb ∧ Cond.selects M.1.cls M.1 M.1 ∈ tb ∧ Cond.initialized M.1.cls ∈ tb ∧ Cond.code M.1 M.2.1 M.2.2.1 M.2.2.2 ∈ tb ∧ mP M na
def mU (M : MD) (na : Nat) : Prop := Cond.instanceMethod M.1 ∈ tb ∧ Cond.initialized M.1.cls ∈ tb ∧ Cond.code M.1 M.2.1 M.2.2.1 M.2.2.2 ∈ tb ∧ mP M na
def mS (M : MD) (na : Nat) : Prop := Cond.static M.1 ∈ tb ∧ Cond.initialized M.1.cls ∈ tb ∧ Cond.code M.1 M.2.1 M.2.2.1 M.2.2.2 ∈ tb ∧ mP M na
def mI (M : MD) (na : Nat) : Prop := Cond.instanceMethod M.1 ∈ tb ∧ M.1.name = "<init>" ∧ Cond.initialized M.1.cls ∈ tb ∧ Cond.code M.1 M.2.1 M.2.2.1 M.2.2.2 ∈ tb ∧ mP M na ∧ M.2.2.2 = none
def rmK (fr2 fr nL : Nat) : Bool := Nat.ble (fr2 + 1) fr && Nat.ble (8 + (nL + 11) + 36 * fr2) (36 * fr)
theorem rmK.ok {fr2 nL : Nat} {mc2 : Nat × Nat} (C : Cx g f md fr mc) (h : rmK fr2 fr nL = true) : (rmo fr2 mc2).frames + 1 ≤ (fR f).frames ∧ 8 + (nL + 11) + (rmo fr2 mc2).locals ≤ (fR f).locals := by
  rw [C.room]
  unfold rmK at h
  rw [Bool.and_eq_true] at h
  exact ⟨Nat.le_of_ble_eq_true h.1, Nat.le_of_ble_eq_true h.2⟩
theorem mcK_ok {mc2 : Nat × Nat} (C : Cx g f md fr mc) (h : n.1 + mc2.1 ≤ mc.1 ∧ n.2 + mc2.2 ≤ mc.2) : n.1 + mc2.1 ≤ (fR f).cells ∧ n.2 + mc2.2 ≤ (fR f).slots := by
  rw [C.room]
  exact h
variable {M : MD} {fr2 na idx : Nat} {mc2 : Nat × Nat} {Post2 : Outcome → Hp → Prop} {As rest : List Value}
theorem x_callV {a ci : Nat} {vs : List Value} (C : Cx g f md fr mc) (d : decode md.2.1 pc = .ok (.invokevirtual idx, 3)) (hw : Cond.methodLink md.1.cls idx M.1 ∈ tb) (hm : mV M na) (hci : Nat.blt ci Cls.length = true) (hcl : (Tc ci).1 = M.1.cls) (ha : h[a]? = some (.inr (ci, vs))) (hc : Con g M fr2 mc2 (.ref (zA (gz g) a) :: As) h Post2)
    (hst : st = As.reverse ++ .ref (zA (gz g) a) :: rest) (hlen : As.length = na) (hcat : Nat.ble (rest.map fun v => v.category).sum 8 = true) (hfr : rmK fr2 fr M.2.2.1 = true) (hmc : n.1 + mc2.1 ≤ mc.1 ∧ n.2 + mc2.2 ≤ mc.2)
    (k : ∀ o h2, Post2 o h2 → ∃ r, o = .returned r ∧ X g f md mc Post (n.1 + mc2.1, n.2 + mc2.2) (pc + 3) L (r.toList ++ rest) h2) : X g f md mc Post n pc L st h := by
  obtain ⟨m1, m2, m3, m4, m5⟩ := hm
  refine x_run (av := .ref (zA (gz g) a) :: As) C (fun H locs ls hR hS hl => ?_) k
  have hrec := va_recv C.K hR.1 (Tc_at hci) (wl_get ha)
  rw [hcl] at hrec
  exact va_runV (Ts := tb) ⟨C.exec, C.code, C.ml, C.own, C.ts⟩ hc (cwV (C := M.1.cls) na C.ts (tb_app (by simp only [List.forall_mem_cons]; exact ⟨hw, m1, m2, m3, fun _ h => by cases h⟩) (tb_wz m4)) rfl rfl rfl ⟨rfl, m5⟩ (rmK.ok C hfr)) ⟨Px_blind, hrec, Px_pre C hR⟩ rfl hlen hl.1 hst (lv_room (Nat.le_of_ble_eq_true hcat)) d (mcK_ok C hmc)
theorem x_callS (C : Cx g f md fr mc) (d : decode md.2.1 pc = .ok (.invokestatic idx, 3)) (hw : Cond.methodLink md.1.cls idx M.1 ∈ tb) (hm : mS M na) (hc : Con g M fr2 mc2 As h Post2)
    (hst : st = As.reverse ++ rest) (hlen : As.length = na) (hcat : Nat.ble (rest.map fun v => v.category).sum 8 = true) (hfr : rmK fr2 fr M.2.2.1 = true) (hmc : n.1 + mc2.1 ≤ mc.1 ∧ n.2 + mc2.2 ≤ mc.2)
    (k : ∀ o h2, Post2 o h2 → ∃ r, o = .returned r ∧ X g f md mc Post (n.1 + mc2.1, n.2 + mc2.2) (pc + 3) L (r.toList ++ rest) h2) : X g f md mc Post n pc L st h := by
  obtain ⟨m1, m3, m4, m5⟩ := hm
  refine x_run (av := As) C (fun H locs ls hR hS hl => ?_) k
  exact va_runS (Ts := tb) ⟨C.exec, C.code, C.ml, C.own, C.ts⟩ hc (va_cwS na C.ts (tb_app (by simp only [List.forall_mem_cons]; exact ⟨hw, m1, m3, fun _ h => by cases h⟩) (tb_wz m4)) rfl rfl rfl m5 (rmK.ok C hfr)) ⟨Px_blind, Px_pre C hR⟩ rfl hlen hl.1 hst (lv_room (Nat.le_of_ble_eq_true hcat)) d (mcK_ok C hmc)
theorem x_callSN {host : String} (C : Cx g f md fr mc) (d : decode md.2.1 pc = .ok (.invokestatic idx, 3)) (hw : (md.1.cls, idx, M.1, host) ∈ nwM) (hm : mS M na) (hc : Con g M fr2 mc2 As h Post2)
    (hst : st = As.reverse ++ rest) (hlen : As.length = na) (hcat : Nat.ble (rest.map fun v => v.category).sum 8 = true) (hfr : rmK fr2 fr M.2.2.1 = true) (hmc : n.1 + mc2.1 ≤ mc.1 ∧ n.2 + mc2.2 ≤ mc.2)
    (k : ∀ o h2, Post2 o h2 → ∃ r, o = .returned r ∧ X g f md mc Post (n.1 + mc2.1, n.2 + mc2.2) (pc + 3) L (r.toList ++ rest) h2) : X g f md mc Post n pc L st h := by
  obtain ⟨m1, m3, m4, m5⟩ := hm
  refine x_run (av := As) C (fun H locs ls hR hS hl => ?_) k
  exact va_runSN (Ts := tb) ⟨C.exec, C.code, C.ml, C.own, C.ts⟩ hc ⟨va_cnB na C.ts (tb_wz m4) rfl rfl rfl (C.nw.1 _ hw) (C.ts _ m3) m5 (rmK.ok C hfr), C.ts _ m1, trivial⟩ ⟨Px_blind, Px_pre C hR⟩ rfl hlen hl.1 hst (lv_room (Nat.le_of_ble_eq_true hcat)) d (mcK_ok C hmc)
theorem x_callI {a : Nat} (C : Cx g f md fr mc) (d : decode md.2.1 pc = .ok (.invokespecial idx, 3)) (hw : Cond.methodLink md.1.cls idx M.1 ∈ tb) (hm : mI M na) (hc : Con g M fr2 mc2 (.ref a :: As) h Post2)
    (hst : st = As.reverse ++ .ref a :: rest) (hlen : As.length = na) (hcat : Nat.ble (rest.map fun v => v.category).sum 8 = true) (hfr : rmK fr2 fr M.2.2.1 = true) (hmc : n.1 + mc2.1 ≤ mc.1 ∧ n.2 + mc2.2 ≤ mc.2)
    (k : ∀ o h2, Post2 o h2 → ∃ r, o = .returned r ∧ X g f md mc Post (n.1 + mc2.1, n.2 + mc2.2) (pc + 3) L (r.toList ++ rest) h2) : X g f md mc Post n pc L st h := by
  obtain ⟨m1, m2, m3, m4, m5, m6⟩ := hm
  refine x_run (av := .ref a :: As) C (fun H locs ls hR hS hl => ?_) k
  exact va_runI (Ts := tb) ⟨C.exec, C.code, C.ml, C.own, C.ts⟩ hc (cwI na C.ts (tb_wz m4) (by unfold wz; rw [m6]) rfl rfl (C.ts _ m3) (C.ts _ hw) (C.ts _ m1) m2 m5 (rmK.ok C hfr)) ⟨Px_blind, Px_pre C hR⟩ rfl hlen hl.1 hst (lv_room (Nat.le_of_ble_eq_true hcat)) d (mcK_ok C hmc)
theorem x_callIN {a : Nat} {host : String} (C : Cx g f md fr mc) (d : decode md.2.1 pc = .ok (.invokespecial idx, 3)) (hw : (md.1.cls, idx, M.1, host) ∈ nwM) (hm : mI M na) (hc : Con g M fr2 mc2 (.ref a :: As) h Post2)
    (hst : st = As.reverse ++ .ref a :: rest) (hlen : As.length = na) (hcat : Nat.ble (rest.map fun v => v.category).sum 8 = true) (hfr : rmK fr2 fr M.2.2.1 = true) (hmc : n.1 + mc2.1 ≤ mc.1 ∧ n.2 + mc2.2 ≤ mc.2)
    (k : ∀ o h2, Post2 o h2 → ∃ r, o = .returned r ∧ X g f md mc Post (n.1 + mc2.1, n.2 + mc2.2) (pc + 3) L (r.toList ++ rest) h2) : X g f md mc Post n pc L st h := by
  obtain ⟨m1, m2, m3, m4, m5, m6⟩ := hm
  refine x_run (av := .ref a :: As) C (fun H locs ls hR hS hl => ?_) k
  refine va_runIN (Ts := tb) ⟨C.exec, C.code, C.ml, C.own, C.ts⟩ hc ⟨va_cnB na C.ts (tb_wz m4) (by unfold wz; rw [m6]) rfl rfl (C.nw.1 _ hw) (C.ts _ m3) m5 (rmK.ok C hfr), m2, C.ts _ m1⟩ ⟨Px_blind, Px_pre C hR⟩ rfl hlen hl.1 hst (lv_room (Nat.le_of_ble_eq_true hcat)) d (mcK_ok C hmc)
theorem x_callU {a ci : Nat} {x : MethodName} {owner : String} {vs : List Value} (C : Cx g f md fr mc) (d : decode md.2.1 pc = .ok (.invokevirtual idx, 3)) (hw : Cond.methodLink md.1.cls idx x ∈ tb) (hsm : Cond.sameMethod x.cls owner x.name x.desc ∈ tb) (hsel : Cond.selects (Tc ci).1 x M.1 ∈ tb) (hdc : (⟨owner, x.name, x.desc⟩ : MethodName) ∈ nwD) (hm : mU M na) (hpx : owner ≠ "java/lang/invoke/MethodHandle" ∧ owner ≠ "java/lang/invoke/VarHandle" ∧ (parseMethodDescriptor x.desc).map (fun d => d.parameters.length) = some na) (hci : Nat.blt ci Cls.length = true) (ha : h[a]? = some (.inr (ci, vs))) (hc : Con g M fr2 mc2 (.ref (zA (gz g) a) :: As) h Post2)
    (hst : st = As.reverse ++ .ref (zA (gz g) a) :: rest) (hlen : As.length = na) (hcat : Nat.ble (rest.map fun v => v.category).sum 8 = true) (hfr : rmK fr2 fr M.2.2.1 = true) (hmc : n.1 + mc2.1 ≤ mc.1 ∧ n.2 + mc2.2 ≤ mc.2)
    (k : ∀ o h2, Post2 o h2 → ∃ r, o = .returned r ∧ X g f md mc Post (n.1 + mc2.1, n.2 + mc2.2) (pc + 3) L (r.toList ++ rest) h2) : X g f md mc Post n pc L st h := by
  obtain ⟨m1, m3, m4, m5⟩ := hm
  refine x_run (av := .ref (zA (gz g) a) :: As) C (fun H locs ls hR hS hl => ?_) k
  have hrec := va_recv C.K hR.1 (Tc_at hci) (wl_get ha)
  exact va_runU (Ts := tb) ⟨C.exec, C.code, C.ml, C.own, C.ts⟩ hc (va_cwA (C := (Tc ci).1) (owner := owner) na C.ts (tb_app (by simp only [List.forall_mem_cons]; exact ⟨hw, hsm, hsel, m1, m3, fun _ h => by cases h⟩) (tb_wz m4)) rfl rfl rfl (C.nw.2.1 _ hdc) hpx (rmK.ok C hfr)) ⟨Px_blind, hrec, Px_pre C hR⟩ rfl hlen hl.1 hst (lv_room (Nat.le_of_ble_eq_true hcat)) d (mcK_ok C hmc)
/-- calls that make nothing: exact ends, void and with an answer; any end -/
theorem x_cV0 {a ci : Nat} {vs : List Value} {h2 : Hp} (C : Cx g f md fr mc) (d : decode md.2.1 pc = .ok (.invokevirtual idx, 3)) (hw : Cond.methodLink md.1.cls idx M.1 ∈ tb) (hm : mV M na) (hci : Nat.blt ci Cls.length = true) (hcl : (Tc ci).1 = M.1.cls) (ha : h[a]? = some (.inr (ci, vs))) (hc : Con g M fr2 (0, 0) (.ref (zA (gz g) a) :: As) h (Ret none h2)) (hst : st = As.reverse ++ .ref (zA (gz g) a) :: rest) (hlen : As.length = na) (hcat : Nat.ble (rest.map fun v => v.category).sum 8 = true) (hfr : rmK fr2 fr M.2.2.1 = true) (hmc : n.1 ≤ mc.1 ∧ n.2 ≤ mc.2) (k : X g f md mc Post n (pc + 3) L rest h2) : X g f md mc Post n pc L st h :=
  x_callV C d hw hm hci hcl ha hc hst hlen hcat hfr hmc (fun o h3 hp => ⟨none, hp.1, by rw [hp.2]; exact k⟩)
theorem x_cV1 {a ci : Nat} {vs : List Value} {h2 : Hp} {v : Value} (C : Cx g f md fr mc) (d : decode md.2.1 pc = .ok (.invokevirtual idx, 3)) (hw : Cond.methodLink md.1.cls idx M.1 ∈ tb) (hm : mV M na) (hci : Nat.blt ci Cls.length = true) (hcl : (Tc ci).1 = M.1.cls) (ha : h[a]? = some (.inr (ci, vs))) (hc : Con g M fr2 (0, 0) (.ref (zA (gz g) a) :: As) h (Ret (some v) h2)) (hst : st = As.reverse ++ .ref (zA (gz g) a) :: rest) (hlen : As.length = na) (hcat : Nat.ble (rest.map fun v => v.category).sum 8 = true) (hfr : rmK fr2 fr M.2.2.1 = true) (hmc : n.1 ≤ mc.1 ∧ n.2 ≤ mc.2) (k : X g f md mc Post n (pc + 3) L (v :: rest) h2) : X g f md mc Post n pc L st h :=
  x_callV C d hw hm hci hcl ha hc hst hlen hcat hfr hmc (fun o h3 hp => ⟨some v, hp.1, by rw [hp.2]; exact k⟩)
theorem x_cV {a ci : Nat} {vs : List Value} (C : Cx g f md fr mc) (d : decode md.2.1 pc = .ok (.invokevirtual idx, 3)) (hw : Cond.methodLink md.1.cls idx M.1 ∈ tb) (hm : mV M na) (hci : Nat.blt ci Cls.length = true) (hcl : (Tc ci).1 = M.1.cls) (ha : h[a]? = some (.inr (ci, vs))) (hc : Con g M fr2 (0, 0) (.ref (zA (gz g) a) :: As) h Post2) (hst : st = As.reverse ++ .ref (zA (gz g) a) :: rest) (hlen : As.length = na) (hcat : Nat.ble (rest.map fun v => v.category).sum 8 = true) (hfr : rmK fr2 fr M.2.2.1 = true) (hmc : n.1 ≤ mc.1 ∧ n.2 ≤ mc.2) (k : ∀ o h2, Post2 o h2 → ∃ r, o = .returned r ∧ X g f md mc Post n (pc + 3) L (r.toList ++ rest) h2) : X g f md mc Post n pc L st h :=
  x_callV C d hw hm hci hcl ha hc hst hlen hcat hfr hmc k
/-- calls that make nothing: exact ends, void and with an answer; any end -/
theorem x_cS0  {h2 : Hp} (C : Cx g f md fr mc) (d : decode md.2.1 pc = .ok (.invokestatic idx, 3)) (hw : Cond.methodLink md.1.cls idx M.1 ∈ tb) (hm : mS M na) (hc : Con g M fr2 (0, 0) (As) h (Ret none h2)) (hst : st = As.reverse ++ rest) (hlen : As.length = na) (hcat : Nat.ble (rest.map fun v => v.category).sum 8 = true) (hfr : rmK fr2 fr M.2.2.1 = true) (hmc : n.1 ≤ mc.1 ∧ n.2 ≤ mc.2) (k : X g f md mc Post n (pc + 3) L rest h2) : X g f md mc Post n pc L st h :=
  x_callS C d hw hm hc hst hlen hcat hfr hmc (fun o h3 hp => ⟨none, hp.1, by rw [hp.2]; exact k⟩)
theorem x_cS1  {h2 : Hp} {v : Value} (C : Cx g f md fr mc) (d : decode md.2.1 pc = .ok (.invokestatic idx, 3)) (hw : Cond.methodLink md.1.cls idx M.1 ∈ tb) (hm : mS M na) (hc : Con g M fr2 (0, 0) (As) h (Ret (some v) h2)) (hst : st = As.reverse ++ rest) (hlen : As.length = na) (hcat : Nat.ble (rest.map fun v => v.category).sum 8 = true) (hfr : rmK fr2 fr M.2.2.1 = true) (hmc : n.1 ≤ mc.1 ∧ n.2 ≤ mc.2) (k : X g f md mc Post n (pc + 3) L (v :: rest) h2) : X g f md mc Post n pc L st h :=
  x_callS C d hw hm hc hst hlen hcat hfr hmc (fun o h3 hp => ⟨some v, hp.1, by rw [hp.2]; exact k⟩)
theorem x_cS  (C : Cx g f md fr mc) (d : decode md.2.1 pc = .ok (.invokestatic idx, 3)) (hw : Cond.methodLink md.1.cls idx M.1 ∈ tb) (hm : mS M na) (hc : Con g M fr2 (0, 0) (As) h Post2) (hst : st = As.reverse ++ rest) (hlen : As.length = na) (hcat : Nat.ble (rest.map fun v => v.category).sum 8 = true) (hfr : rmK fr2 fr M.2.2.1 = true) (hmc : n.1 ≤ mc.1 ∧ n.2 ≤ mc.2) (k : ∀ o h2, Post2 o h2 → ∃ r, o = .returned r ∧ X g f md mc Post n (pc + 3) L (r.toList ++ rest) h2) : X g f md mc Post n pc L st h :=
  x_callS C d hw hm hc hst hlen hcat hfr hmc k
/-- calls that make nothing: exact ends, void and with an answer; any end -/
theorem x_cSN0 {host : String} {h2 : Hp} (C : Cx g f md fr mc) (d : decode md.2.1 pc = .ok (.invokestatic idx, 3)) (hw : (md.1.cls, idx, M.1, host) ∈ nwM) (hm : mS M na) (hc : Con g M fr2 (0, 0) (As) h (Ret none h2)) (hst : st = As.reverse ++ rest) (hlen : As.length = na) (hcat : Nat.ble (rest.map fun v => v.category).sum 8 = true) (hfr : rmK fr2 fr M.2.2.1 = true) (hmc : n.1 ≤ mc.1 ∧ n.2 ≤ mc.2) (k : X g f md mc Post n (pc + 3) L rest h2) : X g f md mc Post n pc L st h :=
  x_callSN C d hw hm hc hst hlen hcat hfr hmc (fun o h3 hp => ⟨none, hp.1, by rw [hp.2]; exact k⟩)
theorem x_cSN1 {host : String} {h2 : Hp} {v : Value} (C : Cx g f md fr mc) (d : decode md.2.1 pc = .ok (.invokestatic idx, 3)) (hw : (md.1.cls, idx, M.1, host) ∈ nwM) (hm : mS M na) (hc : Con g M fr2 (0, 0) (As) h (Ret (some v) h2)) (hst : st = As.reverse ++ rest) (hlen : As.length = na) (hcat : Nat.ble (rest.map fun v => v.category).sum 8 = true) (hfr : rmK fr2 fr M.2.2.1 = true) (hmc : n.1 ≤ mc.1 ∧ n.2 ≤ mc.2) (k : X g f md mc Post n (pc + 3) L (v :: rest) h2) : X g f md mc Post n pc L st h :=
  x_callSN C d hw hm hc hst hlen hcat hfr hmc (fun o h3 hp => ⟨some v, hp.1, by rw [hp.2]; exact k⟩)
theorem x_cSN {host : String} (C : Cx g f md fr mc) (d : decode md.2.1 pc = .ok (.invokestatic idx, 3)) (hw : (md.1.cls, idx, M.1, host) ∈ nwM) (hm : mS M na) (hc : Con g M fr2 (0, 0) (As) h Post2) (hst : st = As.reverse ++ rest) (hlen : As.length = na) (hcat : Nat.ble (rest.map fun v => v.category).sum 8 = true) (hfr : rmK fr2 fr M.2.2.1 = true) (hmc : n.1 ≤ mc.1 ∧ n.2 ≤ mc.2) (k : ∀ o h2, Post2 o h2 → ∃ r, o = .returned r ∧ X g f md mc Post n (pc + 3) L (r.toList ++ rest) h2) : X g f md mc Post n pc L st h :=
  x_callSN C d hw hm hc hst hlen hcat hfr hmc k
theorem x_copy {a b sp dp c : Nat} {A B : List Nat} (C : Cx g f md fr mc) (d : decode md.2.1 pc = .ok (.invokestatic idx, 3)) (hw : Cond.methodLink md.1.cls idx arraycopyName ∈ tb) (ha : h[a]? = some (ia g A)) (hb : h[b]? = some (ia g B)) (h4 : sp + c ≤ A.length) (h5 : dp + c ≤ B.length) (hl0 : A.length < 2 ^ 31 ∧ B.length < 2 ^ 31) (hm : n.1 ≤ mc.1 ∧ n.2 ≤ mc.2) (hfr : Nat.ble 1 fr = true) (hcat : Nat.ble (st.map fun v => v.category).sum 8 = true)
    (k : X g f md mc Post n (pc + 3) L st (h.set b (ia g (cpy A B sp dp c)))) : X g f md mc Post n pc L (.int (nI c) :: .int (nI dp) :: .ref (zA (gz g) b) :: .int (nI sp) :: .ref (zA (gz g) a) :: st) h := by
  intro H locs ls hR hS hl T hT XX
  have hc0 : H[zA (gz g) a]? = some (vp_cell (gC g 0) (A.length, .inl (la A))) := hR.1 a _ (wl_get ha)
  have hc1 : H[zA (gz g) b]? = some (vp_cell (gC g 0) (B.length, .inl (la B))) := hR.1 b _ (wl_get hb)
  obtain ⟨-, k0, hk0, cm0, hkk0⟩ := (C.K.2 0 _ rfl).1 A.length (fun j => .int (la A j))
  obtain ⟨-, k1, hk1, cm1, hkk1⟩ := (C.K.2 0 _ rfl).1 B.length (fun j => .int (la B j))
  have n1 := nI_toInt (n := sp) (by omega)
  have n2 := nI_toInt (n := dp) (by omega)
  have n3 := nI_toInt (n := c) (by omega)
  have m1 := nI_clamp (n := sp) (by omega)
  have m2 := nI_clamp (n := dp) (by omega)
  have m3 := nI_clamp (n := c) (by omega)
  have q1 := Nat.le_of_ble_eq_true hfr
  have q2 := Nat.le_of_ble_eq_true hcat
  have q3 : nativeFrameWords "java/lang/System" "arraycopy" 5 ≤ 17 := by decide +kernel
  obtain ⟨vm', X', step⟩ := XX.arraycopy C.exec C.own (C.ts _ hw) (C.ts _ k_nt_System_arraycopy) (C.ts _ k_st_System_arraycopy) (C.ts _ k_in_System) (src := zA (gz g) a) (dst := zA (gz g) b) (cs := vp_cell (gC g 0) (A.length, .inl (la A))) (cd := vp_cell (gC g 0) (B.length, .inl (la B))) (srcPos := nI sp) (destPos := nI dp) (n := nI c) (by rw [hT]; exact hc0) (by rw [hT]; exact hc1)
    (fun _ h => by cases h) (fun _ h => by cases h) (fun h => by cases h) (fun h => by cases h) hk0 hk1 hkk0 hkk1 (by simp [refKind]) (nI_pos (by omega)) (nI_pos (by omega)) (nI_pos (by omega))
    (by rw [n1, n3]; show ¬ _ > ((arrV _ _ _).slots.size : Int); rw [arrV_size]; omega)
    (by rw [n2, n3]; show ¬ _ > ((arrV _ _ _).slots.size : Int); rw [arrV_size]; omega)
    (fun vm₁ _ i hi => by
      rw [m3] at hi
      have e : (vp_cell (gC g 0) (A.length, .inl (la A))).slots.getD ((nI sp).toNatClampNeg + i) .null = .int (la A ((nI sp).toNatClampNeg + i)) := by
        show (arrV _ _ (fun j => .int (la A j))).slots.getD _ _ = _
        rw [Array.getD_eq_getD_getElem?, arrV_read _ _ (by rw [m1]; omega)]
        rfl
      rw [e]
      exact ⟨rfl, trivial⟩)
    (g := F0 (fI f) pc ls (.int (nI c) :: .int (nI dp) :: .ref (zA (gz g) b) :: .int (nI sp) :: .ref (zA (gz g) a) :: st)) rfl (by rw [C.ml]; exact hl.1) (rest := st) rfl (by rw [C.code]; exact d) (by rw [C.room]; exact Nat.le_of_ble_eq_true hfr) (by rw [C.room]; show 2 * 0 + _ + _ ≤ 36 * fr; omega)
  have e1 : copied (vp_cell (gC g 0) (A.length, .inl (la A))) (vp_cell (gC g 0) (B.length, .inl (la B))) (nI sp) (nI dp) (nI c) = vp_cell (gC g 0) (B.length, .inl (va_cpy (la A) (la B) sp dp c)) := by
    have q := va_copied (fun z => Value.int z) (gC g 0) (gC g 0) (n0 := A.length) (n1 := B.length) (sp := (nI sp).toNatClampNeg) (dp := (nI dp).toNatClampNeg) (n := (nI c).toNatClampNeg) (la A) (la B) (by rw [m1, m3]; exact h4)
    refine Eq.trans q ?_
    rw [m1, m2, m3]
    rfl
  rw [e1] at X' step
  have hlt : zA (gz g) b < H.size := (Array.getElem?_eq_some_iff.mp hc1).1
  have hheap : ((T.setVm vm').setCell (zA (gz g) b) (vp_cell (gC g 0) (B.length, .inl (va_cpy (la A) (la B) sp dp c)))).heap = H.setIfInBounds (zA (gz g) b) (vp_cell (gC g 0) (B.length, .inl (va_cpy (la A) (la B) sp dp c))) := by rw [← hT]; rfl
  have oq : ∀ q : Nat, q ≠ zA (gz g) b → (H.setIfInBounds (zA (gz g) b) (vp_cell (gC g 0) (B.length, .inl (va_cpy (la A) (la B) sp dp c))))[q]? = H[q]? := fun q hq => by simp [Array.getElem?_setIfInBounds, Ne.symm hq]
  obtain ⟨t, a1, b1⟩ := k _ _ ls (hR.put hb (e := ia g (cpy A B sp dp c)) (by
      show (H.setIfInBounds (zA (gz g) b) _)[zA (gz g) b]? = some (vp_cell (gC g 0) ((cpy A B sp dp c).length, .inl (la (cpy A B sp dp c))))
      rw [cpy_length h4 h5, ← la_cpy h4 h5]
      simp [Array.getElem?_setIfInBounds, hlt]) (by simp) oq) ⟨by simp; exact hS.1, fun q g1 g2 => by
      rw [oq q (fun e => g2 (by rw [e]; exact zA_zle g b))]
      exact hS.2.1 q g1 g2, fun q hq => by
      rcases List.mem_append.mp hq with h | h
      · exact hS.2.2 q h
      · obtain ⟨z, -, hz⟩ := List.mem_map.mp h
        rw [← hz]
        exact zA_zle g b⟩ hl _ hheap X'
  exact ⟨t, step t a1, b1⟩
end XR
