/-! Pure functions: what the loops do to lists of naturals. -/
/-- n turns from k on -/
def it {α : Type} (f : Nat → α → α) : Nat → Nat → α → α
  | _, 0, s => s
  | k, n + 1, s => it f (k + 1) n (f k s)
theorem it_inv {α : Type} {f : Nat → α → α} (P : α → Prop) : ∀ (n k : Nat) (s : α), (∀ j s, k ≤ j → j < k + n → P s → P (f j s)) → P s → P (it f k n s)
  | 0, _, _, _, h => h
  | n + 1, k, s, hf, h => it_inv P n (k + 1) (f k s) (fun j s h1 h2 => hf j s (by omega) (by omega)) (hf k s (by omega) (by omega) h)
/-- all are bytes -/
def by8 (A : List Nat) : Prop := ∀ v ∈ A, v < 256
theorem by8.at {A : List Nat} (h : by8 A) (i : Nat) : A.getD i 0 < 256 := by
  rw [List.getD_eq_getElem?_getD]
  cases hi : A[i]? with
  | none => decide
  | some v => exact h v (List.mem_of_getElem? hi)
theorem by8.set {A : List Nat} (h : by8 A) {i v : Nat} (hv : v < 256) : by8 (A.set i v) := by
  intro x hx
  rcases List.mem_or_eq_of_mem_set hx with h1 | h1
  · exact h x h1
  · rw [h1]; exact hv
theorem by8.app {A B : List Nat} (h : by8 A) (h2 : by8 B) : by8 (A ++ B) := by
  intro x hx
  rcases List.mem_append.mp hx with h1 | h1
  · exact h x h1
  · exact h2 x h1
theorem xor8 {a b : Nat} (ha : a < 256) (hb : b < 256) : a ^^^ b < 256 := Nat.xor_lt_two_pow (n := 8) ha hb
/-- twice a byte -/
def tw (b : Nat) : Nat := if b < 128 then b * 2 ^ 1 else (b * 2 ^ 1) ^^^ 283
theorem tw8 : ∀ b, b < 256 → tw b < 256 := by decide +kernel
theorem gd_l {X Y : List Nat} {k : Nat} (h : k < X.length) : (X ++ Y).getD k 0 = X.getD k 0 := by
  rw [List.getD_eq_getElem?_getD, List.getElem?_append_left h, List.getD_eq_getElem?_getD]
theorem st_l {X Y : List Nat} {k v : Nat} (h : k < X.length) : (X ++ Y).set k v = X.set k v ++ Y := List.set_append_left _ _ h
theorem it_len {f : Nat → List Nat → List Nat} (hf : ∀ k S, (f k S).length = S.length) (n k : Nat) (S : List Nat) : (it f k n S).length = S.length :=
  it_inv (fun T => T.length = S.length) n k S (fun j T _ _ h => (hf j T).trans h) rfl
theorem cpyT {A F : List Nat} (hA : 16 ≤ A.length) (hF : F.length = 16) : cpy A F 0 0 16 = A.take 16 := by
  unfold cpy
  rw [List.take_zero, List.drop_zero, List.nil_append, Nat.zero_add, List.drop_of_length_le (by omega), List.append_nil]
theorem by8.take {A : List Nat} (h : by8 A) (n : Nat) : by8 (A.take n) := fun v hv => h v (List.mem_of_mem_take hv)
theorem cpy16 {X Y F : List Nat} (hX : X.length = 16) (hF : F.length = 16) : cpy (X ++ Y) F 0 0 16 = X := by
  unfold cpy
  rw [List.take_zero, List.drop_zero, List.nil_append, Nat.zero_add, List.drop_of_length_le (by omega), List.append_nil, List.take_append_of_le_length (by omega), List.take_of_length_le (by omega)]
/-- the cells of a world: rows, ciphers, tables -/
abbrev rwc (g : Gp) (b n : Nat) : va_E := .inr (7, [.ref (zA (gz g) b), .int (nI n)])
abbrev cpc (g : Gp) (t rk bf : Nat) : va_E := .inr (2, [.ref (zA (gz g) t), .ref (zA (gz g) rk), .ref (zA (gz g) bf)])
abbrev tbc (g : Gp) (fo ba : Nat) : va_E := .inr (8, [.ref (zA (gz g) fo), .ref (zA (gz g) ba)])
theorem ne_io {h : Hp} {a b : Nat} {x : ClassId × vp_A} {y : Nat × List Value} (ha : h[a]? = some (.inl x)) (hb : h[b]? = some (.inr y)) : a ≠ b := by
  intro e
  rw [e, hb] at ha
  cases ha
theorem ne_cc {h : Hp} {a b c1 c2 : Nat} {x y : List Value} (ha : h[a]? = some (.inr (c1, x))) (hb : h[b]? = some (.inr (c2, y))) (hc : c1 ≠ c2) : a ≠ b := by
  intro e
  rw [e, hb] at ha
  cases ha
  exact hc rfl
theorem gs_ne {h : Hp} {a b : Nat} {e : va_E} {x : Option va_E} (hne : a ≠ b) (hb : h[b]? = x) : (h.set a e)[b]? = x := (List.getElem?_set_ne hne).trans hb
theorem gs_self {h : Hp} {a : Nat} {e e0 : va_E} (ha : h[a]? = some e0) : (h.set a e)[a]? = some e := List.getElem?_set_self (List.getElem?_eq_some_iff.mp ha).1
theorem gs_id {h : Hp} {a : Nat} {e : va_E} (ha : h[a]? = some e) : h.set a e = h := by
  apply List.ext_getElem?
  intro j
  by_cases hj : a = j
  · subst hj
    rw [gs_self ha, ha]
  · rw [List.getElem?_set_ne hj]
theorem gs_in {h : Hp} {a b : Nat} {e e' x : va_E} (hne : a ≠ b) : ((h.set a e).set b x).set a e' = (h.set a e').set b x := by
  rw [List.set_comm _ _ (Ne.symm hne), List.set_set]
theorem Ret.i {h : Hp} {a b : Nat} (e : a = b) : Ret (some (.int (nI b))) h (.returned (some (.int (nI a)))) h := ⟨by rw [e], rfl⟩
theorem Ret.h {h h' : Hp} (e : h = h') {r : Option Value} : Ret r h' (.returned r) h := ⟨rfl, e⟩
theorem ii_1 (a : Nat) : nI a + Int32.ofInt 1 = nI (a + 1) := nI_add a 1
theorem ii_4 (a : Nat) : nI a + Int32.ofInt 4 = nI (a + 4) := nI_add a 4
theorem ii_6 (a : Nat) : nI a + Int32.ofInt 6 = nI (a + 6) := nI_add a 6
theorem ii_16 (a : Nat) : nI a + Int32.ofInt 16 = nI (a + 16) := nI_add a 16
theorem iim {a : Nat} (h : 1 ≤ a) : nI a + Int32.ofInt (-1) = nI (a - 1) := by
  obtain ⟨b, rfl⟩ : ∃ b, a = b + 1 := ⟨a - 1, by omega⟩
  exact pk_m1 b
theorem dq {b : ByteArray} {l : List (Nat × Instr × Nat)} (h : l.all (fun q => decide (decode b q.1 = .ok (q.2.1, q.2.2))) = true) (k : Nat) {pc : Nat} {i : Instr} {len : Nat} (hk : l[k]? = some (pc, i, len)) : decode b pc = .ok (i, len) := by
  have h1 := List.all_eq_true.mp h (pc, i, len) (List.mem_of_getElem? hk)
  dsimp only at h1
  rw [decide_eq_true_eq] at h1
  exact h1
/-! Words of 32 bits: shifts of what may be negative. -/
section XW
variable {g : Gp} {f : Fm} {md : MD} {fr : Nat} {mc : Nat × Nat} {Post : Outcome → Hp → Prop} {n : Nat × Nat} {pc : Nat} {L : List (Option Value)} {st : List Value} {h : Hp}
theorem x_ishr {x y : Int32} (C : Cx g f md fr mc) (d : decode md.2.1 pc = .ok (.ishr, 1)) (k : X g f md mc Post n (pc + 1) L (.int (x >>> (y &&& 31)) :: st) h) : X g f md mc Post n pc L (.int y :: .int x :: st) h :=
  fun H locs ls hR hS hl => lv_ishr C.exec C.code d (k H locs ls hR hS hl)
theorem n_shlM (a b : Nat) (ha : a < 2 ^ 32) (hb : b < 32) : nI a <<< (nI b &&& 31) = nI (a * 2 ^ b % 2 ^ 32) := by
  apply Int32.toBitVec_inj.1
  apply BitVec.eq_of_toNat_eq
  rw [pk_shl (nI a) _ b (ln_s31 b hb), pk_tn ha, pk_tn (Nat.mod_lt _ (by omega))]
theorem n_ishlM {a b : Nat} (C : Cx g f md fr mc) (d : decode md.2.1 pc = .ok (.ishl, 1)) (ha : a < 2 ^ 32) (hb : b < 32) (k : X g f md mc Post n (pc + 1) L (.int (nI (a * 2 ^ b % 2 ^ 32)) :: st) h) : X g f md mc Post n pc L (.int (nI b) :: .int (nI a) :: st) h := by
  intro H locs ls hR hS hl
  refine lv_ishl C.exec C.code d ?_
  rw [n_shlM a b ha hb]
  exact k H locs ls hR hS hl
end XW
theorem i32_cond (x : Int32) : x.toInt = if 2 * x.toBitVec.toNat < 2 ^ 32 then (x.toBitVec.toNat : Int) else (x.toBitVec.toNat : Int) - 2 ^ 32 := by
  show x.toBitVec.toInt = _
  rw [BitVec.toInt_eq_toNat_cond]
  simp
theorem ws255 {w s : Nat} (hw : w < 2 ^ 32) (hs : s = 0 ∨ s = 8 ∨ s = 16 ∨ s = 24) : (nI w >>> (nI s &&& 31)) &&& nI 255 = nI ((w / 2 ^ s) &&& 255) := by
  have hs2 : s < 32 := by omega
  rw [pk_and _ 8 (by decide +kernel)]
  have e1 := pk_shr (nI w) (nI s &&& 31) s (ln_s31 s hs2)
  have e2 := i32_cond (nI w)
  have e3 := i32_cond (nI w >>> (nI s &&& 31))
  rw [pk_tn hw] at e2
  generalize (nI w >>> (nI s &&& 31)) = x at e1 e3 ⊢
  have hx : x.toBitVec.toNat < 2 ^ 32 := x.toBitVec.isLt
  generalize x.toBitVec.toNat = m at e3 hx ⊢
  rw [show w / 2 ^ s &&& 255 = w / 2 ^ s % 2 ^ 8 from Nat.and_two_pow_sub_one_eq_mod _ 8]
  congr 1
  rw [e1, e2, Int.shiftRight_eq_div_pow] at e3
  rcases hs with rfl | rfl | rfl | rfl <;> (simp at e3 ⊢; split at e3 <;> split at e3 <;> omega)
/-- all are words of 32 bits -/
def by32 (A : List Nat) : Prop := ∀ v ∈ A, v < 2 ^ 32
theorem by32.at {A : List Nat} (h : by32 A) (i : Nat) : A.getD i 0 < 2 ^ 32 := by
  rw [List.getD_eq_getElem?_getD]
  cases hi : A[i]? with
  | none => decide
  | some v => exact h v (List.mem_of_getElem? hi)
theorem by32.set {A : List Nat} (h : by32 A) {i v : Nat} (hv : v < 2 ^ 32) : by32 (A.set i v) := by
  intro x hx
  rcases List.mem_or_eq_of_mem_set hx with h1 | h1
  · exact h x h1
  · rw [h1]; exact hv
theorem i32_nI (x : Int32) : ∃ w, w < 2 ^ 32 ∧ x = nI w := ⟨x.toBitVec.toNat, x.toBitVec.isLt, by
  apply Int32.toBitVec_inj.1
  apply BitVec.eq_of_toNat_eq
  rw [pk_tn x.toBitVec.isLt]⟩
