/-! What a loop does depends on what it reads: messages as lists. -/
theorem it_zero {α : Type} (f : Nat → α → α) (k : Nat) (s : α) : it f k 0 s = s := rfl
theorem it_succ {α : Type} (f : Nat → α → α) (k n : Nat) (s : α) : it f k (n + 1) s = it f (k + 1) n (f k s) := rfl
theorem it_congr {α : Type} {f f' : Nat → α → α} : ∀ (n k : Nat) (s : α), (∀ j s, k ≤ j → j < k + n → f j s = f' j s) → it f k n s = it f' k n s
  | 0, _, _, _ => rfl
  | n + 1, k, s, h => by
    show it f (k + 1) n (f k s) = it f' (k + 1) n (f' k s)
    rw [h k s (by omega) (by omega)]
    exact it_congr n (k + 1) _ (fun j s h1 h2 => h j s (by omega) (by omega))
theorem it_hom {α β : Type} {f : Nat → α → α} {f' : Nat → β → β} (φ : α → β) (I : α → Prop) : ∀ (n k : Nat) (s : α), (∀ j s, k ≤ j → j < k + n → I s → I (f j s) ∧ φ (f j s) = f' j (φ s)) → I s → φ (it f k n s) = it f' k n (φ s)
  | 0, _, _, _, _ => rfl
  | n + 1, k, s, h, hI => by
    obtain ⟨h1, h2⟩ := h k s (by omega) (by omega) hI
    show φ (it f (k + 1) n (f k s)) = it f' (k + 1) n (f' k (φ s))
    rw [← h2]
    exact it_hom φ I n (k + 1) _ (fun j s h1 h2 => h j s (by omega) (by omega)) h1
theorem gd_take {A : List Nat} {n j : Nat} (h : j < n) : (A.take n).getD j 0 = A.getD j 0 := by
  rw [List.getD_eq_getElem?_getD, List.getD_eq_getElem?_getD, List.getElem?_take_of_lt h]
theorem gd_set {A : List Nat} {j k v : Nat} : (A.set k v).getD j 0 = if k = j ∧ k < A.length then v else A.getD j 0 := by
  rw [List.getD_eq_getElem?_getD, List.getD_eq_getElem?_getD, List.getElem?_set]
  by_cases h : k = j
  · subst h
    by_cases h2 : k < A.length
    · simp [h2]
    · simp [h2]
  · simp [h]
theorem gd_ext {A B : List Nat} (hl : A.length = B.length) (h : ∀ j, j < A.length → A.getD j 0 = B.getD j 0) : A = B := by
  apply List.ext_getElem hl
  intro i h1 h2
  have := h i h1
  rw [List.getD_eq_getElem?_getD, List.getD_eq_getElem?_getD, List.getElem?_eq_getElem h1, List.getElem?_eq_getElem h2] at this
  exact this
theorem gd_take2 {A B : List Nat} {n : Nat} (h1 : n ≤ A.length) (h2 : n ≤ B.length) : (∀ j, j < n → A.getD j 0 = B.getD j 0) ↔ A.take n = B.take n := by
  constructor
  · intro h
    refine gd_ext (by rw [List.length_take, List.length_take]; omega) (fun j hj => ?_)
    rw [List.length_take] at hj
    rw [gd_take (by omega), gd_take (by omega)]
    exact h j (by omega)
  · intro h j hj
    rw [← gd_take hj, ← gd_take (A := B) hj, h]
/-- two texts agree up to e -/
def agr (e : Nat) (A B : List Nat) : Prop := A.length = B.length ∧ ∀ j, j < e → A.getD j 0 = B.getD j 0
theorem agr.set {e k v w : Nat} {A B : List Nat} (h : agr e A B) (hv : v = w) : agr e (A.set k v) (B.set k w) := by
  refine ⟨by rw [List.length_set, List.length_set]; exact h.1, fun j hj => ?_⟩
  rw [gd_set, gd_set, h.1, hv, h.2 j hj]
theorem agr.more {k v : Nat} {A B : List Nat} (h : agr k A B) (hk : k < A.length) : agr (k + 1) (A.set k v) (B.set k v) := by
  refine ⟨by rw [List.length_set, List.length_set]; exact h.1, fun j hj => ?_⟩
  rw [gd_set, gd_set, ← h.1]
  by_cases e : k = j
  · rw [if_pos ⟨e, hk⟩, if_pos ⟨e, hk⟩]
  · rw [if_neg (fun z => e z.1), if_neg (fun z => e z.1)]
    exact h.2 j (by omega)
theorem mpd_agr (n : Nat) : ∀ (d k : Nat) (A B : List Nat), agr k A B → k + d ≤ A.length → agr (k + d) (it (mpd n) k d A) (it (mpd n) k d B)
  | 0, _, _, _, h, _ => h
  | d + 1, k, A, B, h, hl => by
    rw [show k + (d + 1) = k + 1 + d by omega]
    exact mpd_agr n d (k + 1) _ _ (h.more (by omega)) (by rw [mpd_len]; omega)
theorem mxt_agr (K : List Nat) (e : Nat) (he : 16 ≤ e) : ∀ (d k : Nat) (A B : List Nat), k + d ≤ 16 → agr e A B → agr e (it (mxt K e) k d A) (it (mxt K e) k d B)
  | 0, _, _, _, _, h => h
  | d + 1, k, A, B, hk, h => mxt_agr K e he d (k + 1) _ _ (by omega) (h.set (by rw [h.2 _ (by omega)]))
theorem mmk_agr {T W : List Nat} {n : Nat} {A B : List Nat} (h : agr n A B) (hl : mend n ≤ A.length) : mmk T W n A = mmk T W n B := by
  obtain ⟨e1, e2, e3, e4⟩ := mend_ok n
  have h1 := mpd_agr n (mend n - n) n A B h (by omega)
  rw [show n + (mend n - n) = mend n by omega] at h1
  have h2 := mxt_agr (mtw T W n) (mend n) e2 16 0 _ _ (by omega) h1
  unfold mmk
  refine it_congr _ _ _ (fun j s _ hj => ?_)
  refine congrArg (enc T W 0) (it_congr 16 0 s (fun k s _ hk => ?_))
  have h3 := h2.2 (16 * j + k) (by omega)
  unfold mxb mtt
  rw [h3]
/-- the reference's mark of a message -/
def mk (T W L : List Nat) : List Nat := mmk T W L.length (L ++ List.replicate (112 - L.length) 0)
theorem mmk_mk {T W : List Nat} {n : Nat} {A : List Nat} (hA : A.length = 112) (hn : n ≤ 88) : mmk T W n A = mk T W (A.take n) := by
  have e3 := (mend_ok n).2.2.1
  unfold mk
  have hl : (A.take n).length = n := by rw [List.length_take]; omega
  rw [hl]
  refine mmk_agr ⟨by rw [List.length_append, hl, List.length_replicate]; omega, fun j hj => ?_⟩ (by omega)
  rw [gd_l (by omega), gd_take hj]
theorem mk_ok {T : List Nat} (hT : by8 T) (W : List Nat) {L : List Nat} (h : by8 L) : (mk T W L).length = 16 ∧ by8 (mk T W L) :=
  mmk_ok hT W _ (h.app (fun v hv => by rw [List.eq_of_mem_replicate hv]; decide))
/-- a row's first bytes laid into another's -/
theorem cp1_take {R : List Nat} : ∀ (d k : Nat) (S : List Nat), k + d ≤ S.length → k + d ≤ R.length → S.take k = R.take k → (it (cp1 R) k d S).take (k + d) = R.take (k + d)
  | 0, _, _, _, _, h => h
  | d + 1, k, S, hS, hR, h => by
    rw [show k + (d + 1) = k + 1 + d by omega]
    refine cp1_take d (k + 1) (cp1 R k S) (by rw [cp1_len]; omega) (by omega) ?_
    refine (gd_take2 (by rw [cp1_len]; omega) (by omega)).mp (fun j hj => ?_)
    unfold cp1
    rw [gd_set]
    by_cases e : k = j
    · subst e
      rw [if_pos ⟨rfl, by omega⟩]
    · rw [if_neg (fun z => e z.1)]
      exact (gd_take2 (by omega) (by omega)).mpr h j (by omega)
theorem cp1_8 {R : List Nat} (hR : by8 R) (k d : Nat) {S : List Nat} (h : by8 S) : by8 (it (cp1 R) k d S) := it_inv by8 d k S (fun j T _ _ hT => hT.set (hR.at _)) h
theorem take_set {A : List Nat} {n k v : Nat} : (A.set k v).take n = (A.take n).set k v := by rw [List.take_set]
theorem mxt_take (K : List Nat) (e : Nat) (he : 16 ≤ e) (A : List Nat) : (it (mxt K e) 0 16 A).take e = it (mxt K e) 0 16 (A.take e) := by
  refine it_hom (fun A : List Nat => A.take e) (fun _ => True) 16 0 A (fun j s _ hj _ => ⟨trivial, ?_⟩) trivial
  unfold mxt
  rw [take_set, gd_take (by omega)]
