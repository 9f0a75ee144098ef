theorem c_Row_has {g : Gp} {h : Hp} {r b n : Nat} {x : Int32} (hr : h[r]? = some (rwc g b n)) : Con g M_Row_has 0 (0, 0) [.ref (zA (gz g) r), .int x] h (Ret (some (.int (if x < 0 ∨ nI n ≤ x then nI 0 else nI 1))) h) := by
  refine Con.of (by decide) rfl rfl (L := [some (.ref (zA (gz g) r)), some (.int x)]) rfl (fun f C => ?_)
  refine x_iload_n (pc := 0) C (dq D_Row_has 0 rfl) rfl ?_
  refine x_iflt (pc := 1) (tgt := 16) C (dq D_Row_has 1 rfl) (by decide) (fun hq => ?_) (fun hq => ?_)
  · rw [if_pos (Or.inl hq)]
    refine x_iconst (pc := 16) C (dq D_Row_has 8 rfl) ci_0 ?_
    exact x_zret (pc := 17) C (dq D_Row_has 9 rfl) rfl rfl (by decide) ⟨rfl, rfl⟩
  · have hq0 := hq
    refine x_iload_n (pc := 4) C (dq D_Row_has 2 rfl) rfl ?_
    refine x_aload_n (pc := 5) C (dq D_Row_has 3 rfl) rfl ?_
    refine x_get (pc := 6) (ci := 7) (j := 1) C (dq D_Row_has 4 rfl) rfl rfl (hr) rfl k_fl_Row_15 ?_
    refine x_ge (pc := 9) (tgt := 16) C (dq D_Row_has 5 rfl) (by decide) (fun hq => ?_) (fun hq => ?_)
    · rw [if_pos (Or.inr hq)]
      refine x_iconst (pc := 16) C (dq D_Row_has 8 rfl) ci_0 ?_
      exact x_zret (pc := 17) C (dq D_Row_has 9 rfl) rfl rfl (by decide) ⟨rfl, rfl⟩
    · rw [if_neg (fun z => z.elim hq0 hq)]
      refine x_iconst (pc := 12) C (dq D_Row_has 6 rfl) ci_1 ?_
      refine x_goto (pc := 13) (tgt := 17) C (dq D_Row_has 7 rfl) (by decide) ?_
      exact x_zret (pc := 17) C (dq D_Row_has 9 rfl) rfl rfl (by decide) ⟨rfl, rfl⟩
def zr (k : Nat) (B : List Nat) : List Nat := B.set k 0
theorem zr_len (k : Nat) (B : List Nat) : (zr k B).length = B.length := List.length_set
theorem c_Row_addZeros {g : Gp} {h : Hp} {r b n m : Nat} {B : List Nat} (hr : h[r]? = some (rwc g b n)) (hb : h[b]? = some (ia g B)) (hm : n ≤ m ∧ m ≤ B.length ∧ B.length < 1000) : Con g M_Row_addZeros 1 (0, 0) [.ref (zA (gz g) r), .int (nI m)] h (Ret none ((h.set b (ia g (it zr n (m - n) B))).set r (rwc g b m))) := by
  have hbr := ne_io hb hr
  have hr0 : ∀ e, (h.set b e)[r]? = some (rwc g b n) := fun e => gs_ne hbr hr
  have hr1 : ∀ e k, ((h.set b e).set r (rwc g b k))[r]? = some (rwc g b k) := fun e k => gs_self (hr0 e)
  have hb1 : ∀ e k, ((h.set b e).set r (rwc g b k))[b]? = some e := fun e k => gs_ne (Ne.symm hbr) (gs_self hb)
  refine Con.of (by decide) rfl rfl (L := [some (.ref (zA (gz g) r)), some (.int (nI m)), none]) rfl (fun f C => ?_)
  have loop : ∀ (d k : Nat) (S : List Nat), k + d = m → S.length = B.length → X g f M_Row_addZeros (0, 0) (Ret none ((h.set b (ia g (it zr k d S))).set r (rwc g b m))) (0, 0) 5 [some (.ref (zA (gz g) r)), some (.int (nI m)), some (.int (nI k))] [] ((h.set b (ia g S)).set r (rwc g b k)) := by
    intro d
    induction d with
    | zero =>
      intro k S hkd hS
      obtain rfl : k = m := by omega
      refine x_iload_n (pc := 5) C (dq D_Row_addZeros 3 rfl) rfl ?_
      refine x_iload_n (pc := 6) C (dq D_Row_addZeros 4 rfl) rfl ?_
      refine n_ge_t (pc := 7) (tgt := 21) C (dq D_Row_addZeros 5 rfl) (by decide) (by omega) (by omega) ?_
      exact x_vret (pc := 21) C (dq D_Row_addZeros 11 rfl) rfl (by decide) ⟨rfl, rfl⟩
    | succ d ih =>
      intro k S hkd hS
      refine x_iload_n (pc := 5) C (dq D_Row_addZeros 3 rfl) rfl ?_
      refine x_iload_n (pc := 6) C (dq D_Row_addZeros 4 rfl) rfl ?_
      refine n_ge_f (pc := 7) (tgt := 21) C (dq D_Row_addZeros 5 rfl) (by decide) (by omega) (by omega) ?_
      refine x_aload_n (pc := 10) C (dq D_Row_addZeros 6 rfl) rfl ?_
      refine x_iconst (pc := 11) C (dq D_Row_addZeros 7 rfl) ci_0 ?_
      refine x_cV0 (pc := 12) (ci := 7) (M := M_Row_add) C (dq D_Row_addZeros 8 rfl) k_ml_Row_25 m_Row_add rfl rfl (hr1 _ _) (c_Row_add (v := 0) (hr1 _ _) (hb1 _ _) (by omega)) rfl rfl rfl rfl (by decide) ?_
      rw [gs_in hbr, List.set_set]
      refine x_iinc (pc := 15) C (dq D_Row_addZeros 9 rfl) rfl (ii_1 _) rfl rfl ?_
      simp only [List.set_cons_zero, List.set_cons_succ]
      refine x_goto (pc := 18) (tgt := 5) C (dq D_Row_addZeros 10 rfl) (by decide) ?_
      exact ih (k + 1) (zr k S) (by omega) (by rw [zr_len]; exact hS)
  refine x_aload_n (pc := 0) C (dq D_Row_addZeros 0 rfl) rfl ?_
  refine x_get (pc := 1) (ci := 7) (j := 1) C (dq D_Row_addZeros 1 rfl) rfl rfl (hr) rfl k_fl_Row_15 ?_
  refine x_istore_n (i := 2) (pc := 4) C (dq D_Row_addZeros 2 rfl) rfl rfl rfl ?_
  simp only [List.set_cons_zero, List.set_cons_succ]
  have h0 := loop (m - n) n B (by omega) rfl
  rw [gs_id hb, gs_id hr] at h0
  exact h0
theorem c_Row_becomeRest {g : Gp} {h : Hp} {r b n o q m s : Nat} {B Q : List Nat} (hr : h[r]? = some (rwc g b n)) (hb : h[b]? = some (ia g B)) (ho : h[o]? = some (rwc g q m)) (hq : h[q]? = some (ia g Q)) (hs : s ≤ m) (hm : m ≤ Q.length ∧ Q.length < 1000) (hB : m - s ≤ B.length ∧ B.length < 1000) :
    Con g M_Row_becomeRest 1 (0, 0) [.ref (zA (gz g) r), .ref (zA (gz g) o), .int (nI s)] h (Ret none ((h.set r (rwc g b (m - s))).set b (ia g (cpy Q B s 0 (m - s))))) := by
  have hrb := ne_io hb hr
  have hrq := ne_io hq hr
  have hr1 : (h.set r (rwc g b (m - s)))[r]? = some (rwc g b (m - s)) := gs_self hr
  have hb1 : (h.set r (rwc g b (m - s)))[b]? = some (ia g B) := gs_ne (Ne.symm hrb) hb
  have hq1 : (h.set r (rwc g b (m - s)))[q]? = some (ia g Q) := gs_ne (Ne.symm hrq) hq
  obtain ⟨v, ho1⟩ : ∃ v, (h.set r (rwc g b (m - s)))[o]? = some (.inr (7, [.ref (zA (gz g) q), v])) := by
    by_cases e : r = o
    · subst e
      rw [ho] at hr
      obtain ⟨hqb, -⟩ : zA (gz g) q = zA (gz g) b ∧ nI m = nI n := by simpa using hr
      exact ⟨_, by rw [hqb]; exact hr1⟩
    · exact ⟨_, gs_ne e ho⟩
  refine Con.of (by decide) rfl rfl (L := [some (.ref (zA (gz g) r)), some (.ref (zA (gz g) o)), some (.int (nI s))]) rfl (fun f C => ?_)
  refine x_aload_n (pc := 0) C (dq D_Row_becomeRest 0 rfl) rfl ?_
  refine x_aload_n (pc := 1) C (dq D_Row_becomeRest 1 rfl) rfl ?_
  refine x_get (pc := 2) (ci := 7) (j := 1) C (dq D_Row_becomeRest 2 rfl) rfl rfl (ho) rfl k_fl_Row_15 ?_
  refine x_iload_n (pc := 5) C (dq D_Row_becomeRest 3 rfl) rfl ?_
  refine n_isub (pc := 6) C (dq D_Row_becomeRest 4 rfl) (by omega) ?_
  refine x_put (pc := 7) (ci := 7) (j := 1) (ty := .int) C (dq D_Row_becomeRest 5 rfl) rfl rfl (hr) rfl k_fl_Row_15 (Or.inl rfl) (by decide +kernel) rfl rfl ?_
  simp only [List.set_cons_zero, List.set_cons_succ]
  refine x_aload_n (pc := 10) C (dq D_Row_becomeRest 6 rfl) rfl ?_
  refine x_get (pc := 11) (ci := 7) (j := 0) C (dq D_Row_becomeRest 7 rfl) rfl rfl (by first | exact hr1 | exact ho1) rfl k_fl_Row_9 ?_
  refine x_iload_n (pc := 14) C (dq D_Row_becomeRest 8 rfl) rfl ?_
  refine x_aload_n (pc := 15) C (dq D_Row_becomeRest 9 rfl) rfl ?_
  refine x_get (pc := 16) (ci := 7) (j := 0) C (dq D_Row_becomeRest 10 rfl) rfl rfl (by first | exact hr1 | exact ho1) rfl k_fl_Row_9 ?_
  refine x_iconst (pc := 19) C (dq D_Row_becomeRest 11 rfl) ci_0 ?_
  refine x_aload_n (pc := 20) C (dq D_Row_becomeRest 12 rfl) rfl ?_
  refine x_get (pc := 21) (ci := 7) (j := 1) C (dq D_Row_becomeRest 13 rfl) rfl rfl (by first | exact hr1 | exact ho1) rfl k_fl_Row_15 ?_
  refine x_copy (pc := 24) C (dq D_Row_becomeRest 14 rfl) k_ml_Row_19 hq1 hb1 (by omega) (by omega) (by omega) (by decide) rfl rfl ?_
  exact x_vret (pc := 27) C (dq D_Row_becomeRest 15 rfl) rfl (by decide) ⟨rfl, rfl⟩
theorem c_Row_become {g : Gp} {h : Hp} {r b n o q m : Nat} {B Q : List Nat} (hr : h[r]? = some (rwc g b n)) (hb : h[b]? = some (ia g B)) (ho : h[o]? = some (rwc g q m)) (hq : h[q]? = some (ia g Q)) (hm : m ≤ Q.length ∧ Q.length < 1000) (hB : m ≤ B.length ∧ B.length < 1000) :
    Con g M_Row_become 2 (0, 0) [.ref (zA (gz g) r), .ref (zA (gz g) o)] h (Ret none ((h.set r (rwc g b m)).set b (ia g (cpy Q B 0 0 m)))) := by
  refine Con.of (by decide) rfl rfl (L := [some (.ref (zA (gz g) r)), some (.ref (zA (gz g) o))]) rfl (fun f C => ?_)
  refine x_aload_n (pc := 0) C (dq D_Row_become 0 rfl) rfl ?_
  refine x_aload_n (pc := 1) C (dq D_Row_become 1 rfl) rfl ?_
  refine x_iconst (pc := 2) C (dq D_Row_become 2 rfl) ci_0 ?_
  refine x_cV0 (pc := 3) (ci := 7) (M := M_Row_becomeRest) C (dq D_Row_become 3 rfl) k_ml_Row_29 m_Row_becomeRest rfl rfl (hr) (c_Row_becomeRest (s := 0) hr hb ho hq (by omega) hm (by omega)) rfl rfl rfl rfl (by decide) ?_
  exact x_vret (pc := 6) C (dq D_Row_become 4 rfl) rfl (by decide) ⟨rfl, rfl⟩
