/-- a row's bytes laid over a block -/
def adt (F : List Nat) (s k : Nat) (S : List Nat) : List Nat := S.set k (S.getD k 0 ^^^ F.getD (s + k) 0)
theorem adt_len (F : List Nat) (s k : Nat) (S : List Nat) : (adt F s k S).length = S.length := List.length_set
theorem adt8 {F : List Nat} (hF : by8 F) (s k n : Nat) {S : List Nat} (h : by8 S) : by8 (it (adt F s) k n S) := it_inv by8 n k S (fun j T _ _ hT => hT.set (xor8 (hT.at _) (hF.at _))) h
theorem c_addTo {g : Gp} {h : Hp} {blk fr s m : Nat} {A F : List Nat} (hb : h[blk]? = some (ia g A)) (hf : h[fr]? = some (ia g F)) (hne : blk ≠ fr) (hA : m ≤ A.length ∧ A.length < 1000) (hF : s + m ≤ F.length ∧ F.length < 1000) :
    Con g M_Marker_addTo 0 (0, 0) [.ref (zA (gz g) blk), .ref (zA (gz g) fr), .int (nI s), .int (nI m)] h (Ret none (h.set blk (ia g (it (adt F s) 0 m A)))) := by
  have hb1 : ∀ e, (h.set blk e)[blk]? = some e := fun e => gs_self hb
  have hf1 : ∀ e, (h.set blk e)[fr]? = some (ia g F) := fun e => gs_ne hne hf
  refine Con.of (by decide) rfl rfl (L := [some (.ref (zA (gz g) blk)), some (.ref (zA (gz g) fr)), some (.int (nI s)), some (.int (nI m)), none]) rfl (fun f C => ?_)
  have loop : ∀ (n k : Nat) (S : List Nat), k + n = m → S.length = A.length → X g f M_Marker_addTo (0, 0) (Ret none (h.set blk (ia g (it (adt F s) k n S)))) (0, 0) 3 [some (.ref (zA (gz g) blk)), some (.ref (zA (gz g) fr)), some (.int (nI s)), some (.int (nI m)), some (.int (nI k))] [] (h.set blk (ia g S)) := by
    intro n
    induction n with
    | zero =>
      intro k S hkn hS
      refine x_iload (pc := 3) C (dq D_Marker_addTo 2 rfl) rfl ?_
      refine x_iload_n (pc := 5) C (dq D_Marker_addTo 3 rfl) rfl ?_
      refine n_ge_t (pc := 6) (tgt := 28) C (dq D_Marker_addTo 4 rfl) (by decide) (by omega) (by omega) ?_
      exact x_vret (pc := 28) C (dq D_Marker_addTo 18 rfl) rfl (by decide) ⟨rfl, rfl⟩
    | succ n ih =>
      intro k S hkn hS
      refine x_iload (pc := 3) C (dq D_Marker_addTo 2 rfl) rfl ?_
      refine x_iload_n (pc := 5) C (dq D_Marker_addTo 3 rfl) rfl ?_
      refine n_ge_f (pc := 6) (tgt := 28) C (dq D_Marker_addTo 4 rfl) (by decide) (by omega) (by omega) ?_
      refine x_aload_n (pc := 9) C (dq D_Marker_addTo 5 rfl) rfl ?_
      refine x_iload (pc := 10) C (dq D_Marker_addTo 6 rfl) rfl ?_
      refine x_dup2 (pc := 12) C (dq D_Marker_addTo 7 rfl) rfl rfl ?_
      refine x_iald (pc := 13) C (dq D_Marker_addTo 8 rfl) (by first | exact hb1 _ | exact hf1 _) (by (try simp only [List.length_set]); omega) ?_
      refine x_aload_n (pc := 14) C (dq D_Marker_addTo 9 rfl) rfl ?_
      refine x_iload_n (pc := 15) C (dq D_Marker_addTo 10 rfl) rfl ?_
      refine x_iload (pc := 16) C (dq D_Marker_addTo 11 rfl) rfl ?_
      refine n_iadd (pc := 18) C (dq D_Marker_addTo 12 rfl) ?_
      refine x_iald (pc := 19) C (dq D_Marker_addTo 13 rfl) (by first | exact hb1 _ | exact hf1 _) (by (try simp only [List.length_set]); omega) ?_
      refine n_ixor (pc := 20) C (dq D_Marker_addTo 14 rfl) ?_
      refine x_iast (pc := 21) C (dq D_Marker_addTo 15 rfl) (by first | exact hb1 _ | exact hf1 _) (by (try simp only [List.length_set]); omega) ?_
      try rw [List.set_set]
      refine x_iinc (pc := 22) C (dq D_Marker_addTo 16 rfl) rfl (ii_1 _) rfl rfl ?_
      simp only [List.set_cons_zero, List.set_cons_succ]
      refine x_goto (pc := 25) (tgt := 3) C (dq D_Marker_addTo 17 rfl) (by decide) ?_
      exact ih (k + 1) (adt F s k S) (by omega) (by rw [adt_len]; exact hS)
  refine x_iconst (pc := 0) C (dq D_Marker_addTo 0 rfl) ci_0 ?_
  refine x_istore (i := 4) (pc := 1) C (dq D_Marker_addTo 1 rfl) rfl rfl rfl ?_
  simp only [List.set_cons_zero, List.set_cons_succ]
  have h0 := loop m 0 A (by omega) rfl
  rw [gs_id hb] at h0
  exact h0
/-- a block over the end of a row -/
def ate (F : List Nat) (s k : Nat) (S : List Nat) : List Nat := S.set (s + k) (S.getD (s + k) 0 ^^^ F.getD k 0)
theorem ate_len (F : List Nat) (s k : Nat) (S : List Nat) : (ate F s k S).length = S.length := List.length_set
theorem ate8 {F : List Nat} (hF : by8 F) (s k n : Nat) {S : List Nat} (h : by8 S) : by8 (it (ate F s) k n S) := it_inv by8 n k S (fun j T _ _ hT => hT.set (xor8 (hT.at _) (hF.at _))) h
theorem c_addToEnd {g : Gp} {h : Hp} {r b n blk : Nat} {B F : List Nat} (hr : h[r]? = some (rwc g b n)) (hb : h[b]? = some (ia g B)) (hf : h[blk]? = some (ia g F)) (hne : b ≠ blk) (hn : 16 ≤ n ∧ n ≤ B.length ∧ B.length < 1000) (hF : 16 ≤ F.length ∧ F.length < 1000) :
    Con g M_Marker_addToEnd 0 (0, 0) [.ref (zA (gz g) r), .ref (zA (gz g) blk)] h (Ret none (h.set b (ia g (it (ate F (n - 16)) 0 16 B)))) := by
  have hb1 : ∀ e, (h.set b e)[b]? = some e := fun e => gs_self hb
  have hf1 : ∀ e, (h.set b e)[blk]? = some (ia g F) := fun e => gs_ne hne hf
  have hr1 : ∀ e, (h.set b e)[r]? = some (rwc g b n) := fun e => gs_ne (ne_io hb hr) hr
  refine Con.of (by decide) rfl rfl (L := [some (.ref (zA (gz g) r)), some (.ref (zA (gz g) blk)), none, none]) rfl (fun f C => ?_)
  have loop : ∀ (d k : Nat) (S : List Nat), k + d = 16 → S.length = B.length → X g f M_Marker_addToEnd (0, 0) (Ret none (h.set b (ia g (it (ate F (n - 16)) k d S)))) (0, 0) 10 [some (.ref (zA (gz g) r)), some (.ref (zA (gz g) blk)), some (.int (nI (n - 16))), some (.int (nI k))] [] (h.set b (ia g S)) := by
    intro d
    induction d with
    | zero =>
      intro k S hkn hS
      refine x_iload_n (pc := 10) C (dq D_Marker_addToEnd 7 rfl) rfl ?_
      refine x_bipush (pc := 11) C (dq D_Marker_addToEnd 8 rfl) cb_16 ?_
      refine n_ge_t (pc := 13) (tgt := 36) C (dq D_Marker_addToEnd 9 rfl) (by decide) (by omega) (by omega) ?_
      exact x_vret (pc := 36) C (dq D_Marker_addToEnd 24 rfl) rfl (by decide) ⟨rfl, rfl⟩
    | succ d ih =>
      intro k S hkn hS
      refine x_iload_n (pc := 10) C (dq D_Marker_addToEnd 7 rfl) rfl ?_
      refine x_bipush (pc := 11) C (dq D_Marker_addToEnd 8 rfl) cb_16 ?_
      refine n_ge_f (pc := 13) (tgt := 36) C (dq D_Marker_addToEnd 9 rfl) (by decide) (by omega) (by omega) ?_
      refine x_aload_n (pc := 16) C (dq D_Marker_addToEnd 10 rfl) rfl ?_
      refine x_get (pc := 17) (ci := 7) (j := 0) C (dq D_Marker_addToEnd 11 rfl) rfl rfl (by first | exact hr1 _ | exact hb1 _ | exact hf1 _) rfl k_fl_Marker_39 ?_
      refine x_iload_n (pc := 20) C (dq D_Marker_addToEnd 12 rfl) rfl ?_
      refine x_iload_n (pc := 21) C (dq D_Marker_addToEnd 13 rfl) rfl ?_
      refine n_iadd (pc := 22) C (dq D_Marker_addToEnd 14 rfl) ?_
      refine x_dup2 (pc := 23) C (dq D_Marker_addToEnd 15 rfl) rfl rfl ?_
      refine x_iald (pc := 24) C (dq D_Marker_addToEnd 16 rfl) (by first | exact hr1 _ | exact hb1 _ | exact hf1 _) (by (try simp only [List.length_set]); omega) ?_
      refine x_aload_n (pc := 25) C (dq D_Marker_addToEnd 17 rfl) rfl ?_
      refine x_iload_n (pc := 26) C (dq D_Marker_addToEnd 18 rfl) rfl ?_
      refine x_iald (pc := 27) C (dq D_Marker_addToEnd 19 rfl) (by first | exact hr1 _ | exact hb1 _ | exact hf1 _) (by (try simp only [List.length_set]); omega) ?_
      refine n_ixor (pc := 28) C (dq D_Marker_addToEnd 20 rfl) ?_
      refine x_iast (pc := 29) C (dq D_Marker_addToEnd 21 rfl) (by first | exact hr1 _ | exact hb1 _ | exact hf1 _) (by (try simp only [List.length_set]); omega) ?_
      try rw [List.set_set]
      refine x_iinc (pc := 30) C (dq D_Marker_addToEnd 22 rfl) rfl (ii_1 _) rfl rfl ?_
      simp only [List.set_cons_zero, List.set_cons_succ]
      refine x_goto (pc := 33) (tgt := 10) C (dq D_Marker_addToEnd 23 rfl) (by decide) ?_
      exact ih (k + 1) (ate F (n - 16) k S) (by omega) (by rw [ate_len]; exact hS)
  refine x_aload_n (pc := 0) C (dq D_Marker_addToEnd 0 rfl) rfl ?_
  refine x_get (pc := 1) (ci := 7) (j := 1) C (dq D_Marker_addToEnd 1 rfl) rfl rfl (hr) rfl k_fl_Marker_29 ?_
  refine x_bipush (pc := 4) C (dq D_Marker_addToEnd 2 rfl) cb_16 ?_
  refine n_isub (pc := 6) C (dq D_Marker_addToEnd 3 rfl) (by omega) ?_
  refine x_istore_n (i := 2) (pc := 7) C (dq D_Marker_addToEnd 4 rfl) rfl rfl rfl ?_
  simp only [List.set_cons_zero, List.set_cons_succ]
  refine x_iconst (pc := 8) C (dq D_Marker_addToEnd 5 rfl) ci_0 ?_
  refine x_istore_n (i := 3) (pc := 9) C (dq D_Marker_addToEnd 6 rfl) rfl rfl rfl ?_
  simp only [List.set_cons_zero, List.set_cons_succ]
  have h0 := loop 16 0 B rfl rfl
  rw [gs_id hb] at h0
  exact h0
/-- a block doubled -/
def dbs (k : Nat) (S : List Nat) : List Nat := S.set k (((S.getD k 0 * 2 ^ 1) &&& 255) ||| (S.getD (k + 1) 0 / 2 ^ 7))
def dbe (hi : Nat) (S : List Nat) : List Nat := S.set 15 (((S.getD 15 0 * 2 ^ 1) &&& 255) ^^^ (hi * 135))
def dbl (S : List Nat) : List Nat := dbe (S.getD 0 0 / 2 ^ 7) (it dbs 0 15 S)
theorem dbs_len (k : Nat) (S : List Nat) : (dbs k S).length = S.length := List.length_set
theorem and8 (a : Nat) : a &&& 255 < 256 := Nat.lt_of_le_of_lt Nat.and_le_right (by omega)
theorem dbs8 (k n : Nat) {S : List Nat} (h : by8 S) : by8 (it dbs k n S) := it_inv by8 n k S (fun j T _ _ hT => hT.set (Nat.or_lt_two_pow (n := 8) (and8 _) (by have := hT.at (j + 1); omega))) h
theorem dbl_len (S : List Nat) : (dbl S).length = S.length := by
  unfold dbl dbe
  rw [List.length_set, it_len dbs_len]
theorem dbl8 {S : List Nat} (h : by8 S) : by8 (dbl S) := by
  have h0 := h.at 0
  exact (dbs8 0 15 h).set (xor8 (and8 _) (by omega))
theorem c_doubleBlock {g : Gp} {h : Hp} {blk : Nat} {A : List Nat} (hb : h[blk]? = some (ia g A)) (hA : 16 ≤ A.length ∧ A.length < 1000) (h8 : by8 A) :
    Con g M_Marker_doubleBlock 0 (0, 0) [.ref (zA (gz g) blk)] h (Ret none (h.set blk (ia g (dbl A)))) := by
  have hb1 : ∀ e, (h.set blk e)[blk]? = some e := fun e => gs_self hb
  have hz := h8.at 0
  refine Con.of (by decide) rfl rfl (L := [some (.ref (zA (gz g) blk)), none, none]) rfl (fun f C => ?_)
  have loop : ∀ (d k : Nat) (S : List Nat), k + d = 15 → S.length = A.length → by8 S → X g f M_Marker_doubleBlock (0, 0) (Ret none (h.set blk (ia g (dbe (A.getD 0 0 / 2 ^ 7) (it dbs k d S))))) (0, 0) 9 [some (.ref (zA (gz g) blk)), some (.int (nI (A.getD 0 0 / 2 ^ 7))), some (.int (nI k))] [] (h.set blk (ia g S)) := by
    intro d
    induction d with
    | zero =>
      intro k S hkn hS h8
      have h15 := h8.at 15
      refine x_iload_n (pc := 9) C (dq D_Marker_doubleBlock 8 rfl) rfl ?_
      refine x_bipush (pc := 10) C (dq D_Marker_doubleBlock 9 rfl) cb_15 ?_
      refine n_ge_t (pc := 12) (tgt := 42) C (dq D_Marker_doubleBlock 10 rfl) (by decide) (by omega) (by omega) ?_
      refine x_aload_n (pc := 42) C (dq D_Marker_doubleBlock 31 rfl) rfl ?_
      refine x_bipush (pc := 43) C (dq D_Marker_doubleBlock 32 rfl) cb_15 ?_
      refine x_aload_n (pc := 45) C (dq D_Marker_doubleBlock 33 rfl) rfl ?_
      refine x_bipush (pc := 46) C (dq D_Marker_doubleBlock 34 rfl) cb_15 ?_
      refine x_iald (pc := 48) C (dq D_Marker_doubleBlock 35 rfl) (hb1 _) (by (try simp only [List.length_set]); omega) ?_
      refine x_iconst (pc := 49) C (dq D_Marker_doubleBlock 36 rfl) ci_1 ?_
      refine n_ishl (pc := 50) C (dq D_Marker_doubleBlock 37 rfl) (by omega) (by omega) ?_
      refine x_sipush (pc := 51) C (dq D_Marker_doubleBlock 38 rfl) cs_255 ?_
      refine n_iand (pc := 54) C (dq D_Marker_doubleBlock 39 rfl) ?_
      refine x_iload_n (pc := 55) C (dq D_Marker_doubleBlock 40 rfl) rfl ?_
      refine x_sipush (pc := 56) C (dq D_Marker_doubleBlock 41 rfl) cs_135 ?_
      refine n_imul (pc := 59) C (dq D_Marker_doubleBlock 42 rfl) ?_
      refine n_ixor (pc := 60) C (dq D_Marker_doubleBlock 43 rfl) ?_
      refine x_iast (pc := 61) C (dq D_Marker_doubleBlock 44 rfl) (hb1 _) (by (try simp only [List.length_set]); omega) ?_
      try rw [List.set_set]
      exact x_vret (pc := 62) C (dq D_Marker_doubleBlock 45 rfl) rfl (by decide) ⟨rfl, rfl⟩
    | succ d ih =>
      intro k S hkn hS h8
      have h1 := h8.at k
      have h2 := h8.at (k + 1)
      refine x_iload_n (pc := 9) C (dq D_Marker_doubleBlock 8 rfl) rfl ?_
      refine x_bipush (pc := 10) C (dq D_Marker_doubleBlock 9 rfl) cb_15 ?_
      refine n_ge_f (pc := 12) (tgt := 42) C (dq D_Marker_doubleBlock 10 rfl) (by decide) (by omega) (by omega) ?_
      refine x_aload_n (pc := 15) C (dq D_Marker_doubleBlock 11 rfl) rfl ?_
      refine x_iload_n (pc := 16) C (dq D_Marker_doubleBlock 12 rfl) rfl ?_
      refine x_aload_n (pc := 17) C (dq D_Marker_doubleBlock 13 rfl) rfl ?_
      refine x_iload_n (pc := 18) C (dq D_Marker_doubleBlock 14 rfl) rfl ?_
      refine x_iald (pc := 19) C (dq D_Marker_doubleBlock 15 rfl) (hb1 _) (by (try simp only [List.length_set]); omega) ?_
      refine x_iconst (pc := 20) C (dq D_Marker_doubleBlock 16 rfl) ci_1 ?_
      refine n_ishl (pc := 21) C (dq D_Marker_doubleBlock 17 rfl) (by omega) (by omega) ?_
      refine x_sipush (pc := 22) C (dq D_Marker_doubleBlock 18 rfl) cs_255 ?_
      refine n_iand (pc := 25) C (dq D_Marker_doubleBlock 19 rfl) ?_
      refine x_aload_n (pc := 26) C (dq D_Marker_doubleBlock 20 rfl) rfl ?_
      refine x_iload_n (pc := 27) C (dq D_Marker_doubleBlock 21 rfl) rfl ?_
      refine x_iconst (pc := 28) C (dq D_Marker_doubleBlock 22 rfl) ci_1 ?_
      refine n_iadd (pc := 29) C (dq D_Marker_doubleBlock 23 rfl) ?_
      refine x_iald (pc := 30) C (dq D_Marker_doubleBlock 24 rfl) (hb1 _) (by (try simp only [List.length_set]); omega) ?_
      refine x_bipush (pc := 31) C (dq D_Marker_doubleBlock 25 rfl) cb_7 ?_
      refine n_ishr (pc := 33) C (dq D_Marker_doubleBlock 26 rfl) (by omega) (by omega) ?_
      refine n_ior (pc := 34) C (dq D_Marker_doubleBlock 27 rfl) ?_
      refine x_iast (pc := 35) C (dq D_Marker_doubleBlock 28 rfl) (hb1 _) (by (try simp only [List.length_set]); omega) ?_
      try rw [List.set_set]
      refine x_iinc (pc := 36) C (dq D_Marker_doubleBlock 29 rfl) rfl (ii_1 _) rfl rfl ?_
      simp only [List.set_cons_zero, List.set_cons_succ]
      refine x_goto (pc := 39) (tgt := 9) C (dq D_Marker_doubleBlock 30 rfl) (by decide) ?_
      exact ih (k + 1) (dbs k S) (by omega) (by rw [dbs_len]; exact hS) (h8.set (Nat.or_lt_two_pow (n := 8) (and8 _) (by omega)))
  refine x_aload_n (pc := 0) C (dq D_Marker_doubleBlock 0 rfl) rfl ?_
  refine x_iconst (pc := 1) C (dq D_Marker_doubleBlock 1 rfl) ci_0 ?_
  refine x_iald (pc := 2) C (dq D_Marker_doubleBlock 2 rfl) (hb) (by (try simp only [List.length_set]); omega) ?_
  refine x_bipush (pc := 3) C (dq D_Marker_doubleBlock 3 rfl) cb_7 ?_
  refine n_ishr (pc := 5) C (dq D_Marker_doubleBlock 4 rfl) (by omega) (by omega) ?_
  refine x_istore_n (i := 1) (pc := 6) C (dq D_Marker_doubleBlock 5 rfl) rfl rfl rfl ?_
  simp only [List.set_cons_zero, List.set_cons_succ]
  refine x_iconst (pc := 7) C (dq D_Marker_doubleBlock 6 rfl) ci_0 ?_
  refine x_istore_n (i := 2) (pc := 8) C (dq D_Marker_doubleBlock 7 rfl) rfl rfl rfl ?_
  simp only [List.set_cons_zero, List.set_cons_succ]
  have h0 := loop 15 0 A rfl rfl h8
  rw [gs_id hb] at h0
  exact h0
