/-! The class's padded way. -/
theorem c_addWord {g : Gp} {h : Hp} {r b n w : Nat} {B : List Nat} (hr : h[r]? = some (rwc g b n)) (hb : h[b]? = some (ia g B)) (hw : w < 2 ^ 32) (hB : B.length = 88) (hn : n + 4 ≤ 88) : Con g M_Padded_addWord 1 (0, 0) [.ref (zA (gz g) r), .int (nI w)] h (Ret none ((h.set b (ia g (it (fdm w n) 0 4 B))).set r (rwc g b (n + 4)))) := by
  have hbr := ne_io hb hr
  have hr0 : ∀ e, (h.set b e)[r]? = some (rwc g b n) := fun e => gs_ne hbr hr
  have hr1 : ∀ e k, ((h.set b e).set r (rwc g b k))[r]? = some (rwc g b k) := fun e k => gs_self (hr0 e)
  have hb1 : ∀ e k, ((h.set b e).set r (rwc g b k))[b]? = some e := fun e k => gs_ne (Ne.symm hbr) (gs_self hb)
  refine Con.of (by decide) rfl rfl (L := [some (.ref (zA (gz g) r)), some (.int (nI w)), none]) rfl (fun f C => ?_)
  have loop : ∀ (d k : Nat) (R : List Nat), k + d = 4 → R.length = 88 → X g f M_Padded_addWord (0, 0) (Ret none ((h.set b (ia g (it (fdm w n) k d R))).set r (rwc g b (n + 4)))) (0, 0) 2 [some (.ref (zA (gz g) r)), some (.int (nI w)), some (.int (nI k))] [] ((h.set b (ia g R)).set r (rwc g b (n + k))) := by
    intro d
    induction d with
    | zero =>
      intro k R hkd hR
      obtain rfl : k = 4 := by omega
      refine x_iload_n (pc := 2) C (dq D_Padded_addWord 2 rfl) rfl ?_
      refine x_iconst (pc := 3) C (dq D_Padded_addWord 3 rfl) ci_4 ?_
      refine n_ge_t (pc := 4) (tgt := 22) C (dq D_Padded_addWord 4 rfl) (by decide) (by omega) (by omega) ?_
      exact x_vret (pc := 22) C (dq D_Padded_addWord 12 rfl) rfl (by decide) ⟨rfl, rfl⟩
    | succ d ih =>
      intro k R hkd hR
      refine x_iload_n (pc := 2) C (dq D_Padded_addWord 2 rfl) rfl ?_
      refine x_iconst (pc := 3) C (dq D_Padded_addWord 3 rfl) ci_4 ?_
      refine n_ge_f (pc := 4) (tgt := 22) C (dq D_Padded_addWord 4 rfl) (by decide) (by omega) (by omega) ?_
      refine x_aload_n (pc := 7) C (dq D_Padded_addWord 5 rfl) rfl ?_
      refine x_iload_n (pc := 8) C (dq D_Padded_addWord 6 rfl) rfl ?_
      refine x_iload_n (pc := 9) C (dq D_Padded_addWord 7 rfl) rfl ?_
      refine x_cSN1 (pc := 10) (M := M_Desk_byteOf) C (dq D_Padded_addWord 8 rfl) q_ml_Padded_77 m_Desk_byteOf (c_byteOf hw (by omega)) rfl rfl rfl rfl (by decide) ?_
      refine x_cV0 (pc := 13) (ci := 7) (M := M_Row_add) C (dq D_Padded_addWord 9 rfl) k_ml_Padded_81 m_Row_add rfl rfl (hr1 _ _) (c_Row_add (hr1 _ _) (hb1 _ _) (by omega)) rfl rfl rfl rfl (by decide) ?_
      rw [gs_in hbr, List.set_set]
      refine x_iinc (pc := 16) C (dq D_Padded_addWord 10 rfl) rfl (ii_1 _) rfl rfl ?_
      simp only [List.set_cons_zero, List.set_cons_succ]
      refine x_goto (pc := 19) (tgt := 2) C (dq D_Padded_addWord 11 rfl) (by decide) ?_
      exact ih (k + 1) (fdm w n k R) (by omega) (by rw [fdm_len]; exact hR)
  refine x_iconst (pc := 0) C (dq D_Padded_addWord 0 rfl) ci_0 ?_
  refine x_istore_n (i := 2) (pc := 1) C (dq D_Padded_addWord 1 rfl) rfl rfl rfl ?_
  simp only [List.set_cons_zero, List.set_cons_succ]
  have h0 := loop 4 0 B rfl hB
  rw [gs_id hb] at h0
  have e0 : List.set h r (rwc g b (n + 0)) = h := gs_id hr
  rw [e0] at h0
  exact h0
def wst (B : List Nat) (s k w : Nat) : Nat := (w * 2 ^ 8) ||| B.getD (s + k) 0
def wat (B : List Nat) (s : Nat) : Nat := it (wst B s) 0 4 0
theorem wst_lt {B : List Nat} (h : by8 B) (s : Nat) : ∀ (n k w : Nat), w < 2 ^ (8 * k) → it (wst B s) k n w < 2 ^ (8 * (k + n))
  | 0, k, w, hh => hh
  | n + 1, k, w, hh => by
    rw [show k + (n + 1) = k + 1 + n by omega]
    exact wst_lt h s n (k + 1) _ (or_lt hh (h.at _))
theorem wat_lt {B : List Nat} (h : by8 B) (s : Nat) : wat B s < 2 ^ 32 := wst_lt h s 4 0 0 (by omega)
theorem c_wordAt {g : Gp} {h : Hp} {r b n s : Nat} {B : List Nat} (hr : h[r]? = some (rwc g b n)) (hb : h[b]? = some (ia g B)) (hB : l88 B) (hs : s ≤ 4) : Con g M_Padded_wordAt 0 (0, 0) [.ref (zA (gz g) r), .int (nI s)] h (Ret (some (.int (nI (wat B s)))) h) := by
  have hl := hB.1
  refine Con.of (by decide) rfl rfl (L := [some (.ref (zA (gz g) r)), some (.int (nI s)), none, none]) rfl (fun f C => ?_)
  have loop : ∀ (d k w : Nat), k + d = 4 → w < 2 ^ (8 * k) → X g f M_Padded_wordAt (0, 0) (Ret (some (.int (nI (it (wst B s) k d w)))) h) (0, 0) 4 [some (.ref (zA (gz g) r)), some (.int (nI s)), some (.int (nI w)), some (.int (nI k))] [] h := by
    intro d
    induction d with
    | zero =>
      intro k w hkd hw
      refine x_iload_n (pc := 4) C (dq D_Padded_wordAt 4 rfl) rfl ?_
      refine x_iconst (pc := 5) C (dq D_Padded_wordAt 5 rfl) ci_4 ?_
      refine n_ge_t (pc := 6) (tgt := 29) C (dq D_Padded_wordAt 6 rfl) (by decide) (by omega) (by omega) ?_
      refine x_iload_n (pc := 29) C (dq D_Padded_wordAt 20 rfl) rfl ?_
      exact x_iret (pc := 30) C (dq D_Padded_wordAt 21 rfl) rfl (by decide) (Ret.i rfl)
    | succ d ih =>
      intro k w hkd hw
      have v1 := hB.2.at (s + k)
      have p0 : 2 ^ (8 * k) ≤ 2 ^ 24 := Nat.pow_le_pow_right (by omega) (by omega)
      have p1 : w * 2 ^ 8 < 2 ^ 32 := by
        have q := Nat.mul_lt_mul_of_pos_right (Nat.lt_of_lt_of_le hw p0) (Nat.two_pow_pos 8)
        rw [← Nat.pow_add] at q
        exact q
      have hw2 := or_lt hw v1
      clear p0
      refine x_iload_n (pc := 4) C (dq D_Padded_wordAt 4 rfl) rfl ?_
      refine x_iconst (pc := 5) C (dq D_Padded_wordAt 5 rfl) ci_4 ?_
      refine n_ge_f (pc := 6) (tgt := 29) C (dq D_Padded_wordAt 6 rfl) (by decide) (by omega) (by omega) ?_
      refine x_iload_n (pc := 9) C (dq D_Padded_wordAt 7 rfl) rfl ?_
      refine x_bipush (pc := 10) C (dq D_Padded_wordAt 8 rfl) cb_8 ?_
      refine n_ishl (pc := 12) C (dq D_Padded_wordAt 9 rfl) (by omega) p1 ?_
      refine x_aload_n (pc := 13) C (dq D_Padded_wordAt 10 rfl) rfl ?_
      refine x_get (pc := 14) (ci := 7) (j := 0) C (dq D_Padded_wordAt 11 rfl) rfl rfl (by first | exact hr | exact hb) rfl k_fl_Padded_33 ?_
      refine x_iload_n (pc := 17) C (dq D_Padded_wordAt 12 rfl) rfl ?_
      refine x_iload_n (pc := 18) C (dq D_Padded_wordAt 13 rfl) rfl ?_
      refine n_iadd (pc := 19) C (dq D_Padded_wordAt 14 rfl) ?_
      refine x_iald (pc := 20) C (dq D_Padded_wordAt 15 rfl) (by first | exact hr | exact hb) (by (try simp only [List.length_set]); omega) ?_
      refine n_ior (pc := 21) C (dq D_Padded_wordAt 16 rfl) ?_
      refine x_istore_n (i := 2) (pc := 22) C (dq D_Padded_wordAt 17 rfl) rfl rfl rfl ?_
      simp only [List.set_cons_zero, List.set_cons_succ]
      refine x_iinc (pc := 23) C (dq D_Padded_wordAt 18 rfl) rfl (ii_1 _) rfl rfl ?_
      simp only [List.set_cons_zero, List.set_cons_succ]
      refine x_goto (pc := 26) (tgt := 4) C (dq D_Padded_wordAt 19 rfl) (by decide) ?_
      exact ih (k + 1) (wst B s k w) (by omega) hw2
  refine x_iconst (pc := 0) C (dq D_Padded_wordAt 0 rfl) ci_0 ?_
  refine x_istore_n (i := 2) (pc := 1) C (dq D_Padded_wordAt 1 rfl) rfl rfl rfl ?_
  simp only [List.set_cons_zero, List.set_cons_succ]
  refine x_iconst (pc := 2) C (dq D_Padded_wordAt 2 rfl) ci_0 ?_
  refine x_istore_n (i := 3) (pc := 3) C (dq D_Padded_wordAt 3 rfl) rfl rfl rfl ?_
  simp only [List.set_cons_zero, List.set_cons_succ]
  exact loop 4 0 0 rfl (by omega)
def czs (B : List Nat) (k : Nat) (b : Bool) : Bool := b && decide (B.getD k 0 = 0)
theorem czs_f (B : List Nat) : ∀ (d k : Nat), it (czs B) k d false = false
  | 0, _ => rfl
  | d + 1, k => czs_f B d (k + 1)
theorem c_cutZeros {g : Gp} {h : Hp} {r b n m : Nat} {B : List Nat} (hr : h[r]? = some (rwc g b n)) (hb : h[b]? = some (ia g B)) (hB : l88 B) (hn : m ≤ n ∧ n ≤ 88) : Con g M_Padded_cutZeros 0 (0, 0) [.ref (zA (gz g) r), .int (nI m)] h (fun o h' => (it (czs B) m (n - m) true = true ∧ o = .returned (some (.int (nI 1))) ∧ h' = h.set r (rwc g b m)) ∨ (it (czs B) m (n - m) true = false ∧ o = .returned (some (.int (nI 0))) ∧ h' = h)) := by
  have hl := hB.1
  refine Con.of (by decide) rfl rfl (L := [some (.ref (zA (gz g) r)), some (.int (nI m)), none]) rfl (fun f C => ?_)
  have loop : ∀ (d k : Nat), k + d = n → it (czs B) k d true = it (czs B) m (n - m) true → X g f M_Padded_cutZeros (0, 0) (fun o h' => (it (czs B) m (n - m) true = true ∧ o = .returned (some (.int (nI 1))) ∧ h' = h.set r (rwc g b m)) ∨ (it (czs B) m (n - m) true = false ∧ o = .returned (some (.int (nI 0))) ∧ h' = h)) (0, 0) 2 [some (.ref (zA (gz g) r)), some (.int (nI m)), some (.int (nI k))] [] h := by
    intro d
    induction d with
    | zero =>
      intro k hkd he
      rw [it_zero] at he
      refine x_iload_n (pc := 2) C (dq D_Padded_cutZeros 2 rfl) rfl ?_
      refine x_aload_n (pc := 3) C (dq D_Padded_cutZeros 3 rfl) rfl ?_
      refine x_get (pc := 4) (ci := 7) (j := 1) C (dq D_Padded_cutZeros 4 rfl) rfl rfl (hr) rfl k_fl_Padded_29 ?_
      refine n_ge_t (pc := 7) (tgt := 27) C (dq D_Padded_cutZeros 5 rfl) (by decide) (by omega) (by omega) ?_
      refine x_aload_n (pc := 27) C (dq D_Padded_cutZeros 15 rfl) rfl ?_
      refine x_iload_n (pc := 28) C (dq D_Padded_cutZeros 16 rfl) rfl ?_
      refine x_put (pc := 29) (ci := 7) (j := 1) (ty := .int) C (dq D_Padded_cutZeros 17 rfl) rfl rfl (hr) rfl k_fl_Padded_29 (Or.inl rfl) (by decide +kernel) rfl rfl ?_
      simp only [List.set_cons_zero, List.set_cons_succ]
      refine x_iconst (pc := 32) C (dq D_Padded_cutZeros 18 rfl) ci_1 ?_
      exact x_zret (pc := 33) C (dq D_Padded_cutZeros 19 rfl) rfl rfl (by decide) (Or.inl ⟨he.symm, rfl, rfl⟩)
    | succ d ih =>
      intro k hkd he
      have v1 := hB.2.at k
      by_cases hq : B.getD k 0 = 0
      · refine x_iload_n (pc := 2) C (dq D_Padded_cutZeros 2 rfl) rfl ?_
        refine x_aload_n (pc := 3) C (dq D_Padded_cutZeros 3 rfl) rfl ?_
        refine x_get (pc := 4) (ci := 7) (j := 1) C (dq D_Padded_cutZeros 4 rfl) rfl rfl (by first | exact hr | exact hb) rfl k_fl_Padded_29 ?_
        refine n_ge_f (pc := 7) (tgt := 27) C (dq D_Padded_cutZeros 5 rfl) (by decide) (by omega) (by omega) ?_
        refine x_aload_n (pc := 10) C (dq D_Padded_cutZeros 6 rfl) rfl ?_
        refine x_get (pc := 11) (ci := 7) (j := 0) C (dq D_Padded_cutZeros 7 rfl) rfl rfl (by first | exact hr | exact hb) rfl k_fl_Padded_33 ?_
        refine x_iload_n (pc := 14) C (dq D_Padded_cutZeros 8 rfl) rfl ?_
        refine x_iald (pc := 15) C (dq D_Padded_cutZeros 9 rfl) (by first | exact hr | exact hb) (by (try simp only [List.length_set]); omega) ?_
        refine n_ifeq_t (pc := 16) (tgt := 21) C (dq D_Padded_cutZeros 10 rfl) (by decide) (by omega) (by omega) ?_
        refine x_iinc (pc := 21) C (dq D_Padded_cutZeros 13 rfl) rfl (ii_1 _) rfl rfl ?_
        simp only [List.set_cons_zero, List.set_cons_succ]
        refine x_goto (pc := 24) (tgt := 2) C (dq D_Padded_cutZeros 14 rfl) (by decide) ?_
        refine ih (k + 1) (by omega) ?_
        rw [← he, it_succ, czs, decide_eq_true hq]
        rfl
      · have ef : it (czs B) m (n - m) true = false := by
          rw [← he, it_succ, czs, decide_eq_false hq]
          exact czs_f B d (k + 1)
        refine x_iload_n (pc := 2) C (dq D_Padded_cutZeros 2 rfl) rfl ?_
        refine x_aload_n (pc := 3) C (dq D_Padded_cutZeros 3 rfl) rfl ?_
        refine x_get (pc := 4) (ci := 7) (j := 1) C (dq D_Padded_cutZeros 4 rfl) rfl rfl (by first | exact hr | exact hb) rfl k_fl_Padded_29 ?_
        refine n_ge_f (pc := 7) (tgt := 27) C (dq D_Padded_cutZeros 5 rfl) (by decide) (by omega) (by omega) ?_
        refine x_aload_n (pc := 10) C (dq D_Padded_cutZeros 6 rfl) rfl ?_
        refine x_get (pc := 11) (ci := 7) (j := 0) C (dq D_Padded_cutZeros 7 rfl) rfl rfl (by first | exact hr | exact hb) rfl k_fl_Padded_33 ?_
        refine x_iload_n (pc := 14) C (dq D_Padded_cutZeros 8 rfl) rfl ?_
        refine x_iald (pc := 15) C (dq D_Padded_cutZeros 9 rfl) (by first | exact hr | exact hb) (by (try simp only [List.length_set]); omega) ?_
        refine n_ifeq_f (pc := 16) (tgt := 21) C (dq D_Padded_cutZeros 10 rfl) (by decide) (by omega) (by omega) ?_
        refine x_iconst (pc := 19) C (dq D_Padded_cutZeros 11 rfl) ci_0 ?_
        exact x_zret (pc := 20) C (dq D_Padded_cutZeros 12 rfl) rfl rfl (by decide) (Or.inr ⟨ef, rfl, rfl⟩)
  refine x_iload_n (pc := 0) C (dq D_Padded_cutZeros 0 rfl) rfl ?_
  refine x_istore_n (i := 2) (pc := 1) C (dq D_Padded_cutZeros 1 rfl) rfl rfl rfl ?_
  simp only [List.set_cons_zero, List.set_cons_succ]
  exact loop (n - m) m (by omega) rfl

/-- the row before it is wound -/
def pdo (n : Nat) (IN OU : List Nat) : List Nat := it zr (8 + n) (r8 (8 + n) - (8 + n)) (cpy IN (it (fdm n 4) 0 4 (it (fdm 2790873510 0) 0 4 OU)) 0 8 n)
def cpw (FO K : List Nat) (n : Nat) (IN OU : List Nat) : List Nat := if r8 (8 + n) = 16 then trn FO K (pdo n IN OU) else wnd FO K (r8 (8 + n) / 8 - 1) (pdo n IN OU)
theorem k_sign : (-1504093786 : Int32) = nI 2790873510 := by decide +kernel
theorem fdm8 {w n : Nat} (k d : Nat) {R : List Nat} (h : by8 R) : by8 (it (fdm w n) k d R) := it_inv by8 d k R (fun j S _ _ hS => hS.set (bo8 _ _)) h

set_option maxHeartbeats 4000000 in
theorem c_Padded_lock {g : Gp} {nj ct n0 n1 n2 n3 n4 ni no np : Nat} {FO BA PW K1 F1 K2 F2 WB TW SM JB B0 B1 B2 B3 B4 SG CT MB IN OU OP : List Nat} {S : Hp} (hT : tok FO BA) (hK : kok K1) (hF : F1.length = 16) (hWB : l16 WB) (hIN : l88 IN) (hOU : l88 OU) (hOP : l88 OP) (hn : 1 ≤ ni ∧ ni ≤ 64) :
    Con g M_Padded_lock 4 (0, 0) [.ref (zA (gz g) 37), .ref (zA (gz g) 38), .ref (zA (gz g) 40)] (dh g nj ct n0 n1 n2 n3 n4 ni no np FO BA PW K1 F1 K2 F2 WB TW SM JB B0 B1 B2 B3 B4 SG CT MB IN OU OP S) (fun o h' => o = .returned none ∧ ∃ F K : List Nat, F.length = 16 ∧ l16 K ∧ h' = (dh g nj ct n0 n1 n2 n3 n4 ni (r8 (8 + ni)) np FO BA PW K1 F K2 F2 K TW SM JB B0 B1 B2 B3 B4 SG CT MB IN (cpw FO K1 ni IN OU) OP S)) := by
  have hol := hOU.1
  have hil := hIN.1
  have hr8 : r8 (8 + ni) = (8 + ni + 7) / 8 * 8 := rfl
  have a1 : l88 (it (fdm 2790873510 0) 0 4 OU) := ⟨by rw [it_len (fdm_len _ _)]; exact hol, fdm8 0 4 hOU.2⟩
  have a2 : l88 (it (fdm ni 4) 0 4 (it (fdm 2790873510 0) 0 4 OU)) := ⟨by rw [it_len (fdm_len _ _)]; exact a1.1, fdm8 0 4 a1.2⟩
  have a2l := a2.1
  have a3 : l88 (cpy IN (it (fdm ni 4) 0 4 (it (fdm 2790873510 0) 0 4 OU)) 0 8 ni) := ⟨by rw [cpy_length (by omega) (by omega)]; exact a2l, cpy8 hIN.2 a2.2⟩
  have a3l := a3.1
  have a4 : l88 (pdo ni IN OU) := by
    obtain ⟨x, y⟩ := zrs_ok (8 + ni) (r8 (8 + ni) - (8 + ni)) a3.2
    unfold pdo
    exact ⟨x.trans a3l, y⟩
  have a4l := a4.1
  have ep : it zr (8 + ni) (r8 (8 + ni) - (8 + ni)) (cpy IN (it (fdm ni 4) 0 4 (it (fdm 2790873510 0) 0 4 OU)) 0 8 ni) = pdo ni IN OU := by rw [pdo]
  refine Con.of (by decide) rfl rfl (L := [some (.ref (zA (gz g) 37)), some (.ref (zA (gz g) 38)), some (.ref (zA (gz g) 40))]) rfl (fun f C => ?_)
  refine x_aload_n (pc := 0) C (dq D_Padded_lock 0 rfl) rfl ?_
  refine x_cV0 (pc := 1) (ci := 7) (M := M_Row_clear) C (dq D_Padded_lock 1 rfl) k_ml_Padded_19 m_Row_clear rfl rfl rfl (c_Row_clear (r := 40) (b := 41) (n := no) rfl) rfl rfl rfl rfl (by decide) ?_
  rw [dh_s40]
  refine x_aload_n (pc := 4) C (dq D_Padded_lock 2 rfl) rfl ?_
  refine x_ldc (pc := 5) C (dq D_Padded_lock 3 rfl) k_co_Padded_24 ?_
  rw [k_sign]
  refine x_cS0 (pc := 7) (M := M_Padded_addWord) C (dq D_Padded_lock 4 rfl) k_ml_Padded_25 m_Padded_addWord (c_addWord (r := 40) (b := 41) (n := 0) (w := 2790873510) rfl rfl (by decide) hol (by omega)) rfl rfl rfl rfl (by decide) ?_
  rw [dh_s41, dh_s40]
  refine x_aload_n (pc := 10) C (dq D_Padded_lock 5 rfl) rfl ?_
  refine x_aload_n (pc := 11) C (dq D_Padded_lock 6 rfl) rfl ?_
  refine x_get (pc := 12) (ci := 7) (j := 1) C (dq D_Padded_lock 7 rfl) rfl rfl rfl rfl k_fl_Padded_29 ?_
  refine x_cS0 (pc := 15) (M := M_Padded_addWord) C (dq D_Padded_lock 8 rfl) k_ml_Padded_25 m_Padded_addWord (c_addWord (r := 40) (b := 41) (n := 4) (w := ni) rfl rfl (by omega) a1.1 (by omega)) rfl rfl rfl rfl (by decide) ?_
  rw [dh_s41, dh_s40]
  refine x_aload_n (pc := 18) C (dq D_Padded_lock 9 rfl) rfl ?_
  refine x_aload_n (pc := 19) C (dq D_Padded_lock 10 rfl) rfl ?_
  refine x_get (pc := 20) (ci := 7) (j := 0) C (dq D_Padded_lock 11 rfl) rfl rfl rfl rfl k_fl_Padded_33 ?_
  refine x_aload_n (pc := 23) C (dq D_Padded_lock 12 rfl) rfl ?_
  refine x_get (pc := 24) (ci := 7) (j := 1) C (dq D_Padded_lock 13 rfl) rfl rfl rfl rfl k_fl_Padded_29 ?_
  refine x_cV0 (pc := 27) (ci := 7) (M := M_Row_addAll) C (dq D_Padded_lock 14 rfl) k_ml_Padded_37 m_Row_addAll rfl rfl rfl (c_Row_addAll (r := 40) (b := 41) (n := 8) (a := 39) (c := ni) rfl rfl rfl (by omega) (by omega)) rfl rfl rfl rfl (by decide) ?_
  rw [dh_s41, dh_s40]
  have en : (8 + ni + 8 - 1) / 8 * 8 = r8 (8 + ni) := by omega
  refine x_aload_n (pc := 30) C (dq D_Padded_lock 15 rfl) rfl ?_
  refine x_aload_n (pc := 31) C (dq D_Padded_lock 16 rfl) rfl ?_
  refine x_get (pc := 32) (ci := 7) (j := 1) C (dq D_Padded_lock 17 rfl) rfl rfl rfl rfl k_fl_Padded_29 ?_
  refine x_bipush (pc := 35) C (dq D_Padded_lock 18 rfl) cb_8 ?_
  refine n_iadd (pc := 37) C (dq D_Padded_lock 19 rfl) ?_
  refine x_iconst (pc := 38) C (dq D_Padded_lock 20 rfl) ci_1 ?_
  refine n_isub (pc := 39) C (dq D_Padded_lock 21 rfl) (by omega) ?_
  refine x_bipush (pc := 40) C (dq D_Padded_lock 22 rfl) cb_8 ?_
  refine n_idiv (pc := 42) C (dq D_Padded_lock 23 rfl) (by omega) (by omega) (by omega) ?_
  refine x_bipush (pc := 43) C (dq D_Padded_lock 24 rfl) cb_8 ?_
  refine n_imul (pc := 45) C (dq D_Padded_lock 25 rfl) ?_
  rw [en]
  refine x_cV0 (pc := 46) (ci := 7) (M := M_Row_addZeros) C (dq D_Padded_lock 26 rfl) k_ml_Padded_41 m_Row_addZeros rfl rfl rfl (c_Row_addZeros (r := 40) (b := 41) (n := 8 + ni) (m := r8 (8 + ni)) rfl rfl (by omega)) rfl rfl rfl rfl (by decide) ?_
  rw [dh_s41, dh_s40, ep]
  by_cases h16 : r8 (8 + ni) = 16
  · have ec : trn FO K1 (pdo ni IN OU) = cpw FO K1 ni IN OU := by unfold cpw; rw [if_pos h16]
    refine x_aload_n (pc := 49) C (dq D_Padded_lock 27 rfl) rfl ?_
    refine x_get (pc := 50) (ci := 7) (j := 1) C (dq D_Padded_lock 28 rfl) rfl rfl rfl rfl k_fl_Padded_29 ?_
    refine x_bipush (pc := 53) C (dq D_Padded_lock 29 rfl) cb_16 ?_
    refine n_ne_f (pc := 55) (tgt := 72) C (dq D_Padded_lock 30 rfl) (by decide) (by omega) (by omega) ?_
    refine x_aload_n (pc := 58) C (dq D_Padded_lock 31 rfl) rfl ?_
    refine x_get (pc := 59) (ci := 6) (j := 1) C (dq D_Padded_lock 32 rfl) rfl rfl rfl rfl k_fl_Padded_15 ?_
    refine x_aload_n (pc := 62) C (dq D_Padded_lock 33 rfl) rfl ?_
    refine x_get (pc := 63) (ci := 7) (j := 0) C (dq D_Padded_lock 34 rfl) rfl rfl rfl rfl k_fl_Padded_33 ?_
    refine x_cV (pc := 66) (ci := 2) (M := M_Cipher_turn) C (dq D_Padded_lock 35 rfl) k_ml_Padded_45 m_Cipher_turn rfl rfl rfl (c_turn (c := 5) (blk := 41) (cip1 hT hK hF) rfl (by decide) (by omega) a4.2) rfl rfl rfl rfl (by decide) (fun o h2 hp => ?_)
    obtain ⟨rfl, Fx, q1, rfl⟩ := hp
    refine ⟨none, rfl, ?_⟩
    rw [dh_s7, dh_s41, ec]
    show X g f M_Padded_lock (0, 0) (fun o h' => o = .returned none ∧ ∃ F K : List Nat, F.length = 16 ∧ l16 K ∧ h' = (dh g nj ct n0 n1 n2 n3 n4 ni (r8 (8 + ni)) np FO BA PW K1 F K2 F2 K TW SM JB B0 B1 B2 B3 B4 SG CT MB IN (cpw FO K1 ni IN OU) OP S)) (0, 0) 69 _ [] _
    refine x_goto (pc := 69) (tgt := 80) C (dq D_Padded_lock 36 rfl) (by decide) ?_
    exact x_vret (pc := 80) C (dq D_Padded_lock 41 rfl) rfl (by decide) ⟨rfl, Fx, WB, q1, hWB, rfl⟩
  · have ec : wnd FO K1 (r8 (8 + ni) / 8 - 1) (pdo ni IN OU) = cpw FO K1 ni IN OU := by unfold cpw; rw [if_neg h16]
    refine x_aload_n (pc := 49) C (dq D_Padded_lock 27 rfl) rfl ?_
    refine x_get (pc := 50) (ci := 7) (j := 1) C (dq D_Padded_lock 28 rfl) rfl rfl rfl rfl k_fl_Padded_29 ?_
    refine x_bipush (pc := 53) C (dq D_Padded_lock 29 rfl) cb_16 ?_
    refine n_ne_t (pc := 55) (tgt := 72) C (dq D_Padded_lock 30 rfl) (by decide) (by omega) (by omega) ?_
    refine x_aload_n (pc := 72) C (dq D_Padded_lock 37 rfl) rfl ?_
    refine x_get (pc := 73) (ci := 6) (j := 0) C (dq D_Padded_lock 38 rfl) rfl rfl rfl rfl k_fl_Padded_9 ?_
    refine x_aload_n (pc := 76) C (dq D_Padded_lock 39 rfl) rfl ?_
    refine x_cV (pc := 77) (ci := 10) (M := M_Wrapping_wind) C (dq D_Padded_lock 40 rfl) k_ml_Padded_51 m_Wrapping_wind rfl rfl rfl (c_wind (w := 11) (c := 5) (kb := 12) (r := 40) (b := 41) (n := r8 (8 + ni)) (cip1 hT hK hF) rfl rfl rfl rfl (by decide) (by decide) (by decide) hWB.1 hWB.2 (by omega) a4.2) rfl rfl rfl rfl (by decide) (fun o h2 hp => ?_)
    obtain ⟨rfl, Fx, Kx, q1, q2, q3, rfl⟩ := hp
    refine ⟨none, rfl, ?_⟩
    rw [dh_s7, dh_s12, dh_s41, ec]
    show X g f M_Padded_lock (0, 0) (fun o h' => o = .returned none ∧ ∃ F K : List Nat, F.length = 16 ∧ l16 K ∧ h' = (dh g nj ct n0 n1 n2 n3 n4 ni (r8 (8 + ni)) np FO BA PW K1 F K2 F2 K TW SM JB B0 B1 B2 B3 B4 SG CT MB IN (cpw FO K1 ni IN OU) OP S)) (0, 0) 80 _ [] _
    exact x_vret (pc := 80) C (dq D_Padded_lock 41 rfl) rfl (by decide) ⟨rfl, Fx, Kx, q1, ⟨q2, q3⟩, rfl⟩

def cop (BA K : List Nat) (n : Nat) (P : List Nat) : List Nat := if n = 16 then trnB BA K P else uwn BA K (n / 8 - 1) P
def cok (BA K : List Nat) (ni : Nat) (IN OP : List Nat) : Bool := decide (wat (cop BA K ni (cpy IN OP 0 0 ni)) 0 = 2790873510 ∧ ni - 8 - 8 < wat (cop BA K ni (cpy IN OP 0 0 ni)) 4 ∧ wat (cop BA K ni (cpy IN OP 0 0 ni)) 4 ≤ ni - 8) && it (czs (cpy (cop BA K ni (cpy IN OP 0 0 ni)) (cop BA K ni (cpy IN OP 0 0 ni)) 8 0 (ni - 8))) (wat (cop BA K ni (cpy IN OP 0 0 ni)) 4) (ni - 8 - wat (cop BA K ni (cpy IN OP 0 0 ni)) 4) true
theorem cop_ok {BA K : List Nat} (hB : by8 BA) (hK : by8 K) {n : Nat} (hn : n ≤ 88) {P : List Nat} (h : l88 P) : l88 (cop BA K n P) := by
  unfold cop
  split
  · exact ⟨by rw [trnB_len]; exact h.1, trnB8 hB hK h.2⟩
  · by_cases h8 : 8 * (n / 8 - 1) + 8 ≤ 88
    · exact uwn_ok hB hK (by omega) h8 h
    · omega
theorem nI_leS {w m : Nat} (hw : w < 2 ^ 32) (hm : m < 2 ^ 31) : nI w ≤ nI m ↔ w ≤ m ∨ 2 ^ 31 ≤ w := by
  have e1 := i32_cond (nI w)
  rw [pk_tn hw] at e1
  rw [Int32.le_iff_toInt_le, nI_toInt hm, e1]
  split <;> omega
theorem nI_eqS {w m : Nat} (hw : w < 2 ^ 32) (hm : m < 2 ^ 32) : nI w = nI m ↔ w = m := by
  constructor
  · intro h
    have := congrArg (fun x : Int32 => x.toBitVec.toNat) h
    simp only [pk_tn hw, pk_tn hm] at this
    exact this
  · intro h
    rw [h]

set_option maxHeartbeats 4000000 in
theorem c_Padded_unlock {g : Gp} {nj ct n0 n1 n2 n3 n4 ni no np : Nat} {FO BA PW K1 F1 K2 F2 WB TW SM JB B0 B1 B2 B3 B4 SG CT MB IN OU OP : List Nat} {S : Hp} (hT : tok FO BA) (hK : kok K1) (hF : F1.length = 16) (hWB : l16 WB) (hIN : l88 IN) (hOU : l88 OU) (hOP : l88 OP) (hn : 16 ≤ ni ∧ ni ≤ 72) :
    Con g M_Padded_unlock 5 (0, 0) [.ref (zA (gz g) 37), .ref (zA (gz g) 38), .ref (zA (gz g) 42)] (dh g nj ct n0 n1 n2 n3 n4 ni no np FO BA PW K1 F1 K2 F2 WB TW SM JB B0 B1 B2 B3 B4 SG CT MB IN OU OP S) (fun o h' => ∃ F K : List Nat, F.length = 16 ∧ l16 K ∧ (((cok BA K1 ni IN OP) = true ∧ o = .returned (some (.int (nI 1))) ∧ h' = (dh g nj ct n0 n1 n2 n3 n4 ni no (wat (cop BA K1 ni (cpy IN OP 0 0 ni)) 4) FO BA PW K1 F K2 F2 K TW SM JB B0 B1 B2 B3 B4 SG CT MB IN OU (cpy (cop BA K1 ni (cpy IN OP 0 0 ni)) (cop BA K1 ni (cpy IN OP 0 0 ni)) 8 0 (ni - 8)) S)) ∨ ((cok BA K1 ni IN OP) = false ∧ o = .returned (some (.int (nI 0))) ∧ h' = (dh g nj ct n0 n1 n2 n3 n4 ni no (ni - 8) FO BA PW K1 F K2 F2 K TW SM JB B0 B1 B2 B3 B4 SG CT MB IN OU (cpy (cop BA K1 ni (cpy IN OP 0 0 ni)) (cop BA K1 ni (cpy IN OP 0 0 ni)) 8 0 (ni - 8)) S)))) := by
  have hil := hIN.1
  have hpl := hOP.1
  have c1 : l88 (cpy IN OP 0 0 ni) := ⟨by rw [cpy_length (by omega) (by omega)]; exact hpl, cpy8 hIN.2 hOP.2⟩
  have c1l := c1.1
  have z1 := cop_ok hT.2.2 hK.2 (n := ni) (by omega) c1
  have hck : (cok BA K1 ni IN OP) = (decide (wat (cop BA K1 ni (cpy IN OP 0 0 ni)) 0 = 2790873510 ∧ ni - 8 - 8 < wat (cop BA K1 ni (cpy IN OP 0 0 ni)) 4 ∧ wat (cop BA K1 ni (cpy IN OP 0 0 ni)) 4 ≤ ni - 8) && it (czs (cpy (cop BA K1 ni (cpy IN OP 0 0 ni)) (cop BA K1 ni (cpy IN OP 0 0 ni)) 8 0 (ni - 8))) (wat (cop BA K1 ni (cpy IN OP 0 0 ni)) 4) (ni - 8 - wat (cop BA K1 ni (cpy IN OP 0 0 ni)) 4) true) := by rw [cok]
  refine Con.of (by decide) rfl rfl (L := [some (.ref (zA (gz g) 37)), some (.ref (zA (gz g) 38)), some (.ref (zA (gz g) 42)), none, none]) rfl (fun f C => ?_)
  have tail : ∀ (Fx Kx : List Nat), Fx.length = 16 → l16 Kx → X g f M_Padded_unlock (0, 0) (fun o h' => ∃ F K : List Nat, F.length = 16 ∧ l16 K ∧ (((cok BA K1 ni IN OP) = true ∧ o = .returned (some (.int (nI 1))) ∧ h' = (dh g nj ct n0 n1 n2 n3 n4 ni no (wat (cop BA K1 ni (cpy IN OP 0 0 ni)) 4) FO BA PW K1 F K2 F2 K TW SM JB B0 B1 B2 B3 B4 SG CT MB IN OU (cpy (cop BA K1 ni (cpy IN OP 0 0 ni)) (cop BA K1 ni (cpy IN OP 0 0 ni)) 8 0 (ni - 8)) S)) ∨ ((cok BA K1 ni IN OP) = false ∧ o = .returned (some (.int (nI 0))) ∧ h' = (dh g nj ct n0 n1 n2 n3 n4 ni no (ni - 8) FO BA PW K1 F K2 F2 K TW SM JB B0 B1 B2 B3 B4 SG CT MB IN OU (cpy (cop BA K1 ni (cpy IN OP 0 0 ni)) (cop BA K1 ni (cpy IN OP 0 0 ni)) 8 0 (ni - 8)) S)))) (0, 0) 36 [some (.ref (zA (gz g) 37)), some (.ref (zA (gz g) 38)), some (.ref (zA (gz g) 42)), none, none] [] (dh g nj ct n0 n1 n2 n3 n4 ni no ni FO BA PW K1 Fx K2 F2 Kx TW SM JB B0 B1 B2 B3 B4 SG CT MB IN OU (cop BA K1 ni (cpy IN OP 0 0 ni)) S) := by
    intro Fx Kx q1 q2
    generalize hZ : (cop BA K1 ni (cpy IN OP 0 0 ni)) = Zz at z1 hck
    have zl := z1.1
    have r1 : l88 (cpy Zz Zz 8 0 (ni - 8)) := ⟨by rw [cpy_length (by omega) (by omega)]; exact zl, cpy8 z1.2 z1.2⟩
    have w0 := wat_lt z1.2 0
    have w4 := wat_lt z1.2 4
    refine x_aload_n (pc := 36) C (dq D_Padded_unlock 17 rfl) rfl ?_
    refine x_iconst (pc := 37) C (dq D_Padded_unlock 18 rfl) ci_0 ?_
    refine x_cS1 (pc := 38) (M := M_Padded_wordAt) C (dq D_Padded_unlock 19 rfl) k_ml_Padded_66 m_Padded_wordAt (c_wordAt (r := 42) (b := 43) (n := ni) (s := 0) rfl rfl z1 (by omega)) rfl rfl rfl rfl (by decide) ?_
    refine x_istore_n (i := 3) (pc := 41) C (dq D_Padded_unlock 20 rfl) rfl rfl rfl ?_
    simp only [List.set_cons_zero, List.set_cons_succ]
    refine x_aload_n (pc := 42) C (dq D_Padded_unlock 21 rfl) rfl ?_
    refine x_iconst (pc := 43) C (dq D_Padded_unlock 22 rfl) ci_4 ?_
    refine x_cS1 (pc := 44) (M := M_Padded_wordAt) C (dq D_Padded_unlock 23 rfl) k_ml_Padded_66 m_Padded_wordAt (c_wordAt (r := 42) (b := 43) (n := ni) (s := 4) rfl rfl z1 (by omega)) rfl rfl rfl rfl (by decide) ?_
    refine x_istore (i := 4) (pc := 47) C (dq D_Padded_unlock 24 rfl) rfl rfl rfl ?_
    simp only [List.set_cons_zero, List.set_cons_succ]
    refine x_aload_n (pc := 49) C (dq D_Padded_unlock 25 rfl) rfl ?_
    refine x_aload_n (pc := 50) C (dq D_Padded_unlock 26 rfl) rfl ?_
    refine x_bipush (pc := 51) C (dq D_Padded_unlock 27 rfl) cb_8 ?_
    refine x_cV0 (pc := 53) (ci := 7) (M := M_Row_becomeRest) C (dq D_Padded_unlock 28 rfl) k_ml_Padded_70 m_Row_becomeRest rfl rfl rfl (c_Row_becomeRest (r := 42) (b := 43) (n := ni) (o := 42) (q := 43) (m := ni) (s := 8) rfl rfl rfl rfl (by omega) (by omega) (by omega)) rfl rfl rfl rfl (by decide) ?_
    rw [dh_s42, dh_s43]
    have bad : (cok BA K1 ni IN OP) = false → X g f M_Padded_unlock (0, 0) (fun o h' => ∃ F K : List Nat, F.length = 16 ∧ l16 K ∧ (((cok BA K1 ni IN OP) = true ∧ o = .returned (some (.int (nI 1))) ∧ h' = (dh g nj ct n0 n1 n2 n3 n4 ni no (wat Zz 4) FO BA PW K1 F K2 F2 K TW SM JB B0 B1 B2 B3 B4 SG CT MB IN OU (cpy Zz Zz 8 0 (ni - 8)) S)) ∨ ((cok BA K1 ni IN OP) = false ∧ o = .returned (some (.int (nI 0))) ∧ h' = (dh g nj ct n0 n1 n2 n3 n4 ni no (ni - 8) FO BA PW K1 F K2 F2 K TW SM JB B0 B1 B2 B3 B4 SG CT MB IN OU (cpy Zz Zz 8 0 (ni - 8)) S)))) (0, 0) 83 [some (.ref (zA (gz g) 37)), some (.ref (zA (gz g) 38)), some (.ref (zA (gz g) 42)), some (.int (nI (wat Zz 0))), some (.int (nI (wat Zz 4)))] [] (dh g nj ct n0 n1 n2 n3 n4 ni no (ni - 8) FO BA PW K1 Fx K2 F2 Kx TW SM JB B0 B1 B2 B3 B4 SG CT MB IN OU (cpy Zz Zz 8 0 (ni - 8)) S) := by
      intro hb
      refine x_iconst (pc := 83) C (dq D_Padded_unlock 42 rfl) ci_0 ?_
      exact x_zret (pc := 84) C (dq D_Padded_unlock 43 rfl) rfl rfl (by decide) ⟨Fx, Kx, q1, q2, Or.inr ⟨hb, rfl, rfl⟩⟩
    refine x_iload_n (pc := 56) C (dq D_Padded_unlock 29 rfl) rfl ?_
    refine x_ldc (pc := 57) C (dq D_Padded_unlock 30 rfl) k_co_Padded_24 ?_
    rw [k_sign]
    refine x_ne (pc := 59) (tgt := 83) C (dq D_Padded_unlock 31 rfl) (by decide) (fun hq => ?_) (fun hq => ?_)
    · refine bad ?_
      rw [hck, decide_eq_false (fun z => hq (by rw [z.1]))]
      rfl
    · have h0 : wat Zz 0 = 2790873510 := (nI_eqS w0 (by decide)).mp hq
      refine x_iload (pc := 62) C (dq D_Padded_unlock 32 rfl) rfl ?_
      refine x_aload_n (pc := 64) C (dq D_Padded_unlock 33 rfl) rfl ?_
      refine x_get (pc := 65) (ci := 7) (j := 1) C (dq D_Padded_unlock 34 rfl) rfl rfl rfl rfl k_fl_Padded_29 ?_
      refine x_bipush (pc := 68) C (dq D_Padded_unlock 35 rfl) cb_8 ?_
      refine n_isub (pc := 70) C (dq D_Padded_unlock 36 rfl) (by omega) ?_
      refine x_le (pc := 71) (tgt := 83) C (dq D_Padded_unlock 37 rfl) (by decide) (fun hq => ?_) (fun hq => ?_)
      · refine bad ?_
        have hq1 := (nI_leS w4 (by omega)).mp hq
        rw [hck, decide_eq_false (fun z => by omega)]
        rfl
      · have hq1 : ¬ (wat Zz 4 ≤ ni - 8 - 8 ∨ 2 ^ 31 ≤ wat Zz 4) := fun z => hq ((nI_leS w4 (by omega)).mpr z)
        refine x_iload (pc := 74) C (dq D_Padded_unlock 38 rfl) rfl ?_
        refine x_aload_n (pc := 76) C (dq D_Padded_unlock 39 rfl) rfl ?_
        refine x_get (pc := 77) (ci := 7) (j := 1) C (dq D_Padded_unlock 40 rfl) rfl rfl rfl rfl k_fl_Padded_29 ?_
        refine x_le (pc := 80) (tgt := 85) C (dq D_Padded_unlock 41 rfl) (by decide) (fun hq => ?_) (fun hq => ?_)
        · have hq2 := (nI_leS w4 (by omega)).mp hq
          have hcd : decide (wat Zz 0 = 2790873510 ∧ ni - 8 - 8 < wat Zz 4 ∧ wat Zz 4 ≤ ni - 8) = true := decide_eq_true ⟨h0, by omega, by omega⟩
          rw [hcd, Bool.true_and] at hck
          refine x_aload_n (pc := 85) C (dq D_Padded_unlock 44 rfl) rfl ?_
          refine x_iload (pc := 86) C (dq D_Padded_unlock 45 rfl) rfl ?_
          refine x_cS (pc := 88) (M := M_Padded_cutZeros) C (dq D_Padded_unlock 46 rfl) k_ml_Padded_73 m_Padded_cutZeros (c_cutZeros (r := 42) (b := 43) (n := ni - 8) (m := wat Zz 4) rfl rfl r1 (by omega)) rfl rfl rfl rfl (by decide) (fun o h2 hp => ?_)
          rcases hp with ⟨p1, rfl, rfl⟩ | ⟨p1, rfl, rfl⟩
          · refine ⟨_, rfl, ?_⟩
            rw [dh_s42]
            show X g f M_Padded_unlock (0, 0) (fun o h' => ∃ F K : List Nat, F.length = 16 ∧ l16 K ∧ (((cok BA K1 ni IN OP) = true ∧ o = .returned (some (.int (nI 1))) ∧ h' = (dh g nj ct n0 n1 n2 n3 n4 ni no (wat Zz 4) FO BA PW K1 F K2 F2 K TW SM JB B0 B1 B2 B3 B4 SG CT MB IN OU (cpy Zz Zz 8 0 (ni - 8)) S)) ∨ ((cok BA K1 ni IN OP) = false ∧ o = .returned (some (.int (nI 0))) ∧ h' = (dh g nj ct n0 n1 n2 n3 n4 ni no (ni - 8) FO BA PW K1 F K2 F2 K TW SM JB B0 B1 B2 B3 B4 SG CT MB IN OU (cpy Zz Zz 8 0 (ni - 8)) S)))) (0, 0) 91 _ [.int (nI 1)] _
            exact x_zret (pc := 91) C (dq D_Padded_unlock 47 rfl) rfl rfl (by decide) ⟨Fx, Kx, q1, q2, Or.inl ⟨hck.trans p1, rfl, rfl⟩⟩
          · refine ⟨_, rfl, ?_⟩
            show X g f M_Padded_unlock (0, 0) (fun o h' => ∃ F K : List Nat, F.length = 16 ∧ l16 K ∧ (((cok BA K1 ni IN OP) = true ∧ o = .returned (some (.int (nI 1))) ∧ h' = (dh g nj ct n0 n1 n2 n3 n4 ni no (wat Zz 4) FO BA PW K1 F K2 F2 K TW SM JB B0 B1 B2 B3 B4 SG CT MB IN OU (cpy Zz Zz 8 0 (ni - 8)) S)) ∨ ((cok BA K1 ni IN OP) = false ∧ o = .returned (some (.int (nI 0))) ∧ h' = (dh g nj ct n0 n1 n2 n3 n4 ni no (ni - 8) FO BA PW K1 F K2 F2 K TW SM JB B0 B1 B2 B3 B4 SG CT MB IN OU (cpy Zz Zz 8 0 (ni - 8)) S)))) (0, 0) 91 _ [.int (nI 0)] _
            exact x_zret (pc := 91) C (dq D_Padded_unlock 47 rfl) rfl rfl (by decide) ⟨Fx, Kx, q1, q2, Or.inr ⟨hck.trans p1, rfl, rfl⟩⟩
        · refine bad ?_
          have hq2 : ¬ (wat Zz 4 ≤ ni - 8 ∨ 2 ^ 31 ≤ wat Zz 4) := fun z => hq ((nI_leS w4 (by omega)).mpr z)
          rw [hck, decide_eq_false (fun z => by omega)]
          rfl
  refine x_aload_n (pc := 0) C (dq D_Padded_unlock 0 rfl) rfl ?_
  refine x_aload_n (pc := 1) C (dq D_Padded_unlock 1 rfl) rfl ?_
  refine x_cV0 (pc := 2) (ci := 7) (M := M_Row_become) C (dq D_Padded_unlock 2 rfl) k_ml_Padded_57 m_Row_become rfl rfl rfl (c_Row_become (r := 42) (b := 43) (n := np) (o := 38) (q := 39) (m := ni) rfl rfl rfl rfl (by omega) (by omega)) rfl rfl rfl rfl (by decide) ?_
  rw [dh_s42, dh_s43]
  by_cases h16 : ni = 16
  · have ec : trnB BA K1 (cpy IN OP 0 0 ni) = (cop BA K1 ni (cpy IN OP 0 0 ni)) := by unfold cop; rw [if_pos h16]
    refine x_aload_n (pc := 5) C (dq D_Padded_unlock 3 rfl) rfl ?_
    refine x_get (pc := 6) (ci := 7) (j := 1) C (dq D_Padded_unlock 4 rfl) rfl rfl rfl rfl k_fl_Padded_29 ?_
    refine x_bipush (pc := 9) C (dq D_Padded_unlock 5 rfl) cb_16 ?_
    refine n_ne_f (pc := 11) (tgt := 28) C (dq D_Padded_unlock 6 rfl) (by decide) (by omega) (by omega) ?_
    refine x_aload_n (pc := 14) C (dq D_Padded_unlock 7 rfl) rfl ?_
    refine x_get (pc := 15) (ci := 6) (j := 1) C (dq D_Padded_unlock 8 rfl) rfl rfl rfl rfl k_fl_Padded_15 ?_
    refine x_aload_n (pc := 18) C (dq D_Padded_unlock 9 rfl) rfl ?_
    refine x_get (pc := 19) (ci := 7) (j := 0) C (dq D_Padded_unlock 10 rfl) rfl rfl rfl rfl k_fl_Padded_33 ?_
    refine x_cV (pc := 22) (ci := 2) (M := M_Cipher_turnBack) C (dq D_Padded_unlock 11 rfl) k_ml_Padded_60 m_Cipher_turnBack rfl rfl rfl (c_turnBack (c := 5) (blk := 43) (cip1 hT hK hF) rfl (by decide) (by omega) c1.2) rfl rfl rfl rfl (by decide) (fun o h2 hp => ?_)
    obtain ⟨rfl, Fx, q1, rfl⟩ := hp
    refine ⟨none, rfl, ?_⟩
    rw [dh_s7, dh_s43, ec]
    have h0 := tail Fx WB q1 hWB
    show X g f M_Padded_unlock (0, 0) (fun o h' => ∃ F K : List Nat, F.length = 16 ∧ l16 K ∧ (((cok BA K1 ni IN OP) = true ∧ o = .returned (some (.int (nI 1))) ∧ h' = (dh g nj ct n0 n1 n2 n3 n4 ni no (wat (cop BA K1 ni (cpy IN OP 0 0 ni)) 4) FO BA PW K1 F K2 F2 K TW SM JB B0 B1 B2 B3 B4 SG CT MB IN OU (cpy (cop BA K1 ni (cpy IN OP 0 0 ni)) (cop BA K1 ni (cpy IN OP 0 0 ni)) 8 0 (ni - 8)) S)) ∨ ((cok BA K1 ni IN OP) = false ∧ o = .returned (some (.int (nI 0))) ∧ h' = (dh g nj ct n0 n1 n2 n3 n4 ni no (ni - 8) FO BA PW K1 F K2 F2 K TW SM JB B0 B1 B2 B3 B4 SG CT MB IN OU (cpy (cop BA K1 ni (cpy IN OP 0 0 ni)) (cop BA K1 ni (cpy IN OP 0 0 ni)) 8 0 (ni - 8)) S)))) (0, 0) 25 _ [] _
    refine x_goto (pc := 25) (tgt := 36) C (dq D_Padded_unlock 12 rfl) (by decide) ?_
    exact h0
  · have ec : uwn BA K1 (ni / 8 - 1) (cpy IN OP 0 0 ni) = (cop BA K1 ni (cpy IN OP 0 0 ni)) := by unfold cop; rw [if_neg h16]
    refine x_aload_n (pc := 5) C (dq D_Padded_unlock 3 rfl) rfl ?_
    refine x_get (pc := 6) (ci := 7) (j := 1) C (dq D_Padded_unlock 4 rfl) rfl rfl rfl rfl k_fl_Padded_29 ?_
    refine x_bipush (pc := 9) C (dq D_Padded_unlock 5 rfl) cb_16 ?_
    refine n_ne_t (pc := 11) (tgt := 28) C (dq D_Padded_unlock 6 rfl) (by decide) (by omega) (by omega) ?_
    refine x_aload_n (pc := 28) C (dq D_Padded_unlock 13 rfl) rfl ?_
    refine x_get (pc := 29) (ci := 6) (j := 0) C (dq D_Padded_unlock 14 rfl) rfl rfl rfl rfl k_fl_Padded_9 ?_
    refine x_aload_n (pc := 32) C (dq D_Padded_unlock 15 rfl) rfl ?_
    refine x_cV (pc := 33) (ci := 10) (M := M_Wrapping_unwind) C (dq D_Padded_unlock 16 rfl) k_ml_Padded_63 m_Wrapping_unwind rfl rfl rfl (c_unwind (w := 11) (c := 5) (kb := 12) (r := 42) (b := 43) (n := ni) (cip1 hT hK hF) rfl rfl rfl rfl (by decide) (by decide) (by decide) hWB.1 hWB.2 (by omega) c1.2) rfl rfl rfl rfl (by decide) (fun o h2 hp => ?_)
    obtain ⟨rfl, Fx, Kx, q1, q2, q3, rfl⟩ := hp
    refine ⟨none, rfl, ?_⟩
    rw [dh_s7, dh_s12, dh_s43, ec]
    exact tail Fx Kx q1 ⟨q2, q3⟩
