/-! The reference: its object is cell 44, its arrays the cells 45 to 58. -/
abbrev moc (g : Gp) (cd ni no nt nr nl : Nat) : va_E := .inr (1, [.int (nI cd), .ref (zA (gz g) 45), .ref (zA (gz g) 46), .ref (zA (gz g) 47), .int (nI ni), .ref (zA (gz g) 48), .int (nI no), .ref (zA (gz g) 49), .int (nI nt), .ref (zA (gz g) 50), .ref (zA (gz g) 51), .ref (zA (gz g) 52), .ref (zA (gz g) 53), .int (nI nr), .ref (zA (gz g) 54), .int (nI nl), .ref (zA (gz g) 55), .ref (zA (gz g) 56), .ref (zA (gz g) 57), .ref (zA (gz g) 58)])
/-- a step of the product, and the product -/
def pst (a b i v : Nat) : Nat := if (b / 2 ^ i) &&& 1 = 1 then (if 255 < v * 2 then (v * 2) ^^^ 283 else v * 2) ^^^ a else (if 255 < v * 2 then (v * 2) ^^^ 283 else v * 2)
def prd (a b : Nat) : Nat := it (fun j => pst a b (7 - j)) 0 8 0
theorem dbl8a : ∀ v, v < 256 → (if 255 < v * 2 then (v * 2) ^^^ 283 else v * 2) < 256 := by decide +kernel
theorem pst8 {a b i v : Nat} (ha : a < 256) (hv : v < 256) : pst a b i v < 256 := by
  unfold pst
  have h1 := dbl8a v hv
  split
  · exact xor8 h1 ha
  · exact h1
theorem prd8 {a b : Nat} (ha : a < 256) : prd a b < 256 := it_inv (fun v => v < 256) 8 0 0 (fun j v _ _ hv => pst8 ha hv) (by decide)
theorem c_product {g : Gp} {h : Hp} {a b : Nat} (ha : a < 256) (hb : b < 256) : Con g M_Model_product 0 (0, 0) [.int (nI a), .int (nI b)] h (Ret (some (.int (nI (prd a b)))) h) := by
  refine Con.of (by decide) rfl rfl (L := [some (.int (nI a)), some (.int (nI b)), none, none]) rfl (fun f C => ?_)
  have loop : ∀ (d j v : Nat) (x : Int32), j + d = 8 → (d = 0 → x = -1) → (∀ e, d = e + 1 → x = nI e) → v < 256 → X g f M_Model_product (0, 0) (Ret (some (.int (nI (it (fun j => pst a b (7 - j)) j d v)))) h) (0, 0) 5 [some (.int (nI a)), some (.int (nI b)), some (.int (nI v)), some (.int x)] [] h := by
    intro d
    induction d with
    | zero =>
      intro j v x hjd hx0 hx1 hv
      obtain rfl := hx0 rfl
      refine x_iload_n (pc := 5) C (dq D_Model_product 4 rfl) rfl ?_
      refine x_iflt (pc := 6) (tgt := 53) C (dq D_Model_product 5 rfl) (by decide) (fun _ => ?_) (fun q => absurd (by decide) q)
      refine x_iload_n (pc := 53) C (dq D_Model_product 34 rfl) rfl ?_
      exact x_iret (pc := 54) C (dq D_Model_product 35 rfl) rfl (by decide) (Ret.i rfl)
    | succ d ih =>
      intro j v x hjd hx0 hx1 hv
      obtain rfl := hx1 d rfl
      have e0 : 7 - j = d := by omega
      have q1 := dbl8a v hv
      have q2 : (b / 2 ^ d) &&& 1 < 2 := Nat.lt_of_le_of_lt Nat.and_le_right (by omega)
      have step : ∀ u : Nat, u = pst a b d v → X g f M_Model_product (0, 0) (Ret (some (.int (nI (it (fun j => pst a b (7 - j)) j (d + 1) v)))) h) (0, 0) 46 [some (.int (nI a)), some (.int (nI b)), some (.int (nI (if 255 < v * 2 then (v * 2) ^^^ 283 else v * 2))), some (.int (nI d))] [.int (nI u)] h := by
        intro u hu
        refine x_istore_n (i := 2) (pc := 46) C (dq D_Model_product 31 rfl) rfl rfl rfl ?_
        simp only [List.set_cons_zero, List.set_cons_succ]
        refine x_iinc (pc := 47) C (dq D_Model_product 32 rfl) rfl rfl rfl rfl ?_
        simp only [List.set_cons_zero, List.set_cons_succ]
        refine x_goto (pc := 50) (tgt := 5) C (dq D_Model_product 33 rfl) (by decide) ?_
        have h0 := ih (j + 1) u (nI d + Int32.ofInt (-1)) (by omega) (fun z => by subst z; decide +kernel) (fun e z => by subst z; exact iim (by omega)) (by rw [hu]; exact pst8 ha hv)
        rw [it, e0, ← hu]
        exact h0
      have mid : X g f M_Model_product (0, 0) (Ret (some (.int (nI (it (fun j => pst a b (7 - j)) j (d + 1) v)))) h) (0, 0) 29 [some (.int (nI a)), some (.int (nI b)), some (.int (nI (v * 2))), some (.int (nI d))] [.int (nI (if 255 < v * 2 then (v * 2) ^^^ 283 else v * 2))] h := by
        generalize hw : (if 255 < v * 2 then (v * 2) ^^^ 283 else v * 2) = w at step q1 ⊢
        refine x_istore_n (i := 2) (pc := 29) C (dq D_Model_product 18 rfl) rfl rfl rfl ?_
        simp only [List.set_cons_zero, List.set_cons_succ]
        refine x_iload_n (pc := 30) C (dq D_Model_product 19 rfl) rfl ?_
        refine x_iload_n (pc := 31) C (dq D_Model_product 20 rfl) rfl ?_
        refine n_ishr (pc := 32) C (dq D_Model_product 21 rfl) (by omega) (by omega) ?_
        refine x_iconst (pc := 33) C (dq D_Model_product 22 rfl) ci_1 ?_
        refine n_iand (pc := 34) C (dq D_Model_product 23 rfl) ?_
        refine x_iconst (pc := 35) C (dq D_Model_product 24 rfl) ci_1 ?_
        refine n_ne (pc := 36) (tgt := 45) C (dq D_Model_product 25 rfl) (by decide) (by omega) (fun hq => ?_) (fun hq => ?_)
        · refine x_iload_n (pc := 45) C (dq D_Model_product 30 rfl) rfl ?_
          exact step w (by unfold pst; rw [hw, if_neg hq])
        · refine x_iload_n (pc := 39) C (dq D_Model_product 26 rfl) rfl ?_
          refine x_iload_n (pc := 40) C (dq D_Model_product 27 rfl) rfl ?_
          refine n_ixor (pc := 41) C (dq D_Model_product 28 rfl) ?_
          refine x_goto (pc := 42) (tgt := 46) C (dq D_Model_product 29 rfl) (by decide) ?_
          exact step (w ^^^ a) (by unfold pst; rw [hw, if_pos hq])
      refine x_iload_n (pc := 5) C (dq D_Model_product 4 rfl) rfl ?_
      refine n_iflt_f (pc := 6) (tgt := 53) C (dq D_Model_product 5 rfl) (by decide) (by omega) (by omega) ?_
      refine x_iload_n (pc := 9) C (dq D_Model_product 6 rfl) rfl ?_
      refine x_iconst (pc := 10) C (dq D_Model_product 7 rfl) ci_2 ?_
      refine n_imul (pc := 11) C (dq D_Model_product 8 rfl) ?_
      refine x_istore_n (i := 2) (pc := 12) C (dq D_Model_product 9 rfl) rfl rfl rfl ?_
      simp only [List.set_cons_zero, List.set_cons_succ]
      refine x_iload_n (pc := 13) C (dq D_Model_product 10 rfl) rfl ?_
      refine x_sipush (pc := 14) C (dq D_Model_product 11 rfl) cs_255 ?_
      refine n_le (pc := 17) (tgt := 28) C (dq D_Model_product 12 rfl) (by decide) (by omega) (fun hq => ?_) (fun hq => ?_)
      · rw [if_neg (by omega)] at mid
        refine x_iload_n (pc := 28) C (dq D_Model_product 17 rfl) rfl ?_
        exact mid
      · rw [if_pos (by omega)] at mid
        refine x_iload_n (pc := 20) C (dq D_Model_product 13 rfl) rfl ?_
        refine x_sipush (pc := 21) C (dq D_Model_product 14 rfl) cs_283 ?_
        refine n_ixor (pc := 24) C (dq D_Model_product 15 rfl) ?_
        refine x_goto (pc := 25) (tgt := 29) C (dq D_Model_product 16 rfl) (by decide) ?_
        exact mid
  refine x_iconst (pc := 0) C (dq D_Model_product 0 rfl) ci_0 ?_
  refine x_istore_n (i := 2) (pc := 1) C (dq D_Model_product 1 rfl) rfl rfl rfl ?_
  simp only [List.set_cons_zero, List.set_cons_succ]
  refine x_bipush (pc := 2) C (dq D_Model_product 2 rfl) cb_7 ?_
  refine x_istore_n (i := 3) (pc := 4) C (dq D_Model_product 3 rfl) rfl rfl rfl ?_
  simp only [List.set_cons_zero, List.set_cons_succ]
  exact loop 8 0 0 (nI 7) rfl (fun z => by cases z) (fun e z => by rw [show e = 7 by omega]) (by omega)
def pws2 (_ : Nat) (q : Nat × Nat) : Nat × Nat := (prd q.1 q.1, prd q.2 (prd q.1 q.1))
def pow (b : Nat) : Nat := (it pws2 0 7 (b, 1)).2
theorem pow8 {b : Nat} (hb : b < 256) : pow b < 256 := (it_inv (fun q : Nat × Nat => q.1 < 256 ∧ q.2 < 256) 7 0 (b, 1) (fun j q _ _ hq => ⟨prd8 hq.1, prd8 hq.2⟩) ⟨hb, show 1 < 256 by omega⟩).2
theorem c_power {g : Gp} {h : Hp} {b : Nat} (hb : b < 256) : Con g M_Model_power 1 (0, 0) [.int (nI b)] h (Ret (some (.int (nI (pow b)))) h) := by
  refine Con.of (by decide) rfl rfl (L := [some (.int (nI b)), none, none, none]) rfl (fun f C => ?_)
  have loop : ∀ (d k : Nat) (q : Nat × Nat), k + d = 7 → q.1 < 256 → q.2 < 256 → X g f M_Model_power (0, 0) (Ret (some (.int (nI (it pws2 k d q).2))) h) (0, 0) 6 [some (.int (nI b)), some (.int (nI q.1)), some (.int (nI q.2)), some (.int (nI k))] [] h := by
    intro d
    induction d with
    | zero =>
      intro k q hkd h1 h2
      refine x_iload_n (pc := 6) C (dq D_Model_power 6 rfl) rfl ?_
      refine x_bipush (pc := 7) C (dq D_Model_power 7 rfl) cb_7 ?_
      refine n_ge_t (pc := 9) (tgt := 30) C (dq D_Model_power 8 rfl) (by decide) (by omega) (by omega) ?_
      refine x_iload_n (pc := 30) C (dq D_Model_power 19 rfl) rfl ?_
      exact x_iret (pc := 31) C (dq D_Model_power 20 rfl) rfl (by decide) (Ret.i rfl)
    | succ d ih =>
      intro k q hkd h1 h2
      have h3 := prd8 (b := q.1) h1
      refine x_iload_n (pc := 6) C (dq D_Model_power 6 rfl) rfl ?_
      refine x_bipush (pc := 7) C (dq D_Model_power 7 rfl) cb_7 ?_
      refine n_ge_f (pc := 9) (tgt := 30) C (dq D_Model_power 8 rfl) (by decide) (by omega) (by omega) ?_
      refine x_iload_n (pc := 12) C (dq D_Model_power 9 rfl) rfl ?_
      refine x_iload_n (pc := 13) C (dq D_Model_power 10 rfl) rfl ?_
      refine x_cS1 (pc := 14) (M := M_Model_product) C (dq D_Model_power 11 rfl) k_ml_Model_68 m_Model_product (c_product h1 h1) rfl rfl rfl rfl (by decide) ?_
      refine x_istore_n (i := 1) (pc := 17) C (dq D_Model_power 12 rfl) rfl rfl rfl ?_
      simp only [List.set_cons_zero, List.set_cons_succ]
      refine x_iload_n (pc := 18) C (dq D_Model_power 13 rfl) rfl ?_
      refine x_iload_n (pc := 19) C (dq D_Model_power 14 rfl) rfl ?_
      refine x_cS1 (pc := 20) (M := M_Model_product) C (dq D_Model_power 15 rfl) k_ml_Model_68 m_Model_product (c_product h2 h3) rfl rfl rfl rfl (by decide) ?_
      refine x_istore_n (i := 2) (pc := 23) C (dq D_Model_power 16 rfl) rfl rfl rfl ?_
      simp only [List.set_cons_zero, List.set_cons_succ]
      refine x_iinc (pc := 24) C (dq D_Model_power 17 rfl) rfl (ii_1 _) rfl rfl ?_
      simp only [List.set_cons_zero, List.set_cons_succ]
      refine x_goto (pc := 27) (tgt := 6) C (dq D_Model_power 18 rfl) (by decide) ?_
      exact ih (k + 1) (pws2 k q) (by omega) h3 (prd8 h2)
  refine x_iload_n (pc := 0) C (dq D_Model_power 0 rfl) rfl ?_
  refine x_istore_n (i := 1) (pc := 1) C (dq D_Model_power 1 rfl) rfl rfl rfl ?_
  simp only [List.set_cons_zero, List.set_cons_succ]
  refine x_iconst (pc := 2) C (dq D_Model_power 2 rfl) ci_1 ?_
  refine x_istore_n (i := 2) (pc := 3) C (dq D_Model_power 3 rfl) rfl rfl rfl ?_
  simp only [List.set_cons_zero, List.set_cons_succ]
  refine x_iconst (pc := 4) C (dq D_Model_power 4 rfl) ci_0 ?_
  refine x_istore_n (i := 3) (pc := 5) C (dq D_Model_power 5 rfl) rfl rfl rfl ?_
  simp only [List.set_cons_zero, List.set_cons_succ]
  exact loop 7 0 (b, 1) rfl hb (by show 1 < 256; omega)
def arn (c n : Nat) : Nat := ((c * 2 ^ n) &&& 255) ||| (c / 2 ^ (8 - n))
theorem c_around {g : Gp} {h : Hp} {c n : Nat} (hc : c < 256) (hn : 1 ≤ n ∧ n ≤ 4) : Con g M_Model_around 0 (0, 0) [.int (nI c), .int (nI n)] h (Ret (some (.int (nI (arn c n)))) h) := by
  have hs : c * 2 ^ n < 2 ^ 32 := by
    have h1 : 2 ^ n ≤ 2 ^ 4 := Nat.pow_le_pow_right (by omega) hn.2
    have h2 : c * 2 ^ n ≤ 255 * 2 ^ 4 := Nat.mul_le_mul (by omega) h1
    omega
  refine Con.of (by decide) rfl rfl (L := [some (.int (nI c)), some (.int (nI n))]) rfl (fun f C => ?_)
  refine x_iload_n (pc := 0) C (dq D_Model_around 0 rfl) rfl ?_
  refine x_iload_n (pc := 1) C (dq D_Model_around 1 rfl) rfl ?_
  refine n_ishl (pc := 2) C (dq D_Model_around 2 rfl) (by omega) hs ?_
  refine x_sipush (pc := 3) C (dq D_Model_around 3 rfl) cs_255 ?_
  refine n_iand (pc := 6) C (dq D_Model_around 4 rfl) ?_
  refine x_iload_n (pc := 7) C (dq D_Model_around 5 rfl) rfl ?_
  refine x_bipush (pc := 8) C (dq D_Model_around 6 rfl) cb_8 ?_
  refine x_iload_n (pc := 10) C (dq D_Model_around 7 rfl) rfl ?_
  refine n_isub (pc := 11) C (dq D_Model_around 8 rfl) (by omega) ?_
  refine n_ishr (pc := 12) C (dq D_Model_around 9 rfl) (by omega) (by omega) ?_
  refine n_ior (pc := 13) C (dq D_Model_around 10 rfl) ?_
  exact x_iret (pc := 14) C (dq D_Model_around 11 rfl) rfl (by decide) (Ret.i rfl)
theorem c_bitBehind {g : Gp} {h : Hp} {k v : Nat} (hk : k < 100) (hv : v < 256) : Con g M_Model_bitBehind 0 (0, 0) [.int (nI k), .int (nI v)] h (Ret (some (.int (nI (if k < 15 then v / 2 ^ 7 else 0)))) h) := by
  refine Con.of (by decide) rfl rfl (L := [some (.int (nI k)), some (.int (nI v))]) rfl (fun f C => ?_)
  refine x_iload_n (pc := 0) C (dq D_Model_bitBehind 0 rfl) rfl ?_
  refine x_bipush (pc := 1) C (dq D_Model_bitBehind 1 rfl) cb_15 ?_
  refine n_ge (pc := 3) (tgt := 13) C (dq D_Model_bitBehind 2 rfl) (by decide) (by omega) (fun hq => ?_) (fun hq => ?_)
  · rw [if_neg (by omega)]
    refine x_iconst (pc := 13) C (dq D_Model_bitBehind 7 rfl) ci_0 ?_
    exact x_iret (pc := 14) C (dq D_Model_bitBehind 8 rfl) rfl (by decide) (Ret.i rfl)
  · rw [if_pos hq]
    refine x_iload_n (pc := 6) C (dq D_Model_bitBehind 3 rfl) rfl ?_
    refine x_bipush (pc := 7) C (dq D_Model_bitBehind 4 rfl) cb_7 ?_
    refine n_ishr (pc := 9) C (dq D_Model_bitBehind 5 rfl) (by omega) (by omega) ?_
    refine x_goto (pc := 10) (tgt := 14) C (dq D_Model_bitBehind 6 rfl) (by decide) ?_
    exact x_iret (pc := 14) C (dq D_Model_bitBehind 8 rfl) rfl (by decide) (Ret.i rfl)
