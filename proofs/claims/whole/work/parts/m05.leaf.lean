theorem c_twice {g : Gp} {h : Hp} {b : Nat} (hb : b < 256) : Con g M_Tables_twice 0 (0, 0) [.int (nI b)] h (Ret (some (.int (nI (tw b)))) h) := by
  refine Con.of (by decide) rfl rfl (L := [some (.int (nI b))]) rfl (fun f C => ?_)
  refine x_iload_n (pc := 0) C (dq D_Tables_twice 0 rfl) rfl ?_
  refine x_sipush (pc := 1) C (dq D_Tables_twice 1 rfl) cs_128 ?_
  refine n_ge (pc := 4) (tgt := 13) C (dq D_Tables_twice 2 rfl) (by decide) (by omega) (fun hq => ?_) (fun hq => ?_)
  · have e : b * 2 ^ 1 ^^^ 283 = tw b := (if_neg (by omega)).symm
    refine x_iload_n (pc := 13) C (dq D_Tables_twice 7 rfl) rfl ?_
    refine x_iconst (pc := 14) C (dq D_Tables_twice 8 rfl) ci_1 ?_
    refine n_ishl (pc := 15) C (dq D_Tables_twice 9 rfl) (by omega) (by omega) ?_
    refine x_sipush (pc := 16) C (dq D_Tables_twice 10 rfl) cs_283 ?_
    refine n_ixor (pc := 19) C (dq D_Tables_twice 11 rfl) ?_
    exact x_iret (pc := 20) C (dq D_Tables_twice 12 rfl) rfl (by decide) (Ret.i e)
  · have e : b * 2 ^ 1 = tw b := (if_pos hq).symm
    refine x_iload_n (pc := 7) C (dq D_Tables_twice 3 rfl) rfl ?_
    refine x_iconst (pc := 8) C (dq D_Tables_twice 4 rfl) ci_1 ?_
    refine n_ishl (pc := 9) C (dq D_Tables_twice 5 rfl) (by omega) (by omega) ?_
    refine x_goto (pc := 10) (tgt := 20) C (dq D_Tables_twice 6 rfl) (by decide) ?_
    exact x_iret (pc := 20) C (dq D_Tables_twice 12 rfl) rfl (by decide) (Ret.i e)
/-- a byte turned left -/
def tl (c n : Nat) : Nat := (c * 2 ^ n ||| c / 2 ^ (8 - n)) &&& 255
theorem c_turnLeft {g : Gp} {h : Hp} {c n : Nat} (hc : c < 256) (hn : 1 ≤ n ∧ n ≤ 4) : Con g M_Tables_turnLeft 0 (0, 0) [.int (nI c), .int (nI n)] h (Ret (some (.int (nI (tl c n)))) h) := by
  have hs : c * 2 ^ n < 2 ^ 32 := by
    have h1 : 2 ^ n ≤ 2 ^ 4 := Nat.pow_le_pow_right (by omega) hn.2
    have h2 : c * 2 ^ n ≤ 255 * 2 ^ 4 := Nat.mul_le_mul (by omega) h1
    omega
  refine Con.of (by decide) rfl rfl (L := [some (.int (nI c)), some (.int (nI n))]) rfl (fun f C => ?_)
  refine x_iload_n (pc := 0) C (dq D_Tables_turnLeft 0 rfl) rfl ?_
  refine x_iload_n (pc := 1) C (dq D_Tables_turnLeft 1 rfl) rfl ?_
  refine n_ishl (pc := 2) C (dq D_Tables_turnLeft 2 rfl) (by omega) hs ?_
  refine x_iload_n (pc := 3) C (dq D_Tables_turnLeft 3 rfl) rfl ?_
  refine x_bipush (pc := 4) C (dq D_Tables_turnLeft 4 rfl) cb_8 ?_
  refine x_iload_n (pc := 6) C (dq D_Tables_turnLeft 5 rfl) rfl ?_
  refine n_isub (pc := 7) C (dq D_Tables_turnLeft 6 rfl) (by omega) ?_
  refine n_iushr (pc := 8) C (dq D_Tables_turnLeft 7 rfl) (by omega) (by omega) ?_
  refine n_ior (pc := 9) C (dq D_Tables_turnLeft 8 rfl) ?_
  refine x_sipush (pc := 10) C (dq D_Tables_turnLeft 9 rfl) cs_255 ?_
  refine n_iand (pc := 13) C (dq D_Tables_turnLeft 10 rfl) ?_
  exact x_iret (pc := 14) C (dq D_Tables_turnLeft 11 rfl) rfl (by decide) (Ret.i rfl)
/-- byte k of a word, from its upper end -/
def bo (w k : Nat) : Nat := (w / 2 ^ (24 - 8 * k)) &&& 255
theorem bo8 (w k : Nat) : bo w k < 256 := Nat.lt_of_le_of_lt Nat.and_le_right (by omega)
theorem c_byteOf {g : Gp} {h : Hp} {w k : Nat} (hw : w < 2 ^ 32) (hk : k < 4) : Con g M_Desk_byteOf 0 (0, 0) [.int (nI w), .int (nI k)] h (Ret (some (.int (nI (bo w k)))) h) := by
  refine Con.of (by decide) rfl rfl (L := [some (.int (nI w)), some (.int (nI k))]) rfl (fun f C => ?_)
  refine x_iload_n (pc := 0) C (dq D_Desk_byteOf 0 rfl) rfl ?_
  refine x_bipush (pc := 1) C (dq D_Desk_byteOf 1 rfl) cb_24 ?_
  refine x_bipush (pc := 3) C (dq D_Desk_byteOf 2 rfl) cb_8 ?_
  refine x_iload_n (pc := 5) C (dq D_Desk_byteOf 3 rfl) rfl ?_
  refine n_imul (pc := 6) C (dq D_Desk_byteOf 4 rfl) ?_
  refine n_isub (pc := 7) C (dq D_Desk_byteOf 5 rfl) (by omega) ?_
  refine n_iushr (pc := 8) C (dq D_Desk_byteOf 6 rfl) (by omega) (by omega) ?_
  refine x_sipush (pc := 9) C (dq D_Desk_byteOf 7 rfl) cs_255 ?_
  refine n_iand (pc := 12) C (dq D_Desk_byteOf 8 rfl) ?_
  exact x_iret (pc := 13) C (dq D_Desk_byteOf 9 rfl) rfl (by decide) (Ret.i rfl)
def pb (k : Nat) : Nat := (k + 4 * (k % 4)) % 16
theorem c_placeBefore {g : Gp} {h : Hp} {k : Nat} (hk : k < 16) : Con g M_Cipher_placeBefore 0 (0, 0) [.int (nI k)] h (Ret (some (.int (nI (pb k)))) h) := by
  refine Con.of (by decide) rfl rfl (L := [some (.int (nI k))]) rfl (fun f C => ?_)
  refine x_iload_n (pc := 0) C (dq D_Cipher_placeBefore 0 rfl) rfl ?_
  refine x_iconst (pc := 1) C (dq D_Cipher_placeBefore 1 rfl) ci_4 ?_
  refine x_iload_n (pc := 2) C (dq D_Cipher_placeBefore 2 rfl) rfl ?_
  refine x_iconst (pc := 3) C (dq D_Cipher_placeBefore 3 rfl) ci_4 ?_
  refine n_irem (pc := 4) C (dq D_Cipher_placeBefore 4 rfl) (by omega) (by omega) (by omega) ?_
  refine n_imul (pc := 5) C (dq D_Cipher_placeBefore 5 rfl) ?_
  refine n_iadd (pc := 6) C (dq D_Cipher_placeBefore 6 rfl) ?_
  refine x_bipush (pc := 7) C (dq D_Cipher_placeBefore 7 rfl) cb_16 ?_
  refine n_irem (pc := 9) C (dq D_Cipher_placeBefore 8 rfl) (by omega) (by omega) (by omega) ?_
  exact x_iret (pc := 10) C (dq D_Cipher_placeBefore 9 rfl) rfl (by decide) (Ret.i rfl)
theorem c_Row_clear {g : Gp} {h : Hp} {r b n : Nat} (hr : h[r]? = some (rwc g b n)) : Con g M_Row_clear 0 (0, 0) [.ref (zA (gz g) r)] h (Ret none (h.set r (rwc g b 0))) := by
  refine Con.of (by decide) rfl rfl (L := [some (.ref (zA (gz g) r))]) rfl (fun f C => ?_)
  refine x_aload_n (pc := 0) C (dq D_Row_clear 0 rfl) rfl ?_
  refine x_iconst (pc := 1) C (dq D_Row_clear 1 rfl) ci_0 ?_
  refine x_put (pc := 2) (ci := 7) (j := 1) (ty := .int) C (dq D_Row_clear 2 rfl) rfl rfl (hr) rfl k_fl_Row_15 (Or.inl rfl) (by decide +kernel) rfl rfl ?_
  simp only [List.set_cons_zero, List.set_cons_succ]
  exact x_vret (pc := 5) C (dq D_Row_clear 3 rfl) rfl (by decide) ⟨rfl, rfl⟩
theorem c_Row_add {g : Gp} {h : Hp} {r b n v : Nat} {B : List Nat} (hr : h[r]? = some (rwc g b n)) (hb : h[b]? = some (ia g B)) (hn : n < B.length ∧ B.length < 2 ^ 31) : Con g M_Row_add 0 (0, 0) [.ref (zA (gz g) r), .int (nI v)] h (Ret none ((h.set b (ia g (B.set n v))).set r (rwc g b (n + 1)))) := by
  have hr2 : (h.set b (ia g (B.set n v)))[r]? = some (rwc g b n) := gs_ne (ne_io hb hr) hr
  refine Con.of (by decide) rfl rfl (L := [some (.ref (zA (gz g) r)), some (.int (nI v))]) rfl (fun f C => ?_)
  refine x_aload_n (pc := 0) C (dq D_Row_add 0 rfl) rfl ?_
  refine x_get (pc := 1) (ci := 7) (j := 0) C (dq D_Row_add 1 rfl) rfl rfl (by first | exact hr | exact hb) rfl k_fl_Row_9 ?_
  refine x_aload_n (pc := 4) C (dq D_Row_add 2 rfl) rfl ?_
  refine x_get (pc := 5) (ci := 7) (j := 1) C (dq D_Row_add 3 rfl) rfl rfl (by first | exact hr | exact hb) rfl k_fl_Row_15 ?_
  refine x_iload_n (pc := 8) C (dq D_Row_add 4 rfl) rfl ?_
  refine x_iast (pc := 9) C (dq D_Row_add 5 rfl) (by first | exact hr | exact hb) (by (try simp only [List.length_set]); omega) ?_
  try rw [List.set_set]
  refine x_aload_n (pc := 10) C (dq D_Row_add 6 rfl) rfl ?_
  refine x_dup (pc := 11) C (dq D_Row_add 7 rfl) rfl ?_
  refine x_get (pc := 12) (ci := 7) (j := 1) C (dq D_Row_add 8 rfl) rfl rfl (hr2) rfl k_fl_Row_15 ?_
  refine x_iconst (pc := 15) C (dq D_Row_add 9 rfl) ci_1 ?_
  refine n_iadd (pc := 16) C (dq D_Row_add 10 rfl) ?_
  refine x_put (pc := 17) (ci := 7) (j := 1) (ty := .int) C (dq D_Row_add 11 rfl) rfl rfl (hr2) rfl k_fl_Row_15 (Or.inl rfl) (by decide +kernel) rfl rfl ?_
  simp only [List.set_cons_zero, List.set_cons_succ]
  exact x_vret (pc := 20) C (dq D_Row_add 12 rfl) rfl (by decide) ⟨rfl, rfl⟩
theorem c_Row_addAll {g : Gp} {h : Hp} {r b n a c : Nat} {A B : List Nat} (hr : h[r]? = some (rwc g b n)) (hb : h[b]? = some (ia g B)) (ha : h[a]? = some (ia g A)) (hn : n + c ≤ B.length ∧ B.length < 2 ^ 31) (hc : c ≤ A.length ∧ A.length < 2 ^ 31) : Con g M_Row_addAll 1 (0, 0) [.ref (zA (gz g) r), .ref (zA (gz g) a), .int (nI c)] h (Ret none ((h.set b (ia g (cpy A B 0 n c))).set r (rwc g b (n + c)))) := by
  have hr2 : (h.set b (ia g (cpy A B 0 n c)))[r]? = some (rwc g b n) := gs_ne (ne_io hb hr) hr
  refine Con.of (by decide) rfl rfl (L := [some (.ref (zA (gz g) r)), some (.ref (zA (gz g) a)), some (.int (nI c))]) rfl (fun f C => ?_)
  refine x_aload_n (pc := 0) C (dq D_Row_addAll 0 rfl) rfl ?_
  refine x_iconst (pc := 1) C (dq D_Row_addAll 1 rfl) ci_0 ?_
  refine x_aload_n (pc := 2) C (dq D_Row_addAll 2 rfl) rfl ?_
  refine x_get (pc := 3) (ci := 7) (j := 0) C (dq D_Row_addAll 3 rfl) rfl rfl (hr) rfl k_fl_Row_9 ?_
  refine x_aload_n (pc := 6) C (dq D_Row_addAll 4 rfl) rfl ?_
  refine x_get (pc := 7) (ci := 7) (j := 1) C (dq D_Row_addAll 5 rfl) rfl rfl (hr) rfl k_fl_Row_15 ?_
  refine x_iload_n (pc := 10) C (dq D_Row_addAll 6 rfl) rfl ?_
  refine x_copy (pc := 11) C (dq D_Row_addAll 7 rfl) k_ml_Row_19 ha hb (by omega) (by omega) (by omega) (by decide) rfl rfl ?_
  refine x_aload_n (pc := 14) C (dq D_Row_addAll 8 rfl) rfl ?_
  refine x_dup (pc := 15) C (dq D_Row_addAll 9 rfl) rfl ?_
  refine x_get (pc := 16) (ci := 7) (j := 1) C (dq D_Row_addAll 10 rfl) rfl rfl (hr2) rfl k_fl_Row_15 ?_
  refine x_iload_n (pc := 19) C (dq D_Row_addAll 11 rfl) rfl ?_
  refine n_iadd (pc := 20) C (dq D_Row_addAll 12 rfl) ?_
  refine x_put (pc := 21) (ci := 7) (j := 1) (ty := .int) C (dq D_Row_addAll 13 rfl) rfl rfl (hr2) rfl k_fl_Row_15 (Or.inl rfl) (by decide +kernel) rfl rfl ?_
  simp only [List.set_cons_zero, List.set_cons_succ]
  exact x_vret (pc := 24) C (dq D_Row_addAll 14 rfl) rfl (by decide) ⟨rfl, rfl⟩
