/-- a word through the table, byte by byte -/
def chg (T : List Nat) (w : Nat) : Nat := ((T.getD (w / 2 ^ 24 &&& 255) 0 * 2 ^ 24 ||| T.getD (w / 2 ^ 16 &&& 255) 0 * 2 ^ 16) ||| T.getD (w / 2 ^ 8 &&& 255) 0 * 2 ^ 8) ||| T.getD (w &&& 255) 0
theorem chg32 {T : List Nat} (h : by8 T) (w : Nat) : chg T w < 2 ^ 32 := by
  have a := h.at (w / 2 ^ 24 &&& 255)
  have b := h.at (w / 2 ^ 16 &&& 255)
  have c := h.at (w / 2 ^ 8 &&& 255)
  have d := h.at (w &&& 255)
  exact Nat.or_lt_two_pow (Nat.or_lt_two_pow (Nat.or_lt_two_pow (by omega) (by omega)) (by omega)) (by omega)
theorem c_changed {g : Gp} {h : Hp} {cd ni no nt nr nl w : Nat} {T : List Nat} (hm : h[44]? = some (moc g cd ni no nt nr nl)) (ht : h[46]? = some (ia g T)) (hT : T.length = 256) (h8 : by8 T) (hw : w < 2 ^ 32) : Con g M_Model_changed 0 (0, 0) [.ref (zA (gz g) 44), .int (nI w)] h (Ret (some (.int (nI (chg T w)))) h) := by
  have a := h8.at (w / 2 ^ 24 &&& 255)
  have b := h8.at (w / 2 ^ 16 &&& 255)
  have c := h8.at (w / 2 ^ 8 &&& 255)
  have a1 := and8 (w / 2 ^ 24)
  have b1 := and8 (w / 2 ^ 16)
  have c1 := and8 (w / 2 ^ 8)
  have d1 := and8 w
  refine Con.of (by decide) rfl rfl (L := [some (.ref (zA (gz g) 44)), some (.int (nI w))]) rfl (fun f C => ?_)
  refine x_aload_n (pc := 0) C (dq D_Model_changed 0 rfl) rfl ?_
  refine x_get (pc := 1) (ci := 1) (j := 2) C (dq D_Model_changed 1 rfl) rfl rfl (hm) rfl k_fl_Model_13 ?_
  refine x_iload_n (pc := 4) C (dq D_Model_changed 2 rfl) rfl ?_
  refine x_bipush (pc := 5) C (dq D_Model_changed 3 rfl) cb_24 ?_
  refine x_ishr (pc := 7) C (dq D_Model_changed 4 rfl) ?_
  refine x_sipush (pc := 8) C (dq D_Model_changed 5 rfl) cs_255 ?_
  refine x_iand (pc := 11) C (dq D_Model_changed 6 rfl) ?_
  rw [ws255 hw (by omega)]
  refine x_iald (pc := 12) C (dq D_Model_changed 7 rfl) (by first | exact hm | exact ht) (by (try simp only [List.length_set]); omega) ?_
  refine x_bipush (pc := 13) C (dq D_Model_changed 8 rfl) cb_24 ?_
  refine n_ishl (pc := 15) C (dq D_Model_changed 9 rfl) (by omega) (by omega) ?_
  refine x_aload_n (pc := 16) C (dq D_Model_changed 10 rfl) rfl ?_
  refine x_get (pc := 17) (ci := 1) (j := 2) C (dq D_Model_changed 11 rfl) rfl rfl (by first | exact hm | exact ht) rfl k_fl_Model_13 ?_
  refine x_iload_n (pc := 20) C (dq D_Model_changed 12 rfl) rfl ?_
  refine x_bipush (pc := 21) C (dq D_Model_changed 13 rfl) cb_16 ?_
  refine x_ishr (pc := 23) C (dq D_Model_changed 14 rfl) ?_
  refine x_sipush (pc := 24) C (dq D_Model_changed 15 rfl) cs_255 ?_
  refine x_iand (pc := 27) C (dq D_Model_changed 16 rfl) ?_
  rw [ws255 hw (by omega)]
  refine x_iald (pc := 28) C (dq D_Model_changed 17 rfl) (by first | exact hm | exact ht) (by (try simp only [List.length_set]); omega) ?_
  refine x_bipush (pc := 29) C (dq D_Model_changed 18 rfl) cb_16 ?_
  refine n_ishl (pc := 31) C (dq D_Model_changed 19 rfl) (by omega) (by omega) ?_
  refine n_ior (pc := 32) C (dq D_Model_changed 20 rfl) ?_
  refine x_aload_n (pc := 33) C (dq D_Model_changed 21 rfl) rfl ?_
  refine x_get (pc := 34) (ci := 1) (j := 2) C (dq D_Model_changed 22 rfl) rfl rfl (by first | exact hm | exact ht) rfl k_fl_Model_13 ?_
  refine x_iload_n (pc := 37) C (dq D_Model_changed 23 rfl) rfl ?_
  refine x_bipush (pc := 38) C (dq D_Model_changed 24 rfl) cb_8 ?_
  refine x_ishr (pc := 40) C (dq D_Model_changed 25 rfl) ?_
  refine x_sipush (pc := 41) C (dq D_Model_changed 26 rfl) cs_255 ?_
  refine x_iand (pc := 44) C (dq D_Model_changed 27 rfl) ?_
  rw [ws255 hw (by omega)]
  refine x_iald (pc := 45) C (dq D_Model_changed 28 rfl) (by first | exact hm | exact ht) (by (try simp only [List.length_set]); omega) ?_
  refine x_bipush (pc := 46) C (dq D_Model_changed 29 rfl) cb_8 ?_
  refine n_ishl (pc := 48) C (dq D_Model_changed 30 rfl) (by omega) (by omega) ?_
  refine n_ior (pc := 49) C (dq D_Model_changed 31 rfl) ?_
  refine x_aload_n (pc := 50) C (dq D_Model_changed 32 rfl) rfl ?_
  refine x_get (pc := 51) (ci := 1) (j := 2) C (dq D_Model_changed 33 rfl) rfl rfl (by first | exact hm | exact ht) rfl k_fl_Model_13 ?_
  refine x_iload_n (pc := 54) C (dq D_Model_changed 34 rfl) rfl ?_
  refine x_sipush (pc := 55) C (dq D_Model_changed 35 rfl) cs_255 ?_
  refine n_iand (pc := 58) C (dq D_Model_changed 36 rfl) ?_
  refine x_iald (pc := 59) C (dq D_Model_changed 37 rfl) (by first | exact hm | exact ht) (by (try simp only [List.length_set]); omega) ?_
  refine n_ior (pc := 60) C (dq D_Model_changed 38 rfl) ?_
  exact x_iret (pc := 61) C (dq D_Model_changed 39 rfl) rfl (by decide) (Ret.i rfl)
/-- the reference's key laid over a block -/
def mak (W : List Nat) (f r k : Nat) (S : List Nat) : List Nat := S.set k (S.getD k 0 ^^^ ((W.getD (f + 4 * r + k / 4) 0 / 2 ^ (24 - 8 * (k % 4))) &&& 255))
theorem mak_len (W : List Nat) (f r k : Nat) (S : List Nat) : (mak W f r k S).length = S.length := List.length_set
theorem mak8 (W : List Nat) (f r k n : Nat) {S : List Nat} (hS : by8 S) : by8 (it (mak W f r) k n S) := it_inv by8 n k S (fun j T _ _ hT => hT.set (xor8 (hT.at _) (and8 _))) hS
theorem c_addKey {g : Gp} {h : Hp} {cd ni no nt nr nl f0 r : Nat} {W B : List Nat} (hm : h[44]? = some (moc g cd ni no nt nr nl)) (hw : h[45]? = some (ia g W)) (hb : h[52]? = some (ia g B)) (hW : W.length = 88) (h32 : by32 W) (hB : B.length = 16) (hr : r ≤ 10) (hf : f0 ≤ 44) :
    Con g M_Model_addKey 0 (0, 0) [.ref (zA (gz g) 44), .int (nI f0), .int (nI r)] h (Ret none (h.set 52 (ia g (it (mak W f0 r) 0 16 B)))) := by
  have hm1 : ∀ e, (h.set 52 e)[44]? = some (moc g cd ni no nt nr nl) := fun e => gs_ne (by decide) hm
  have hw1 : ∀ e, (h.set 52 e)[45]? = some (ia g W) := fun e => gs_ne (by decide) hw
  have hb1 : ∀ e, (h.set 52 e)[52]? = some e := fun e => gs_self hb
  refine Con.of (by decide) rfl rfl (L := [some (.ref (zA (gz g) 44)), some (.int (nI f0)), some (.int (nI r)), none]) rfl (fun f C => ?_)
  have loop : ∀ (n k : Nat) (S : List Nat), k + n = 16 → S.length = 16 → X g f M_Model_addKey (0, 0) (Ret none (h.set 52 (ia g (it (mak W f0 r) k n S)))) (0, 0) 2 [some (.ref (zA (gz g) 44)), some (.int (nI f0)), some (.int (nI r)), some (.int (nI k))] [] (h.set 52 (ia g S)) := by
    intro n
    induction n with
    | zero =>
      intro k S hkn hS
      refine x_iload_n (pc := 2) C (dq D_Model_addKey 2 rfl) rfl ?_
      refine x_bipush (pc := 3) C (dq D_Model_addKey 3 rfl) cb_16 ?_
      refine n_ge_t (pc := 5) (tgt := 55) C (dq D_Model_addKey 4 rfl) (by decide) (by omega) (by omega) ?_
      exact x_vret (pc := 55) C (dq D_Model_addKey 38 rfl) rfl (by decide) ⟨rfl, rfl⟩
    | succ n ih =>
      intro k S hkn hS
      refine x_iload_n (pc := 2) C (dq D_Model_addKey 2 rfl) rfl ?_
      refine x_bipush (pc := 3) C (dq D_Model_addKey 3 rfl) cb_16 ?_
      refine n_ge_f (pc := 5) (tgt := 55) C (dq D_Model_addKey 4 rfl) (by decide) (by omega) (by omega) ?_
      refine x_aload_n (pc := 8) C (dq D_Model_addKey 5 rfl) rfl ?_
      refine x_get (pc := 9) (ci := 1) (j := 11) C (dq D_Model_addKey 6 rfl) rfl rfl (by first | exact hm1 _ | exact hw1 _ | exact hb1 _) rfl k_fl_Model_31 ?_
      refine x_iload_n (pc := 12) C (dq D_Model_addKey 7 rfl) rfl ?_
      refine x_aload_n (pc := 13) C (dq D_Model_addKey 8 rfl) rfl ?_
      refine x_get (pc := 14) (ci := 1) (j := 11) C (dq D_Model_addKey 9 rfl) rfl rfl (by first | exact hm1 _ | exact hw1 _ | exact hb1 _) rfl k_fl_Model_31 ?_
      refine x_iload_n (pc := 17) C (dq D_Model_addKey 10 rfl) rfl ?_
      refine x_iald (pc := 18) C (dq D_Model_addKey 11 rfl) (by first | exact hm1 _ | exact hw1 _ | exact hb1 _) (by (try simp only [List.length_set]); omega) ?_
      refine x_aload_n (pc := 19) C (dq D_Model_addKey 12 rfl) rfl ?_
      refine x_get (pc := 20) (ci := 1) (j := 1) C (dq D_Model_addKey 13 rfl) rfl rfl (by first | exact hm1 _ | exact hw1 _ | exact hb1 _) rfl k_fl_Model_7 ?_
      refine x_iload_n (pc := 23) C (dq D_Model_addKey 14 rfl) rfl ?_
      refine x_iconst (pc := 24) C (dq D_Model_addKey 15 rfl) ci_4 ?_
      refine x_iload_n (pc := 25) C (dq D_Model_addKey 16 rfl) rfl ?_
      refine n_imul (pc := 26) C (dq D_Model_addKey 17 rfl) ?_
      refine n_iadd (pc := 27) C (dq D_Model_addKey 18 rfl) ?_
      refine x_iload_n (pc := 28) C (dq D_Model_addKey 19 rfl) rfl ?_
      refine x_iconst (pc := 29) C (dq D_Model_addKey 20 rfl) ci_4 ?_
      refine n_idiv (pc := 30) C (dq D_Model_addKey 21 rfl) (by omega) (by omega) (by omega) ?_
      refine n_iadd (pc := 31) C (dq D_Model_addKey 22 rfl) ?_
      refine x_iald (pc := 32) C (dq D_Model_addKey 23 rfl) (by first | exact hm1 _ | exact hw1 _ | exact hb1 _) (by (try simp only [List.length_set]); omega) ?_
      refine x_bipush (pc := 33) C (dq D_Model_addKey 24 rfl) cb_24 ?_
      refine x_bipush (pc := 35) C (dq D_Model_addKey 25 rfl) cb_8 ?_
      refine x_iload_n (pc := 37) C (dq D_Model_addKey 26 rfl) rfl ?_
      refine x_iconst (pc := 38) C (dq D_Model_addKey 27 rfl) ci_4 ?_
      refine n_irem (pc := 39) C (dq D_Model_addKey 28 rfl) (by omega) (by omega) (by omega) ?_
      refine n_imul (pc := 40) C (dq D_Model_addKey 29 rfl) ?_
      refine n_isub (pc := 41) C (dq D_Model_addKey 30 rfl) (by omega) ?_
      refine x_ishr (pc := 42) C (dq D_Model_addKey 31 rfl) ?_
      refine x_sipush (pc := 43) C (dq D_Model_addKey 32 rfl) cs_255 ?_
      refine x_iand (pc := 46) C (dq D_Model_addKey 33 rfl) ?_
      rw [ws255 (h32.at _) (by omega)]
      refine n_ixor (pc := 47) C (dq D_Model_addKey 34 rfl) ?_
      refine x_iast (pc := 48) C (dq D_Model_addKey 35 rfl) (by first | exact hm1 _ | exact hw1 _ | exact hb1 _) (by (try simp only [List.length_set]); omega) ?_
      try rw [List.set_set]
      refine x_iinc (pc := 49) C (dq D_Model_addKey 36 rfl) rfl (ii_1 _) rfl rfl ?_
      simp only [List.set_cons_zero, List.set_cons_succ]
      refine x_goto (pc := 52) (tgt := 2) C (dq D_Model_addKey 37 rfl) (by decide) ?_
      exact ih (k + 1) (mak W f0 r k S) (by omega) (by rw [mak_len]; exact hS)
  refine x_iconst (pc := 0) C (dq D_Model_addKey 0 rfl) ci_0 ?_
  refine x_istore_n (i := 3) (pc := 1) C (dq D_Model_addKey 1 rfl) rfl rfl rfl ?_
  simp only [List.set_cons_zero, List.set_cons_succ]
  have h0 := loop 16 0 B rfl hB
  rw [gs_id hb] at h0
  exact h0
/-- the reference's places moved through its table -/
def msb (T B : List Nat) (c k : Nat) (M : List Nat) : List Nat := M.set (4 * c + k) (T.getD (B.getD (4 * ((c + k) % 4) + k) 0) 0)
def msv (T B : List Nat) (c : Nat) (M : List Nat) : List Nat := it (msb T B c) 0 4 M
/-- the reference's mixing -/
def mmx (r : Nat) (M : List Nat) (k : Nat) (B : List Nat) : List Nat := B.set k (if r = 10 then M.getD k 0 else ((prd (M.getD (k / 4 * 4 + k % 4) 0) 2 ^^^ prd (M.getD (k / 4 * 4 + (k % 4 + 1) % 4) 0) 3) ^^^ M.getD (k / 4 * 4 + (k % 4 + 2) % 4) 0) ^^^ M.getD (k / 4 * 4 + (k % 4 + 3) % 4) 0)
theorem msb_len (T B : List Nat) (c k : Nat) (M : List Nat) : (msb T B c k M).length = M.length := List.length_set
theorem msv_len (T B : List Nat) (c : Nat) (M : List Nat) : (msv T B c M).length = M.length := it_len (msb_len T B c) 4 0 M
theorem mmx_len (r : Nat) (M : List Nat) (k : Nat) (B : List Nat) : (mmx r M k B).length = B.length := List.length_set
theorem msv8 {T : List Nat} (hT : by8 T) (B : List Nat) (c n k : Nat) {M : List Nat} (h : by8 M) : by8 (it (msb T B c) k n M) := it_inv by8 n k M (fun j S _ _ hS => hS.set (hT.at _)) h
theorem mmx8 (r : Nat) {M : List Nat} (hM : by8 M) (n k : Nat) {B : List Nat} (h : by8 B) : by8 (it (mmx r M) k n B) := it_inv by8 n k B (fun j S _ _ hS => hS.set (by
  split
  · exact hM.at _
  · exact xor8 (xor8 (xor8 (prd8 (hM.at _)) (prd8 (hM.at _))) (hM.at _)) (hM.at _))) h
/-- a round of the reference on block and moved places -/
def mrd (T W : List Nat) (f r : Nat) (q : List Nat × List Nat) : List Nat × List Nat :=
  (it (mak W f r) 0 16 (it (mmx r (it (msv T q.1) 0 4 q.2)) 0 16 q.1), it (msv T q.1) 0 4 q.2)
def menc (T W : List Nat) (f : Nat) (q : List Nat × List Nat) : List Nat × List Nat := it (fun i => mrd T W f (i + 1)) 0 10 (it (mak W f 0) 0 16 q.1, q.2)
/-- block and moved places are sixteen bytes each -/
def bm16 (q : List Nat × List Nat) : Prop := q.1.length = 16 ∧ by8 q.1 ∧ q.2.length = 16 ∧ by8 q.2
theorem msvs_ok {T B : List Nat} (hT : by8 T) (c n : Nat) {M : List Nat} (h : M.length = 16 ∧ by8 M) : (it (msv T B) c n M).length = 16 ∧ by8 (it (msv T B) c n M) :=
  it_inv (fun M : List Nat => M.length = 16 ∧ by8 M) n c M (fun j S _ _ hS => ⟨by rw [msv_len]; exact hS.1, msv8 hT B j 4 0 hS.2⟩) h
theorem mrd_ok {T : List Nat} (hT : by8 T) (W : List Nat) (f r : Nat) {q : List Nat × List Nat} (h : bm16 q) : bm16 (mrd T W f r q) := by
  obtain ⟨a, b, c, d⟩ := h
  obtain ⟨u, v⟩ := msvs_ok (B := q.1) hT 0 4 ⟨c, d⟩
  have h1 : (it (mak W f r) 0 16 (it (mmx r (it (msv T q.1) 0 4 q.2)) 0 16 q.1)).length = 16 := by
    rw [it_len (mak_len W f r), it_len (mmx_len r _)]
    exact a
  have h2 : by8 (it (mak W f r) 0 16 (it (mmx r (it (msv T q.1) 0 4 q.2)) 0 16 q.1)) := mak8 W f r 0 16 (mmx8 r v 16 0 b)
  unfold bm16 mrd
  dsimp only
  exact ⟨h1, h2, u, v⟩
theorem menc_ok {T : List Nat} (hT : by8 T) (W : List Nat) (f : Nat) {q : List Nat × List Nat} (h : bm16 q) : bm16 (menc T W f q) := by
  have h1 : (it (mak W f 0) 0 16 q.1).length = 16 := by
    rw [it_len (mak_len W f 0)]
    exact h.1
  have h2 : by8 (it (mak W f 0) 0 16 q.1) := mak8 W f 0 0 16 h.2.1
  have h3 : bm16 (it (mak W f 0) 0 16 q.1, q.2) := by
    unfold bm16
    dsimp only
    exact ⟨h1, h2, h.2.2⟩
  unfold menc
  exact it_inv bm16 10 0 _ (fun j s _ _ hs => mrd_ok hT W f (j + 1) hs) h3
/-- what the cipher of the reference needs among the cells -/
def mci (g : Gp) (h : Hp) (cd ni no nt nr nl : Nat) (W T U : List Nat) : Prop := h[44]? = some (moc g cd ni no nt nr nl) ∧ h[45]? = some (ia g W) ∧ h[46]? = some (ia g T) ∧ h[47]? = some (ia g U) ∧ W.length = 88 ∧ T.length = 256 ∧ U.length = 256 ∧ by32 W ∧ by8 T ∧ by8 U
theorem mci.at {g : Gp} {h : Hp} {cd ni no nt nr nl a : Nat} {W T U : List Nat} {e : va_E} (H : mci g h cd ni no nt nr nl W T U) (ha : Nat.ble 48 a = true) : mci g (h.set a e) cd ni no nt nr nl W T U := by
  have ha := Nat.le_of_ble_eq_true ha
  exact ⟨gs_ne (by omega) H.1, gs_ne (by omega) H.2.1, gs_ne (by omega) H.2.2.1, gs_ne (by omega) H.2.2.2.1, H.2.2.2.2⟩
theorem c_encipher {g : Gp} {h : Hp} {cd ni no nt nr nl f0 : Nat} {W T U B M : List Nat} (hc : mci g h cd ni no nt nr nl W T U) (hb : h[52]? = some (ia g B)) (hv : h[53]? = some (ia g M)) (hq : bm16 (B, M)) (hf : f0 ≤ 44) :
    Con g M_Model_encipher 1 (0, 0) [.ref (zA (gz g) 44), .int (nI f0)] h (Ret none ((h.set 53 (ia g (menc T W f0 (B, M)).2)).set 52 (ia g (menc T W f0 (B, M)).1))) := by
  have v1 : ∀ (e e' : va_E), ((h.set 53 e).set 52 e')[53]? = some e := fun e e' => gs_ne (by decide) (gs_self hv)
  have b1 : ∀ (e e' : va_E), ((h.set 53 e).set 52 e')[52]? = some e' := fun e e' => gs_self (gs_ne (by decide) hb)
  have c1 : ∀ (e e' : va_E), mci g ((h.set 53 e).set 52 e') cd ni no nt nr nl W T U := fun e e' => mci.at (mci.at hc rfl) rfl
  have hT8 := hc.2.2.2.2.2.2.2.2.1
  have hT := hc.2.2.2.2.2.1
  refine Con.of (by decide) rfl rfl (L := [some (.ref (zA (gz g) 44)), some (.int (nI f0)), none, none, none, none]) rfl (fun f C => ?_)
  have loop : ∀ (n i : Nat) (q : List Nat × List Nat) (l3 l4 l5 : Option Value), i + n = 10 → bm16 q → it (fun i => mrd T W f0 (i + 1)) i n q = menc T W f0 (B, M) → X g f M_Model_encipher (0, 0) (Ret none ((h.set 53 (ia g (menc T W f0 (B, M)).2)).set 52 (ia g (menc T W f0 (B, M)).1))) (0, 0) 8 [some (.ref (zA (gz g) 44)), some (.int (nI f0)), some (.int (nI (i + 1))), l3, l4, l5] [] ((h.set 53 (ia g q.2)).set 52 (ia g q.1)) := by
    intro n
    induction n with
    | zero =>
      intro i q l3 l4 l5 hin hq he
      refine x_iload_n (pc := 8) C (dq D_Model_encipher 6 rfl) rfl ?_
      refine x_bipush (pc := 9) C (dq D_Model_encipher 7 rfl) cb_10 ?_
      refine n_gt_t (pc := 11) (tgt := 196) C (dq D_Model_encipher 8 rfl) (by decide) (by omega) (by omega) ?_
      exact x_vret (pc := 196) C (dq D_Model_encipher 124 rfl) rfl (by decide) ⟨rfl, by rw [← he]; rfl⟩
    | succ n ih =>
      intro i q l3 l4 l5 hin hq he
      obtain ⟨hq1, hq2, hq3, hq4⟩ := hq
      obtain ⟨S, M0⟩ := q
      dsimp only at hq1 hq2 hq3 hq4 he ⊢
      -- the mixing
      have mixing : ∀ (n k : Nat) (R V : List Nat) (l4 l5 : Option Value), k + n = 16 → R.length = 16 → V.length = 16 → by8 V → it (mmx (i + 1) V) k n R = it (mmx (i + 1) V) 0 16 S → V = it (msv T S) 0 4 M0 → X g f M_Model_encipher (0, 0) (Ret none ((h.set 53 (ia g (menc T W f0 (B, M)).2)).set 52 (ia g (menc T W f0 (B, M)).1))) (0, 0) 76 [some (.ref (zA (gz g) 44)), some (.int (nI f0)), some (.int (nI (i + 1))), some (.int (nI k)), l4, l5] [] ((h.set 53 (ia g V)).set 52 (ia g R)) := by
        intro n2
        induction n2 with
        | zero =>
          intro k R V l4 l5 hkn hR hV hV8 he2 heV
          have e1 : R = it (mmx (i + 1) V) 0 16 S := he2
          refine x_iload_n (pc := 76) C (dq D_Model_encipher 48 rfl) rfl ?_
          refine x_bipush (pc := 77) C (dq D_Model_encipher 49 rfl) cb_16 ?_
          refine n_ge_t (pc := 79) (tgt := 184) C (dq D_Model_encipher 50 rfl) (by decide) (by omega) (by omega) ?_
          refine x_aload_n (pc := 184) C (dq D_Model_encipher 118 rfl) rfl ?_
          refine x_iload_n (pc := 185) C (dq D_Model_encipher 119 rfl) rfl ?_
          refine x_iload_n (pc := 186) C (dq D_Model_encipher 120 rfl) rfl ?_
          refine x_cV0 (pc := 187) (ci := 1) (M := M_Model_addKey) C (dq D_Model_encipher 121 rfl) k_ml_Model_74 m_Model_addKey rfl rfl ((c1 _ _).1) (c_addKey (c1 _ _).1 (c1 _ _).2.1 (b1 _ _) hc.2.2.2.2.1 hc.2.2.2.2.2.2.2.1 hR (by omega) hf) rfl rfl rfl rfl (by decide) ?_
          rw [List.set_set]
          refine x_iinc (pc := 190) C (dq D_Model_encipher 122 rfl) rfl (ii_1 _) rfl rfl ?_
          simp only [List.set_cons_zero, List.set_cons_succ]
          refine x_goto (pc := 193) (tgt := 8) C (dq D_Model_encipher 123 rfl) (by decide) ?_
          have e2 : (it (mak W f0 (i + 1)) 0 16 R, V) = mrd T W f0 (i + 1) (S, M0) := by
            unfold mrd
            rw [← heV, e1]
          have h0 := ih (i + 1) (mrd T W f0 (i + 1) (S, M0)) (some (.int (nI k))) l4 l5 (by omega) (mrd_ok hT8 W f0 (i + 1) ⟨hq1, hq2, hq3, hq4⟩) he
          rw [← e2] at h0
          exact h0
        | succ n2 ih2 =>
          intro k R V l4 l5 hkn hR hV hV8 he2 heV
          have p0 := hV8.at (k / 4 * 4 + k % 4)
          have p1 := hV8.at (k / 4 * 4 + (k % 4 + 1) % 4)
          have fin : ∀ v : Nat, v = (if i + 1 = 10 then V.getD k 0 else ((prd (V.getD (k / 4 * 4 + k % 4) 0) 2 ^^^ prd (V.getD (k / 4 * 4 + (k % 4 + 1) % 4) 0) 3) ^^^ V.getD (k / 4 * 4 + (k % 4 + 2) % 4) 0) ^^^ V.getD (k / 4 * 4 + (k % 4 + 3) % 4) 0) → X g f M_Model_encipher (0, 0) (Ret none ((h.set 53 (ia g (menc T W f0 (B, M)).2)).set 52 (ia g (menc T W f0 (B, M)).1))) (0, 0) 177 [some (.ref (zA (gz g) 44)), some (.int (nI f0)), some (.int (nI (i + 1))), some (.int (nI k)), some (.int (nI (k / 4 * 4))), some (.int (nI (k % 4)))] [.int (nI v), .int (nI k), .ref (zA (gz g) 52)] ((h.set 53 (ia g V)).set 52 (ia g R)) := by
            intro v hv0
            refine x_iast (pc := 177) C (dq D_Model_encipher 115 rfl) (b1 _ _) (by (try simp only [List.length_set]); omega) ?_
            try rw [List.set_set]
            refine x_iinc (pc := 178) C (dq D_Model_encipher 116 rfl) rfl (ii_1 _) rfl rfl ?_
            simp only [List.set_cons_zero, List.set_cons_succ]
            refine x_goto (pc := 181) (tgt := 76) C (dq D_Model_encipher 117 rfl) (by decide) ?_
            refine ih2 (k + 1) (R.set k v) V _ _ (by omega) (by rw [List.length_set]; exact hR) hV hV8 ?_ heV
            rw [hv0]
            exact he2
          refine x_iload_n (pc := 76) C (dq D_Model_encipher 48 rfl) rfl ?_
          refine x_bipush (pc := 77) C (dq D_Model_encipher 49 rfl) cb_16 ?_
          refine n_ge_f (pc := 79) (tgt := 184) C (dq D_Model_encipher 50 rfl) (by decide) (by omega) (by omega) ?_
          refine x_iload_n (pc := 82) C (dq D_Model_encipher 51 rfl) rfl ?_
          refine x_iconst (pc := 83) C (dq D_Model_encipher 52 rfl) ci_4 ?_
          refine n_idiv (pc := 84) C (dq D_Model_encipher 53 rfl) (by omega) (by omega) (by omega) ?_
          refine x_iconst (pc := 85) C (dq D_Model_encipher 54 rfl) ci_4 ?_
          refine n_imul (pc := 86) C (dq D_Model_encipher 55 rfl) ?_
          refine x_istore (i := 4) (pc := 87) C (dq D_Model_encipher 56 rfl) rfl rfl rfl ?_
          simp only [List.set_cons_zero, List.set_cons_succ]
          refine x_iload_n (pc := 89) C (dq D_Model_encipher 57 rfl) rfl ?_
          refine x_iconst (pc := 90) C (dq D_Model_encipher 58 rfl) ci_4 ?_
          refine n_irem (pc := 91) C (dq D_Model_encipher 59 rfl) (by omega) (by omega) (by omega) ?_
          refine x_istore (i := 5) (pc := 92) C (dq D_Model_encipher 60 rfl) rfl rfl rfl ?_
          simp only [List.set_cons_zero, List.set_cons_succ]
          refine x_aload_n (pc := 94) C (dq D_Model_encipher 61 rfl) rfl ?_
          refine x_get (pc := 95) (ci := 1) (j := 11) C (dq D_Model_encipher 62 rfl) rfl rfl ((c1 _ _).1) rfl k_fl_Model_31 ?_
          refine x_iload_n (pc := 98) C (dq D_Model_encipher 63 rfl) rfl ?_
          refine x_iload_n (pc := 99) C (dq D_Model_encipher 64 rfl) rfl ?_
          refine x_bipush (pc := 100) C (dq D_Model_encipher 65 rfl) cb_10 ?_
          refine n_ne (pc := 102) (tgt := 114) C (dq D_Model_encipher 66 rfl) (by decide) (by omega) (fun hq => ?_) (fun hq => ?_)
          · rw [if_neg hq] at fin
            refine x_aload_n (pc := 114) C (dq D_Model_encipher 72 rfl) rfl ?_
            refine x_get (pc := 115) (ci := 1) (j := 12) C (dq D_Model_encipher 73 rfl) rfl rfl (by first | exact (c1 _ _).1 | exact v1 _ _) rfl k_fl_Model_34 ?_
            refine x_iload (pc := 118) C (dq D_Model_encipher 74 rfl) rfl ?_
            refine x_iload (pc := 120) C (dq D_Model_encipher 75 rfl) rfl ?_
            refine n_iadd (pc := 122) C (dq D_Model_encipher 76 rfl) ?_
            refine x_iald (pc := 123) C (dq D_Model_encipher 77 rfl) (by first | exact (c1 _ _).1 | exact v1 _ _) (by (try simp only [List.length_set]); omega) ?_
            refine x_iconst (pc := 124) C (dq D_Model_encipher 78 rfl) ci_2 ?_
            refine x_cS1 (pc := 125) (M := M_Model_product) C (dq D_Model_encipher 79 rfl) k_ml_Model_68 m_Model_product (c_product p0 (by omega)) rfl rfl rfl rfl (by decide) ?_
            refine x_aload_n (pc := 128) C (dq D_Model_encipher 80 rfl) rfl ?_
            refine x_get (pc := 129) (ci := 1) (j := 12) C (dq D_Model_encipher 81 rfl) rfl rfl (by first | exact (c1 _ _).1 | exact v1 _ _) rfl k_fl_Model_34 ?_
            refine x_iload (pc := 132) C (dq D_Model_encipher 82 rfl) rfl ?_
            refine x_iload (pc := 134) C (dq D_Model_encipher 83 rfl) rfl ?_
            refine x_iconst (pc := 136) C (dq D_Model_encipher 84 rfl) ci_1 ?_
            refine n_iadd (pc := 137) C (dq D_Model_encipher 85 rfl) ?_
            refine x_iconst (pc := 138) C (dq D_Model_encipher 86 rfl) ci_4 ?_
            refine n_irem (pc := 139) C (dq D_Model_encipher 87 rfl) (by omega) (by omega) (by omega) ?_
            refine n_iadd (pc := 140) C (dq D_Model_encipher 88 rfl) ?_
            refine x_iald (pc := 141) C (dq D_Model_encipher 89 rfl) (by first | exact (c1 _ _).1 | exact v1 _ _) (by (try simp only [List.length_set]); omega) ?_
            refine x_iconst (pc := 142) C (dq D_Model_encipher 90 rfl) ci_3 ?_
            refine x_cS1 (pc := 143) (M := M_Model_product) C (dq D_Model_encipher 91 rfl) k_ml_Model_68 m_Model_product (c_product p1 (by omega)) rfl rfl rfl rfl (by decide) ?_
            refine n_ixor (pc := 146) C (dq D_Model_encipher 92 rfl) ?_
            refine x_aload_n (pc := 147) C (dq D_Model_encipher 93 rfl) rfl ?_
            refine x_get (pc := 148) (ci := 1) (j := 12) C (dq D_Model_encipher 94 rfl) rfl rfl (by first | exact (c1 _ _).1 | exact v1 _ _) rfl k_fl_Model_34 ?_
            refine x_iload (pc := 151) C (dq D_Model_encipher 95 rfl) rfl ?_
            refine x_iload (pc := 153) C (dq D_Model_encipher 96 rfl) rfl ?_
            refine x_iconst (pc := 155) C (dq D_Model_encipher 97 rfl) ci_2 ?_
            refine n_iadd (pc := 156) C (dq D_Model_encipher 98 rfl) ?_
            refine x_iconst (pc := 157) C (dq D_Model_encipher 99 rfl) ci_4 ?_
            refine n_irem (pc := 158) C (dq D_Model_encipher 100 rfl) (by omega) (by omega) (by omega) ?_
            refine n_iadd (pc := 159) C (dq D_Model_encipher 101 rfl) ?_
            refine x_iald (pc := 160) C (dq D_Model_encipher 102 rfl) (by first | exact (c1 _ _).1 | exact v1 _ _) (by (try simp only [List.length_set]); omega) ?_
            refine n_ixor (pc := 161) C (dq D_Model_encipher 103 rfl) ?_
            refine x_aload_n (pc := 162) C (dq D_Model_encipher 104 rfl) rfl ?_
            refine x_get (pc := 163) (ci := 1) (j := 12) C (dq D_Model_encipher 105 rfl) rfl rfl (by first | exact (c1 _ _).1 | exact v1 _ _) rfl k_fl_Model_34 ?_
            refine x_iload (pc := 166) C (dq D_Model_encipher 106 rfl) rfl ?_
            refine x_iload (pc := 168) C (dq D_Model_encipher 107 rfl) rfl ?_
            refine x_iconst (pc := 170) C (dq D_Model_encipher 108 rfl) ci_3 ?_
            refine n_iadd (pc := 171) C (dq D_Model_encipher 109 rfl) ?_
            refine x_iconst (pc := 172) C (dq D_Model_encipher 110 rfl) ci_4 ?_
            refine n_irem (pc := 173) C (dq D_Model_encipher 111 rfl) (by omega) (by omega) (by omega) ?_
            refine n_iadd (pc := 174) C (dq D_Model_encipher 112 rfl) ?_
            refine x_iald (pc := 175) C (dq D_Model_encipher 113 rfl) (by first | exact (c1 _ _).1 | exact v1 _ _) (by (try simp only [List.length_set]); omega) ?_
            refine n_ixor (pc := 176) C (dq D_Model_encipher 114 rfl) ?_
            exact fin _ rfl
          · rw [if_pos hq] at fin
            refine x_aload_n (pc := 105) C (dq D_Model_encipher 67 rfl) rfl ?_
            refine x_get (pc := 106) (ci := 1) (j := 12) C (dq D_Model_encipher 68 rfl) rfl rfl (by first | exact (c1 _ _).1 | exact v1 _ _) rfl k_fl_Model_34 ?_
            refine x_iload_n (pc := 109) C (dq D_Model_encipher 69 rfl) rfl ?_
            refine x_iald (pc := 110) C (dq D_Model_encipher 70 rfl) (by first | exact (c1 _ _).1 | exact v1 _ _) (by (try simp only [List.length_set]); omega) ?_
            refine x_goto (pc := 111) (tgt := 177) C (dq D_Model_encipher 71 rfl) (by decide) ?_
            exact fin _ rfl
      -- the moving
      have inner : ∀ (n k c : Nat) (V : List Nat) (l5 : Option Value), k + n = 4 → c < 4 → V.length = 16 → (∀ l4, X g f M_Model_encipher (0, 0) (Ret none ((h.set 53 (ia g (menc T W f0 (B, M)).2)).set 52 (ia g (menc T W f0 (B, M)).1))) (0, 0) 68 [some (.ref (zA (gz g) 44)), some (.int (nI f0)), some (.int (nI (i + 1))), some (.int (nI c)), l4, l5] [] ((h.set 53 (ia g (it (msb T S c) k n V))).set 52 (ia g S))) → X g f M_Model_encipher (0, 0) (Ret none ((h.set 53 (ia g (menc T W f0 (B, M)).2)).set 52 (ia g (menc T W f0 (B, M)).1))) (0, 0) 24 [some (.ref (zA (gz g) 44)), some (.int (nI f0)), some (.int (nI (i + 1))), some (.int (nI c)), some (.int (nI k)), l5] [] ((h.set 53 (ia g V)).set 52 (ia g S)) := by
        intro n2
        induction n2 with
        | zero =>
          intro k c V l5 hkn hc4 hV go
          refine x_iload (pc := 24) C (dq D_Model_encipher 16 rfl) rfl ?_
          refine x_iconst (pc := 26) C (dq D_Model_encipher 17 rfl) ci_4 ?_
          refine n_ge_t (pc := 27) (tgt := 68) C (dq D_Model_encipher 18 rfl) (by decide) (by omega) (by omega) ?_
          exact go _
        | succ n2 ih2 =>
          intro k c V l5 hkn hc4 hV go
          have p0 := hq2.at (4 * ((c + k) % 4) + k)
          refine x_iload (pc := 24) C (dq D_Model_encipher 16 rfl) rfl ?_
          refine x_iconst (pc := 26) C (dq D_Model_encipher 17 rfl) ci_4 ?_
          refine n_ge_f (pc := 27) (tgt := 68) C (dq D_Model_encipher 18 rfl) (by decide) (by omega) (by omega) ?_
          refine x_aload_n (pc := 30) C (dq D_Model_encipher 19 rfl) rfl ?_
          refine x_get (pc := 31) (ci := 1) (j := 12) C (dq D_Model_encipher 20 rfl) rfl rfl (by first | exact (c1 _ _).1 | exact v1 _ _ | exact b1 _ _ | exact (c1 _ _).2.2.1) rfl k_fl_Model_34 ?_
          refine x_iconst (pc := 34) C (dq D_Model_encipher 21 rfl) ci_4 ?_
          refine x_iload_n (pc := 35) C (dq D_Model_encipher 22 rfl) rfl ?_
          refine n_imul (pc := 36) C (dq D_Model_encipher 23 rfl) ?_
          refine x_iload (pc := 37) C (dq D_Model_encipher 24 rfl) rfl ?_
          refine n_iadd (pc := 39) C (dq D_Model_encipher 25 rfl) ?_
          refine x_aload_n (pc := 40) C (dq D_Model_encipher 26 rfl) rfl ?_
          refine x_get (pc := 41) (ci := 1) (j := 2) C (dq D_Model_encipher 27 rfl) rfl rfl (by first | exact (c1 _ _).1 | exact v1 _ _ | exact b1 _ _ | exact (c1 _ _).2.2.1) rfl k_fl_Model_13 ?_
          refine x_aload_n (pc := 44) C (dq D_Model_encipher 28 rfl) rfl ?_
          refine x_get (pc := 45) (ci := 1) (j := 11) C (dq D_Model_encipher 29 rfl) rfl rfl (by first | exact (c1 _ _).1 | exact v1 _ _ | exact b1 _ _ | exact (c1 _ _).2.2.1) rfl k_fl_Model_31 ?_
          refine x_iconst (pc := 48) C (dq D_Model_encipher 30 rfl) ci_4 ?_
          refine x_iload_n (pc := 49) C (dq D_Model_encipher 31 rfl) rfl ?_
          refine x_iload (pc := 50) C (dq D_Model_encipher 32 rfl) rfl ?_
          refine n_iadd (pc := 52) C (dq D_Model_encipher 33 rfl) ?_
          refine x_iconst (pc := 53) C (dq D_Model_encipher 34 rfl) ci_4 ?_
          refine n_irem (pc := 54) C (dq D_Model_encipher 35 rfl) (by omega) (by omega) (by omega) ?_
          refine n_imul (pc := 55) C (dq D_Model_encipher 36 rfl) ?_
          refine x_iload (pc := 56) C (dq D_Model_encipher 37 rfl) rfl ?_
          refine n_iadd (pc := 58) C (dq D_Model_encipher 38 rfl) ?_
          refine x_iald (pc := 59) C (dq D_Model_encipher 39 rfl) (by first | exact (c1 _ _).1 | exact v1 _ _ | exact b1 _ _ | exact (c1 _ _).2.2.1) (by (try simp only [List.length_set]); omega) ?_
          refine x_iald (pc := 60) C (dq D_Model_encipher 40 rfl) (by first | exact (c1 _ _).1 | exact v1 _ _ | exact b1 _ _ | exact (c1 _ _).2.2.1) (by (try simp only [List.length_set]); omega) ?_
          refine x_iast (pc := 61) C (dq D_Model_encipher 41 rfl) (by first | exact (c1 _ _).1 | exact v1 _ _ | exact b1 _ _ | exact (c1 _ _).2.2.1) (by (try simp only [List.length_set]); omega) ?_
          try rw [List.set_set]
          refine x_iinc (pc := 62) C (dq D_Model_encipher 42 rfl) rfl (ii_1 _) rfl rfl ?_
          simp only [List.set_cons_zero, List.set_cons_succ]
          rw [gs_in (show (53 : Nat) ≠ 52 by decide)]
          refine x_goto (pc := 65) (tgt := 24) C (dq D_Model_encipher 43 rfl) (by decide) ?_
          exact ih2 (k + 1) c (msb T S c k V) l5 (by omega) hc4 (by rw [msb_len]; exact hV) go
      have outer : ∀ (n c : Nat) (V : List Nat) (l4 l5 : Option Value), c + n = 4 → V.length = 16 → by8 V → it (msv T S) c n V = it (msv T S) 0 4 M0 → X g f M_Model_encipher (0, 0) (Ret none ((h.set 53 (ia g (menc T W f0 (B, M)).2)).set 52 (ia g (menc T W f0 (B, M)).1))) (0, 0) 16 [some (.ref (zA (gz g) 44)), some (.int (nI f0)), some (.int (nI (i + 1))), some (.int (nI c)), l4, l5] [] ((h.set 53 (ia g V)).set 52 (ia g S)) := by
        intro n2
        induction n2 with
        | zero =>
          intro c V l4 l5 hcn hV hV8 heV
          refine x_iload_n (pc := 16) C (dq D_Model_encipher 11 rfl) rfl ?_
          refine x_iconst (pc := 17) C (dq D_Model_encipher 12 rfl) ci_4 ?_
          refine n_ge_t (pc := 18) (tgt := 74) C (dq D_Model_encipher 13 rfl) (by decide) (by omega) (by omega) ?_
          refine x_iconst (pc := 74) C (dq D_Model_encipher 46 rfl) ci_0 ?_
          refine x_istore_n (i := 3) (pc := 75) C (dq D_Model_encipher 47 rfl) rfl rfl rfl ?_
          simp only [List.set_cons_zero, List.set_cons_succ]
          exact mixing 16 0 S V l4 l5 rfl hq1 hV hV8 rfl heV
        | succ n2 ih2 =>
          intro c V l4 l5 hcn hV hV8 heV
          refine x_iload_n (pc := 16) C (dq D_Model_encipher 11 rfl) rfl ?_
          refine x_iconst (pc := 17) C (dq D_Model_encipher 12 rfl) ci_4 ?_
          refine n_ge_f (pc := 18) (tgt := 74) C (dq D_Model_encipher 13 rfl) (by decide) (by omega) (by omega) ?_
          refine x_iconst (pc := 21) C (dq D_Model_encipher 14 rfl) ci_0 ?_
          refine x_istore (i := 4) (pc := 22) C (dq D_Model_encipher 15 rfl) rfl rfl rfl ?_
          simp only [List.set_cons_zero, List.set_cons_succ]
          refine inner 4 0 c V l5 rfl (by omega) hV (fun l4 => ?_)
          refine x_iinc (pc := 68) C (dq D_Model_encipher 44 rfl) rfl (ii_1 _) rfl rfl ?_
          simp only [List.set_cons_zero, List.set_cons_succ]
          refine x_goto (pc := 71) (tgt := 16) C (dq D_Model_encipher 45 rfl) (by decide) ?_
          exact ih2 (c + 1) (msv T S c V) l4 l5 (by omega) (by rw [msv_len]; exact hV) (msv8 hT8 S c 4 0 hV8) heV
      refine x_iload_n (pc := 8) C (dq D_Model_encipher 6 rfl) rfl ?_
      refine x_bipush (pc := 9) C (dq D_Model_encipher 7 rfl) cb_10 ?_
      refine n_gt_f (pc := 11) (tgt := 196) C (dq D_Model_encipher 8 rfl) (by decide) (by omega) (by omega) ?_
      refine x_iconst (pc := 14) C (dq D_Model_encipher 9 rfl) ci_0 ?_
      refine x_istore_n (i := 3) (pc := 15) C (dq D_Model_encipher 10 rfl) rfl rfl rfl ?_
      simp only [List.set_cons_zero, List.set_cons_succ]
      exact outer 4 0 M0 l4 l5 rfl hq3 hq4 rfl
  refine x_aload_n (pc := 0) C (dq D_Model_encipher 0 rfl) rfl ?_
  refine x_iload_n (pc := 1) C (dq D_Model_encipher 1 rfl) rfl ?_
  refine x_iconst (pc := 2) C (dq D_Model_encipher 2 rfl) ci_0 ?_
  refine x_cV0 (pc := 3) (ci := 1) (M := M_Model_addKey) C (dq D_Model_encipher 3 rfl) k_ml_Model_74 m_Model_addKey rfl rfl (hc.1) (c_addKey (r := 0) hc.1 hc.2.1 hb hc.2.2.2.2.1 hc.2.2.2.2.2.2.2.1 hq.1 (by omega) hf) rfl rfl rfl rfl (by decide) ?_
  refine x_iconst (pc := 6) C (dq D_Model_encipher 4 rfl) ci_1 ?_
  refine x_istore_n (i := 2) (pc := 7) C (dq D_Model_encipher 5 rfl) rfl rfl rfl ?_
  simp only [List.set_cons_zero, List.set_cons_succ]
  have h0 := loop 10 0 (it (mak W f0 0) 0 16 B, M) none none none rfl ⟨by show (it (mak W f0 0) 0 16 B).length = 16; rw [it_len (mak_len W f0 0)]; exact hq.1, mak8 W f0 0 0 16 hq.2.1, hq.2.2⟩ rfl
  dsimp only at h0
  rw [gs_id hv] at h0
  exact h0
