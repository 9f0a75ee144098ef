/-! What the desk computes is what the reference computes. -/
theorem xcl (a b : Nat) : a ^^^ (a ^^^ b) = b := by rw [← Nat.xor_assoc, Nat.xor_self, Nat.zero_xor]
theorem xlc (a b c : Nat) : a ^^^ (b ^^^ c) = b ^^^ (a ^^^ c) := by rw [← Nat.xor_assoc, Nat.xor_comm a b, Nat.xor_assoc]
theorem twx0 (a b : Nat) (ha : a < 256) (hb : b < 256) : (a ^^^ b) / 128 = (a / 128) ^^^ (b / 128) := by
  have := Nat.shiftRight_xor_distrib (a := a) (b := b) (i := 7)
  rw [Nat.shiftRight_eq_div_pow, Nat.shiftRight_eq_div_pow, Nat.shiftRight_eq_div_pow] at this
  exact this
theorem tw_f (a : Nat) (ha : a < 256) : tw a = (a * 2) ^^^ (a / 128 * 283) := by
  unfold tw
  by_cases h : a < 128
  · rw [if_pos h, Nat.div_eq_of_lt h, Nat.zero_mul, Nat.xor_zero]
  · rw [if_neg h, show a / 128 = 1 by omega, Nat.one_mul]
theorem dblx (a b : Nat) : (a ^^^ b) * 2 = (a * 2) ^^^ (b * 2) := by
  have := Nat.shiftLeft_xor_distrib (a := a) (b := b) (i := 1)
  rw [Nat.shiftLeft_eq, Nat.shiftLeft_eq, Nat.shiftLeft_eq] at this
  exact this
theorem m283 : ∀ a, a < 2 → ∀ b, b < 2 → (a ^^^ b) * 283 = (a * 283) ^^^ (b * 283) := by decide
theorem twx {a b : Nat} (ha : a < 256) (hb : b < 256) : tw (a ^^^ b) = tw a ^^^ tw b := by
  rw [tw_f _ (xor8 ha hb), tw_f a ha, tw_f b hb, twx0 a b ha hb, dblx, m283 _ (by omega) _ (by omega)]
  ac_rfl
theorem prd2 : ∀ a, a < 256 → prd a 2 = tw a := by decide +kernel
theorem prd3 : ∀ a, a < 256 → prd a 3 = tw a ^^^ a := by decide +kernel
theorem prd14 : ∀ a, a < 256 → prd a 14 = (tw (tw (tw a)) ^^^ tw (tw a)) ^^^ tw a := by decide +kernel
theorem prd11 : ∀ a, a < 256 → prd a 11 = (tw (tw (tw a)) ^^^ tw a) ^^^ a := by decide +kernel
theorem prd13 : ∀ a, a < 256 → prd a 13 = (tw (tw (tw a)) ^^^ tw (tw a)) ^^^ a := by decide +kernel
theorem prd9 : ∀ a, a < 256 → prd a 9 = tw (tw (tw a)) ^^^ a := by decide +kernel
def mq (s x y : Nat) : Nat := (x ^^^ s) ^^^ tw (x ^^^ y)
def sm4 (a b c d : Nat) : Nat := ((a ^^^ b) ^^^ c) ^^^ d
theorem mix_ex (a0 a1 a2 a3 a4 a5 a6 a7 a8 a9 b0 b1 b2 b3 b4 b5 : Nat) : mix [a0, a1, a2, a3, a4, a5, a6, a7, a8, a9, b0, b1, b2, b3, b4, b5] = [mq (sm4 a0 a1 a2 a3) a0 a1, mq (sm4 a0 a1 a2 a3) a1 a2, mq (sm4 a0 a1 a2 a3) a2 a3, mq (sm4 a0 a1 a2 a3) a3 a0, mq (sm4 a4 a5 a6 a7) a4 a5, mq (sm4 a4 a5 a6 a7) a5 a6, mq (sm4 a4 a5 a6 a7) a6 a7, mq (sm4 a4 a5 a6 a7) a7 a4, mq (sm4 a8 a9 b0 b1) a8 a9, mq (sm4 a8 a9 b0 b1) a9 b0, mq (sm4 a8 a9 b0 b1) b0 b1, mq (sm4 a8 a9 b0 b1) b1 a8, mq (sm4 b2 b3 b4 b5) b2 b3, mq (sm4 b2 b3 b4 b5) b3 b4, mq (sm4 b2 b3 b4 b5) b4 b5, mq (sm4 b2 b3 b4 b5) b5 b2] := rfl
def c4 (a b c d : Nat) : Nat := ((prd a 2 ^^^ prd b 3) ^^^ c) ^^^ d
theorem mq_c4 {a b c d : Nat} (ha : a < 256) (hb : b < 256) : mq (sm4 a b c d) a b = c4 a b c d := by
  unfold mq sm4 c4
  rw [prd2 a ha, prd3 b hb, twx ha hb]
  simp only [Nat.xor_assoc, Nat.xor_comm, xlc, xcl]
theorem sm4r (a b c d : Nat) : sm4 a b c d = sm4 b c d a := by
  unfold sm4
  ac_rfl
theorem l16c {a0 a1 a2 a3 a4 a5 a6 a7 a8 a9 b0 b1 b2 b3 b4 b5 c0 c1 c2 c3 c4 c5 c6 c7 c8 c9 d0 d1 d2 d3 d4 d5 : Nat} (h0 : a0 = c0) (h1 : a1 = c1) (h2 : a2 = c2) (h3 : a3 = c3) (h4 : a4 = c4) (h5 : a5 = c5) (h6 : a6 = c6) (h7 : a7 = c7) (h8 : a8 = c8) (h9 : a9 = c9) (g0 : b0 = d0) (g1 : b1 = d1) (g2 : b2 = d2) (g3 : b3 = d3) (g4 : b4 = d4) (g5 : b5 = d5) : [a0, a1, a2, a3, a4, a5, a6, a7, a8, a9, b0, b1, b2, b3, b4, b5] = [c0, c1, c2, c3, c4, c5, c6, c7, c8, c9, d0, d1, d2, d3, d4, d5] := by
  rw [h0, h1, h2, h3, h4, h5, h6, h7, h8, h9, g0, g1, g2, g3, g4, g5]
/-- the reference's mixing where it mixes -/
def mmq (M : List Nat) (k : Nat) (B : List Nat) : List Nat := B.set k (((prd (M.getD (k / 4 * 4 + k % 4) 0) 2 ^^^ prd (M.getD (k / 4 * 4 + (k % 4 + 1) % 4) 0) 3) ^^^ M.getD (k / 4 * 4 + (k % 4 + 2) % 4) 0) ^^^ M.getD (k / 4 * 4 + (k % 4 + 3) % 4) 0)
theorem mmx_q {r : Nat} (hr : r ≠ 10) (M : List Nat) : mmx r M = mmq M := by
  funext k B
  unfold mmx mmq
  rw [if_neg hr]
theorem mmx_10 (M : List Nat) : mmx 10 M = cp1 M := rfl
theorem mmq_ex (a0 a1 a2 a3 a4 a5 a6 a7 a8 a9 b0 b1 b2 b3 b4 b5 : Nat) {B : List Nat} (hB : B.length = 16) : it (mmq [a0, a1, a2, a3, a4, a5, a6, a7, a8, a9, b0, b1, b2, b3, b4, b5]) 0 16 B = [c4 a0 a1 a2 a3, c4 a1 a2 a3 a0, c4 a2 a3 a0 a1, c4 a3 a0 a1 a2, c4 a4 a5 a6 a7, c4 a5 a6 a7 a4, c4 a6 a7 a4 a5, c4 a7 a4 a5 a6, c4 a8 a9 b0 b1, c4 a9 b0 b1 a8, c4 b0 b1 a8 a9, c4 b1 a8 a9 b0, c4 b2 b3 b4 b5, c4 b3 b4 b5 b2, c4 b4 b5 b2 b3, c4 b5 b2 b3 b4] := by
  obtain ⟨c0, c1, c2, c3, c4, c5, c6, c7, c8, c9, d0, d1, d2, d3, d4, d5, rfl⟩ := len16 hB
  rfl
theorem mq1 {a b c d : Nat} (hb : b < 256) (hc : c < 256) : mq (sm4 a b c d) b c = c4 b c d a := by rw [sm4r]; exact mq_c4 hb hc
theorem mq2 {a b c d : Nat} (hc : c < 256) (hd : d < 256) : mq (sm4 a b c d) c d = c4 c d a b := by rw [sm4r]; exact mq1 hc hd
theorem mq3 {a b c d : Nat} (hd : d < 256) (ha : a < 256) : mq (sm4 a b c d) d a = c4 d a b c := by rw [sm4r]; exact mq2 hd ha
theorem by16 {a0 a1 a2 a3 a4 a5 a6 a7 a8 a9 b0 b1 b2 b3 b4 b5 : Nat} (h : by8 [a0, a1, a2, a3, a4, a5, a6, a7, a8, a9, b0, b1, b2, b3, b4, b5]) : (a0 < 256 ∧ a1 < 256 ∧ a2 < 256 ∧ a3 < 256) ∧ (a4 < 256 ∧ a5 < 256 ∧ a6 < 256 ∧ a7 < 256) ∧ (a8 < 256 ∧ a9 < 256 ∧ b0 < 256 ∧ b1 < 256) ∧ b2 < 256 ∧ b3 < 256 ∧ b4 < 256 ∧ b5 < 256 :=
  ⟨⟨h.at 0, h.at 1, h.at 2, h.at 3⟩, ⟨h.at 4, h.at 5, h.at 6, h.at 7⟩, ⟨h.at 8, h.at 9, h.at 10, h.at 11⟩, h.at 12, h.at 13, h.at 14, h.at 15⟩
theorem mix_eq {M B : List Nat} (hM : l16 M) (hB : B.length = 16) : mix M = it (mmq M) 0 16 B := by
  obtain ⟨h1, h8⟩ := hM
  obtain ⟨a0, a1, a2, a3, a4, a5, a6, a7, a8, a9, b0, b1, b2, b3, b4, b5, rfl⟩ := len16 h1
  obtain ⟨⟨x0, x1, x2, x3⟩, ⟨x4, x5, x6, x7⟩, ⟨x8, x9, y0, y1⟩, y2, y3, y4, y5⟩ := by16 h8
  rw [mmq_ex _ _ _ _ _ _ _ _ _ _ _ _ _ _ _ _ hB, mix_ex]
  exact l16c (mq_c4 x0 x1) (mq1 x1 x2) (mq2 x2 x3) (mq3 x3 x0) (mq_c4 x4 x5) (mq1 x5 x6) (mq2 x6 x7) (mq3 x7 x4) (mq_c4 x8 x9) (mq1 x9 y0) (mq2 y0 y1) (mq3 y1 x8) (mq_c4 y2 y3) (mq1 y3 y4) (mq2 y4 y5) (mq3 y5 y2)
theorem sub_eq {T X M : List Nat} (hX : X.length = 16) (hM : M.length = 16) : it (sb T X) 0 16 X = it (msv T X) 0 4 M := by
  obtain ⟨a0, a1, a2, a3, a4, a5, a6, a7, a8, a9, b0, b1, b2, b3, b4, b5, rfl⟩ := len16 hX
  obtain ⟨c0, c1, c2, c3, c4, c5, c6, c7, c8, c9, d0, d1, d2, d3, d4, d5, rfl⟩ := len16 hM
  rfl
/-- the desk's round keys are the bytes of the reference's words -/
def kr (f : Nat) (W K : List Nat) : Prop := ∀ k, k < 176 → K.getD k 0 = bo (W.getD (f + k / 4) 0) (k % 4)
theorem ark_mak {f : Nat} {W K : List Nat} (h : kr f W K) {r : Nat} (hr : r ≤ 10) (S : List Nat) : it (ark K r) 0 16 S = it (mak W f r) 0 16 S :=
  it_congr 16 0 S (fun j s _ h2 => by
    unfold ark mak
    rw [h (16 * r + j) (by omega)]
    unfold bo
    rw [show f + (16 * r + j) / 4 = f + 4 * r + j / 4 by omega, show (16 * r + j) % 4 = j % 4 by omega])
theorem rnd_eq {f : Nat} {FO W K : List Nat} (hF : by8 FO) (h : kr f W K) {r : Nat} (hr : r ≤ 10) {X M : List Nat} (hX : l16 X) (hM : M.length = 16) : rnd FO K r X = (mrd FO W f r (X, M)).1 := by
  unfold rnd mrd
  dsimp only
  rw [ark_mak h hr, List.take_of_length_le (Nat.le_of_eq hX.1), sub_eq hX.1 hM]
  have hs : l16 (it (msv FO X) 0 4 M) := by
    rw [← sub_eq hX.1 hM]
    exact ⟨by rw [sbs_len]; exact hX.1, sb8 hF X 16 0 hX.2⟩
  congr 1
  by_cases h10 : r = 10
  · subst h10
    rw [if_neg (by omega), mmx_10, cp16 hs.1 hX.1]
  · rw [if_pos (by omega), mmx_q h10]
    exact mix_eq hs hX.1
theorem it_app {f : Nat → List Nat → List Nat} {Y : List Nat} {m : Nat} (n k : Nat) (X : List Nat) (hf : ∀ j X, k ≤ j → j < k + n → X.length = m → (f j X).length = m ∧ f j (X ++ Y) = f j X ++ Y) (hX : X.length = m) : it f k n (X ++ Y) = it f k n X ++ Y :=
  (it_hom (fun X => X ++ Y) (fun X => X.length = m) n k X (fun j s h1 h2 hI => ⟨(hf j s h1 h2 hI).1, (hf j s h1 h2 hI).2.symm⟩) hX).symm
theorem ark_app {K : List Nat} {r j : Nat} {X Y : List Nat} (h : j < X.length) : ark K r j (X ++ Y) = ark K r j X ++ Y := by
  unfold ark
  rw [st_l h, gd_l h]
theorem arks_app {K : List Nat} {r : Nat} {X Y : List Nat} (h : X.length = 16) : it (ark K r) 0 16 (X ++ Y) = it (ark K r) 0 16 X ++ Y :=
  it_app (m := 16) 16 0 X (fun j Z _ h2 hZ => ⟨by rw [ark_len]; exact hZ, ark_app (by omega)⟩) h
theorem sbs_app {T X0 X Y : List Nat} (h : X.length = 16) : it (sb T X0) 0 16 (X ++ Y) = it (sb T X0) 0 16 X ++ Y :=
  it_app (m := 16) 16 0 X (fun j Z _ h2 hZ => ⟨by rw [sb_len]; exact hZ, by unfold sb; rw [st_l (by omega)]⟩) h
theorem pb16 (j : Nat) : pb j < 16 := Nat.mod_lt _ (by omega)
theorem sbBs_app {T X0 X Y : List Nat} (h : X.length = 16) : it (sbB T X0) 0 16 (X ++ Y) = it (sbB T X0) 0 16 X ++ Y :=
  it_app (m := 16) 16 0 X (fun j Z _ h2 hZ => ⟨by rw [sbB_len]; exact hZ, by unfold sbB; rw [st_l (by rw [hZ]; exact pb16 j)]⟩) h
theorem mxs_app {k : Nat} {X Y : List Nat} (h : k + 3 < X.length) : mxs k (X ++ Y) = mxs k X ++ Y := by
  unfold mxs
  rw [gd_l (show k < X.length by omega), gd_l (show k + 1 < X.length by omega), gd_l (show k + 2 < X.length by omega), gd_l h, st_l (show k < X.length by omega), st_l (by rw [List.length_set]; omega), st_l (by rw [List.length_set, List.length_set]; omega), st_l (by rw [List.length_set, List.length_set, List.length_set]; omega)]
theorem mix_app {X Y : List Nat} (h : X.length = 16) : mix (X ++ Y) = mix X ++ Y :=
  it_app (m := 16) 4 0 X (fun j Z _ h2 hZ => ⟨by rw [mxs_len]; exact hZ, mxs_app (by omega)⟩) h
theorem unmix_app {X Y : List Nat} (h : X.length = 16) : unmix (X ++ Y) = unmix X ++ Y := by
  unfold unmix
  rw [mix_app h, mix_app (by rw [mix_len]; exact h), mix_app (by rw [mix_len, mix_len]; exact h)]
theorem tk_app {X Y : List Nat} (h : X.length = 16) : (X ++ Y).take 16 = X.take 16 := by
  rw [List.take_append_of_le_length (Nat.le_of_eq h.symm)]
theorem rnd_app {FO K : List Nat} {r : Nat} {X Y : List Nat} (h : X.length = 16) : rnd FO K r (X ++ Y) = rnd FO K r X ++ Y := by
  unfold rnd
  rw [tk_app h, sbs_app h]
  have h1 : (it (sb FO (X.take 16)) 0 16 X).length = 16 := by rw [sbs_len]; exact h
  by_cases h10 : r < 10
  · rw [if_pos h10, if_pos h10, mix_app h1, arks_app (by rw [mix_len]; exact h1)]
  · rw [if_neg h10, if_neg h10, arks_app h1]
theorem trn_app {FO K X Y : List Nat} (h : X.length = 16) : trn FO K (X ++ Y) = trn FO K X ++ Y := by
  unfold trn
  rw [arks_app h]
  exact it_app (m := 16) 10 0 _ (fun j Z _ h2 hZ => ⟨by rw [rnd_len]; exact hZ, rnd_app hZ⟩) (by rw [arks_len]; exact h)
theorem rndB_app {BA K : List Nat} {r : Nat} {X Y : List Nat} (h : X.length = 16) : rndB BA K r (X ++ Y) = rndB BA K r X ++ Y := by
  unfold rndB
  have h1 : (it (ark K r) 0 16 X).length = 16 := by rw [arks_len]; exact h
  have h2 : (unmix (it (ark K r) 0 16 X)).length = 16 := by rw [unmix_len]; exact h1
  rw [arks_app h]
  by_cases h10 : r < 10
  · rw [if_pos h10, if_pos h10, unmix_app h1, tk_app h2, sbBs_app h2]
  · rw [if_neg h10, if_neg h10, tk_app h1, sbBs_app h1]
theorem trnB_app {BA K X Y : List Nat} (h : X.length = 16) : trnB BA K (X ++ Y) = trnB BA K X ++ Y := by
  unfold trnB
  rw [it_app (m := 16) (f := fun i => rndB BA K (10 - i)) 10 0 X (fun j Z _ h2 hZ => ⟨by rw [rndB_len]; exact hZ, rndB_app hZ⟩) h]
  exact arks_app (it_inv (fun Z : List Nat => Z.length = 16) 10 0 X (fun j Z _ _ hZ => by rw [rndB_len]; exact hZ) h)
/-- what the block cipher makes of 16 bytes -/
theorem trn_enc {f : Nat} {FO W K : List Nat} (hF : by8 FO) (hK : by8 K) (h : kr f W K) {X : List Nat} (hX : l16 X) : trn FO K X = enc FO W f X := by
  unfold trn enc menc
  dsimp only
  rw [ark_mak h (by omega)]
  have h0 : l16 (it (mak W f 0) 0 16 X) := ⟨by rw [it_len (mak_len W f 0)]; exact hX.1, mak8 W f 0 0 16 hX.2⟩
  exact (it_hom (f := fun i => mrd FO W f (i + 1)) (f' := fun i => rnd FO K (i + 1)) (fun q : List Nat × List Nat => q.1) bm16 10 0 (it (mak W f 0) 0 16 X, z16) (fun j q _ h2 hq => ⟨mrd_ok hF W f (j + 1) hq, (rnd_eq hF h (by omega) ⟨hq.1, hq.2.1⟩ hq.2.2.1).symm⟩) ⟨h0.1, h0.2, rfl, z16_8⟩).symm
/-! back -/
def mumq (B : List Nat) (k : Nat) (M : List Nat) : List Nat := M.set k (((prd (B.getD (k / 4 * 4 + k % 4) 0) 14 ^^^ prd (B.getD (k / 4 * 4 + (k % 4 + 1) % 4) 0) 11) ^^^ prd (B.getD (k / 4 * 4 + (k % 4 + 2) % 4) 0) 13) ^^^ prd (B.getD (k / 4 * 4 + (k % 4 + 3) % 4) 0) 9)
theorem mum_q {r : Nat} (hr : r ≠ 10) (B : List Nat) : mum r B = mumq B := by
  funext k M
  unfold mum mumq
  rw [if_neg hr]
theorem mum_10 (B : List Nat) : mum 10 B = cp1 B := rfl
def e4 (a b c d : Nat) : Nat := ((prd a 14 ^^^ prd b 11) ^^^ prd c 13) ^^^ prd d 9
theorem mumq_ex (a0 a1 a2 a3 a4 a5 a6 a7 a8 a9 b0 b1 b2 b3 b4 b5 : Nat) {B : List Nat} (hB : B.length = 16) : it (mumq [a0, a1, a2, a3, a4, a5, a6, a7, a8, a9, b0, b1, b2, b3, b4, b5]) 0 16 B = [e4 a0 a1 a2 a3, e4 a1 a2 a3 a0, e4 a2 a3 a0 a1, e4 a3 a0 a1 a2, e4 a4 a5 a6 a7, e4 a5 a6 a7 a4, e4 a6 a7 a4 a5, e4 a7 a4 a5 a6, e4 a8 a9 b0 b1, e4 a9 b0 b1 a8, e4 b0 b1 a8 a9, e4 b1 a8 a9 b0, e4 b2 b3 b4 b5, e4 b3 b4 b5 b2, e4 b4 b5 b2 b3, e4 b5 b2 b3 b4] := by
  obtain ⟨c0, c1, c2, c3, c4, c5, c6, c7, c8, c9, d0, d1, d2, d3, d4, d5, rfl⟩ := len16 hB
  rfl
theorem mq8 {s x y : Nat} (hs : s < 256) (hx : x < 256) (hy : y < 256) : mq s x y < 256 := xor8 (xor8 hx hs) (tw8 _ (xor8 hx hy))
theorem sm48 {a b c d : Nat} (ha : a < 256) (hb : b < 256) (hc : c < 256) (hd : d < 256) : sm4 a b c d < 256 := xor8 (xor8 (xor8 ha hb) hc) hd
/-- the sum of a column stays -/
theorem sm4s {a b c d : Nat} (ha : a < 256) (hb : b < 256) (hc : c < 256) (hd : d < 256) : sm4 (mq (sm4 a b c d) a b) (mq (sm4 a b c d) b c) (mq (sm4 a b c d) c d) (mq (sm4 a b c d) d a) = sm4 a b c d := by
  unfold mq
  rw [twx ha hb, twx hb hc, twx hc hd, twx hd ha]
  generalize hse : sm4 a b c d = s
  unfold sm4 at *
  rw [← hse]
  simp only [Nat.xor_assoc, Nat.xor_comm, xlc, xcl, Nat.xor_self, Nat.xor_zero]
/-- twice mixed -/
theorem mq_mq {a b c s : Nat} (ha : a < 256) (hb : b < 256) (hc : c < 256) (hs : s < 256) : mq s (mq s a b) (mq s b c) = a ^^^ tw (tw (a ^^^ c)) := by
  unfold mq
  rw [show (a ^^^ s ^^^ tw (a ^^^ b) ^^^ (b ^^^ s ^^^ tw (b ^^^ c))) = (a ^^^ b) ^^^ tw (a ^^^ c) by
    rw [twx ha hb, twx hb hc, twx ha hc]
    simp only [Nat.xor_assoc, Nat.xor_comm, xlc, xcl, Nat.xor_self, Nat.xor_zero]]
  rw [twx (xor8 ha hb) (tw8 _ (xor8 ha hc))]
  simp only [Nat.xor_assoc, Nat.xor_comm, xlc, xcl, Nat.xor_self, Nat.xor_zero]
theorem e4_eq {a b c d : Nat} (ha : a < 256) (hb : b < 256) (hc : c < 256) (hd : d < 256) : mq (sm4 a b c d) (a ^^^ tw (tw (a ^^^ c))) (b ^^^ tw (tw (b ^^^ d))) = e4 a b c d := by
  unfold mq e4 sm4
  have A := tw8 a ha
  have B := tw8 b hb
  have C := tw8 c hc
  have D := tw8 d hd
  have A2 := tw8 _ A
  have B2 := tw8 _ B
  have C2 := tw8 _ C
  have D2 := tw8 _ D
  rw [prd14 a ha, prd11 b hb, prd13 c hc, prd9 d hd, twx ha hc, twx A C, twx hb hd, twx B D, twx (xor8 ha (xor8 A2 C2)) (xor8 hb (xor8 B2 D2)), twx ha (xor8 A2 C2), twx hb (xor8 B2 D2), twx A2 C2, twx B2 D2]
  simp only [Nat.xor_assoc, Nat.xor_comm, xlc, xcl, Nat.xor_self, Nat.xor_zero]
/-- a column, three times mixed -/
theorem col3 {a b c d : Nat} (ha : a < 256) (hb : b < 256) (hc : c < 256) (hd : d < 256) :
    let s := sm4 a b c d
    let a1 := mq s a b
    let b1 := mq s b c
    let c1 := mq s c d
    let d1 := mq s d a
    let s1 := sm4 a1 b1 c1 d1
    let a2 := mq s1 a1 b1
    let b2 := mq s1 b1 c1
    let c2 := mq s1 c1 d1
    let d2 := mq s1 d1 a1
    let s2 := sm4 a2 b2 c2 d2
    mq s2 a2 b2 = e4 a b c d ∧ mq s2 b2 c2 = e4 b c d a ∧ mq s2 c2 d2 = e4 c d a b ∧ mq s2 d2 a2 = e4 d a b c := by
  intro s a1 b1 c1 d1 s1 a2 b2 c2 d2 s2
  have hs : s < 256 := sm48 ha hb hc hd
  have e1 : s1 = s := sm4s ha hb hc hd
  have A : a1 < 256 := mq8 hs ha hb
  have B : b1 < 256 := mq8 hs hb hc
  have C : c1 < 256 := mq8 hs hc hd
  have D : d1 < 256 := mq8 hs hd ha
  have e2 : s2 = s := (sm4s A B C D).trans e1
  have fa : a2 = a ^^^ tw (tw (a ^^^ c)) := by show mq s1 a1 b1 = _; rw [e1]; exact mq_mq ha hb hc hs
  have fb : b2 = b ^^^ tw (tw (b ^^^ d)) := by show mq s1 b1 c1 = _; rw [e1]; exact mq_mq hb hc hd hs
  have fc : c2 = c ^^^ tw (tw (c ^^^ a)) := by show mq s1 c1 d1 = _; rw [e1]; exact mq_mq hc hd ha hs
  have fd : d2 = d ^^^ tw (tw (d ^^^ b)) := by show mq s1 d1 a1 = _; rw [e1]; exact mq_mq hd ha hb hs
  rw [e2, fa, fb, fc, fd]
  refine ⟨e4_eq ha hb hc hd, ?_, ?_, ?_⟩
  · show mq (sm4 a b c d) _ _ = _
    rw [sm4r]
    exact e4_eq hb hc hd ha
  · show mq (sm4 a b c d) _ _ = _
    rw [sm4r, sm4r]
    exact e4_eq hc hd ha hb
  · show mq (sm4 a b c d) _ _ = _
    rw [sm4r, sm4r, sm4r]
    exact e4_eq hd ha hb hc
theorem unmix_eq {M B : List Nat} (hM : l16 M) (hB : B.length = 16) : unmix M = it (mumq M) 0 16 B := by
  obtain ⟨h1, h8⟩ := hM
  obtain ⟨a0, a1, a2, a3, a4, a5, a6, a7, a8, a9, b0, b1, b2, b3, b4, b5, rfl⟩ := len16 h1
  obtain ⟨⟨x0, x1, x2, x3⟩, ⟨x4, x5, x6, x7⟩, ⟨x8, x9, y0, y1⟩, y2, y3, y4, y5⟩ := by16 h8
  rw [mumq_ex _ _ _ _ _ _ _ _ _ _ _ _ _ _ _ _ hB]
  unfold unmix
  rw [mix_ex, mix_ex, mix_ex]
  obtain ⟨p0, p1, p2, p3⟩ := col3 x0 x1 x2 x3
  obtain ⟨p4, p5, p6, p7⟩ := col3 x4 x5 x6 x7
  obtain ⟨p8, p9, q0, q1⟩ := col3 x8 x9 y0 y1
  obtain ⟨q2, q3, q4, q5⟩ := col3 y2 y3 y4 y5
  exact l16c p0 p1 p2 p3 p4 p5 p6 p7 p8 p9 q0 q1 q2 q3 q4 q5
theorem sbB_ex (U : List Nat) (a0 a1 a2 a3 a4 a5 a6 a7 a8 a9 b0 b1 b2 b3 b4 b5 : Nat) (c0 c1 c2 c3 c4 c5 c6 c7 c8 c9 d0 d1 d2 d3 d4 d5 : Nat) : it (sbB U [a0, a1, a2, a3, a4, a5, a6, a7, a8, a9, b0, b1, b2, b3, b4, b5]) 0 16 [c0, c1, c2, c3, c4, c5, c6, c7, c8, c9, d0, d1, d2, d3, d4, d5] = it (muv U [a0, a1, a2, a3, a4, a5, a6, a7, a8, a9, b0, b1, b2, b3, b4, b5]) 0 4 [c0, c1, c2, c3, c4, c5, c6, c7, c8, c9, d0, d1, d2, d3, d4, d5] := by
  simp only [it, sbB, muv, mub, pb, Nat.reduceAdd, Nat.reduceMul, Nat.reduceMod, Nat.zero_add, Nat.mul_zero, Nat.add_zero, Nat.zero_mod]
theorem muv_ind {U X B B2 : List Nat} (hX : X.length = 16) (hB : B.length = 16) (h2 : B2.length = 16) : it (muv U X) 0 4 B = it (muv U X) 0 4 B2 := by
  obtain ⟨a0, a1, a2, a3, a4, a5, a6, a7, a8, a9, b0, b1, b2, b3, b4, b5, rfl⟩ := len16 hB
  obtain ⟨c0, c1, c2, c3, c4, c5, c6, c7, c8, c9, d0, d1, d2, d3, d4, d5, rfl⟩ := len16 h2
  simp only [it, muv, mub, Nat.reduceAdd, Nat.reduceMul, Nat.reduceMod, Nat.zero_add, Nat.mul_zero, Nat.add_zero, Nat.zero_mod]
  rfl
theorem subB_eq {U X B : List Nat} (hX : X.length = 16) (hB : B.length = 16) : it (sbB U X) 0 16 X = it (muv U X) 0 4 B := by
  refine Eq.trans ?_ (muv_ind hX hX hB)
  obtain ⟨a0, a1, a2, a3, a4, a5, a6, a7, a8, a9, b0, b1, b2, b3, b4, b5, rfl⟩ := len16 hX
  exact sbB_ex _ _ _ _ _ _ _ _ _ _ _ _ _ _ _ _ _ _ _ _ _ _ _ _ _ _ _ _ _ _ _ _ _
theorem rndB_eq {f : Nat} {BA W K : List Nat} (h : kr f W K) {r : Nat} (hr : r ≤ 10) {X M : List Nat} (hX : l16 X) (hM : M.length = 16) : rndB BA K r X = (mrb BA W f r (X, M)).1 := by
  unfold rndB mrb
  dsimp only
  rw [ark_mak h hr]
  have hs : l16 (it (mak W f r) 0 16 X) := ⟨by rw [it_len (mak_len W f r)]; exact hX.1, mak8 W f r 0 16 hX.2⟩
  by_cases h10 : r = 10
  · subst h10
    rw [if_neg (by omega), mum_10, cp16 hs.1 hM, List.take_of_length_le (Nat.le_of_eq hs.1)]
    exact subB_eq hs.1 hs.1
  · have hu : (unmix (it (mak W f r) 0 16 X)).length = 16 := by rw [unmix_len]; exact hs.1
    rw [if_pos (by omega), mum_q h10, ← unmix_eq hs hM, List.take_of_length_le (Nat.le_of_eq hu)]
    exact subB_eq hu hs.1
theorem trnB_dec {f : Nat} {BA W K : List Nat} (hB : by8 BA) (h : kr f W K) {X : List Nat} (hX : l16 X) : trnB BA K X = dec BA W f X := by
  unfold trnB dec mdec
  dsimp only
  rw [ark_mak h (by omega)]
  refine congrArg (it (mak W f 0) 0 16) ?_
  exact (it_hom (f := fun i => mrb BA W f (10 - i)) (f' := fun i => rndB BA K (10 - i)) (fun q : List Nat × List Nat => q.1) bm16 10 0 (X, z16) (fun j q _ h2 hq => ⟨mrb_ok hB W f (10 - j) hq, (rndB_eq h (by omega) ⟨hq.1, hq.2.1⟩ hq.2.2.1).symm⟩) ⟨hX.1, hX.2, rfl, z16_8⟩).symm
theorem it_add {α : Type} {f : Nat → α → α} : ∀ (a k b : Nat) (s : α), it f k (a + b) s = it f (k + a) b (it f k a s)
  | 0, k, b, s => by rw [Nat.zero_add, Nat.add_zero]; rfl
  | a + 1, k, b, s => by
    rw [show a + 1 + b = (a + b) + 1 by omega, it_succ, it_add a (k + 1) b, it_succ, show k + 1 + a = k + (a + 1) by omega]
theorem it_blk {α : Type} {f : Nat → α → α} (a b : Nat) : ∀ (n k : Nat) (s : α), it f (a + b * k) (b * n) s = it (fun i => it f (a + b * i) b) k n s
  | 0, k, s => rfl
  | n + 1, k, s => by
    rw [show b * (n + 1) = b + b * n by rw [Nat.mul_succ]; omega, it_add, it_succ, show a + b * k + b = a + b * (k + 1) by rw [Nat.mul_succ]; omega, it_blk a b n (k + 1)]
theorem it_fill {f : Nat → List Nat → List Nat} {g : Nat → Nat} {R : List Nat} (p K N : Nat) (hl : p + K + N ≤ R.length)
    (hf : ∀ j S, K ≤ j → j < K + N → S.length = R.length → (∀ q, (q < p + K ∨ p + K + N ≤ q) → S.getD q 0 = R.getD q 0) → (∀ i, K ≤ i → i < j → S.getD (p + i) 0 = g i) → (∀ i, j ≤ i → i < K + N → S.getD (p + i) 0 = R.getD (p + i) 0) → f j S = S.set (p + j) (g j)) :
    ∀ (d i : Nat) (S : List Nat), i + d = K + N → K ≤ i → S.length = R.length → (∀ q, (q < p + K ∨ p + K + N ≤ q) → S.getD q 0 = R.getD q 0) → (∀ i', K ≤ i' → i' < i → S.getD (p + i') 0 = g i') → (∀ i', i ≤ i' → i' < K + N → S.getD (p + i') 0 = R.getD (p + i') 0) →
      (it f i d S).length = R.length ∧ (∀ q, (q < p + K ∨ p + K + N ≤ q) → (it f i d S).getD q 0 = R.getD q 0) ∧ ∀ j, K ≤ j → j < K + N → (it f i d S).getD (p + j) 0 = g j
  | 0, i, S, hi, hk, h1, h2, h3, _ => ⟨h1, h2, fun j a b => h3 j a (by omega)⟩
  | d + 1, i, S, hi, hk, h1, h2, h3, h4 => by
    rw [it_succ, hf i S hk (by omega) h1 h2 h3 h4]
    refine it_fill p K N hl hf d (i + 1) _ (by omega) (by omega) (by rw [List.length_set]; exact h1) (fun q hq => ?_) (fun i' a b => ?_) (fun i' a b => ?_)
    · rw [gd_set, if_neg (by omega)]
      exact h2 q hq
    · rw [gd_set]
      by_cases hi' : i' = i
      · rw [if_pos ⟨by omega, by omega⟩, hi']
      · rw [if_neg (by omega)]
        exact h3 i' a (by omega)
    · rw [gd_set, if_neg (by omega)]
      exact h4 i' (by omega) b
/-- a loop that sets one place after the other -/
theorem it_fil {f : Nat → List Nat → List Nat} {g : Nat → Nat} {R : List Nat} (p K N : Nat) (hl : p + K + N ≤ R.length)
    (hf : ∀ j S, K ≤ j → j < K + N → S.length = R.length → (∀ q, (q < p + K ∨ p + K + N ≤ q) → S.getD q 0 = R.getD q 0) → (∀ i, K ≤ i → i < j → S.getD (p + i) 0 = g i) → (∀ i, j ≤ i → i < K + N → S.getD (p + i) 0 = R.getD (p + i) 0) → f j S = S.set (p + j) (g j)) :
    (it f K N R).length = R.length ∧ (∀ q, (q < p + K ∨ p + K + N ≤ q) → (it f K N R).getD q 0 = R.getD q 0) ∧ ∀ j, K ≤ j → j < K + N → (it f K N R).getD (p + j) 0 = g j :=
  it_fill p K N hl hf N K R rfl (Nat.le_refl _) rfl (fun _ _ => rfl) (fun i a b => by omega) (fun _ _ _ => rfl)
theorem and255 (x : Nat) : x &&& 255 = x % 256 := Nat.and_two_pow_sub_one_eq_mod x 8
theorem bo_xor (x y k : Nat) : bo (x ^^^ y) k = bo x k ^^^ bo y k := by
  unfold bo
  have h := Nat.shiftRight_xor_distrib (a := x) (b := y) (i := 24 - 8 * k)
  rw [Nat.shiftRight_eq_div_pow, Nat.shiftRight_eq_div_pow, Nat.shiftRight_eq_div_pow] at h
  rw [h, Nat.and_xor_distrib_right]
theorem or_add {a b i : Nat} (h : b < 2 ^ i) : a * 2 ^ i ||| b = a * 2 ^ i + b := by
  rw [Nat.mul_comm, Nat.two_pow_add_eq_or_of_lt h]
theorem chg_sum {A B C D : Nat} (hB : B < 256) (hC : C < 256) (hD : D < 256) : ((A * 2 ^ 24 ||| B * 2 ^ 16) ||| C * 2 ^ 8) ||| D = A * 2 ^ 24 + B * 2 ^ 16 + C * 2 ^ 8 + D := by
  rw [or_add (show B * 2 ^ 16 < 2 ^ 24 by omega)]
  rw [show A * 2 ^ 24 + B * 2 ^ 16 = (A * 2 ^ 8 + B) * 2 ^ 16 by omega, or_add (show C * 2 ^ 8 < 2 ^ 16 by omega)]
  rw [show (A * 2 ^ 8 + B) * 2 ^ 16 + C * 2 ^ 8 = ((A * 2 ^ 8 + B) * 2 ^ 8 + C) * 2 ^ 8 by omega, or_add (show D < 2 ^ 8 by omega)]
theorem bo_chg {T : List Nat} (hT : by8 T) (w : Nat) {k : Nat} (hk : k < 4) : bo (chg T w) k = T.getD (bo w k) 0 := by
  have hA := hT.at (w / 2 ^ 24 &&& 255)
  have hB := hT.at (w / 2 ^ 16 &&& 255)
  have hC := hT.at (w / 2 ^ 8 &&& 255)
  have hD := hT.at (w &&& 255)
  unfold chg
  rw [chg_sum hB hC hD]
  have hc : k = 0 ∨ k = 1 ∨ k = 2 ∨ k = 3 := by omega
  rcases hc with rfl | rfl | rfl | rfl
  · show (_ / 2 ^ 24) &&& 255 = T.getD (w / 2 ^ 24 &&& 255) 0
    rw [and255]
    omega
  · show (_ / 2 ^ 16) &&& 255 = T.getD (w / 2 ^ 16 &&& 255) 0
    rw [and255 ((_ : Nat) / 2 ^ 16)]
    omega
  · show (_ / 2 ^ 8) &&& 255 = T.getD (w / 2 ^ 8 &&& 255) 0
    rw [and255 ((_ : Nat) / 2 ^ 8)]
    omega
  · show (_ / 2 ^ 0) &&& 255 = T.getD (w / 2 ^ 0 &&& 255) 0
    rw [Nat.pow_zero, Nat.div_one, Nat.div_one, and255 (_ + T.getD (w &&& 255) 0)]
    omega
theorem rot_sum {a b c d : Nat} (ha : a < 256) (hb : b < 256) (hc : c < 256) (hd : d < 256) : rot (a * 2 ^ 24 + b * 2 ^ 16 + c * 2 ^ 8 + d) = b * 2 ^ 24 + c * 2 ^ 16 + d * 2 ^ 8 + a := by
  unfold rot
  rw [show (a * 2 ^ 24 + b * 2 ^ 16 + c * 2 ^ 8 + d) * 2 ^ 8 % 2 ^ 32 = (b * 2 ^ 16 + c * 2 ^ 8 + d) * 2 ^ 8 by omega, show (a * 2 ^ 24 + b * 2 ^ 16 + c * 2 ^ 8 + d) / 2 ^ 24 = a by omega, or_add (show a < 2 ^ 8 by omega)]
  omega
theorem w4 {t : Nat} (h : t < 2 ^ 32) : ∃ a b c d, a < 256 ∧ b < 256 ∧ c < 256 ∧ d < 256 ∧ t = a * 2 ^ 24 + b * 2 ^ 16 + c * 2 ^ 8 + d :=
  ⟨t / 2 ^ 24, t / 2 ^ 16 % 256, t / 2 ^ 8 % 256, t % 256, by omega, by omega, by omega, by omega, by omega⟩
theorem bo4 {a b c d : Nat} (ha : a < 256) (hb : b < 256) (hc : c < 256) (hd : d < 256) : bo (a * 2 ^ 24 + b * 2 ^ 16 + c * 2 ^ 8 + d) 0 = a ∧ bo (a * 2 ^ 24 + b * 2 ^ 16 + c * 2 ^ 8 + d) 1 = b ∧ bo (a * 2 ^ 24 + b * 2 ^ 16 + c * 2 ^ 8 + d) 2 = c ∧ bo (a * 2 ^ 24 + b * 2 ^ 16 + c * 2 ^ 8 + d) 3 = d := by
  refine ⟨?_, ?_, ?_, ?_⟩
  · show (_ / 2 ^ 24) &&& 255 = _
    rw [and255]
    omega
  · show (_ / 2 ^ 16) &&& 255 = _
    rw [and255]
    omega
  · show (_ / 2 ^ 8) &&& 255 = _
    rw [and255]
    omega
  · show (_ / 2 ^ 0) &&& 255 = _
    rw [and255]
    omega
theorem bo_rot {t : Nat} (h : t < 2 ^ 32) {k : Nat} (hk : k < 4) : bo (rot t) k = bo t ((k + 1) % 4) := by
  obtain ⟨a, b, c, d, ha, hb, hc, hd, rfl⟩ := w4 h
  rw [rot_sum ha hb hc hd]
  obtain ⟨p0, p1, p2, p3⟩ := bo4 ha hb hc hd
  obtain ⟨q0, q1, q2, q3⟩ := bo4 hb hc hd ha
  have hcs : k = 0 ∨ k = 1 ∨ k = 2 ∨ k = 3 := by omega
  rcases hcs with rfl | rfl | rfl | rfl
  · exact q0.trans p1.symm
  · exact q1.trans p2.symm
  · exact q2.trans p3.symm
  · exact q3.trans p0.symm
theorem bo_pw {p : Nat} (hp : p < 256) {k : Nat} (hk : k < 4) : bo (p * 2 ^ 24) k = if k = 0 then p else 0 := by
  have hc : k = 0 ∨ k = 1 ∨ k = 2 ∨ k = 3 := by omega
  rcases hc with rfl | rfl | rfl | rfl
  · show (_ / 2 ^ 24) &&& 255 = p
    rw [and255]
    omega
  · show (_ / 2 ^ 16) &&& 255 = 0
    rw [and255]
    omega
  · show (_ / 2 ^ 8) &&& 255 = 0
    rw [and255]
    omega
  · show (_ / 2 ^ 0) &&& 255 = 0
    rw [and255]
    omega
def krm (f m : Nat) (W K : List Nat) : Prop := ∀ k, k < m → K.getD k 0 = bo (W.getD (f + k / 4) 0) (k % 4)
/-- one word more -/
theorem krm.step {f j v : Nat} {W K K' : List Nat} (h : krm f (4 * j) W K) (hj : f + j < W.length) (h1 : ∀ q, q < 4 * j → K'.getD q 0 = K.getD q 0) (h2 : ∀ k, k < 4 → K'.getD (4 * j + k) 0 = bo v k) : krm f (4 * j + 4) (W.set (f + j) v) K' := by
  intro k hk
  rw [gd_set]
  by_cases hc : k < 4 * j
  · rw [if_neg (by omega), h1 k hc]
    exact h k hc
  · rw [if_pos ⟨by omega, hj⟩]
    have := h2 (k % 4) (by omega)
    rw [show 4 * j + k % 4 = k by omega] at this
    exact this
theorem ex2_grp {f s m j : Nat} {W K : List Nat} (hs : s + 4 * m = 4 * j) (hm : 1 ≤ m) (hK : s + 4 * m + 4 ≤ K.length) (h16 : 16 ≤ s) (h : krm f (4 * j) W K) (hW : f + j < W.length) : krm f (4 * j + 4) (W.set (f + j) (W.getD (f + j - 4) 0 ^^^ W.getD (f + j - 1) 0)) (it (ex2 s) (4 * m) 4 K) := by
  obtain ⟨a, b, c⟩ := it_fil (f := ex2 s) (g := fun k => K.getD (s - 16 + k) 0 ^^^ K.getD (s + k - 4) 0) (R := K) s (4 * m) 4 hK (fun i S h1 h2 h3 h4 _ _ => by
    unfold ex2
    rw [h4 (s - 16 + i) (by omega), h4 (s + i - 4) (by omega)])
  refine h.step hW (fun q hq => b q (by omega)) (fun k hk => ?_)
  have := c (4 * m + k) (by omega) (by omega)
  rw [show 4 * j + k = s + (4 * m + k) by omega, this, bo_xor]
  rw [h (s - 16 + (4 * m + k)) (by omega), h (s + (4 * m + k) - 4) (by omega)]
  rw [show f + (s - 16 + (4 * m + k)) / 4 = f + j - 4 by omega, show f + (s + (4 * m + k) - 4) / 4 = f + j - 1 by omega, show (s - 16 + (4 * m + k)) % 4 = k by omega, show (s + (4 * m + k) - 4) % 4 = k by omega]
theorem ex1_grp {f s j pw : Nat} {FO W K : List Nat} (hF : by8 FO) (hs : s = 4 * j) (hK : s + 4 ≤ K.length) (h16 : 16 ≤ s) (h : krm f (4 * j) W K) (hW : f + j < W.length) (h32 : by32 W) (hp : pw < 256) : krm f (4 * j + 4) (W.set (f + j) (W.getD (f + j - 4) 0 ^^^ (chg FO (rot (W.getD (f + j - 1) 0)) ^^^ (pw * 2 ^ 24)))) (exm s pw (it (ex1 FO s) 0 4 K)) := by
  obtain ⟨a, b, c⟩ := it_fil (f := ex1 FO s) (g := fun k => K.getD (s - 16 + k) 0 ^^^ FO.getD (K.getD (s - 4 + (k + 1) % 4) 0) 0) (R := K) s 0 4 (by omega) (fun i S h1 h2 h3 h4 _ _ => by
    unfold ex1
    rw [h4 (s - 16 + i) (by omega), h4 (s - 4 + (i + 1) % 4) (by omega)])
  have hv : ∀ k, k < 4 → K.getD (s - 16 + k) 0 ^^^ FO.getD (K.getD (s - 4 + (k + 1) % 4) 0) 0 = bo (W.getD (f + j - 4) 0) k ^^^ bo (chg FO (rot (W.getD (f + j - 1) 0))) k := by
    intro k hk
    rw [bo_chg hF _ hk, bo_rot (h32.at _) hk, h (s - 16 + k) (by omega), h (s - 4 + (k + 1) % 4) (by omega)]
    rw [show f + (s - 16 + k) / 4 = f + j - 4 by omega, show (s - 16 + k) % 4 = k by omega, show f + (s - 4 + (k + 1) % 4) / 4 = f + j - 1 by omega, show (s - 4 + (k + 1) % 4) % 4 = (k + 1) % 4 by omega]
  refine h.step hW (fun q hq => ?_) (fun k hk => ?_)
  · unfold exm
    rw [gd_set, if_neg (by omega)]
    exact b q (by omega)
  · unfold exm
    rw [gd_set, bo_xor, bo_xor, bo_pw hp hk]
    have hc := c k (by omega) (by omega)
    rw [hv k hk] at hc
    by_cases h0 : k = 0
    · subst h0
      rw [if_pos ⟨by omega, by omega⟩, if_pos rfl]
      rw [Nat.add_zero] at hc
      rw [hc, Nat.xor_assoc]
    · rw [if_neg (by omega), if_neg h0, ← hs, hc, Nat.xor_zero]
theorem exw_r {T : List Nat} {f i : Nat} {p : Nat} {W : List Nat} (hi : i % 4 = 0) : exw T f i (p, W) = (prd p 2, W.set (f + i) (W.getD (f + i - 4) 0 ^^^ (chg T (rot (W.getD (f + i - 1) 0)) ^^^ (p * 2 ^ 24)))) := by
  unfold exw
  rw [if_pos hi]
theorem exw_n {T : List Nat} {f i : Nat} {p : Nat} {W : List Nat} (hi : ¬ i % 4 = 0) : exw T f i (p, W) = (p, W.set (f + i) (W.getD (f + i - 4) 0 ^^^ W.getD (f + i - 1) 0)) := by
  unfold exw
  rw [if_neg hi]
/-- what stands after i rounds -/
def krr (f i : Nat) (q q' : Nat × List Nat) : Prop := q.1 = q'.1 ∧ q'.1 < 256 ∧ q.2.length = 176 ∧ q'.2.length = 88 ∧ by32 q'.2 ∧ krm f (16 + 16 * i) q'.2 q.2
theorem krr_step {f i : Nat} {FO : List Nat} (hF : by8 FO) (hf : f ≤ 44) (hi : i < 10) {q q' : Nat × List Nat} (h : krr f i q q') : krr f (i + 1) (us2 FO i q) (it (exw FO f) (4 + 4 * i) 4 q') := by
  obtain ⟨p, K⟩ := q
  obtain ⟨p', W⟩ := q'
  obtain ⟨h1, h2, h3, h4, h5, h6⟩ := h
  dsimp only at h1 h2 h3 h4 h5 h6
  subst h1
  have x1 := exw_ok hF f (4 + 4 * i) (q := (p, W)) ⟨h2, h4, h5⟩
  rw [exw_r (i := 4 + 4 * i) (by omega)] at x1
  have x2 := exw_ok hF f (4 + 4 * i + 1) x1
  rw [exw_n (i := 4 + 4 * i + 1) (by omega)] at x2
  have x3 := exw_ok hF f (4 + 4 * i + 1 + 1) x2
  rw [exw_n (i := 4 + 4 * i + 1 + 1) (by omega)] at x3
  have x4 := exw_ok hF f (4 + 4 * i + 1 + 1 + 1) x3
  rw [exw_n (i := 4 + 4 * i + 1 + 1 + 1) (by omega)] at x4
  rw [show (4 : Nat) = 0 + 1 + 1 + 1 + 1 from rfl, it_succ, it_succ, it_succ, it_succ, it_zero, show 0 + 1 + 1 + 1 + 1 = 4 from rfl, exw_r (i := 4 + 4 * i) (by omega), exw_n (i := 4 + 4 * i + 1) (by omega), exw_n (i := 4 + 4 * i + 1 + 1) (by omega), exw_n (i := 4 + 4 * i + 1 + 1 + 1) (by omega)]
  have l1 : (exm (16 + 16 * i) p (it (ex1 FO (16 + 16 * i)) 0 4 K)).length = 176 := by unfold exm; rw [List.length_set, it_len (ex1_len FO _)]; exact h3
  have k1 := ex1_grp (f := f) (s := 16 + 16 * i) (j := 4 + 4 * i) (pw := p) (K := K) (W := W) hF (by omega) (by omega) (by omega) (by rw [show 4 * (4 + 4 * i) = 16 + 16 * i by omega]; exact h6) (by omega) h5 h2
  rw [show 4 * (4 + 4 * i) + 4 = 4 * (4 + 4 * i + 1) by omega] at k1
  have k2 := ex2_grp (f := f) (s := 16 + 16 * i) (m := 1) (j := 4 + 4 * i + 1) (by omega) (by omega) (by omega) (by omega) k1 (by rw [x1.2.1]; omega)
  rw [show 4 * (4 + 4 * i + 1) + 4 = 4 * (4 + 4 * i + 1 + 1) by omega] at k2
  have k3 := ex2_grp (f := f) (s := 16 + 16 * i) (m := 2) (j := 4 + 4 * i + 1 + 1) (by omega) (by omega) (by rw [it_len (ex2_len _)]; omega) (by omega) k2 (by rw [x2.2.1]; omega)
  rw [show 4 * (4 + 4 * i + 1 + 1) + 4 = 4 * (4 + 4 * i + 1 + 1 + 1) by omega] at k3
  have k4 := ex2_grp (f := f) (s := 16 + 16 * i) (m := 3) (j := 4 + 4 * i + 1 + 1 + 1) (by omega) (by omega) (by rw [it_len (ex2_len _), it_len (ex2_len _)]; omega) (by omega) k3 (by rw [x3.2.1]; omega)
  refine ⟨?_, x4.1, ?_, x4.2.1, x4.2.2, ?_⟩
  · unfold us2
    exact (prd2 p h2).symm
  · unfold us2
    dsimp only
    rw [exf_len]
    exact h3
  · unfold us2
    dsimp only
    rw [show exf FO (16 + 16 * i) p K = it (ex2 (16 + 16 * i)) (4 * 3) 4 (it (ex2 (16 + 16 * i)) (4 * 2) 4 (it (ex2 (16 + 16 * i)) (4 * 1) 4 (exm (16 + 16 * i) p (it (ex1 FO (16 + 16 * i)) 0 4 K)))) from by
      unfold exf
      rw [show (12 : Nat) = 4 + (4 + 4) from rfl, it_add, it_add]]
    rw [show 16 + 16 * (i + 1) = 4 * (4 + 4 * i + 1 + 1 + 1) + 4 by omega]
    exact k4
theorem krr_all {f : Nat} {FO : List Nat} (hF : by8 FO) (hf : f ≤ 44) : ∀ (n i : Nat) (q q' : Nat × List Nat), i + n ≤ 10 → krr f i q q' → krr f (i + n) (it (us2 FO) i n q) (it (fun i => it (exw FO f) (4 + 4 * i) 4) i n q')
  | 0, i, q, q', _, h => h
  | n + 1, i, q, q', hi, h => by
    have := krr_all hF hf n (i + 1) _ _ (by omega) (krr_step hF hf (by omega) h)
    rw [show i + (n + 1) = i + 1 + n by omega]
    exact this
theorem us1_gd {a b c d : Nat} {R : List Nat} (hR : 16 ≤ R.length) : ∀ k, k < 16 → (it (us1 a b c d) 0 4 R).getD k 0 = bo (if k / 4 = 0 then a else if k / 4 = 1 then b else if k / 4 = 2 then c else d) (k % 4)
  | 0, _ | 1, _ | 2, _ | 3, _ | 4, _ | 5, _ | 6, _ | 7, _ | 8, _ | 9, _ | 10, _ | 11, _ | 12, _ | 13, _ | 14, _ | 15, _ => by
    simp only [it, us1, gd_set, List.length_set]
    simp [show 0 < R.length by omega, show 1 < R.length by omega, show 2 < R.length by omega, show 3 < R.length by omega, show 4 < R.length by omega, show 5 < R.length by omega, show 6 < R.length by omega, show 7 < R.length by omega, show 8 < R.length by omega, show 9 < R.length by omega, show 10 < R.length by omega, show 11 < R.length by omega, show 12 < R.length by omega, show 13 < R.length by omega, show 14 < R.length by omega, show 15 < R.length by omega, show ¬ R = [] from fun q => by rw [q] at hR; simp at hR]
  | k + 16, h => by omega
theorem mk4_gd {f a b c d : Nat} {W : List Nat} (hW : f + 4 ≤ W.length) {k : Nat} (hk : k < 4) : (mk4 f a b c d W).getD (f + k) 0 = if k = 0 then a else if k = 1 then b else if k = 2 then c else d := by
  unfold mk4
  rw [gd_set, gd_set, gd_set, gd_set, List.length_set, List.length_set, List.length_set]
  have hcs : k = 0 ∨ k = 1 ∨ k = 2 ∨ k = 3 := by omega
  rcases hcs with rfl | rfl | rfl | rfl
  · rw [if_neg (by omega), if_neg (by omega), if_neg (by omega), if_pos (by omega)]
    rfl
  · rw [if_neg (by omega), if_neg (by omega), if_pos (by omega)]
    rfl
  · rw [if_neg (by omega), if_pos (by omega)]
    rfl
  · rw [if_pos (by omega)]
    rfl
/-- the keys that the desk makes are those of the reference -/
theorem keys_kr {f : Nat} {FO R W : List Nat} (hF : by8 FO) (hf : f ≤ 44) (hR : R.length = 176) (hW : W.length = 88 ∧ by32 W) {a b c d : Nat} (ha : a < 2 ^ 32) (hb : b < 2 ^ 32) (hc : c < 2 ^ 32) (hd : d < 2 ^ 32) : kr f (mky FO f a b c d W) (keys FO a b c d R) := by
  obtain ⟨x1, x2⟩ := mk4_ok f ha hb hc hd hW
  have h0 : krr f 0 (1, it (us1 a b c d) 0 4 R) (1, mk4 f a b c d W) := by
    refine ⟨rfl, show 1 < 256 by omega, ?_, x1, x2, ?_⟩
    · rw [it_len (us1_len a b c d)]
      exact hR
    · intro k hk
      show (it (us1 a b c d) 0 4 R).getD k 0 = bo ((mk4 f a b c d W).getD (f + k / 4) 0) (k % 4)
      rw [us1_gd (by omega) k (by omega), mk4_gd (by rw [hW.1]; omega) (by omega)]
  have h := krr_all hF hf 10 0 _ _ (by omega) h0
  have e : it (exw FO f) 4 40 (1, mk4 f a b c d W) = it (fun i => it (exw FO f) (4 + 4 * i) 4) 0 10 (1, mk4 f a b c d W) := it_blk 4 4 10 0 _
  unfold mky keys
  rw [e]
  exact h.2.2.2.2.2
theorem mky_gd {T : List Nat} {f a b c d : Nat} {W : List Nat} {q : Nat} (hq : q < f ∨ f + 44 ≤ q) : (mky T f a b c d W).getD q 0 = W.getD q 0 := by
  unfold mky
  refine it_inv (fun p : Nat × List Nat => p.2.getD q 0 = W.getD q 0) 40 4 _ (fun j p h1 h2 hp => ?_) ?_
  · unfold exw
    split
    · dsimp only
      rw [gd_set, if_neg (by omega)]
      exact hp
    · dsimp only
      rw [gd_set, if_neg (by omega)]
      exact hp
  · show (mk4 f a b c d W).getD q 0 = W.getD q 0
    unfold mk4
    rw [gd_set, if_neg (by omega), gd_set, if_neg (by omega), gd_set, if_neg (by omega), gd_set, if_neg (by omega)]
theorem kr_other {f f2 : Nat} {T W K : List Nat} {a b c d : Nat} (h : kr f2 W K) (hf : f2 + 44 ≤ f ∨ f + 44 ≤ f2) : kr f2 (mky T f a b c d W) K := by
  intro k hk
  rw [mky_gd (by omega)]
  exact h k hk
/-! what a loop leaves at a place -/
theorem gd_fil {f : Nat → List Nat → List Nat} {g : Nat → Nat} {R : List Nat} (p K N : Nat) (hl : p + K + N ≤ R.length)
    (hf : ∀ j S, K ≤ j → j < K + N → S.length = R.length → (∀ q, (q < p + K ∨ p + K + N ≤ q) → S.getD q 0 = R.getD q 0) → (∀ i, K ≤ i → i < j → S.getD (p + i) 0 = g i) → (∀ i, j ≤ i → i < K + N → S.getD (p + i) 0 = R.getD (p + i) 0) → f j S = S.set (p + j) (g j)) (q : Nat) :
    (it f K N R).getD q 0 = if p + K ≤ q ∧ q < p + K + N then g (q - p) else R.getD q 0 := by
  obtain ⟨a, b, c⟩ := it_fil p K N hl hf
  by_cases hq : p + K ≤ q ∧ q < p + K + N
  · rw [if_pos hq]
    have := c (q - p) (by omega) (by omega)
    rw [show p + (q - p) = q by omega] at this
    exact this
  · rw [if_neg hq]
    exact b q (by omega)
theorem gd_out {A : List Nat} {q : Nat} (h : A.length ≤ q) : A.getD q 0 = 0 := by
  rw [List.getD_eq_getElem?_getD, List.getElem?_eq_none h]
  rfl
theorem gd_app (A B : List Nat) (q : Nat) : (A ++ B).getD q 0 = if q < A.length then A.getD q 0 else B.getD (q - A.length) 0 := by
  rw [List.getD_eq_getElem?_getD, List.getElem?_append]
  by_cases h : q < A.length
  · rw [if_pos h, if_pos h, List.getD_eq_getElem?_getD]
  · rw [if_neg h, if_neg h, List.getD_eq_getElem?_getD]
theorem gd_tk (A : List Nat) (n q : Nat) : (A.take n).getD q 0 = if q < n then A.getD q 0 else 0 := by
  by_cases h : q < n
  · rw [if_pos h, gd_take h]
  · rw [if_neg h, gd_out (by rw [List.length_take]; omega)]
theorem gd_dr (A : List Nat) (n q : Nat) : (A.drop n).getD q 0 = A.getD (n + q) 0 := by
  rw [List.getD_eq_getElem?_getD, List.getElem?_drop, List.getD_eq_getElem?_getD]
theorem gd_rep (n q : Nat) : (List.replicate n 0).getD q 0 = 0 := by
  rw [List.getD_eq_getElem?_getD, List.getElem?_replicate]
  split <;> rfl
theorem gd_z16 (q : Nat) : z16.getD q 0 = 0 := gd_rep 16 q
theorem gd_cpy {F G : List Nat} {sp dp n : Nat} (h1 : sp + n ≤ F.length) (h2 : dp + n ≤ G.length) (q : Nat) : (cpy F G sp dp n).getD q 0 = if dp ≤ q ∧ q < dp + n then F.getD (sp + (q - dp)) 0 else G.getD q 0 := by
  unfold cpy
  rw [gd_app, gd_app, gd_tk, gd_tk, gd_dr, gd_dr, List.length_take, List.length_take, List.length_drop]
  rw [show min dp G.length = dp by omega, show min n (F.length - sp) = n by omega]
  by_cases ha : q < dp
  · rw [if_pos ha, if_pos ha, if_neg (by omega)]
  · rw [if_neg ha]
    by_cases hb : q - dp < n
    · rw [if_pos hb, if_pos hb, if_pos (by omega)]
    · rw [if_neg hb, if_neg (by omega), show dp + n + (q - dp - n) = q by omega]
theorem gd_zr {B : List Nat} {a d : Nat} (h : a + d ≤ B.length) (q : Nat) : (it zr a d B).getD q 0 = if a ≤ q ∧ q < a + d then 0 else B.getD q 0 := by
  have := gd_fil (f := zr) (g := fun _ => 0) (R := B) 0 a d (by omega) (fun j S _ _ _ _ _ _ => by unfold zr; rw [Nat.zero_add]) q
  simpa using this
theorem gd_fls {B : List Nat} {v a d : Nat} (h : a + d ≤ B.length) (q : Nat) : (it (fls v) a d B).getD q 0 = if a ≤ q ∧ q < a + d then v else B.getD q 0 := by
  have := gd_fil (f := fls v) (g := fun _ => v) (R := B) 0 a d (by omega) (fun j S _ _ _ _ _ _ => by unfold fls; rw [Nat.zero_add]) q
  simpa using this
theorem gd_adt {F B : List Nat} {s a d : Nat} (h : a + d ≤ B.length) (q : Nat) : (it (adt F s) a d B).getD q 0 = if a ≤ q ∧ q < a + d then B.getD q 0 ^^^ F.getD (s + q) 0 else B.getD q 0 := by
  have := gd_fil (f := adt F s) (g := fun k => B.getD k 0 ^^^ F.getD (s + k) 0) (R := B) 0 a d (by omega) (fun j S h1 h2 _ _ _ h4 => by
    have := h4 j (Nat.le_refl _) h2
    rw [Nat.zero_add] at this
    unfold adt
    rw [this, Nat.zero_add]) q
  simpa using this
theorem gd_ate {F B : List Nat} {s d : Nat} (h : s + d ≤ B.length) (q : Nat) : (it (ate F s) 0 d B).getD q 0 = if s ≤ q ∧ q < s + d then B.getD q 0 ^^^ F.getD (q - s) 0 else B.getD q 0 := by
  have := gd_fil (f := ate F s) (g := fun k => B.getD (s + k) 0 ^^^ F.getD k 0) (R := B) s 0 d (by omega) (fun j S h1 h2 _ _ _ h4 => by
    have := h4 j (Nat.le_refl _) h2
    unfold ate
    rw [this]) q
  rw [this]
  by_cases hq : s ≤ q ∧ q < s + d
  · rw [if_pos (by omega), if_pos hq, show s + (q - s) = q by omega]
  · rw [if_neg (by omega), if_neg hq]
theorem gd_mxt {F B : List Nat} {e d : Nat} (he : 16 ≤ e) (h : e - 16 + d ≤ B.length) (q : Nat) : (it (mxt F e) 0 d B).getD q 0 = if e - 16 ≤ q ∧ q < e - 16 + d then B.getD q 0 ^^^ F.getD (q - (e - 16)) 0 else B.getD q 0 :=
  gd_ate (F := F) h q
theorem mxb_adt (TX : List Nat) (a : Nat) : mxb TX a = adt TX a := rfl
theorem xr_adt (M : List Nat) : xr M = adt M 0 := by
  funext k S
  unfold xr adt
  rw [Nat.zero_add]
theorem gd_mpd {B : List Nat} {n a d : Nat} (h : a + d ≤ B.length) (q : Nat) : (it (mpd n) a d B).getD q 0 = if a ≤ q ∧ q < a + d then (if q = n then 128 else 0) else B.getD q 0 := by
  have := gd_fil (f := mpd n) (g := fun k => if k = n then 128 else 0) (R := B) 0 a d (by omega) (fun j S _ _ _ _ _ _ => by unfold mpd; rw [Nat.zero_add]) q
  simpa using this
theorem gd_cp1 {R B : List Nat} {a d : Nat} (h : a + d ≤ B.length) (q : Nat) : (it (cp1 R) a d B).getD q 0 = if a ≤ q ∧ q < a + d then R.getD q 0 else B.getD q 0 := by
  have := gd_fil (f := cp1 R) (g := fun k => R.getD k 0) (R := B) 0 a d (by omega) (fun j S _ _ _ _ _ _ => by unfold cp1; rw [Nat.zero_add]) q
  simpa using this
theorem gd_fdm {B : List Nat} {w n d : Nat} (h : n + d ≤ B.length) (q : Nat) : (it (fdm w n) 0 d B).getD q 0 = if n ≤ q ∧ q < n + d then bo w (q - n) else B.getD q 0 := by
  have := gd_fil (f := fdm w n) (g := fun k => bo w k) (R := B) n 0 d (by omega) (fun j S _ _ _ _ _ _ => by unfold fdm; rfl) q
  simpa using this
/-! doubling -/
theorem dq1 : ∀ a, a < 256 → ∀ b, b < 2 → ((a * 2 ^ 1) &&& 255) ||| b = ((a * 2) &&& 255) + b := by decide +kernel
theorem dbs_gd {S : List Nat} (h : S.length = 16) (q : Nat) : (it dbs 0 15 S).getD q 0 = if q < 15 then ((S.getD q 0 * 2 ^ 1) &&& 255) ||| (S.getD (q + 1) 0 / 2 ^ 7) else S.getD q 0 := by
  have := gd_fil (f := dbs) (g := fun k => ((S.getD k 0 * 2 ^ 1) &&& 255) ||| (S.getD (k + 1) 0 / 2 ^ 7)) (R := S) 0 0 15 (by omega) (fun j Z h1 h2 _ h3 _ h4 => by
    have e1 := h4 j (Nat.le_refl _) h2
    have e2 : Z.getD (j + 1) 0 = S.getD (j + 1) 0 := by
      by_cases hj : j + 1 < 15
      · have := h4 (j + 1) (by omega) (by omega)
        rw [Nat.zero_add] at this
        exact this
      · exact h3 (j + 1) (by omega)
    rw [Nat.zero_add] at e1
    unfold dbs
    rw [e1, e2, Nat.zero_add]) q
  simpa using this
theorem mds_gd {S : List Nat} (h : S.length = 16) (q : Nat) : (it mds 0 16 S).getD q 0 = if q < 16 then ((S.getD q 0 * 2) &&& 255) + (if q < 15 then S.getD (q + 1) 0 / 2 ^ 7 else 0) else S.getD q 0 := by
  have := gd_fil (f := mds) (g := fun k => ((S.getD k 0 * 2) &&& 255) + (if k < 15 then S.getD (k + 1) 0 / 2 ^ 7 else 0)) (R := S) 0 0 16 (by omega) (fun j Z h1 h2 _ h3 _ h4 => by
    have e1 := h4 j (Nat.le_refl _) h2
    rw [Nat.zero_add] at e1
    unfold mds
    by_cases hj : j < 15
    · have e2 := h4 (j + 1) (by omega) (by omega)
      rw [Nat.zero_add] at e2
      rw [if_pos hj, if_pos hj, if_pos hj, e1, e2, Nat.zero_add]
    · rw [if_neg hj, if_neg hj, e1, Nat.zero_add]) q
  simpa using this
theorem hi135 : ∀ x, x < 256 → ∀ b, b < 2 → x ^^^ (b * 135) = if b = 1 then x ^^^ 135 else x := by decide +kernel
theorem dbl_mdb {S : List Nat} (h : l16 S) : dbl S = mdb S := by
  obtain ⟨hl, h8⟩ := h
  refine gd_ext (by rw [dbl_len, mdb_len]) (fun q hq => ?_)
  rw [dbl_len, hl] at hq
  have h0 := h8.at 0
  have hq8 := h8.at q
  have hq9 := h8.at (q + 1)
  unfold dbl dbe mdb mde
  rw [gd_set, gd_set, it_len dbs_len, it_len mds_len, hl]
  by_cases h15 : q = 15
  · subst h15
    have e1 : (it dbs 0 15 S).getD 15 0 = S.getD 15 0 := by rw [dbs_gd hl, if_neg (by omega)]
    have e2 : (it mds 0 16 S).getD 15 0 = (S.getD 15 0 * 2) &&& 255 := by rw [mds_gd hl, if_pos (by omega), if_neg (by omega), Nat.add_zero]
    rw [if_pos ⟨rfl, by omega⟩, if_pos ⟨rfl, by omega⟩, e1, e2]
    exact hi135 _ (and8 _) _ (by omega)
  · rw [if_neg (by omega), if_neg (by omega), dbs_gd hl, mds_gd hl, if_pos (by omega), if_pos hq, if_pos (by omega)]
    exact dq1 _ hq8 _ (by omega)
/-! marks -/
theorem adts_app {F X Y : List Nat} {s n : Nat} (h : X.length = 16) (hn : n ≤ 16) : it (adt F s) 0 n (X ++ Y) = it (adt F s) 0 n X ++ Y :=
  it_app (m := 16) n 0 X (fun j Z _ h2 hZ => ⟨by rw [adt_len]; exact hZ, by unfold adt; rw [st_l (by omega), gd_l (by omega)]⟩) h
theorem flss_app {v : Nat} {X Y : List Nat} (h : X.length = 16) : it (fls v) 0 16 (X ++ Y) = it (fls v) 0 16 X ++ Y :=
  it_app (m := 16) 16 0 X (fun j Z _ h2 hZ => ⟨by rw [fls_len]; exact hZ, by unfold fls; rw [st_l (by omega)]⟩) h
theorem ckl_app {FO K B : List Nat} {i : Nat} {X Y : List Nat} (h : X.length = 16) : ckl FO K B i (X ++ Y) = ckl FO K B i X ++ Y := by
  unfold ckl
  rw [adts_app h (by omega), trn_app (by rw [adts_len]; exact h)]
theorem ckl_len (FO K B : List Nat) (i : Nat) (X : List Nat) : (ckl FO K B i X).length = X.length := by
  unfold ckl
  rw [trn_len, adts_len]
theorem cm1_app {FO K B : List Nat} {n : Nat} {X Y : List Nat} (h : X.length = 16) : cm1 FO K B n (X ++ Y) = cm1 FO K B n X ++ Y := by
  unfold cm1
  rw [flss_app h]
  exact it_app (m := 16) _ 0 _ (fun j Z _ _ hZ => ⟨by rw [ckl_len]; exact hZ, ckl_app hZ⟩) (by rw [it_len (fls_len 0)]; exact h)
theorem cm1_len (FO K B : List Nat) (n : Nat) (X : List Nat) : (cm1 FO K B n X).length = X.length := by
  unfold cm1
  rw [it_len (fun i X => ckl_len FO K B i X), it_len (fls_len 0)]
theorem cm2_app {FO K B : List Nat} {n : Nat} {X Y : List Nat} (h : X.length = 16) : cm2 FO K B n (X ++ Y) = cm2 FO K B n X ++ Y := by
  unfold cm2
  rw [cm1_app h, adts_app (by rw [cm1_len]; exact h) lst16_ok.2.1]
theorem cm2_len (FO K B : List Nat) (n : Nat) (X : List Nat) : (cm2 FO K B n X).length = X.length := by
  unfold cm2
  rw [adts_len, cm1_len]
theorem cmk_app {FO K B : List Nat} {n : Nat} {X Y : List Nat} (h : X.length = 16) : cmk FO K B n (X ++ Y) = cmk FO K B n X ++ Y := by
  have h2 : (cm2 FO K B n X).length = 16 := by rw [cm2_len]; exact h
  unfold cmk
  rw [cm2_app h]
  by_cases hc : n - lst16 n < 16
  · rw [if_pos hc, if_pos hc, show x128 (n - lst16 n) (cm2 FO K B n X ++ Y) = x128 (n - lst16 n) (cm2 FO K B n X) ++ Y from by unfold x128; rw [st_l (by omega), gd_l (by omega)]]
    have h3 : (x128 (n - lst16 n) (cm2 FO K B n X)).length = 16 := by unfold x128; rw [List.length_set]; exact h2
    rw [adts_app h3 (by omega), trn_app (by rw [adts_len]; exact h3)]
  · rw [if_neg hc, if_neg hc, adts_app h2 (by omega), trn_app (by rw [adts_len]; exact h2)]
theorem cmk_len (FO K B : List Nat) (n : Nat) (X : List Nat) : (cmk FO K B n X).length = X.length := by
  unfold cmk
  split
  · rw [trn_len, adts_len]
    unfold x128
    rw [List.length_set, cm2_len]
  · rw [trn_len, adts_len, cm2_len]
theorem mend_l16 (n : Nat) : mend n = lst16 n + 16 ∧ (wle n = true ↔ n - lst16 n = 16) := by
  unfold mend wle lst16
  by_cases h0 : n = 0
  · subst h0
    simp
  · rw [if_neg h0]
    by_cases h : 0 < n ∧ n % 16 = 0
    · rw [if_pos (by simpa using h)]
      refine ⟨by omega, ?_⟩
      simp only [decide_eq_true_eq]
      omega
    · rw [if_neg (by simpa using h)]
      refine ⟨by omega, ?_⟩
      simp only [decide_eq_true_eq]
      omega
theorem it_snoc {α : Type} {f : Nat → α → α} (n : Nat) (s : α) : it f 0 (n + 1) s = f n (it f 0 n s) := by
  rw [it_add n 0 1, Nat.zero_add]
  rfl
theorem ctw_eq {FO W K : List Nat} (hF : by8 FO) (hK : by8 K) (h : kr 0 W K) : ctw FO K = mdb (enc FO W 0 z16) := by
  unfold ctw
  rw [trn_enc hF hK h ⟨rfl, z16_8⟩]
  exact dbl_mdb (enc_ok hF W 0 rfl z16_8)
theorem cmk_mmk {FO W K B TX M : List Nat} {n : Nat} (hF : by8 FO) (hK : by8 K) (h : kr 0 W K) (hB : by8 B) (hT : by8 TX) (hTl : mend n ≤ TX.length) (hM : M.length = 16) (hBT : ∀ q, q < n → B.getD q 0 = TX.getD q 0) : cmk FO K B n M = mmk FO W n TX := by
  obtain ⟨m1, m2⟩ := mend_l16 n
  obtain ⟨l1, l2, l3⟩ := lst16_ok (n := n)
  have hme : mend n / 16 = lst16 n / 16 + 1 := by omega
  have hpl : (it (mpd n) n (mend n - n) TX).length = TX.length := it_len (mpd_len n) _ _ _
  -- the whole blocks
  have hch : ∀ q, q < lst16 n → (mtt FO W n TX).getD q 0 = B.getD q 0 := by
    intro q hq
    unfold mtt
    rw [gd_mxt (by omega) (by omega), if_neg (by omega), gd_mpd (by omega), if_neg (by omega)]
    exact (hBT q (by omega)).symm
  have hmt8 : by8 (mtt FO W n TX) := (mtt_ok hF W n hT).2
  have e1 : cm1 FO K B n M = it (mch FO W (mtt FO W n TX)) 0 (lst16 n / 16) z16 := by
    unfold cm1
    rw [fls16 hM]
    have := it_hom (f := ckl FO K B) (f' := mch FO W (mtt FO W n TX)) (fun X : List Nat => X) l16 (lst16 n / 16) 0 z16 (fun j X _ hj hX => by
      obtain ⟨u, v⟩ := ckl_ok hF hK hB j (l := 16) hX
      refine ⟨⟨u, v⟩, ?_⟩
      have hx : l16 (it (adt B (16 * j)) 0 16 X) := ⟨by rw [adts_len]; exact hX.1, adt8 hB _ 0 16 hX.2⟩
      show trn FO K (it (adt B (16 * j)) 0 16 X) = enc FO W 0 (it (mxb (mtt FO W n TX) (16 * j)) 0 16 X)
      rw [trn_enc hF hK h hx, mxb_adt]
      refine congrArg (enc FO W 0) (it_congr 16 0 X (fun k Z _ hk => ?_))
      unfold adt
      rw [hch (16 * j + k) (by omega)]) ⟨rfl, z16_8⟩
    exact this
  unfold mmk
  rw [hme, it_snoc, ← e1]
  have hc1 : l16 (cm1 FO K B n M) := by
    rw [e1]
    exact mchs_ok hF W hmt8 0 _ ⟨rfl, z16_8⟩
  have hc2 : l16 (cm2 FO K B n M) := by
    unfold cm2
    exact ⟨by rw [adts_len]; exact hc1.1, adt8 hB _ 0 _ hc1.2⟩
  have hctw := ctw_eq hF hK h
  have hcok := ctw_ok hF hK
  have hd2 : dbl (ctw FO K) = mdb (mdb (enc FO W 0 z16)) := by rw [dbl_mdb hcok, hctw]
  unfold mch
  rw [mxb_adt]
  unfold cmk
  by_cases hc : n - lst16 n < 16
  · rw [if_pos hc]
    have hw : ¬ wle n = true := fun q => by have := m2.mp q; omega
    have hx : l16 (x128 (n - lst16 n) (cm2 FO K B n M)) := by
      unfold x128
      exact ⟨by rw [List.length_set]; exact hc2.1, hc2.2.set (xor8 (hc2.2.at _) (by omega))⟩
    rw [trn_enc hF hK h ⟨by rw [adts_len]; exact hx.1, adt8 (dbl8 hcok.2) 0 0 16 hx.2⟩]
    refine congrArg (enc FO W 0) (gd_ext (by rw [adts_len, adts_len, hx.1, hc1.1]) (fun q hq => ?_))
    rw [adts_len, hx.1] at hq
    rw [gd_adt (by rw [hx.1]; omega), if_pos (by omega), gd_adt (by rw [hc1.1]; omega), if_pos (by omega)]
    unfold mtt
    rw [gd_mxt (by omega) (by omega), if_pos (by omega), gd_mpd (by omega), hd2]
    unfold mtw x128
    rw [if_neg hw, gd_set, hc2.1, show 16 * (lst16 n / 16) + q - (mend n - 16) = q by omega, Nat.zero_add]
    unfold cm2
    rw [gd_adt (by rw [hc1.1]; omega), gd_adt (by rw [hc1.1]; omega)]
    rcases Nat.lt_trichotomy q (n - lst16 n) with hlt | heq | hgt
    · rw [if_neg (by omega), if_pos (by omega), if_neg (by omega), ← hBT _ (by omega), show 16 * (lst16 n / 16) + q = lst16 n + q by omega, Nat.xor_assoc]
    · rw [if_pos (by omega), if_neg (by omega), if_pos (by omega), if_pos (by omega), heq, Nat.xor_assoc]
    · rw [if_neg (by omega), if_neg (by omega), if_pos (by omega), if_neg (by omega), Nat.zero_xor]
  · rw [if_neg hc]
    have hw : wle n = true := m2.mpr (by omega)
    rw [trn_enc hF hK h ⟨by rw [adts_len]; exact hc2.1, adt8 hcok.2 0 0 16 hc2.2⟩]
    refine congrArg (enc FO W 0) (gd_ext (by rw [adts_len, adts_len, hc2.1, hc1.1]) (fun q hq => ?_))
    rw [adts_len, hc2.1] at hq
    rw [gd_adt (by rw [hc2.1]; omega), if_pos (by omega), gd_adt (by rw [hc1.1]; omega), if_pos (by omega)]
    unfold mtt
    rw [gd_mxt (by omega) (by omega), if_pos (by omega), gd_mpd (by omega), hctw]
    unfold mtw
    rw [if_pos hw, show 16 * (lst16 n / 16) + q - (mend n - 16) = q by omega, Nat.zero_add]
    unfold cm2
    rw [gd_adt (by rw [hc1.1]; omega), if_pos (by omega), if_neg (by omega), ← hBT _ (by omega), show 16 * (lst16 n / 16) + q = lst16 n + q by omega, Nat.xor_assoc]
/-- a mark -/
theorem cmk_mk {FO W K B M : List Nat} {n : Nat} (hF : by8 FO) (hK : by8 K) (h : kr 0 W K) (hB : by8 B) (hn : n ≤ B.length) (h88 : n ≤ 88) (hM : M.length = 16) : cmk FO K B n M = mk FO W (B.take n) := by
  have hl : (B.take n).length = n := by rw [List.length_take]; omega
  have hm := mend_ok n
  unfold mk
  rw [hl]
  refine cmk_mmk hF hK h hB ((hB.take n).app (fun v hv => by rw [List.eq_of_mem_replicate hv]; omega)) (by rw [List.length_append, hl, List.length_replicate]; omega) hM (fun q hq => ?_)
  rw [gd_app, if_pos (by omega), gd_tk, if_pos hq]
theorem cmk_take {FO W K B M : List Nat} {n : Nat} (hF : by8 FO) (hK : by8 K) (h : kr 0 W K) (hB : by8 B) (hn : n ≤ B.length) (h88 : n ≤ 88) (hM : 16 ≤ M.length) : (cmk FO K B n M).take 16 = mk FO W (B.take n) := by
  have h16 : (M.take 16).length = 16 := by rw [List.length_take]; omega
  rw [← List.take_append_drop 16 M, cmk_app h16, List.take_append_of_le_length (by rw [cmk_len]; omega), List.take_of_length_le (by rw [cmk_len]; omega)]
  exact cmk_mk hF hK h hB hn h88 h16
theorem it_rel {α β : Type} {f : Nat → α → α} {f' : Nat → β → β} (Q : α → β → Prop) : ∀ (n k : Nat) (s : α) (t : β), (∀ j s t, k ≤ j → j < k + n → Q s t → Q (f j s) (f' j t)) → Q s t → Q (it f k n s) (it f' k n t)
  | 0, _, _, _, _, h => h
  | n + 1, k, s, t, h, hq => it_rel Q n (k + 1) _ _ (fun j s t h1 h2 => h j s t (by omega) (by omega)) (h k s t (by omega) (by omega) hq)
/-- the items are the same -/
def itr (ct : Nat) (BL : List (List Nat)) (NL IB IS : List Nat) : Prop := ∀ i, i < ct → NL.getD i 0 = IS.getD i 0 ∧ (BL.getD i []).take (NL.getD i 0) = itm IB IS i
theorem cj0_eq {FO W K JB SM : List Nat} (hF : by8 FO) (hK : by8 K) (h : kr 0 W K) (hJ : l88 JB) (hS : SM.length = 16) : cj0 FO K JB SM = mk FO W z16 := by
  have hz := zrs_ok 0 16 hJ.2
  unfold cj0
  rw [cmk_mk hF hK h hz.2 (by rw [hz.1, hJ.1]; omega) (by omega) hS]
  refine congrArg (mk FO W) (gd_ext (by rw [List.length_take, hz.1, hJ.1]; rfl) (fun q hq => ?_))
  rw [List.length_take, hz.1, hJ.1] at hq
  rw [gd_tk, if_pos (by omega), gd_zr (by rw [hJ.1]; omega), if_pos (by omega), gd_z16]
theorem adt_tk {X : List Nat} (Z : List Nat) : it (adt X 0) 0 16 Z = it (xr (X.take 16)) 0 16 Z :=
  it_congr 16 0 Z (fun j S _ hj => by
    unfold adt xr
    rw [gd_tk, if_pos (by omega), Nat.zero_add])
theorem cjs_2 {FO K NL : List Nat} {BL : List (List Nat)} {j : Nat} {q : List Nat × List Nat} : (cjs FO K BL NL j q).2 = it (adt (cmk FO K (BL.getD j []) (NL.getD j 0) q.1) 0) 0 16 (dbl q.2) := by
  rw [cjs]
theorem cjs_1 {FO K NL : List Nat} {BL : List (List Nat)} {j : Nat} {q : List Nat × List Nat} : (cjs FO K BL NL j q).1 = cmk FO K (BL.getD j []) (NL.getD j 0) q.1 := by
  rw [cjs]
theorem jst_u {T W IB IS SM : List Nat} {i : Nat} : jst T W IB IS i SM = it (xr (mk T W (itm IB IS i))) 0 16 (mdb SM) := by
  rw [jst]
def cjI (m : Nat) (q : List Nat × List Nat) : Prop := q.1.length = m ∧ by8 q.1 ∧ l16 q.2
theorem cjs_step {FO W K IB IS NL : List Nat} {BL : List (List Nat)} {ct m : Nat} (hF : by8 FO) (hK : by8 K) (h : kr 0 W K) (hM : 16 ≤ m) (hI : ∀ i, i < 5 → l88 (BL.getD i []) ∧ NL.getD i 0 ≤ 40) (hct : ct ≤ 5) (hr : itr ct BL NL IB IS) (hIB : by8 IB) (j : Nat) (q : List Nat × List Nat) (hj : j < ct) (hq : cjI m q) : cjI m (cjs FO K BL NL j q) ∧ (cjs FO K BL NL j q).2 = jst FO W IB IS j q.2 := by
  obtain ⟨q1, q2, q3⟩ := hq
  obtain ⟨i1, i2⟩ := hI j (by omega)
  obtain ⟨r1, r2⟩ := hr j (by omega)
  have hc := cmk_take hF hK h i1.2 (n := NL.getD j 0) (by rw [i1.1]; omega) (by omega) (by rw [q1]; exact hM) (M := q.1)
  obtain ⟨c1, c2⟩ := cmk_ok hF hK i1.2 (NL.getD j 0) q2
  have e2 : (cjs FO K BL NL j q).2 = jst FO W IB IS j q.2 := by
    rw [cjs_2, jst_u, adt_tk, hc, r2, dbl_mdb q3]
  refine ⟨⟨?_, ?_, ?_⟩, e2⟩
  · rw [cjs_1]
    exact c1.trans q1
  · rw [cjs_1]
    exact c2
  · rw [e2]
    exact jst_ok hF W IS hIB j q3
theorem cjs_jst {FO W K M Z IB IS NL : List Nat} {BL : List (List Nat)} {ct : Nat} (hF : by8 FO) (hK : by8 K) (h : kr 0 W K) (hM : 16 ≤ M.length) (hM8 : by8 M) (hZ : l16 Z) (hI : ∀ i, i < 5 → l88 (BL.getD i []) ∧ NL.getD i 0 ≤ 40) (hct : ct ≤ 5) (hr : itr ct BL NL IB IS) (hIB : by8 IB) :
    (it (cjs FO K BL NL) 0 ct (M, Z)).2 = it (jst FO W IB IS) 0 ct Z ∧ cjI M.length (it (cjs FO K BL NL) 0 ct (M, Z)) := by
  have hI0 : cjI M.length (M, Z) := ⟨rfl, hM8, hZ⟩
  have e := it_hom (f := cjs FO K BL NL) (f' := jst FO W IB IS) (fun q : List Nat × List Nat => q.2) (cjI M.length) ct 0 (M, Z) (fun j q _ hj hq => cjs_step hF hK h hM hI hct hr hIB j q (by omega) hq) hI0
  have i := it_inv (f := cjs FO K BL NL) (cjI M.length) ct 0 (M, Z) (fun j q _ hj hq => (cjs_step hF hK h hM hI hct hr hIB j q (by omega) hq).1) hI0
  exact ⟨e, i⟩
theorem cjo_mjo {FO W K JB SM M IB IS NL RB : List Nat} {BL : List (List Nat)} {ct n : Nat} (hF : by8 FO) (hK : by8 K) (h : kr 0 W K) (hJ : l88 JB) (hS : l16 SM) (hM : 16 ≤ M.length) (hM8 : by8 M) (hI : ∀ i, i < 5 → l88 (BL.getD i []) ∧ NL.getD i 0 ≤ 40) (hct : ct ≤ 5) (hr : itr ct BL NL IB IS) (hIB : by8 IB) (hR : l88 RB) (hn : n ≤ 88) : (cjo FO K JB SM M BL NL ct RB n).take 16 = mjo FO W IB IS ct (RB.take n) := by
  have hz0 : l16 (mk FO W z16) := mk_ok hF W z16_8
  obtain ⟨e1, hq1⟩ := cjs_jst (M := M) hF hK h hM hM8 hz0 hI hct hr hIB
  have e2 : l16 (it (cjs FO K BL NL) 0 ct (M, mk FO W z16)).2 := hq1.2.2
  have hz := zrs_ok 0 16 hJ.2
  have hzl : (it zr 0 16 JB).length = 88 := by rw [hz.1]; exact hJ.1
  have hcl : (cpy RB (it zr 0 16 JB) 0 0 n).length = 88 := by rw [cpy_length (by rw [hR.1]; omega) (by rw [hzl]; omega)]; exact hzl
  have hc8 : by8 (cpy RB (it zr 0 16 JB) 0 0 n) := cpy8 hR.2 hz.2
  have hLl : (RB.take n).length = n := by rw [List.length_take, hR.1]; omega
  unfold cjo mjo
  rw [cj0_eq hF hK h hJ hS.1, ← e1]
  generalize it (cjs FO K BL NL) 0 ct (M, mk FO W z16) = q at e1 e2 hq1 ⊢
  by_cases hc : n < 16
  · rw [if_pos hc]
    have hsl : ((cpy RB (it zr 0 16 JB) 0 0 n).set n 128).length = 88 := by rw [List.length_set]; exact hcl
    have hb := zrs_ok (n + 1) (16 - (n + 1)) (hc8.set (i := n) (show 128 < 256 by omega))
    have hbl : (it zr (n + 1) (16 - (n + 1)) ((cpy RB (it zr 0 16 JB) 0 0 n).set n 128)).length = 88 := hb.1.trans hsl
    have hdl : (dbl q.2).length = 16 := by rw [dbl_len]; exact e2.1
    rw [cmk_take hF hK h (ate8 (dbl8 e2.2) 0 0 16 hb.2) (by rw [it_len (ate_len _ 0), hbl]; omega) (by omega) (by rw [hq1.1]; exact hM)]
    refine congrArg (mk FO W) ?_
    unfold jlast
    rw [hLl, if_pos hc, dbl_mdb e2]
    have hfl : (fl16 (RB.take n)).length = 16 := by
      unfold fl16
      rw [it_len (mpd_len _), List.length_append, List.length_replicate, hLl]
      omega
    refine gd_ext (by rw [List.length_take, it_len (ate_len _ 0), hbl, it_len (mxt_len _ 16), hfl]; rfl) (fun j hj => ?_)
    rw [List.length_take, it_len (ate_len _ 0), hbl] at hj
    rw [gd_tk, if_pos (by omega), gd_ate (by rw [hbl]; omega), if_pos (by omega), gd_mxt (by omega) (by rw [hfl]; omega), if_pos (by omega)]
    refine congrArg (fun x => x ^^^ (mdb q.2).getD (j - 0) 0) ?_
    rw [gd_zr (by rw [hsl]; omega), gd_set, gd_cpy (by rw [hR.1]; omega) (by rw [hzl]; omega), hcl]
    unfold fl16
    rw [hLl, gd_mpd (by rw [List.length_append, List.length_replicate, hLl]; omega), gd_app, hLl, gd_tk]
    rcases Nat.lt_trichotomy j n with hlt | heq | hgt
    · rw [if_neg (by omega), if_neg (by omega), if_pos (by omega), if_neg (by omega), if_pos hlt, if_pos hlt, Nat.zero_add, Nat.sub_zero]
    · rw [if_neg (by omega), if_pos (by omega), if_pos (by omega), if_pos heq]
    · rw [if_pos (by omega), if_pos (by omega), if_neg (by omega)]
  · rw [if_neg hc]
    rw [cmk_take hF hK h (ate8 e2.2 (n - 16) 0 16 hc8) (by rw [it_len (ate_len _ _), hcl]; omega) (by omega) (by rw [hq1.1]; exact hM)]
    refine congrArg (mk FO W) ?_
    unfold jlast
    rw [hLl, if_neg hc]
    refine gd_ext (by rw [List.length_take, it_len (ate_len _ _), hcl, it_len (mxt_len _ _), hLl]; omega) (fun j hj => ?_)
    rw [List.length_take, it_len (ate_len _ _), hcl] at hj
    rw [gd_tk, if_pos (by omega), gd_ate (by rw [hcl]; omega), gd_mxt (by omega) (by rw [hLl]; omega), gd_cpy (by rw [hR.1]; omega) (by rw [hzl]; omega), gd_tk, if_pos (show 0 ≤ j ∧ j < 0 + n by omega), if_pos (show j < n by omega), Nat.zero_add, Nat.sub_zero]
/-! the stream -/
theorem fold_at {b : Nat → Nat} (hb : ∀ k, b k < 256) : ∀ (n : Nat) (k : Nat), k < n → it (fun k w => (w * 2 ^ 8) ||| b k) 0 n 0 / 2 ^ (8 * (n - 1 - k)) % 256 = b k
  | 0, k, hk => by omega
  | n + 1, k, hk => by
    rw [it_snoc, or_add (show b n < 2 ^ 8 from hb n)]
    have hbn := hb n
    by_cases hkn : k = n
    · subst hkn
      rw [show k + 1 - 1 - k = 0 by omega, Nat.mul_zero, Nat.pow_zero, Nat.div_one]
      omega
    · rw [show 8 * (n + 1 - 1 - k) = 8 + 8 * (n - 1 - k) by omega, Nat.pow_add, ← Nat.div_div_eq_div_mul, show (it (fun k w => (w * 2 ^ 8) ||| b k) 0 n 0 * 2 ^ 8 + b n) / 2 ^ 8 = it (fun k w => (w * 2 ^ 8) ||| b k) 0 n 0 by omega]
      exact fold_at hb n k (by omega)
theorem ctb_gd {hi lo : Nat} : ∀ (d : Nat), d ≤ 8 → ∀ q, (it (ctb hi lo) 0 d z16).getD q 0 = if q < d then (hi / 2 ^ (56 - 8 * q)) &&& 255 else if 8 ≤ q ∧ q < 8 + d then (lo / 2 ^ (56 - 8 * (q - 8))) &&& 255 else 0
  | 0, _, q => by
    rw [it_zero, gd_z16, if_neg (by omega), if_neg (by omega)]
  | d + 1, hd, q => by
    have hl : (it (ctb hi lo) 0 d z16).length = 16 := by rw [it_len (ctb_len hi lo)]; rfl
    rw [it_snoc]
    unfold ctb
    rw [gd_set, gd_set, List.length_set]
    change (if 8 + d = q ∧ 8 + d < (it (ctb hi lo) 0 d z16).length then _ else if d = q ∧ d < (it (ctb hi lo) 0 d z16).length then _ else (it (ctb hi lo) 0 d z16).getD q 0) = _
    rw [hl, ctb_gd d (by omega) q]
    by_cases h1 : 8 + d = q
    · rw [if_pos ⟨h1, by omega⟩, if_neg (show ¬ q < d + 1 by omega), if_pos (show 8 ≤ q ∧ q < 8 + (d + 1) by omega), show q - 8 = d by omega]
    · rw [if_neg (show ¬ (8 + d = q ∧ 8 + d < 16) by omega)]
      by_cases h2 : d = q
      · rw [if_pos ⟨h2, by omega⟩, if_pos (show q < d + 1 by omega), h2]
      · rw [if_neg (show ¬ (d = q ∧ d < 16) by omega)]
        by_cases h3 : q < d
        · rw [if_pos h3, if_pos (show q < d + 1 by omega)]
        · rw [if_neg h3, if_neg (show ¬ q < d + 1 by omega)]
          by_cases h4 : 8 ≤ q ∧ q < 8 + d
          · rw [if_pos h4, if_pos (show 8 ≤ q ∧ q < 8 + (d + 1) by omega)]
          · rw [if_neg h4, if_neg (show ¬ (8 ≤ q ∧ q < 8 + (d + 1)) by omega)]
theorem ctr_gd {hi lo : Nat} (q : Nat) : (ctr hi lo).getD q 0 = if q < 8 then (hi / 2 ^ (56 - 8 * q)) &&& 255 else if 8 ≤ q ∧ q < 16 then (lo / 2 ^ (56 - 8 * (q - 8))) &&& 255 else 0 := ctb_gd 8 (by omega) q
theorem ct0_ctr {M : List Nat} (hl : 16 ≤ M.length) (h8 : by8 M) : ct0 M = ctr (khi (M.take 16)) (klo (M.take 16)) := by
  have hk : (M.take 16).length = 16 := by rw [List.length_take]; omega
  have hk8 := h8.take 16
  generalize hKP : M.take 16 = KP at hk hk8
  have a1 : ∀ k, k < 8 → khi KP / 2 ^ (56 - 8 * k) &&& 255 = KP.getD k 0 := by
    intro k hk
    have := fold_at (b := fun k => KP.getD k 0) (fun k => hk8.at k) 8 k hk
    rw [show 8 * (8 - 1 - k) = 56 - 8 * k by omega] at this
    rw [and255]
    exact this
  have a2 : ∀ k, k < 8 → klo KP / 2 ^ (56 - 8 * k) &&& 255 = if k = 0 ∨ k = 4 then KP.getD (8 + k) 0 &&& 127 else KP.getD (8 + k) 0 := by
    intro k hk
    have := fold_at (b := fun k => if k = 0 ∨ k = 4 then KP.getD (8 + k) 0 &&& 127 else KP.getD (8 + k) 0) (fun k => lst_v hk8 k) 8 k hk
    rw [show 8 * (8 - 1 - k) = 56 - 8 * k by omega] at this
    rw [and255]
    exact this
  refine gd_ext (by rw [(ct0_ok hl h8).1, (ctr_ok _ _).1]) (fun q hq => ?_)
  rw [(ct0_ok hl h8).1] at hq
  unfold ct0
  rw [hKP, gd_set, gd_set, gd_set, List.length_set, hk, ctr_gd]
  by_cases h1 : q < 8
  · rw [if_neg (show ¬ (12 = q ∧ 12 < 16) by omega), if_neg (show ¬ (8 = q ∧ 8 < 16) by omega), if_pos h1, a1 q h1]
  · rw [if_neg h1, if_pos (show 8 ≤ q ∧ q < 16 by omega), a2 (q - 8) (by omega), show 8 + (q - 8) = q by omega]
    by_cases h12 : 12 = q
    · subst h12
      simp
    · rw [if_neg (show ¬ (12 = q ∧ 12 < 16) by omega)]
      by_cases h88 : 8 = q
      · subst h88
        simp
      · rw [if_neg (show ¬ (8 = q ∧ 8 < 16) by omega), if_neg (show ¬ (q - 8 = 0 ∨ q - 8 = 4) by omega)]
theorem inc_step {lo P : Nat} (hP : 0 < P) : (lo / P % 256 + (lo % P + 1) / P) / 256 = (lo % (P * 256) + 1) / (P * 256) ∧ (lo / P % 256 + (lo % P + 1) / P) % 256 = (lo + 1) / P % 256 := by
  have e1 : lo % (P * 256) = P * (lo / P % 256) + lo % P := by rw [Nat.mod_mul]; omega
  constructor
  · rw [e1, Nat.add_assoc, ← Nat.div_div_eq_div_mul, Nat.mul_add_div hP]
  · have e2 : (lo + 1) / P = lo / P + (lo % P + 1) / P := by
      conv => lhs; rw [← Nat.div_add_mod lo P, Nat.add_assoc, Nat.mul_add_div hP]
    rw [e2]
    omega
theorem inc_lo {hi lo : Nat} : ∀ (d : Nat), d ≤ 8 → (it (fun i => incs (15 - i)) 0 d (1, ctr hi lo)).1 = (lo % 2 ^ (8 * d) + 1) / 2 ^ (8 * d) ∧ (it (fun i => incs (15 - i)) 0 d (1, ctr hi lo)).2.length = 16 ∧ ∀ q, q < 16 → (it (fun i => incs (15 - i)) 0 d (1, ctr hi lo)).2.getD q 0 = if 16 - d ≤ q then (lo + 1) / 2 ^ (56 - 8 * (q - 8)) % 256 else (ctr hi lo).getD q 0
  | 0, _ => ⟨by show 1 = (lo % 2 ^ 0 + 1) / 2 ^ 0; rw [Nat.pow_zero, Nat.mod_one], (ctr_ok hi lo).1, fun q hq => by rw [if_neg (by omega)]; rfl⟩
  | d + 1, hd => by
    obtain ⟨h1, h2, h3⟩ := inc_lo (hi := hi) (lo := lo) d (by omega)
    rw [it_snoc]
    generalize it (fun i => incs (15 - i)) 0 d (1, ctr hi lo) = s at h1 h2 h3
    have hb : s.2.getD (15 - d) 0 = lo / 2 ^ (8 * d) % 256 := by
      rw [h3 (15 - d) (by omega), if_neg (by omega), ctr_gd, if_neg (by omega), if_pos (by omega), and255, show 56 - 8 * (15 - d - 8) = 8 * d by omega]
    obtain ⟨s1, s2⟩ := inc_step (lo := lo) (P := 2 ^ (8 * d)) (Nat.pow_pos (by omega))
    unfold incs
    dsimp only
    rw [hb, h1]
    refine ⟨?_, by rw [List.length_set]; exact h2, fun q hq => ?_⟩
    · rw [show 2 ^ (8 * (d + 1)) = 2 ^ (8 * d) * 256 by rw [show 8 * (d + 1) = 8 * d + 8 by omega, Nat.pow_add]]
      exact s1
    · rw [gd_set, h2]
      by_cases hq2 : 15 - d = q
      · rw [if_pos ⟨hq2, by omega⟩, if_pos (by omega), and255, s2, show 56 - 8 * (q - 8) = 8 * d by omega]
      · rw [if_neg (by omega), h3 q hq]
        by_cases hq3 : 16 - d ≤ q
        · rw [if_pos hq3, if_pos (by omega)]
        · rw [if_neg hq3, if_neg (by omega)]
theorem incs_0 {k : Nat} {A : List Nat} (h : by8 A) (hk : k < A.length) : incs k (0, A) = (0, A) := by
  have hb := h.at k
  unfold incs
  dsimp only
  rw [Nat.add_zero, Nat.div_eq_of_lt hb, and255, Nat.mod_eq_of_lt hb]
  refine congrArg (Prod.mk 0) (gd_ext List.length_set (fun q hq => ?_))
  rw [gd_set]
  by_cases hq : k = q
  · rw [if_pos ⟨hq, hk⟩, hq]
  · rw [if_neg (by omega)]
theorem inc_ctr {hi lo : Nat} (h : lo + 1 < 2 ^ 64) : inc (ctr hi lo) = ctr hi (lo + 1) := by
  obtain ⟨h1, h2, h3⟩ := inc_lo (hi := hi) (lo := lo) 8 (by omega)
  have ha : l16 (it (fun i => incs (15 - i)) 0 8 (1, ctr hi lo)).2 := (it_inv (fun q : Nat × List Nat => q.1 ≤ 1 ∧ l16 q.2) 8 0 (1, ctr hi lo) (fun j q _ _ hq => incs_ok (15 - j) hq) ⟨show 1 ≤ 1 by omega, ctr_ok hi lo⟩).2
  unfold inc
  rw [show (16 : Nat) = 8 + 8 from rfl, it_add]
  generalize it (fun i => incs (15 - i)) 0 8 (1, ctr hi lo) = s at h1 h2 h3 ha
  obtain ⟨c, A⟩ := s
  dsimp only at h1 h2 h3 ha
  have hc : c = 0 := by
    rw [h1]
    exact Nat.div_eq_of_lt (by have : lo % 2 ^ (8 * 8) ≤ lo := Nat.mod_le _ _; omega)
  subst hc
  have e : it (fun i => incs (15 - i)) (0 + 8) 8 (0, A) = (0, A) := it_inv (fun q : Nat × List Nat => q = (0, A)) 8 (0 + 8) (0, A) (fun j q _ _ hq => by rw [hq]; exact incs_0 ha.2 (by omega)) rfl
  rw [e]
  refine gd_ext (by rw [h2, (ctr_ok _ _).1]) (fun q hq => ?_)
  rw [h2] at hq
  dsimp only
  rw [h3 q hq, ctr_gd, ctr_gd]
  by_cases hq8 : q < 8
  · rw [if_neg (by omega), if_pos hq8, if_pos hq8]
  · rw [if_pos (by omega), if_neg hq8, if_pos (by omega), and255]
theorem it_last {α : Type} {f : Nat → α → α} (k n : Nat) (s : α) : it f k (n + 1) s = f (k + n) (it f k n s) := by
  rw [it_add n k 1]
  rfl
/-- the stream's byte -/
def stb (FO W : List Nat) (hi lo k : Nat) : Nat := (enc FO W 44 (ctr hi (lo + k / 16))).getD (k % 16) 0
def astI (FO W B : List Nat) (hi lo s d : Nat) (q : List Nat × List Nat × List Nat) : Prop :=
  q.1.length = B.length ∧ (∀ p, q.1.getD p 0 = if s ≤ p ∧ p < s + d then B.getD p 0 ^^^ stb FO W hi lo (p - s) else B.getD p 0) ∧ q.2.1 = ctr hi (lo + (d + 15) / 16) ∧ (d % 16 ≠ 0 → q.2.2 = enc FO W 44 (ctr hi (lo + d / 16)))
theorem ast_cl {FO W K B MB : List Nat} {hi lo s : Nat} (hF : by8 FO) (hK : by8 K) (h : kr 44 W K) (hlo : lo + 100 < 2 ^ 64) : ∀ d, s + d ≤ B.length → d ≤ 96 → astI FO W B hi lo s d (it (ast FO K s) s d (B, ctr hi lo, MB))
  | 0, _, _ => ⟨rfl, fun p => by rw [if_neg (by omega)]; rfl, rfl, fun q => absurd rfl q⟩
  | d + 1, hd, h96 => by
    obtain ⟨a, b, c, e⟩ := ast_cl (B := B) (MB := MB) (hi := hi) (lo := lo) (s := s) hF hK h hlo d (by omega) (by omega)
    rw [it_last]
    generalize it (ast FO K s) s d (B, ctr hi lo, MB) = q at a b c e
    unfold ast
    have hb := b (s + d)
    rw [if_neg (by omega)] at hb
    rw [show s + d - s = d by omega, hb]
    by_cases h0 : d % 16 = 0
    · rw [if_pos h0, c, trn_enc hF hK h (ctr_ok _ _), show (d + 15) / 16 = d / 16 by omega]
      refine ⟨by rw [List.length_set]; exact a, fun p => ?_, ?_, fun _ => ?_⟩
      · dsimp only
        rw [gd_set, a, b p]
        by_cases hp : s + d = p
        · rw [if_pos ⟨hp, by omega⟩, if_pos (show s ≤ p ∧ p < s + (d + 1) by omega), ← hp, show s + d - s = d by omega]
          rfl
        · rw [if_neg (show ¬ (s + d = p ∧ s + d < B.length) by omega)]
          by_cases hq : s ≤ p ∧ p < s + d
          · rw [if_pos hq, if_pos (show s ≤ p ∧ p < s + (d + 1) by omega)]
          · rw [if_neg hq, if_neg (show ¬ (s ≤ p ∧ p < s + (d + 1)) by omega)]
      · dsimp only
        rw [inc_ctr (by omega), show lo + (d + 1 + 15) / 16 = lo + d / 16 + 1 by omega]
      · dsimp only
        rw [show (d + 1) / 16 = d / 16 by omega]
    · rw [if_neg h0]
      refine ⟨by rw [List.length_set]; exact a, fun p => ?_, ?_, fun h1 => ?_⟩
      · dsimp only
        rw [gd_set, a, b p]
        by_cases hp : s + d = p
        · rw [if_pos ⟨hp, by omega⟩, if_pos (show s ≤ p ∧ p < s + (d + 1) by omega), ← hp, show s + d - s = d by omega, e h0]
          rfl
        · rw [if_neg (show ¬ (s + d = p ∧ s + d < B.length) by omega)]
          by_cases hq : s ≤ p ∧ p < s + d
          · rw [if_pos hq, if_pos (show s ≤ p ∧ p < s + (d + 1) by omega)]
          · rw [if_neg hq, if_neg (show ¬ (s ≤ p ∧ p < s + (d + 1)) by omega)]
      · dsimp only
        rw [c, show (d + 1 + 15) / 16 = (d + 15) / 16 by omega]
      · dsimp only
        rw [e h0, show (d + 1) / 16 = d / 16 by omega]
theorem gd_crx {K R : List Nat} {a d : Nat} (h : a + d ≤ R.length) (q : Nat) : (it (crx K a) a d R).getD q 0 = if a ≤ q ∧ q < a + d then R.getD q 0 ^^^ K.getD (q - a) 0 else R.getD q 0 := by
  have := gd_fil (f := crx K a) (g := fun k => R.getD k 0 ^^^ K.getD (k - a) 0) (R := R) 0 a d (by omega) (fun j S h1 h2 _ _ _ h4 => by
    have := h4 j (Nat.le_refl _) h2
    rw [Nat.zero_add] at this
    unfold crx
    rw [this, Nat.zero_add]) q
  simpa using this
theorem crs_gd {T W R : List Nat} {hi lo n : Nat} (hn : n ≤ R.length) : ∀ m, m ≤ (n + 15) / 16 → (it (crs T W hi lo n) 0 m R).length = R.length ∧ ∀ q, (it (crs T W hi lo n) 0 m R).getD q 0 = if q < 16 * m ∧ q < n then R.getD q 0 ^^^ stb T W hi lo q else R.getD q 0
  | 0, _ => ⟨rfl, fun q => by rw [if_neg (by omega)]; rfl⟩
  | m + 1, hm => by
    obtain ⟨a, b⟩ := crs_gd (T := T) (W := W) (hi := hi) (lo := lo) hn m (by omega)
    rw [it_snoc]
    generalize it (crs T W hi lo n) 0 m R = S at a b
    unfold crs
    refine ⟨by rw [it_len (crx_len _ _)]; exact a, fun q => ?_⟩
    rw [gd_crx (by rw [a]; omega), b q]
    by_cases hq : 16 * m ≤ q ∧ q < 16 * m + min 16 (n - 16 * m)
    · rw [if_pos hq, if_neg (show ¬ (q < 16 * m ∧ q < n) by omega), if_pos (show q < 16 * (m + 1) ∧ q < n by omega)]
      unfold stb
      rw [show q / 16 = m by omega, show q % 16 = q - 16 * m by omega]
    · rw [if_neg hq]
      by_cases hq2 : q < 16 * m ∧ q < n
      · rw [if_pos hq2, if_pos (show q < 16 * (m + 1) ∧ q < n by omega)]
      · rw [if_neg hq2, if_neg (show ¬ (q < 16 * (m + 1) ∧ q < n) by omega)]
theorem cro_gd {T W KP R : List Nat} {n : Nat} (hn : n ≤ R.length) (q : Nat) : (cro T W KP n R).getD q 0 = if q < n then R.getD q 0 ^^^ stb T W (khi KP) (klo KP) q else R.getD q 0 := by
  unfold cro
  rw [(crs_gd hn _ (Nat.le_refl _)).2 q]
  by_cases hq : q < n
  · rw [if_pos hq, if_pos (show q < 16 * ((n + 15) / 16) ∧ q < n by omega)]
  · rw [if_neg hq, if_neg (show ¬ (q < 16 * ((n + 15) / 16) ∧ q < n) by omega)]
theorem smv_gd {K R : List Nat} {n : Nat} (hR : n + 16 ≤ R.length) : ∀ d, d ≤ n + 16 → (it (fun i => smv K (n + 15 - i)) 0 d R).length = R.length ∧ ∀ q, (it (fun i => smv K (n + 15 - i)) 0 d R).getD q 0 = if n + 16 - d ≤ q ∧ q < n + 16 then (if q < 16 then K.getD q 0 else R.getD (q - 16) 0) else R.getD q 0
  | 0, _ => ⟨rfl, fun q => by rw [if_neg (by omega)]; rfl⟩
  | d + 1, hd => by
    obtain ⟨a, b⟩ := smv_gd (K := K) hR d (by omega)
    rw [it_snoc]
    generalize it (fun i => smv K (n + 15 - i)) 0 d R = S at a b
    unfold smv
    refine ⟨by rw [List.length_set]; exact a, fun q => ?_⟩
    rw [gd_set, a, b q]
    by_cases hq : n + 15 - d = q
    · rw [if_pos ⟨hq, by omega⟩, if_pos (show n + 16 - (d + 1) ≤ q ∧ q < n + 16 by omega), hq]
      by_cases h16 : q < 16
      · rw [if_pos h16, if_pos h16]
      · rw [if_neg h16, if_neg h16, b (q - 16), if_neg (show ¬ (n + 16 - d ≤ q - 16 ∧ q - 16 < n + 16) by omega)]
    · rw [if_neg (show ¬ (n + 15 - d = q ∧ n + 15 - d < R.length) by omega)]
      by_cases hq2 : n + 16 - d ≤ q ∧ q < n + 16
      · rw [if_pos hq2, if_pos (show n + 16 - (d + 1) ≤ q ∧ q < n + 16 by omega)]
      · rw [if_neg hq2, if_neg (show ¬ (n + 16 - (d + 1) ≤ q ∧ q < n + 16) by omega)]
theorem gd_d16 {R : List Nat} {d : Nat} (h : d + 16 ≤ R.length) (q : Nat) : (it d16 0 d R).getD q 0 = if q < d then R.getD (q + 16) 0 else R.getD q 0 := by
  have := gd_fil (f := d16) (g := fun k => R.getD (k + 16) 0) (R := R) 0 0 d (by omega) (fun j S h1 h2 _ h3 _ h4 => by
    unfold d16
    have e : S.getD (j + 16) 0 = R.getD (j + 16) 0 := by
      by_cases hj : j + 16 < d
      · have := h4 (j + 16) (by omega) (by omega)
        rw [Nat.zero_add] at this
        exact this
      · exact h3 (j + 16) (by omega)
    rw [e, Nat.zero_add]) q
  simpa using this
theorem gd_drp {R : List Nat} {d : Nat} (h : d + 8 ≤ R.length) (q : Nat) : (drp d R).getD q 0 = if q < d then R.getD (q + 8) 0 else R.getD q 0 := by
  have := gd_fil (f := drs) (g := fun k => R.getD (k + 8) 0) (R := R) 0 0 d (by omega) (fun j S h1 h2 _ h3 _ h4 => by
    unfold drs
    have e : S.getD (j + 8) 0 = R.getD (j + 8) 0 := by
      by_cases hj : j + 8 < d
      · have := h4 (j + 8) (by omega) (by omega)
        rw [Nat.zero_add] at this
        exact this
      · exact h3 (j + 8) (by omega)
    rw [e, Nat.zero_add]) q
  unfold drp
  simpa using this
theorem frs_gd {R : List Nat} {n : Nat} (hR : n + 8 ≤ R.length) : ∀ d, d ≤ n → (it (fun i => frs (n + 7 - i)) 0 d R).length = R.length ∧ ∀ q, (it (fun i => frs (n + 7 - i)) 0 d R).getD q 0 = if n + 8 - d ≤ q ∧ q < n + 8 then R.getD (q - 8) 0 else R.getD q 0
  | 0, _ => ⟨rfl, fun q => by rw [if_neg (by omega)]; rfl⟩
  | d + 1, hd => by
    obtain ⟨a, b⟩ := frs_gd hR d (by omega)
    rw [it_snoc]
    generalize it (fun i => frs (n + 7 - i)) 0 d R = S at a b
    unfold frs
    refine ⟨by rw [List.length_set]; exact a, fun q => ?_⟩
    rw [gd_set, a, b q]
    by_cases hq : n + 7 - d = q
    · rw [if_pos ⟨hq, by omega⟩, if_pos (show n + 8 - (d + 1) ≤ q ∧ q < n + 8 by omega), hq, b (q - 8), if_neg (show ¬ (n + 8 - d ≤ q - 8 ∧ q - 8 < n + 8) by omega)]
    · rw [if_neg (show ¬ (n + 7 - d = q ∧ n + 7 - d < R.length) by omega)]
      by_cases hq2 : n + 8 - d ≤ q ∧ q < n + 8
      · rw [if_pos hq2, if_pos (show n + 8 - (d + 1) ≤ q ∧ q < n + 8 by omega)]
      · rw [if_neg hq2, if_neg (show ¬ (n + 8 - (d + 1) ≤ q ∧ q < n + 8) by omega)]
theorem gd_frt {b c n : Nat} {R : List Nat} (hR : n + 8 ≤ R.length) {q : Nat} (hq : q < n + 8) : (frt b c n R).getD q 0 = if q < 8 then (if q = 1 ∨ q = 2 then c else b) else R.getD (q - 8) 0 := by
  obtain ⟨a, h⟩ := frs_gd hR n (Nat.le_refl _)
  unfold frt
  have := gd_fil (f := fr8 b c) (g := fun k => if k = 1 ∨ k = 2 then c else b) (R := it (fun i => frs (n + 7 - i)) 0 n R) 0 0 8 (by rw [a]; omega) (fun j S _ _ _ _ _ _ => by unfold fr8; rw [Nat.zero_add]) q
  rw [this]
  by_cases h8 : q < 8
  · rw [if_pos (show 0 + 0 ≤ q ∧ q < 0 + 0 + 8 by omega), if_pos h8, Nat.sub_zero]
  · rw [if_neg (show ¬ (0 + 0 ≤ q ∧ q < 0 + 0 + 8) by omega), if_neg h8, h q, if_pos (show n + 8 - n ≤ q ∧ q < n + 8 by omega)]
theorem mst_gd {K R : List Nat} {i : Nat} (hi : 1 ≤ i) (hR : 8 * i + 8 ≤ R.length) : ∀ d, d ≤ 8 → (it (mst K i) 0 d R).length = R.length ∧ ∀ q, (it (mst K i) 0 d R).getD q 0 = if q < d then K.getD q 0 else if 8 * i ≤ q ∧ q < 8 * i + d then K.getD (8 + (q - 8 * i)) 0 else R.getD q 0
  | 0, _ => ⟨rfl, fun q => by rw [if_neg (by omega), if_neg (by omega)]; rfl⟩
  | d + 1, hd => by
    obtain ⟨a, b⟩ := mst_gd (K := K) hi hR d (by omega)
    rw [it_snoc]
    generalize it (mst K i) 0 d R = S at a b
    unfold mst
    refine ⟨by rw [List.length_set, List.length_set]; exact a, fun q => ?_⟩
    rw [gd_set, gd_set, List.length_set, a, b q]
    by_cases h1 : 8 * i + d = q
    · rw [if_pos ⟨h1, by omega⟩, if_neg (show ¬ q < d + 1 by omega), if_pos (show 8 * i ≤ q ∧ q < 8 * i + (d + 1) by omega), show q - 8 * i = d by omega]
    · rw [if_neg (show ¬ (8 * i + d = q ∧ 8 * i + d < R.length) by omega)]
      by_cases h2 : d = q
      · rw [if_pos ⟨h2, by omega⟩, if_pos (show q < d + 1 by omega), h2]
      · rw [if_neg (show ¬ (d = q ∧ d < R.length) by omega)]
        by_cases h3 : q < d
        · rw [if_pos h3, if_pos (show q < d + 1 by omega)]
        · rw [if_neg h3, if_neg (show ¬ q < d + 1 by omega)]
          by_cases h4 : 8 * i ≤ q ∧ q < 8 * i + d
          · rw [if_pos h4, if_pos (show 8 * i ≤ q ∧ q < 8 * i + (d + 1) by omega)]
          · rw [if_neg h4, if_neg (show ¬ (8 * i ≤ q ∧ q < 8 * i + (d + 1)) by omega)]
theorem mld_gd {R : List Nat} {i : Nat} : ∀ d, d ≤ 8 → (it (mld R i) 0 d z16).length = 16 ∧ ∀ q, (it (mld R i) 0 d z16).getD q 0 = if q < d then R.getD q 0 else if 8 ≤ q ∧ q < 8 + d then R.getD (8 * i + (q - 8)) 0 else 0
  | 0, _ => ⟨rfl, fun q => by rw [if_neg (by omega), if_neg (by omega), it_zero, gd_z16]⟩
  | d + 1, hd => by
    obtain ⟨a, b⟩ := mld_gd (R := R) (i := i) d (by omega)
    rw [it_snoc]
    generalize it (mld R i) 0 d z16 = S at a b
    unfold mld
    refine ⟨by rw [List.length_set, List.length_set]; exact a, fun q => ?_⟩
    rw [gd_set, gd_set, List.length_set, a, b q]
    by_cases h1 : 8 + d = q
    · rw [if_pos ⟨h1, by omega⟩, if_neg (show ¬ q < d + 1 by omega), if_pos (show 8 ≤ q ∧ q < 8 + (d + 1) by omega), show q - 8 = d by omega]
    · rw [if_neg (show ¬ (8 + d = q ∧ 8 + d < 16) by omega)]
      by_cases h2 : d = q
      · rw [if_pos ⟨h2, by omega⟩, if_pos (show q < d + 1 by omega), h2]
      · rw [if_neg (show ¬ (d = q ∧ d < 16) by omega)]
        by_cases h3 : q < d
        · rw [if_pos h3, if_pos (show q < d + 1 by omega)]
        · rw [if_neg h3, if_neg (show ¬ q < d + 1 by omega)]
          by_cases h4 : 8 ≤ q ∧ q < 8 + d
          · rw [if_pos h4, if_pos (show 8 ≤ q ∧ q < 8 + (d + 1) by omega)]
          · rw [if_neg h4, if_neg (show ¬ (8 ≤ q ∧ q < 8 + (d + 1)) by omega)]
/-! the wrapping -/
/-- the first m bytes are the same -/
def ag (m a b : Nat) (B R : List Nat) : Prop := (B.length = a ∧ by8 B) ∧ (R.length = b ∧ by8 R) ∧ ∀ q, q < m → B.getD q 0 = R.getD q 0
theorem lf_mlf {m a b i : Nat} {B R : List Nat} (h : ag m a b B R) (ha : m ≤ a) (hi : 8 * i + 8 ≤ m) (hm : 8 ≤ m) : lf B i = mlf R i := by
  obtain ⟨l, g⟩ := mld_gd (R := R) (i := i) 8 (by omega)
  have hl : (lf B i).length = 16 := lf_len (by rw [h.1.1]; omega)
  refine gd_ext (by rw [hl]; exact l.symm) (fun q hq => ?_)
  rw [hl] at hq
  unfold mlf
  rw [g q]
  unfold lf
  rw [gd_app, gd_tk, gd_tk, gd_dr, List.length_take, h.1.1, show min 8 a = 8 by omega]
  by_cases h8 : q < 8
  · rw [if_pos h8, if_pos h8, if_pos h8]
    exact h.2.2 q (by omega)
  · rw [if_neg h8, if_neg h8, if_pos (show q - 8 < 8 by omega), if_pos (show 8 ≤ q ∧ q < 8 + 8 by omega)]
    exact h.2.2 _ (by omega)
theorem ly_mst {m a b i : Nat} {K B R : List Nat} (hK : K.length = 16) (hK8 : by8 K) (h : ag m a b B R) (ha : m ≤ a) (hb : m ≤ b) (hi1 : 1 ≤ i) (hi : 8 * i + 8 ≤ m) : ag m a b (ly K B i) (it (mst K i) 0 8 R) := by
  obtain ⟨l, g⟩ := mst_gd (K := K) (R := R) hi1 (by rw [h.2.1.1]; omega) 8 (by omega)
  have hl : (ly K B i).length = a := (ly_len hK (by rw [h.1.1]; omega)).trans h.1.1
  refine ⟨⟨hl, ly8 i hK8 h.1.2⟩, ⟨l.trans h.2.1.1, mst8 hK8 i 0 8 h.2.1.2⟩, fun q hq => ?_⟩
  have hc : (cpy K B 0 0 8).length = a := (cpy_length (by omega) (by rw [h.1.1]; omega)).trans h.1.1
  unfold ly
  rw [g q, gd_cpy (by omega) (by rw [hc]; omega), gd_cpy (by omega) (by rw [h.1.1]; omega)]
  by_cases h1 : 8 * i ≤ q ∧ q < 8 * i + 8
  · rw [if_pos h1, if_neg (show ¬ q < 8 by omega), if_pos h1]
  · rw [if_neg h1, if_neg h1]
    by_cases h2 : q < 8
    · rw [if_pos (show 0 ≤ q ∧ q < 0 + 8 by omega), if_pos h2, Nat.zero_add, Nat.sub_zero]
    · rw [if_neg (show ¬ (0 ≤ q ∧ q < 0 + 8) by omega), if_neg h2]
      exact h.2.2 q hq
theorem wnd_mwd {FO W K B R : List Nat} {n a b : Nat} (hF : by8 FO) (hK : by8 K) (h : kr 0 W K) (hn : n ≤ 10) (ha : 8 * n + 8 ≤ a) (hb : 8 * n + 8 ≤ b) (hg : ag (8 * n + 8) a b B R) : ag (8 * n + 8) a b (wnd FO K n B) (mwd FO W n R) := by
  unfold wnd mwd
  refine it_rel (ag (8 * n + 8) a b) 6 0 B R (fun j S T _ hj hST => ?_) hg
  unfold wr mwr
  refine it_rel (ag (8 * n + 8) a b) n 0 S T (fun i S T _ hi hST => ?_) hST
  unfold ws mws
  have hlf := lf_mlf hST ha (show 8 * (i + 1) + 8 ≤ 8 * n + 8 by omega) (by omega)
  have hm := mlf_ok hST.2.1.2 (i + 1)
  rw [hlf, trn_enc hF hK h hm]
  obtain ⟨e1, e2⟩ := enc_ok hF W 0 hm.1 hm.2
  exact ly_mst (by rw [nm_len]; exact e1) (nm8 e2 (num_lt hn (by omega) (by omega))) hST ha hb (by omega) (by omega)
theorem uwn_mud {BA W K B R : List Nat} {n a b : Nat} (hB : by8 BA) (h : kr 0 W K) (hn : n ≤ 10) (ha : 8 * n + 8 ≤ a) (hb : 8 * n + 8 ≤ b) (hg : ag (8 * n + 8) a b B R) : ag (8 * n + 8) a b (uwn BA K n B) (mud BA W n R) := by
  unfold uwn mud
  refine it_rel (ag (8 * n + 8) a b) 6 0 B R (fun j S T _ hj hST => ?_) hg
  unfold uwr mur
  refine it_rel (ag (8 * n + 8) a b) n 0 S T (fun i S T _ hi hST => ?_) hST
  unfold uws mus
  have hlf := lf_mlf hST ha (show 8 * (n - i) + 8 ≤ 8 * n + 8 by omega) (by omega)
  have hm := mlf_ok hST.2.1.2 (n - i)
  have hx : n * (5 - j) + (n - i) < 256 := num_lt hn (by omega) (by omega)
  have hm2 : l16 (nm (mlf T (n - i)) (n * (5 - j) + (n - i))) := ⟨by rw [nm_len]; exact hm.1, nm8 hm.2 hx⟩
  rw [hlf, trnB_dec hB h hm2]
  obtain ⟨e1, e2⟩ := mdec_ok hB W 0 (q := (nm (mlf T (n - i)) (n * (5 - j) + (n - i)), z16)) ⟨hm2.1, hm2.2, rfl, z16_8⟩
  exact ly_mst e1 e2.1 hST ha hb (by omega) (by omega)
theorem tk_gd {A B : List Nat} {n q : Nat} (h : A.take n = B.take n) (hq : q < n) : A.getD q 0 = B.getD q 0 := by
  rw [← gd_take (A := A) hq, h, gd_take hq]
theorem gd_tk2 {A B : List Nat} {n : Nat} (h1 : n ≤ A.length) (h2 : n ≤ B.length) (h : ∀ q, q < n → A.getD q 0 = B.getD q 0) : A.take n = B.take n := (gd_take2 h1 h2).mp h
theorem cpy_0 {A B : List Nat} {n : Nat} : cpy A B 0 0 n = A.take n ++ B.drop n := by
  unfold cpy
  rw [List.take_zero, List.drop_zero, List.nil_append, Nat.zero_add]
/-! one block -/
theorem e_cip0 {FO W K IN OU : List Nat} (hF : by8 FO) (hK : by8 K) (h : kr 0 W K) (hI : l88 IN) : (trn FO K (cpy IN OU 0 0 16)).take 16 = enc FO W 0 (IN.take 16) := by
  have hl : (IN.take 16).length = 16 := by rw [List.length_take, hI.1]; rfl
  rw [cpy_0, trn_app hl, List.take_append_of_le_length (by rw [trn_len, hl]; omega), List.take_of_length_le (by rw [trn_len, hl]; omega)]
  exact trn_enc hF hK h ⟨hl, hI.2.take 16⟩
theorem e_cip1 {BA W K IN OU : List Nat} (hB : by8 BA) (h : kr 0 W K) (hI : l88 IN) : (trnB BA K (cpy IN OU 0 0 16)).take 16 = dec BA W 0 (IN.take 16) := by
  have hl : (IN.take 16).length = 16 := by rw [List.length_take, hI.1]; rfl
  rw [cpy_0, trnB_app hl, List.take_append_of_le_length (by rw [trnB_len, hl]; omega), List.take_of_length_le (by rw [trnB_len, hl]; omega)]
  exact trnB_dec hB h ⟨hl, hI.2.take 16⟩
/-! sealing with a mark -/
theorem cro_len (T W KP : List Nat) (n : Nat) (R : List Nat) : (cro T W KP n R).length = R.length := by
  unfold cro
  refine it_inv (fun S : List Nat => S.length = R.length) _ 0 R (fun j S _ _ hS => ?_) rfl
  unfold crs
  rw [it_len (crx_len _ _)]
  exact hS
theorem e_seal0 {FO W K1 K2 JB SM SG MB IB IS NL IN OU R : List Nat} {BL : List (List Nat)} {ct ni : Nat} (hF : by8 FO) (hK1 : by8 K1) (hK2 : by8 K2) (h1 : kr 0 W K1) (h2 : kr 44 W K2) (hJ : l88 JB) (hS : l16 SM) (hG : l16 SG) (hI : ∀ i, i < 5 → l88 (BL.getD i []) ∧ NL.getD i 0 ≤ 40) (hct : ct ≤ 5) (hr : itr ct BL NL IB IS) (hIB : by8 IB) (hIN : l88 IN) (hOU : l88 OU) (hn : ni ≤ 64) (hR : R.length = 112) (hRI : ∀ q, q < ni → R.getD q 0 = IN.getD q 0) :
    ∀ q, q < 16 + ni → ((it (ast FO K2 16) 16 (16 + ni - 16) ((cpy IN (cpy (cjo FO K1 JB SM SG BL NL ct IN ni) OU 0 0 16) 0 16 ni), ct0 (cpy IN (cpy (cjo FO K1 JB SM SG BL NL ct IN ni) OU 0 0 16) 0 16 ni), MB)).1).getD q 0 = (msl FO W (mjo FO W IB IS ct (IN.take ni)) ni R).getD q 0 := by
  have hm := cjo_mjo (M := SG) (RB := IN) (n := ni) hF hK1 h1 hJ hS (by rw [hG.1]; omega) hG.2 hI hct hr hIB hIN (by omega)
  have hmk := mjo_ok hF W IS hIB ct (hIN.2.take ni)
  have hco := cjo_ok (JB := JB) (SM := SM) (M := SG) (BL := BL) (NL := NL) (ct := ct) (n := ni) (RB := IN) hF hK1 hJ.2 hS.2 hG.2 (fun i hi => (hI i (by omega)).1.2) hIN.2
  rw [List.take_of_length_le (by rw [hco.1, hG.1]; omega)] at hm
  rw [hm]
  generalize mjo FO W IB IS ct (IN.take ni) = K at hmk
  have hc1 : (cpy K OU 0 0 16).length = 88 := (cpy_length (by rw [hmk.1]; omega) (by rw [hOU.1]; omega)).trans hOU.1
  have hc2 : (cpy IN (cpy K OU 0 0 16) 0 16 ni).length = 88 := (cpy_length (by rw [hIN.1]; omega) (by rw [hc1]; omega)).trans hc1
  have hc8 : by8 (cpy IN (cpy K OU 0 0 16) 0 16 ni) := cpy8 hIN.2 (cpy8 hmk.2 hOU.2)
  have hck : (cpy IN (cpy K OU 0 0 16) 0 16 ni).take 16 = K := by
    refine gd_ext (by rw [List.length_take, hc2, hmk.1]; rfl) (fun q hq => ?_)
    rw [List.length_take, hc2] at hq
    rw [gd_tk, if_pos (show q < 16 by omega), gd_cpy (by rw [hIN.1]; omega) (by rw [hc1]; omega), if_neg (show ¬ (16 ≤ q ∧ q < 16 + ni) by omega), gd_cpy (by rw [hmk.1]; omega) (by rw [hOU.1]; omega), if_pos (show 0 ≤ q ∧ q < 0 + 16 by omega), Nat.zero_add, Nat.sub_zero]
  have hlo := klo_lt hmk.2
  rw [ct0_ctr (by rw [hc2]; omega) hc8, hck, show 16 + ni - 16 = ni by omega]
  have ha := (ast_cl (B := cpy IN (cpy K OU 0 0 16) 0 16 ni) (MB := MB) (hi := khi K) (lo := klo K) (s := 16) hF hK2 h2 (by omega) ni (by rw [hc2]; omega) (by omega)).2.1
  intro q hq
  rw [ha q, gd_cpy (by rw [hIN.1]; omega) (by rw [hc1]; omega)]
  unfold msl
  have hcl : (cro FO W K ni R).length = 112 := (cro_len FO W K ni R).trans hR
  rw [(smv_gd (K := K) (n := ni) (by rw [hcl]; omega) (ni + 16) (Nat.le_refl _)).2 q, if_pos (show ni + 16 - (ni + 16) ≤ q ∧ q < ni + 16 by omega)]
  by_cases h16 : q < 16
  · rw [if_neg (show ¬ (16 ≤ q ∧ q < 16 + ni) by omega), if_neg (show ¬ (16 ≤ q ∧ q < 16 + ni) by omega), if_pos h16, gd_cpy (by rw [hmk.1]; omega) (by rw [hOU.1]; omega), if_pos (show 0 ≤ q ∧ q < 0 + 16 by omega), Nat.zero_add, Nat.sub_zero]
  · rw [if_pos (show 16 ≤ q ∧ q < 16 + ni by omega), if_pos (show 16 ≤ q ∧ q < 16 + ni by omega), if_neg h16, cro_gd (by rw [hR]; omega), if_pos (show q - 16 < ni by omega), hRI _ (by omega), Nat.zero_add]
/-! opening what has a mark -/
theorem eqs_all {A A' B B' : List Nat} (hA : ∀ q, q < 16 → A.getD q 0 = A'.getD q 0) (hB : ∀ q, q < 16 → B.getD q 0 = B'.getD q 0) : it (eqs A B) 0 16 true = it (eqs A' B') 0 16 true :=
  it_congr 16 0 true (fun j b _ hj => by
    unfold eqs
    rw [hA j (by omega), hB j (by omega)])
theorem e_open0 {FO W K1 K2 JB SM SG MB OP IB IS NL IN R : List Nat} {BL : List (List Nat)} {ct ni : Nat} (hF : by8 FO) (hK1 : by8 K1) (hK2 : by8 K2) (h1 : kr 0 W K1) (h2 : kr 44 W K2) (hJ : l88 JB) (hS : l16 SM) (hG : l16 SG) (hMB : l16 MB) (hP : l88 OP) (hI : ∀ i, i < 5 → l88 (BL.getD i []) ∧ NL.getD i 0 ≤ 40) (hct : ct ≤ 5) (hr : itr ct BL NL IB IS) (hIB : by8 IB) (hIN : l88 IN) (hn : 16 ≤ ni ∧ ni ≤ 80) (hR : R.length = 112) (hRI : ∀ q, q < ni → R.getD q 0 = IN.getD q 0) :
    (∀ q, q < ni - 16 → ((it (ast FO K2 0) 0 (ni - 16 - 0) ((cpy IN OP 16 0 (ni - 16)), ct0 IN, MB)).1).getD q 0 = (mop FO W ni R).getD q 0) ∧
    it (eqs (cjo FO K1 JB SM SG BL NL ct ((it (ast FO K2 0) 0 (ni - 16 - 0) ((cpy IN OP 16 0 (ni - 16)), ct0 IN, MB)).1) (ni - 16)) IN) 0 16 true = it (eqs (mjo FO W IB IS ct ((mop FO W ni R).take (ni - 16))) (R.take 16)) 0 16 true := by
  have hc : (cpy IN OP 16 0 (ni - 16)).length = 88 := (cpy_length (by rw [hIN.1]; omega) (by rw [hP.1]; omega)).trans hP.1
  have hRk : R.take 16 = IN.take 16 := gd_tk2 (by omega) (by rw [hIN.1]; omega) (fun q hq => hRI q (by omega))
  have hall := ast_all (q := (cpy IN OP 16 0 (ni - 16), ct0 IN, MB)) hF hK2 0 0 (ni - 16 - 0) ⟨⟨hc, cpy8 hIN.2 hP.2⟩, ct0_ok (by rw [hIN.1]; omega) hIN.2, hMB⟩
  have hlo := klo_lt (hIN.2.take 16)
  have ha := (ast_cl (B := cpy IN OP 16 0 (ni - 16)) (MB := MB) (hi := khi (IN.take 16)) (lo := klo (IN.take 16)) (s := 0) hF hK2 h2 (by omega) (ni - 16 - 0) (by rw [hc]; omega) (by omega)).2.1
  rw [← ct0_ctr (by rw [hIN.1]; omega) hIN.2] at ha
  generalize it (ast FO K2 0) 0 (ni - 16 - 0) (cpy IN OP 16 0 (ni - 16), ct0 IN, MB) = Q at ha hall
  have hdl : (it d16 0 (ni - 16) R).length = 112 := by rw [it_len d16_len]; exact hR
  have hout : ∀ q, q < ni - 16 → Q.1.getD q 0 = (mop FO W ni R).getD q 0 := by
    intro q hq
    unfold mop
    rw [ha q, if_pos (show 0 ≤ q ∧ q < 0 + (ni - 16 - 0) by omega), gd_cpy (by rw [hIN.1]; omega) (by rw [hP.1]; omega), if_pos (show 0 ≤ q ∧ q < 0 + (ni - 16) by omega), cro_gd (by rw [hdl]; omega), if_pos hq, gd_d16 (by rw [hR]; omega), if_pos hq, hRI _ (by omega), hRk, Nat.sub_zero, Nat.add_comm 16 q]
  refine ⟨hout, ?_⟩
  have hml : (mop FO W ni R).length = 112 := by
    unfold mop
    rw [cro_len]
    exact hdl
  have hm := cjo_mjo (M := SG) (RB := Q.1) (n := ni - 16) hF hK1 h1 hJ hS (by rw [hG.1]; omega) hG.2 hI hct hr hIB hall.1 (by omega)
  rw [gd_tk2 (by rw [hall.1.1]; omega) (by rw [hml]; omega) hout] at hm
  refine eqs_all (fun q hq => ?_) (fun q hq => ?_)
  · rw [← hm, gd_tk, if_pos hq]
  · rw [hRk, gd_tk, if_pos hq]
/-! wrapping -/
theorem e_seal1 {FO W K IN OU R : List Nat} {ni : Nat} (hF : by8 FO) (hK : by8 K) (h : kr 0 W K) (hIN : l88 IN) (hOU : l88 OU) (hn : ni % 8 = 0 ∧ 16 ≤ ni ∧ ni ≤ 64) (hR : R.length = 112) (hR8 : by8 R) (hRI : ∀ q, q < ni → R.getD q 0 = IN.getD q 0) :
    ∀ q, q < 8 + ni → (wnd FO K ((8 + ni) / 8 - 1) (cpy IN (it (fls 166) 0 8 OU) 0 8 ni)).getD q 0 = (mwd FO W ((ni + 8) / 8 - 1) (frt 166 166 ni R)).getD q 0 := by
  have hfl : (it (fls 166) 0 8 OU).length = 88 := by rw [it_len (fls_len 166)]; exact hOU.1
  have hf8 : by8 (it (fls 166) 0 8 OU) := it_inv by8 8 0 OU (fun j S _ _ hS => hS.set (by omega)) hOU.2
  have hc : (cpy IN (it (fls 166) 0 8 OU) 0 8 ni).length = 88 := (cpy_length (by rw [hIN.1]; omega) (by rw [hfl]; omega)).trans hfl
  obtain ⟨f1, f2⟩ := frt_ok (b := 166) (c := 166) (by omega) (by omega) ni hR8
  have hg : ag (8 * ((8 + ni) / 8 - 1) + 8) 88 112 (cpy IN (it (fls 166) 0 8 OU) 0 8 ni) (frt 166 166 ni R) := by
    refine ⟨⟨hc, cpy8 hIN.2 hf8⟩, ⟨f1.trans hR, f2⟩, fun q hq => ?_⟩
    rw [gd_cpy (by rw [hIN.1]; omega) (by rw [hfl]; omega), gd_frt (by rw [hR]; omega) (by omega)]
    by_cases h8 : q < 8
    · rw [if_neg (show ¬ (8 ≤ q ∧ q < 8 + ni) by omega), if_pos h8, gd_fls (by rw [hOU.1]; omega), if_pos (show 0 ≤ q ∧ q < 0 + 8 by omega)]
      split <;> rfl
    · rw [if_pos (show 8 ≤ q ∧ q < 8 + ni by omega), if_neg h8, hRI _ (by omega), Nat.zero_add]
  intro q hq
  rw [show (ni + 8) / 8 - 1 = (8 + ni) / 8 - 1 by omega]
  exact (wnd_mwd hF hK h (by omega) (by omega) (by omega) hg).2.2 q (by omega)
theorem e_open1 {BA W K IN OP OU R : List Nat} {ni : Nat} (hB : by8 BA) (h : kr 0 W K) (hIN : l88 IN) (hP : l88 OP) (hOU : l88 OU) (hn : ni % 8 = 0 ∧ 24 ≤ ni ∧ ni ≤ 72) (hR : R.length = 112) (hR8 : by8 R) (hRI : ∀ q, q < ni → R.getD q 0 = IN.getD q 0) :
    it (eqv 166 (uwn BA K (ni / 8 - 1) (cpy IN OP 0 0 ni))) 0 8 true = it (eqv 166 (mud BA W (ni / 8 - 1) R)) 0 8 true ∧
    ∀ q, q < ni - 8 → (cpy (cpy (uwn BA K (ni / 8 - 1) (cpy IN OP 0 0 ni)) (uwn BA K (ni / 8 - 1) (cpy IN OP 0 0 ni)) 8 0 (ni - 8)) OU 0 0 (ni - 8)).getD q 0 = (drp (ni - 8) (mud BA W (ni / 8 - 1) R)).getD q 0 := by
  have hc : (cpy IN OP 0 0 ni).length = 88 := (cpy_length (by rw [hIN.1]; omega) (by rw [hP.1]; omega)).trans hP.1
  have hg : ag (8 * (ni / 8 - 1) + 8) 88 112 (cpy IN OP 0 0 ni) R := by
    refine ⟨⟨hc, cpy8 hIN.2 hP.2⟩, ⟨hR, hR8⟩, fun q hq => ?_⟩
    rw [gd_cpy (by rw [hIN.1]; omega) (by rw [hP.1]; omega), if_pos (show 0 ≤ q ∧ q < 0 + ni by omega), hRI _ (by omega), Nat.zero_add, Nat.sub_zero]
  have hu := uwn_mud hB h (show ni / 8 - 1 ≤ 10 by omega) (by omega) (by omega) hg
  generalize uwn BA K (ni / 8 - 1) (cpy IN OP 0 0 ni) = X at hu
  generalize mud BA W (ni / 8 - 1) R = Y at hu
  have hX := hu.1.1
  have hcx : (cpy X X 8 0 (ni - 8)).length = 88 := (cpy_length (by rw [hX]; omega) (by rw [hX]; omega)).trans hX
  refine ⟨it_congr 8 0 true (fun j b _ hj => ?_), fun q hq => ?_⟩
  · unfold eqv
    rw [hu.2.2 j (by omega)]
  · rw [gd_cpy (by rw [hcx]; omega) (by rw [hOU.1]; omega), if_pos (show 0 ≤ q ∧ q < 0 + (ni - 8) by omega), gd_cpy (by rw [hX]; omega) (by rw [hX]; omega), if_pos (show 0 ≤ 0 + (q - 0) ∧ 0 + (q - 0) < 0 + (ni - 8) by omega), gd_drp (by rw [hu.2.1.1]; omega), if_pos hq, show 8 + (0 + (q - 0) - 0) = q + 8 by omega]
    exact hu.2.2 _ (by omega)
/-! padding -/
theorem bo_sig : ∀ q, q < 4 → bo 2790873510 q = if q = 1 ∨ q = 2 then 89 else 166 := by decide +kernel
theorem bo_n : ∀ n, n < 256 → ∀ k, k < 4 → bo n k = if k = 3 then n else 0 := by decide +kernel
theorem r8_8 (n : Nat) : r8 (8 + n) = r8 n + 8 := by
  unfold r8
  omega
theorem pdo_ok {n : Nat} {IN OU : List Nat} (hIN : l88 IN) (hOU : l88 OU) (hn : n ≤ 64) : (pdo n IN OU).length = 88 ∧ by8 (pdo n IN OU) ∧ ∀ q, q < r8 n + 8 → (pdo n IN OU).getD q 0 = if q < 4 then (if q = 1 ∨ q = 2 then 89 else 166) else if q < 8 then (if q = 7 then n else 0) else if q < 8 + n then IN.getD (q - 8) 0 else 0 := by
  have hr : r8 (8 + n) = r8 n + 8 := r8_8 n
  have hr2 : n ≤ r8 n ∧ r8 n < n + 8 := by unfold r8; omega
  have l1 : (it (fdm 2790873510 0) 0 4 OU).length = 88 := by rw [it_len (fdm_len _ _)]; exact hOU.1
  have l2 : (it (fdm n 4) 0 4 (it (fdm 2790873510 0) 0 4 OU)).length = 88 := by rw [it_len (fdm_len _ _)]; exact l1
  have l3 : (cpy IN (it (fdm n 4) 0 4 (it (fdm 2790873510 0) 0 4 OU)) 0 8 n).length = 88 := (cpy_length (by rw [hIN.1]; omega) (by rw [l2]; omega)).trans l2
  have b3 : by8 (cpy IN (it (fdm n 4) 0 4 (it (fdm 2790873510 0) 0 4 OU)) 0 8 n) := cpy8 hIN.2 (fdm8 0 4 (fdm8 0 4 hOU.2))
  have hz := zrs_ok (8 + n) (r8 (8 + n) - (8 + n)) b3
  unfold pdo
  refine ⟨hz.1.trans l3, hz.2, fun q hq => ?_⟩
  rw [gd_zr (by rw [l3]; omega), gd_cpy (by rw [hIN.1]; omega) (by rw [l2]; omega), gd_fdm (by rw [l1]; omega), gd_fdm (by rw [hOU.1]; omega)]
  by_cases h4 : q < 4
  · rw [if_neg (show ¬ (8 + n ≤ q ∧ q < 8 + n + (r8 (8 + n) - (8 + n))) by omega), if_neg (show ¬ (8 ≤ q ∧ q < 8 + n) by omega), if_neg (show ¬ (4 ≤ q ∧ q < 4 + 4) by omega), if_pos (show 0 ≤ q ∧ q < 0 + 4 by omega), if_pos h4, Nat.sub_zero]
    exact bo_sig q h4
  · rw [if_neg h4]
    by_cases h8 : q < 8
    · rw [if_neg (show ¬ (8 + n ≤ q ∧ q < 8 + n + (r8 (8 + n) - (8 + n))) by omega), if_neg (show ¬ (8 ≤ q ∧ q < 8 + n) by omega), if_pos (show 4 ≤ q ∧ q < 4 + 4 by omega), if_pos h8, bo_n n (by omega) (q - 4) (by omega)]
      by_cases h7 : q = 7
      · rw [if_pos h7, if_pos (show q - 4 = 3 by omega)]
      · rw [if_neg h7, if_neg (show ¬ q - 4 = 3 by omega)]
    · rw [if_neg h8]
      by_cases hn8 : q < 8 + n
      · rw [if_neg (show ¬ (8 + n ≤ q ∧ q < 8 + n + (r8 (8 + n) - (8 + n))) by omega), if_pos (show 8 ≤ q ∧ q < 8 + n by omega), if_pos hn8, Nat.zero_add]
      · rw [if_pos (show 8 + n ≤ q ∧ q < 8 + n + (r8 (8 + n) - (8 + n)) by omega), if_neg hn8]
theorem gd_p4 {n : Nat} {B : List Nat} (h : 8 ≤ B.length) (q : Nat) : (it (p4 n) 4 4 B).getD q 0 = if 4 ≤ q ∧ q < 8 then (if q = 7 then n else 0) else B.getD q 0 := by
  have := gd_fil (f := p4 n) (g := fun k => if k = 7 then n else 0) (R := B) 0 4 4 (by omega) (fun j S _ _ _ _ _ _ => by unfold p4; rw [Nat.zero_add]) q
  simpa using this
theorem pdr_gd {n : Nat} {R : List Nat} (hR : R.length = 112) (hR8 : by8 R) (hn : n ≤ 64) {q : Nat} (hq : q < r8 n + 8) : (pdr n R).getD q 0 = if q < 4 then (if q = 1 ∨ q = 2 then 89 else 166) else if q < 8 then (if q = 7 then n else 0) else if q < 8 + n then R.getD (q - 8) 0 else 0 := by
  have hr2 : n ≤ r8 n ∧ r8 n < n + 8 := by unfold r8; omega
  have hz := zrs_ok n (r8 n - n) hR8
  have hf := frt_ok (b := 166) (c := 89) (by omega) (by omega) (r8 n) hz.2
  unfold pdr
  rw [gd_p4 (by rw [hf.1, hz.1, hR]; omega), gd_frt (by rw [hz.1, hR]; omega) hq, gd_zr (by rw [hR]; omega)]
  by_cases h4 : q < 4
  · rw [if_neg (show ¬ (4 ≤ q ∧ q < 8) by omega), if_pos (show q < 8 by omega), if_pos h4]
  · rw [if_neg h4]
    by_cases h8 : q < 8
    · rw [if_pos (show 4 ≤ q ∧ q < 8 by omega), if_pos h8]
    · rw [if_neg (show ¬ (4 ≤ q ∧ q < 8) by omega), if_neg h8, if_neg h8]
      by_cases hn8 : q < 8 + n
      · rw [if_neg (show ¬ (n ≤ q - 8 ∧ q - 8 < n + (r8 n - n)) by omega), if_pos hn8]
      · rw [if_pos (show n ≤ q - 8 ∧ q - 8 < n + (r8 n - n) by omega), if_neg hn8]
theorem gd_sgl {K R : List Nat} (hR : 16 ≤ R.length) (q : Nat) : (sgl K R).getD q 0 = if q < 16 then K.getD q 0 else R.getD q 0 := by
  unfold sgl
  rw [gd_cp1 (by omega)]
  by_cases h : q < 16
  · rw [if_pos h, if_pos (show 0 ≤ q ∧ q < 0 + 16 by omega)]
  · rw [if_neg h, if_neg (show ¬ (0 ≤ q ∧ q < 0 + 16) by omega)]
theorem e_seal2 {FO W K IN OU R : List Nat} {ni : Nat} (hF : by8 FO) (hK : by8 K) (h : kr 0 W K) (hIN : l88 IN) (hOU : l88 OU) (hn : 1 ≤ ni ∧ ni ≤ 64) (hR : R.length = 112) (hR8 : by8 R) (hRI : ∀ q, q < ni → R.getD q 0 = IN.getD q 0) :
    ∀ q, q < r8 ni + 8 → (cpw FO K ni IN OU).getD q 0 = (mpw FO W ni R).getD q 0 := by
  obtain ⟨p1, p2, p3⟩ := pdo_ok hIN hOU hn.2
  have hr2 : ni ≤ r8 ni ∧ r8 ni < ni + 8 ∧ r8 ni % 8 = 0 := by unfold r8; omega
  have hpr := pdr_ok (n := ni) (by omega) hR8
  have hpl : (pdr ni R).length = 112 := hpr.1.trans hR
  have hag : ∀ q, q < r8 ni + 8 → (pdo ni IN OU).getD q 0 = (pdr ni R).getD q 0 := by
    intro q hq
    rw [p3 q hq, pdr_gd hR hR8 hn.2 hq]
    by_cases h8 : q < 8
    · rw [if_pos h8, if_pos h8]
    · by_cases hn8 : q < 8 + ni
      · rw [if_pos hn8, if_pos hn8, hRI _ (by omega)]
      · rw [if_neg hn8, if_neg hn8]
  unfold cpw mpw
  rw [r8_8]
  by_cases h16 : r8 ni + 8 = 16
  · rw [if_pos h16, if_pos h16]
    intro q hq
    have hl : ((pdo ni IN OU).take 16).length = 16 := by rw [List.length_take, p1]; rfl
    have e : (pdo ni IN OU).take 16 = (pdr ni R).take 16 := gd_tk2 (by rw [p1]; omega) (by rw [hpl]; omega) (fun q hq => hag q (by omega))
    rw [gd_sgl (by rw [hpl]; omega), if_pos (show q < 16 by omega), ← e, ← trn_enc hF hK h ⟨hl, p2.take 16⟩, ← List.take_append_drop 16 (pdo ni IN OU), trn_app hl, gd_app, trn_len, hl, if_pos (show q < 16 by omega), List.take_append_of_le_length (by rw [hl]; omega), List.take_of_length_le (Nat.le_of_eq hl)]
  · rw [if_neg h16, if_neg h16]
    intro q hq
    have hg : ag (8 * ((r8 ni + 8) / 8 - 1) + 8) 88 112 (pdo ni IN OU) (pdr ni R) := ⟨⟨p1, p2⟩, ⟨hpl, hpr.2⟩, fun q hq => hag q (by omega)⟩
    exact (wnd_mwd hF hK h (by omega) (by omega) (by omega) hg).2.2 q (by omega)
theorem wat_s {B : List Nat} (h : by8 B) (s : Nat) : wat B s = B.getD s 0 * 2 ^ 24 + B.getD (s + 1) 0 * 2 ^ 16 + B.getD (s + 2) 0 * 2 ^ 8 + B.getD (s + 3) 0 := by
  have h0 := h.at s
  have h1 := h.at (s + 1)
  have h2 := h.at (s + 2)
  have h3 := h.at (s + 3)
  show wst B s 3 (wst B s 2 (wst B s 1 (wst B s 0 0))) = _
  unfold wst
  rw [or_add (show B.getD (s + 0) 0 < 2 ^ 8 from h0), or_add (show B.getD (s + 1) 0 < 2 ^ 8 from h1), or_add (show B.getD (s + 2) 0 < 2 ^ 8 from h2), or_add (show B.getD (s + 3) 0 < 2 ^ 8 from h3), Nat.add_zero]
  omega
theorem it_all {P : Nat → Prop} [DecidablePred P] {f : Nat → Bool → Bool} (hf : ∀ k b, f k b = (b && decide (P k))) : ∀ (n k : Nat) (b : Bool), it f k n b = true ↔ b = true ∧ ∀ j, k ≤ j → j < k + n → P j
  | 0, k, b => ⟨fun h => ⟨h, fun j h1 h2 => by omega⟩, fun h => h.1⟩
  | n + 1, k, b => by
    rw [it_succ, it_all hf n (k + 1) (f k b), hf, Bool.and_eq_true, decide_eq_true_eq]
    constructor
    · rintro ⟨⟨h1, h2⟩, h3⟩
      refine ⟨h1, fun j a c => ?_⟩
      by_cases hj : j = k
      · rw [hj]
        exact h2
      · exact h3 j (by omega) (by omega)
    · rintro ⟨h1, h2⟩
      exact ⟨⟨h1, h2 k (by omega) (by omega)⟩, fun j a c => h2 j (by omega) (by omega)⟩
theorem e_cop {BA W K IN OP R : List Nat} {ni : Nat} (hB : by8 BA) (h : kr 0 W K) (hIN : l88 IN) (hP : l88 OP) (hn : ni % 8 = 0 ∧ 16 ≤ ni ∧ ni ≤ 72) (hR : R.length = 112) (hR8 : by8 R) (hRI : ∀ q, q < ni → R.getD q 0 = IN.getD q 0) : ag ni 88 112 (cop BA K ni (cpy IN OP 0 0 ni)) (opr BA W ni R) := by
  have hc : (cpy IN OP 0 0 ni).length = 88 := (cpy_length (by rw [hIN.1]; omega) (by rw [hP.1]; omega)).trans hP.1
  have hc8 : by8 (cpy IN OP 0 0 ni) := cpy8 hIN.2 hP.2
  have hg0 : ∀ q, q < ni → (cpy IN OP 0 0 ni).getD q 0 = R.getD q 0 := by
    intro q hq
    rw [gd_cpy (by rw [hIN.1]; omega) (by rw [hP.1]; omega), if_pos (show 0 ≤ q ∧ q < 0 + ni by omega), hRI _ (by omega), Nat.zero_add, Nat.sub_zero]
  unfold cop opr
  by_cases h16 : ni = 16
  · subst h16
    rw [if_pos rfl, if_pos rfl]
    have hl : ((cpy IN OP 0 0 16).take 16).length = 16 := by rw [List.length_take, hc]; rfl
    have e : (cpy IN OP 0 0 16).take 16 = R.take 16 := gd_tk2 (by rw [hc]; omega) (by rw [hR]; omega) hg0
    have hd := mdec_ok hB W 0 (q := (R.take 16, z16)) ⟨by rw [← e]; exact hl, hR8.take 16, rfl, z16_8⟩
    have hs := sgl_ok (K := dec BA W 0 (R.take 16)) hd.2.1 hR8
    have hcc : trnB BA K (cpy IN OP 0 0 16) = trnB BA K (R.take 16) ++ (cpy IN OP 0 0 16).drop 16 := by
      conv => lhs; rw [← List.take_append_drop 16 (cpy IN OP 0 0 16)]
      rw [trnB_app hl, e]
    have hk8 : by8 (trnB BA K (R.take 16)) := by
      rw [trnB_dec hB h ⟨by rw [← e]; exact hl, hR8.take 16⟩]
      exact hd.2.1
    refine ⟨⟨by rw [trnB_len]; exact hc, ?_⟩, ⟨hs.1.trans hR, hs.2⟩, fun q hq => ?_⟩
    · rw [hcc]
      exact hk8.app (fun v hv => hc8 v (List.mem_of_mem_drop hv))
    · rw [hcc, gd_app, trnB_len, show (R.take 16).length = 16 from by rw [← e]; exact hl, if_pos hq, gd_sgl (by rw [hR]; omega), if_pos hq, trnB_dec hB h ⟨by rw [← e]; exact hl, hR8.take 16⟩]
  · rw [if_neg h16, if_neg h16]
    have hg : ag (8 * (ni / 8 - 1) + 8) 88 112 (cpy IN OP 0 0 ni) R := ⟨⟨hc, hc8⟩, ⟨hR, hR8⟩, fun q hq => hg0 q (by omega)⟩
    have := uwn_mud hB h (show ni / 8 - 1 ≤ 10 by omega) (by omega) (by omega) hg
    exact ⟨this.1, this.2.1, fun q hq => this.2.2 q (by omega)⟩
theorem e_open2 {BA W K IN OP OU R : List Nat} {ni : Nat} (hB : by8 BA) (h : kr 0 W K) (hIN : l88 IN) (hP : l88 OP) (hOU : l88 OU) (hn : ni % 8 = 0 ∧ 16 ≤ ni ∧ ni ≤ 72) (hR : R.length = 112) (hR8 : by8 R) (hRI : ∀ q, q < ni → R.getD q 0 = IN.getD q 0) :
    cok BA K ni IN OP = opk (ni - 8) (opr BA W ni R) ∧ (opk (ni - 8) (opr BA W ni R) = true → wat (cop BA K ni (cpy IN OP 0 0 ni)) 4 = (opr BA W ni R).getD 7 0 ∧ (opr BA W ni R).getD 7 0 ≤ ni - 8 ∧
    ∀ q, q < (opr BA W ni R).getD 7 0 → (cpy (cpy (cop BA K ni (cpy IN OP 0 0 ni)) (cop BA K ni (cpy IN OP 0 0 ni)) 8 0 (ni - 8)) OU 0 0 (wat (cop BA K ni (cpy IN OP 0 0 ni)) 4)).getD q 0 = (drp (ni - 8) (opr BA W ni R)).getD q 0) := by
  have hu := e_cop hB h hIN hP hn hR hR8 hRI
  unfold cok
  generalize cop BA K ni (cpy IN OP 0 0 ni) = X at hu
  generalize opr BA W ni R = Y at hu
  obtain ⟨⟨hX, hX8⟩, ⟨hY, hY8⟩, hXY⟩ := hu
  have hcx : (cpy X X 8 0 (ni - 8)).length = 88 := (cpy_length (by rw [hX]; omega) (by rw [hX]; omega)).trans hX
  have w0 := wat_s hX8 0
  have w4 := wat_s hX8 4
  rw [hXY 0 (by omega), hXY (0 + 1) (by omega), hXY (0 + 2) (by omega), hXY (0 + 3) (by omega)] at w0
  rw [hXY 4 (by omega), hXY (4 + 1) (by omega), hXY (4 + 2) (by omega), hXY (4 + 3) (by omega)] at w4
  replace w0 : wat X 0 = Y.getD 0 0 * 2 ^ 24 + Y.getD 1 0 * 2 ^ 16 + Y.getD 2 0 * 2 ^ 8 + Y.getD 3 0 := w0
  replace w4 : wat X 4 = Y.getD 4 0 * 2 ^ 24 + Y.getD 5 0 * 2 ^ 16 + Y.getD 6 0 * 2 ^ 8 + Y.getD 7 0 := w4
  have y0 := hY8.at 0
  have y1 := hY8.at 1
  have y2 := hY8.at 2
  have y3 := hY8.at 3
  have y4 := hY8.at 4
  have y5 := hY8.at 5
  have y6 := hY8.at 6
  have y7 := hY8.at 7
  have hsg : sgn Y = true ↔ (Y.getD 0 0 = 166 ∧ Y.getD 1 0 = 89 ∧ Y.getD 2 0 = 89 ∧ Y.getD 3 0 = 166 ∧ Y.getD 4 0 = 0 ∧ Y.getD 5 0 = 0 ∧ Y.getD 6 0 = 0) := by
    unfold sgn
    rw [decide_eq_true_eq]
  have hopk : opk (ni - 8) Y = true ↔ (sgn Y = true ∧ (ni - 8 - 8 < Y.getD 7 0 ∧ Y.getD 7 0 ≤ ni - 8)) ∧ ∀ j, 0 ≤ j → j < 0 + (ni - 8) → (j < Y.getD 7 0 ∨ (drp (ni - 8) Y).getD j 0 = 0) := by
    unfold opk
    rw [it_all (f := eqz (Y.getD 7 0) (drp (ni - 8) Y)) (P := fun j => j < Y.getD 7 0 ∨ (drp (ni - 8) Y).getD j 0 = 0) (fun k b => rfl), Bool.and_eq_true, decide_eq_true_eq]
  have hbytes : ∀ j, j < ni - 8 → (cpy X X 8 0 (ni - 8)).getD j 0 = (drp (ni - 8) Y).getD j 0 := by
    intro j hj
    rw [gd_cpy (by rw [hX]; omega) (by rw [hX]; omega), if_pos (show 0 ≤ j ∧ j < 0 + (ni - 8) by omega), gd_drp (by rw [hY]; omega), if_pos hj, show 8 + (j - 0) = j + 8 by omega]
    exact hXY _ (by omega)
  refine ⟨?_, fun hk => ?_⟩
  · rw [Bool.eq_iff_iff, hopk, hsg, Bool.and_eq_true, decide_eq_true_eq, it_all (f := czs (cpy X X 8 0 (ni - 8))) (P := fun j => (cpy X X 8 0 (ni - 8)).getD j 0 = 0) (fun k b => rfl)]
    simp only [true_and, Nat.zero_add]
    constructor
    · rintro ⟨⟨a, b, c⟩, d⟩
      have e : Y.getD 4 0 = 0 ∧ Y.getD 5 0 = 0 ∧ Y.getD 6 0 = 0 ∧ wat X 4 = Y.getD 7 0 := by omega
      refine ⟨⟨by omega, by omega, by omega⟩, fun j _ hj => ?_⟩
      by_cases hj7 : j < Y.getD 7 0
      · exact Or.inl hj7
      · refine Or.inr ?_
        rw [← hbytes j hj]
        exact d j (by omega) (by omega)
    · rintro ⟨⟨a, b, c⟩, d⟩
      have e : wat X 4 = Y.getD 7 0 := by omega
      refine ⟨⟨by omega, by omega, by omega⟩, fun j hj1 hj2 => ?_⟩
      rw [hbytes j (by omega)]
      rcases d j (by omega) (by omega) with hd | hd
      · omega
      · exact hd
  · obtain ⟨⟨a, b, c⟩, d⟩ := hopk.mp hk
    have a' := hsg.mp a
    have e : wat X 4 = Y.getD 7 0 := by omega
    refine ⟨e, c, fun q hq => ?_⟩
    rw [e, gd_cpy (by rw [hcx]; omega) (by rw [hOU.1]; omega), if_pos (show 0 ≤ q ∧ q < 0 + Y.getD 7 0 by omega), show 0 + (q - 0) = q by omega]
    exact hbytes q (by omega)
/-! items -/
theorem gd_itp {IN IB : List Nat} {i d : Nat} (h : 40 * i + d ≤ IB.length) (q : Nat) : (it (itp IN i) 0 d IB).getD q 0 = if 40 * i ≤ q ∧ q < 40 * i + d then IN.getD (q - 40 * i) 0 else IB.getD q 0 := by
  have := gd_fil (f := itp IN i) (g := fun k => IN.getD k 0) (R := IB) (40 * i) 0 d (by omega) (fun j S _ _ _ _ _ _ => by unfold itp; rfl) q
  simpa using this
