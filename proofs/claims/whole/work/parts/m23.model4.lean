/-! The reference's cells as one picture: 44 cells before it, its object, its fourteen arrays, the cells behind. -/
def mh (g : Gp) (P : Hp) (cd ni no nt nr nl : Nat) (ar : List (List Nat)) (S : Hp) : Hp := P ++ (moc g cd ni no nt nr nl :: (ar.map (ia g) ++ S))
section MH
variable {g : Gp} {P S : Hp} {cd ni no nt nr nl : Nat} {ar : List (List Nat)}
theorem mo (hP : P.length = 44) : (mh g P cd ni no nt nr nl ar S)[44]? = some (moc g cd ni no nt nr nl) := by
  unfold mh
  rw [List.getElem?_append_right (by omega), hP]
  rfl
theorem ma (hP : P.length = 44) {a : Nat} {A : List Nat} (ha : Nat.ble 45 a = true) (h : ar[a - 45]? = some A) : (mh g P cd ni no nt nr nl ar S)[a]? = some (ia g A) := by
  have ha := Nat.le_of_ble_eq_true ha
  have hl : a - 45 < ar.length := (List.getElem?_eq_some_iff.mp h).1
  unfold mh
  rw [List.getElem?_append_right (by omega), hP, show a - 44 = (a - 45) + 1 by omega, List.getElem?_cons_succ, List.getElem?_append_left (by rw [List.length_map]; exact hl), List.getElem?_map, h]
  rfl
theorem mh_s (hP : P.length = 44) {a : Nat} {A : List Nat} (ha : Nat.ble 45 a = true) (hl : Nat.blt (a - 45) ar.length = true) : (mh g P cd ni no nt nr nl ar S).set a (ia g A) = mh g P cd ni no nt nr nl (ar.set (a - 45) A) S := by
  have ha := Nat.le_of_ble_eq_true ha
  have hl : a - 45 < ar.length := Nat.le_of_ble_eq_true hl
  unfold mh
  rw [List.set_append_right _ _ (by omega), hP, show a - 44 = (a - 45) + 1 by omega, List.set_cons_succ, List.set_append_left _ _ (by rw [List.length_map]; exact hl), List.map_set]
theorem mh_p (hP : P.length = 44) {cd' ni' no' nt' nr' nl' : Nat} : (mh g P cd ni no nt nr nl ar S).set 44 (moc g cd' ni' no' nt' nr' nl') = mh g P cd' ni' no' nt' nr' nl' ar S := by
  unfold mh
  rw [List.set_append_right _ _ (by omega), hP]
  rfl
end MH
theorem len16 {L : List Nat} (h : L.length = 16) : ∃ a0 a1 a2 a3 a4 a5 a6 a7 a8 a9 b0 b1 b2 b3 b4 b5, L = [a0, a1, a2, a3, a4, a5, a6, a7, a8, a9, b0, b1, b2, b3, b4, b5] := by
  match L, h with
  | [a0, a1, a2, a3, a4, a5, a6, a7, a8, a9, b0, b1, b2, b3, b4, b5], _ => exact ⟨_, _, _, _, _, _, _, _, _, _, _, _, _, _, _, _, rfl⟩
theorem msv_ind {T B M M' : List Nat} (h : M.length = 16) (h' : M'.length = 16) : it (msv T B) 0 4 M = it (msv T B) 0 4 M' := by
  obtain ⟨a0, a1, a2, a3, a4, a5, a6, a7, a8, a9, b0, b1, b2, b3, b4, b5, rfl⟩ := len16 h
  obtain ⟨c0, c1, c2, c3, c4, c5, c6, c7, c8, c9, d0, d1, d2, d3, d4, d5, rfl⟩ := len16 h'
  rfl
/-- the reference's cipher, apart from its scratch -/
def z16 : List Nat := List.replicate 16 0
def enc (T W : List Nat) (f : Nat) (B : List Nat) : List Nat := (menc T W f (B, z16)).1
theorem menc_ind {T W B M M' : List Nat} {f : Nat} (h : M.length = 16) (h' : M'.length = 16) : menc T W f (B, M) = menc T W f (B, M') := by
  have e : mrd T W f 1 (it (mak W f 0) 0 16 B, M) = mrd T W f 1 (it (mak W f 0) 0 16 B, M') := by
    unfold mrd
    dsimp only
    rw [msv_ind h h']
  show it (fun i => mrd T W f (i + 1)) 1 9 (mrd T W f 1 (it (mak W f 0) 0 16 B, M)) = it (fun i => mrd T W f (i + 1)) 1 9 (mrd T W f 1 (it (mak W f 0) 0 16 B, M'))
  rw [e]
theorem menc_fst {T W B M : List Nat} {f : Nat} (h : M.length = 16) : (menc T W f (B, M)).1 = enc T W f B := by
  unfold enc
  rw [menc_ind h (show z16.length = 16 from rfl)]
theorem z16_8 : by8 z16 := fun v hv => by rw [List.eq_of_mem_replicate hv]; decide
theorem enc_ok {T : List Nat} (hT : by8 T) (W : List Nat) (f : Nat) {B : List Nat} (h : B.length = 16) (h8 : by8 B) : (enc T W f B).length = 16 ∧ by8 (enc T W f B) := by
  have := menc_ok hT W f (q := (B, z16)) ⟨h, h8, rfl, z16_8⟩
  exact ⟨this.1, this.2.1⟩
theorem fls16 {S : List Nat} (h : S.length = 16) : it (fls 0) 0 16 S = z16 := by
  obtain ⟨a0, a1, a2, a3, a4, a5, a6, a7, a8, a9, b0, b1, b2, b3, b4, b5, rfl⟩ := len16 h
  rfl
/-- bytes of one row into another -/
def cp1 (R : List Nat) (k : Nat) (S : List Nat) : List Nat := S.set k (R.getD k 0)
theorem cp1_len (R : List Nat) (k : Nat) (S : List Nat) : (cp1 R k S).length = S.length := List.length_set
theorem cp16 {R S : List Nat} (hR : R.length = 16) (h : S.length = 16) : it (cp1 R) 0 16 S = R := by
  obtain ⟨a0, a1, a2, a3, a4, a5, a6, a7, a8, a9, b0, b1, b2, b3, b4, b5, rfl⟩ := len16 h
  obtain ⟨c0, c1, c2, c3, c4, c5, c6, c7, c8, c9, d0, d1, d2, d3, d4, d5, rfl⟩ := len16 hR
  rfl
/-- the arrays' lengths and bytes -/
def aok (ar : List (List Nat)) : Prop := ∃ W T U IN OUT IS IB BL MV ROW TX MA SM KP : List Nat, ar = [W, T, U, IN, OUT, IS, IB, BL, MV, ROW, TX, MA, SM, KP]
/-- the cipher called on the picture -/
theorem c_enc {g : Gp} {P S : Hp} {cd ni no nt nr nl f0 : Nat} {W T U IN OUT IS IB BL MV ROW TX MA SM KP : List Nat} (hP : P.length = 44) (hW : W.length = 88 ∧ by32 W) (hT : T.length = 256 ∧ by8 T) (hU : U.length = 256 ∧ by8 U) (hb : bm16 (BL, MV)) (hf : f0 ≤ 44) :
    Con g M_Model_encipher 1 (0, 0) [.ref (zA (gz g) 44), .int (nI f0)] (mh g P cd ni no nt nr nl [W, T, U, IN, OUT, IS, IB, BL, MV, ROW, TX, MA, SM, KP] S) (fun o h' => o = .returned none ∧ ∃ M', bm16 (enc T W f0 BL, M') ∧ h' = mh g P cd ni no nt nr nl [W, T, U, IN, OUT, IS, IB, enc T W f0 BL, M', ROW, TX, MA, SM, KP] S) := by
  have hc : mci g (mh g P cd ni no nt nr nl [W, T, U, IN, OUT, IS, IB, BL, MV, ROW, TX, MA, SM, KP] S) cd ni no nt nr nl W T U := ⟨mo hP, ma hP rfl rfl, ma hP rfl rfl, ma hP rfl rfl, hW.1, hT.1, hU.1, hW.2, hT.2, hU.2⟩
  refine (c_encipher hc (ma hP rfl rfl) (ma hP rfl rfl) hb hf).weaken ?_
  rintro o h' ⟨rfl, rfl⟩
  have hk := menc_ok hT.2 W f0 hb
  have e := menc_fst (T := T) (W := W) (B := BL) (M := MV) (f := f0) hb.2.2.1
  refine ⟨rfl, (menc T W f0 (BL, MV)).2, ?_, ?_⟩
  · rw [← e]
    unfold bm16 at hk ⊢
    dsimp only
    exact hk
  · rw [mh_s hP rfl rfl, mh_s hP rfl rfl, e]
    rfl
theorem udec_ind {W B M M' : List Nat} {f r : Nat} (h : M.length = 16) (h' : M'.length = 16) : it (mum r B) 0 16 M = it (mum r B) 0 16 M' := by
  obtain ⟨a0, a1, a2, a3, a4, a5, a6, a7, a8, a9, b0, b1, b2, b3, b4, b5, rfl⟩ := len16 h
  obtain ⟨c0, c1, c2, c3, c4, c5, c6, c7, c8, c9, d0, d1, d2, d3, d4, d5, rfl⟩ := len16 h'
  rfl
def dec (U W : List Nat) (f : Nat) (B : List Nat) : List Nat := (mdec U W f (B, z16)).1
theorem mdec_ind {U W B M M' : List Nat} {f : Nat} (h : M.length = 16) (h' : M'.length = 16) : mdec U W f (B, M) = mdec U W f (B, M') := by
  have e : mrb U W f 10 (B, M) = mrb U W f 10 (B, M') := by
    unfold mrb
    dsimp only
    rw [udec_ind (W := W) (f := f) h h']
  have e2 : it (fun i => mrb U W f (10 - i)) 0 10 (B, M) = it (fun i => mrb U W f (10 - i)) 0 10 (B, M') := by
    show it (fun i => mrb U W f (10 - i)) 1 9 (mrb U W f 10 (B, M)) = it (fun i => mrb U W f (10 - i)) 1 9 (mrb U W f 10 (B, M'))
    rw [e]
  unfold mdec
  rw [e2]
theorem mdec_fst {U W B M : List Nat} {f : Nat} (h : M.length = 16) : (mdec U W f (B, M)).1 = dec U W f B := by
  unfold dec
  rw [mdec_ind h (show z16.length = 16 from rfl)]
theorem dec_ok {U : List Nat} (hU : by8 U) (W : List Nat) (f : Nat) {B : List Nat} (h : B.length = 16) (h8 : by8 B) : (dec U W f B).length = 16 ∧ by8 (dec U W f B) := by
  have := mdec_ok hU W f (q := (B, z16)) ⟨h, h8, rfl, z16_8⟩
  exact ⟨this.1, this.2.1⟩
theorem c_dec {g : Gp} {P S : Hp} {cd ni no nt nr nl f0 : Nat} {W T U IN OUT IS IB BL MV ROW TX MA SM KP : List Nat} (hP : P.length = 44) (hW : W.length = 88 ∧ by32 W) (hT : T.length = 256 ∧ by8 T) (hU : U.length = 256 ∧ by8 U) (hb : bm16 (BL, MV)) (hf : f0 ≤ 44) :
    Con g M_Model_decipher 1 (0, 0) [.ref (zA (gz g) 44), .int (nI f0)] (mh g P cd ni no nt nr nl [W, T, U, IN, OUT, IS, IB, BL, MV, ROW, TX, MA, SM, KP] S) (fun o h' => o = .returned none ∧ ∃ M', bm16 (dec U W f0 BL, M') ∧ h' = mh g P cd ni no nt nr nl [W, T, U, IN, OUT, IS, IB, dec U W f0 BL, M', ROW, TX, MA, SM, KP] S) := by
  have hc : mci g (mh g P cd ni no nt nr nl [W, T, U, IN, OUT, IS, IB, BL, MV, ROW, TX, MA, SM, KP] S) cd ni no nt nr nl W T U := ⟨mo hP, ma hP rfl rfl, ma hP rfl rfl, ma hP rfl rfl, hW.1, hT.1, hU.1, hW.2, hT.2, hU.2⟩
  refine (c_decipher hc (ma hP rfl rfl) (ma hP rfl rfl) hb hf).weaken ?_
  rintro o h' ⟨rfl, rfl⟩
  have hk := mdec_ok hU.2 W f0 hb
  have e := mdec_fst (U := U) (W := W) (B := BL) (M := MV) (f := f0) hb.2.2.1
  refine ⟨rfl, (mdec U W f0 (BL, MV)).2, ?_, ?_⟩
  · rw [← e]
    unfold bm16 at hk ⊢
    dsimp only
    exact hk
  · rw [mh_s hP rfl rfl, mh_s hP rfl rfl, e]
    rfl
