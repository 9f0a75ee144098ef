/-! Longs, and the reference's stream. -/
section XL
variable {g : Gp} {f : Fm} {md : MD} {fr : Nat} {mc : Nat × Nat} {Post : Outcome → Hp → Prop} {n : Nat × Nat} {pc : Nat} {L : List (Option Value)} {st : List Value} {h : Hp}
theorem x_lcmp {x y : Int64} (C : Cx g f md fr mc) (d : decode md.2.1 pc = .ok (.lcmp, 1)) (k : X g f md mc Post n (pc + 1) L (.int (lg_cmp x y) :: st) h) : X g f md mc Post n pc L (.long y :: .long x :: st) h :=
  fun H locs ls hR hS hl => W.lcmp C.exec C.code d (k H locs ls hR hS hl)
theorem x_ldc2 {idx : Nat} {v : Int64} (C : Cx g f md fr mc) (d : decode md.2.1 pc = .ok (.ldc2_w idx, 3)) (hw : Cond.constantLong md.1.cls idx v ∈ tb) (k : X g f md mc Post n (pc + 3) L (.long v :: st) h) : X g f md mc Post n pc L st h :=
  fun H locs ls hR hS hl => lv_ldc2 C.exec C.code C.own (C.ts _ hw) d (k H locs ls hR hS hl)
theorem x_ldc {idx : Nat} {v : Int32} (C : Cx g f md fr mc) (d : decode md.2.1 pc = .ok (.ldc idx, 2)) (hw : Cond.constant md.1.cls idx v ∈ tb) (k : X g f md mc Post n (pc + 2) L (.int v :: st) h) : X g f md mc Post n pc L st h :=
  fun H locs ls hR hS hl => lv_ldc C.exec C.code C.own (C.ts _ hw) d (k H locs ls hR hS hl)
end XL
theorem l_tn {n : Nat} (h : n < 2 ^ 64) : (lN n).toBitVec.toNat = n := Nat.mod_eq_of_lt h
theorem l_s63 : ∀ n, n < 64 → (((nI n).toInt64 &&& 63).toBitVec.smod 64).toNat = n := by decide +kernel
theorem l_shl {a b : Nat} (hb : b < 64) (h : a * 2 ^ b < 2 ^ 64) : lN a <<< ((nI b).toInt64 &&& 63) = lN (a * 2 ^ b) := by
  apply Int64.toBitVec_inj.1
  apply BitVec.eq_of_toNat_eq
  have ha : a < 2 ^ 64 := Nat.lt_of_le_of_lt (Nat.le_mul_of_pos_right a (Nat.two_pow_pos b)) h
  show ((lN a).toBitVec <<< (((nI b).toInt64 &&& 63).toBitVec.smod 64).toNat).toNat = _
  rw [l_s63 b hb, BitVec.toNat_shiftLeft, Nat.shiftLeft_eq, l_tn ha, l_tn h, Nat.mod_eq_of_lt h]
theorem l_or (a b : Nat) : lN a ||| lN b = lN (a ||| b) := by
  apply Int64.toBitVec_inj.1
  show BitVec.ofNat 64 a ||| BitVec.ofNat 64 b = BitVec.ofNat 64 (a ||| b)
  rw [BitVec.ofNat_or]
theorem i64_cond (x : Int64) : x.toInt = if 2 * x.toBitVec.toNat < 2 ^ 64 then (x.toBitVec.toNat : Int) else (x.toBitVec.toNat : Int) - 2 ^ 64 := by
  show x.toBitVec.toInt = _
  rw [BitVec.toInt_eq_toNat_cond]
  simp
theorem l_shr (a s : Int64) (k : Nat) (hs : (s.toBitVec.smod 64).toNat = k) : (a >>> s).toInt = a.toInt >>> k := by
  show (a.toBitVec.sshiftRight (s.toBitVec.smod 64).toNat).toInt = _
  rw [hs, BitVec.toInt_sshiftRight]
  rfl
theorem ls255 {w k : Nat} (hw : w < 2 ^ 64) (hk : k < 8) : ((lN w >>> ((nI (56 - 8 * k)).toInt64 &&& 63)) &&& 255).toInt32 = nI ((w / 2 ^ (56 - 8 * k)) &&& 255) := by
  have e1 := l_shr (lN w) ((nI (56 - 8 * k)).toInt64 &&& 63) (56 - 8 * k) (l_s63 _ (by omega))
  have e2 := i64_cond (lN w)
  have e3 := i64_cond (lN w >>> ((nI (56 - 8 * k)).toInt64 &&& 63))
  rw [l_tn hw] at e2
  generalize (lN w >>> ((nI (56 - 8 * k)).toInt64 &&& 63)) = x at e1 e3 ⊢
  have hx : x.toBitVec.toNat < 2 ^ 64 := x.toBitVec.isLt
  have e4 : x &&& 255 = lN (x.toBitVec.toNat % 256) := by
    apply Int64.toBitVec_inj.1
    apply BitVec.eq_of_toNat_eq
    rw [Int64.toBitVec_and, BitVec.toNat_and, l_tn (by omega)]
    show x.toBitVec.toNat &&& 255 = _
    exact Nat.and_two_pow_sub_one_eq_mod _ 8
  rw [e4, lN_i]
  generalize x.toBitVec.toNat = m at e3 hx ⊢
  rw [show w / 2 ^ (56 - 8 * k) &&& 255 = w / 2 ^ (56 - 8 * k) % 2 ^ 8 from Nat.and_two_pow_sub_one_eq_mod _ 8]
  congr 1
  rw [e1, e2, Int.shiftRight_eq_div_pow] at e3
  rcases (show k = 0 ∨ k = 1 ∨ k = 2 ∨ k = 3 ∨ k = 4 ∨ k = 5 ∨ k = 6 ∨ k = 7 by omega) with rfl | rfl | rfl | rfl | rfl | rfl | rfl | rfl <;> (simp at e3 ⊢; split at e3 <;> split at e3 <;> omega)
section XM
variable {g : Gp} {f : Fm} {md : MD} {fr : Nat} {mc : Nat × Nat} {Post : Outcome → Hp → Prop} {n : Nat × Nat} {pc : Nat} {L : List (Option Value)} {st : List Value} {h : Hp}
theorem n_ladd {a b : Nat} (C : Cx g f md fr mc) (d : decode md.2.1 pc = .ok (.ladd, 1)) (k : X g f md mc Post n (pc + 1) L (.long (lN (a + b)) :: st) h) : X g f md mc Post n pc L (.long (lN b) :: .long (lN a) :: st) h := by
  refine x_ladd C d ?_
  rw [lN_add]
  exact k
theorem n_lor {a b : Nat} (C : Cx g f md fr mc) (d : decode md.2.1 pc = .ok (.lor, 1)) (k : X g f md mc Post n (pc + 1) L (.long (lN (a ||| b)) :: st) h) : X g f md mc Post n pc L (.long (lN b) :: .long (lN a) :: st) h := by
  refine x_lor C d ?_
  rw [l_or]
  exact k
theorem n_lshl {a b : Nat} (C : Cx g f md fr mc) (d : decode md.2.1 pc = .ok (.lshl, 1)) (hb : b < 64) (ha : a * 2 ^ b < 2 ^ 64) (k : X g f md mc Post n (pc + 1) L (.long (lN (a * 2 ^ b)) :: st) h) : X g f md mc Post n pc L (.int (nI b) :: .long (lN a) :: st) h :=
  x_lshl C d (l_shl hb ha) k
theorem n_i2l {a : Nat} (C : Cx g f md fr mc) (d : decode md.2.1 pc = .ok (.i2l, 1)) (ha : a < 2 ^ 31) (k : X g f md mc Post n (pc + 1) L (.long (lN a) :: st) h) : X g f md mc Post n pc L (.int (nI a) :: st) h :=
  x_i2l C d (nI_l ha) k
end XM
theorem lgc {x : Int64} (h : lg_cmp x 0 = 0) : x = 0 := by
  unfold lg_cmp at h
  split at h
  · exact absurd h (by decide)
  · split at h
    · assumption
    · exact absurd h (by decide)
theorem lN_ne0 {n : Nat} (h0 : 0 < n) (h : n < 2 ^ 64) : ¬ lN n = 0 := by
  intro z
  have e : (lN n).toBitVec.toNat = (0 : Int64).toBitVec.toNat := by rw [z]
  rw [l_tn h] at e
  have e2 : (0 : Int64).toBitVec.toNat = 0 := by decide
  omega
/-- the two halves of the counter -/
def hst (KP : List Nat) (k hi : Nat) : Nat := (hi * 2 ^ 8) ||| KP.getD k 0
def lst (KP : List Nat) (k lo : Nat) : Nat := (lo * 2 ^ 8) ||| (if k = 0 ∨ k = 4 then KP.getD (8 + k) 0 &&& 127 else KP.getD (8 + k) 0)
def khi (KP : List Nat) : Nat := it (hst KP) 0 8 0
def klo (KP : List Nat) : Nat := it (lst KP) 0 8 0
theorem or_lt {a b k : Nat} (ha : a < 2 ^ (8 * k)) (hb : b < 256) : (a * 2 ^ 8) ||| b < 2 ^ (8 * (k + 1)) := by
  have e : 2 ^ (8 * (k + 1)) = 2 ^ (8 * k) * 2 ^ 8 := by rw [← Nat.pow_add]; congr 1
  have h1 : 2 ^ 8 ≤ 2 ^ (8 * (k + 1)) := Nat.pow_le_pow_right (by omega) (by omega)
  exact Nat.or_lt_two_pow (by rw [e]; exact Nat.mul_lt_mul_of_pos_right ha (by omega)) (by omega)
theorem lst_v {KP : List Nat} (h : by8 KP) (k : Nat) : (if k = 0 ∨ k = 4 then KP.getD (8 + k) 0 &&& 127 else KP.getD (8 + k) 0) < 256 := by
  split
  · exact Nat.lt_of_le_of_lt Nat.and_le_right (by omega)
  · exact h.at _
theorem hst_lt {KP : List Nat} (h : by8 KP) : ∀ (n k hi : Nat), hi < 2 ^ (8 * k) → it (hst KP) k n hi < 2 ^ (8 * (k + n))
  | 0, k, hi, hh => hh
  | n + 1, k, hi, hh => by
    rw [show k + (n + 1) = k + 1 + n by omega]
    exact hst_lt h n (k + 1) _ (or_lt hh (h.at _))
theorem lst_lt {KP : List Nat} (h : by8 KP) : ∀ (n k lo : Nat), lo < 2 ^ (8 * k) → it (lst KP) k n lo < 2 ^ (8 * (k + n))
  | 0, k, lo, hh => hh
  | n + 1, k, lo, hh => by
    rw [show k + (n + 1) = k + 1 + n by omega]
    exact lst_lt h n (k + 1) _ (or_lt hh (lst_v h k))
/-- the lower half has its upper bit cleared -/
theorem lst_lt2 {KP : List Nat} (h : by8 KP) : ∀ (n k lo : Nat), 1 ≤ k → lo < 2 ^ (8 * k - 1) → it (lst KP) k n lo < 2 ^ (8 * (k + n) - 1)
  | 0, k, lo, _, hh => hh
  | n + 1, k, lo, hk, hh => by
    rw [show k + (n + 1) = k + 1 + n by omega]
    refine lst_lt2 h n (k + 1) _ (by omega) ?_
    have e : 2 ^ (8 * (k + 1) - 1) = 2 ^ (8 * k - 1) * 2 ^ 8 := by rw [← Nat.pow_add]; congr 1; omega
    have h1 : 2 ^ 8 ≤ 2 ^ (8 * (k + 1) - 1) := Nat.pow_le_pow_right (by omega) (by omega)
    exact Nat.or_lt_two_pow (by rw [e]; exact Nat.mul_lt_mul_of_pos_right hh (by omega)) (Nat.lt_of_lt_of_le (lst_v h k) h1)
theorem klo_lt {KP : List Nat} (h : by8 KP) : klo KP < 2 ^ 63 := by
  have h1 : lst KP 0 0 < 2 ^ (8 * 1 - 1) := by
    unfold lst
    rw [if_pos (Or.inl rfl), Nat.zero_mul, Nat.zero_or]
    exact Nat.lt_of_le_of_lt Nat.and_le_right (by omega)
  exact lst_lt2 h 7 1 _ (by omega) h1
theorem khi_lt {KP : List Nat} (h : by8 KP) : khi KP < 2 ^ 64 := hst_lt h 8 0 0 (by omega)
/-- the counter as a block -/
def ctb (hi lo k : Nat) (B : List Nat) : List Nat := (B.set k ((hi / 2 ^ (56 - 8 * k)) &&& 255)).set (8 + k) ((lo / 2 ^ (56 - 8 * k)) &&& 255)
theorem ctb_len (hi lo k : Nat) (B : List Nat) : (ctb hi lo k B).length = B.length := by simp [ctb]
def ctr (hi lo : Nat) : List Nat := it (ctb hi lo) 0 8 z16
theorem ctb_ind {hi lo : Nat} {B : List Nat} (h : B.length = 16) : it (ctb hi lo) 0 8 B = ctr hi lo := by
  obtain ⟨a0, a1, a2, a3, a4, a5, a6, a7, a8, a9, b0, b1, b2, b3, b4, b5, rfl⟩ := len16 h
  rfl
theorem ctr_ok (hi lo : Nat) : (ctr hi lo).length = 16 ∧ by8 (ctr hi lo) :=
  ⟨it_len (ctb_len hi lo) 8 0 z16, it_inv by8 8 0 z16 (fun j T _ _ hT => (hT.set (and8 _)).set (and8 _)) z16_8⟩
/-- the stream over a row: sixteen bytes from a on, but not beyond n -/
def crx (K : List Nat) (a k : Nat) (R : List Nat) : List Nat := R.set k (R.getD k 0 ^^^ K.getD (k - a) 0)
theorem crx_len (K : List Nat) (a k : Nat) (R : List Nat) : (crx K a k R).length = R.length := List.length_set
def crs (T W : List Nat) (hi lo n i : Nat) (R : List Nat) : List Nat := it (crx (enc T W 44 (ctr hi (lo + i))) (16 * i)) (16 * i) (min 16 (n - 16 * i)) R
def cro (T W : List Nat) (KP : List Nat) (n : Nat) (R : List Nat) : List Nat := it (crs T W (khi KP) (klo KP) n) 0 ((n + 15) / 16) R
theorem crx8 {K : List Nat} (hK : by8 K) (a k d : Nat) {R : List Nat} (h : by8 R) : by8 (it (crx K a) k d R) := it_inv by8 d k R (fun j T _ _ hT => hT.set (xor8 (hT.at _) (hK.at _))) h
set_option maxHeartbeats 4000000 in
theorem cm_cross {g : Gp} {P S : Hp} {cd ni no nt nr nl : Nat} {W T U IN OUT IS IB BL MV ROW TX MA SM KP : List Nat} (hP : P.length = 44) (hW : W.length = 88 ∧ by32 W) (hT : T.length = 256 ∧ by8 T) (hU : U.length = 256 ∧ by8 U) (hb : bm16 (BL, MV)) (hK : KP.length = 16 ∧ by8 KP) (hR : ROW.length = 112) (hnr : nr ≤ 88) :
    Con g M_Model_cross 2 (0, 0) [.ref (zA (gz g) 44)] (mh g P cd ni no nt nr nl [W, T, U, IN, OUT, IS, IB, BL, MV, ROW, TX, MA, SM, KP] S) (fun o h' => o = .returned none ∧ ∃ B' M' : List Nat, bm16 (B', M') ∧ h' = mh g P cd ni no nt nr nl [W, T, U, IN, OUT, IS, IB, B', M', (cro T W KP nr ROW), TX, MA, SM, KP] S) := by
  refine Con.of (by decide) rfl rfl (L := [some (.ref (zA (gz g) 44)), none, none, none, none, none, none]) rfl (fun f C => ?_)
  have hhi := khi_lt hK.2
  have hlo := klo_lt hK.2
  generalize hHi : khi KP = hi at hhi
  generalize hLo : klo KP = lo at hlo
  have blocks : ∀ (d i : Nat) (B V R : List Nat) (l6 : Option Value), i + d = (nr + 15) / 16 → bm16 (B, V) → R.length = 112 → it (crs T W hi lo nr) i d R = cro T W KP nr ROW → X g f M_Model_cross (0, 0) (fun o h' => o = .returned none ∧ ∃ B' M' : List Nat, bm16 (B', M') ∧ h' = mh g P cd ni no nt nr nl [W, T, U, IN, OUT, IS, IB, B', M', (cro T W KP nr ROW), TX, MA, SM, KP] S) (0, 0) 81 [some (.ref (zA (gz g) 44)), some (.long (lN (hi))), none, some (.long (lN (lo + i))), none, some (.int (nI (16 * i))), l6] [] (mh g P cd ni no nt nr nl [W, T, U, IN, OUT, IS, IB, B, V, R, TX, MA, SM, KP] S) := by
    intro d
    induction d with
    | zero =>
      intro i B V R l6 hid hB hR he
      rw [it_zero] at he
      refine x_iload (pc := 81) C (dq D_Model_cross 49 rfl) rfl ?_
      refine x_aload_n (pc := 83) C (dq D_Model_cross 50 rfl) rfl ?_
      refine x_get (pc := 84) (ci := 1) (j := 13) C (dq D_Model_cross 51 rfl) rfl rfl (mo hP) rfl k_fl_Model_100 ?_
      refine n_ge_t (pc := 87) (tgt := 237) C (dq D_Model_cross 52 rfl) (by decide) (by omega) (by omega) ?_
      exact x_vret (pc := 237) C (dq D_Model_cross 137 rfl) rfl (by decide) ⟨rfl, B, V, hB, by rw [he]⟩
    | succ d ih =>
      intro i B V R l6 hid hB hR he
      have hKl := enc_ok hT.2 W 44 (ctr_ok hi (lo + i)).1 (ctr_ok hi (lo + i)).2
      have next : ∀ (V R : List Nat) (k : Nat), bm16 (enc T W 44 (ctr hi (lo + i)), V) → R.length = 112 → it (crs T W hi lo nr) (i + 1) d R = cro T W KP nr ROW → X g f M_Model_cross (0, 0) (fun o h' => o = .returned none ∧ ∃ B' M' : List Nat, bm16 (B', M') ∧ h' = mh g P cd ni no nt nr nl [W, T, U, IN, OUT, IS, IB, B', M', (cro T W KP nr ROW), TX, MA, SM, KP] S) (0, 0) 213 [some (.ref (zA (gz g) 44)), some (.long (lN (hi))), none, some (.long (lN (lo + i))), none, some (.int (nI (16 * i))), some (.int (nI k))] [] (mh g P cd ni no nt nr nl [W, T, U, IN, OUT, IS, IB, (enc T W 44 (ctr hi (lo + i))), V, R, TX, MA, SM, KP] S) := by
        intro V R k hV hR he
        refine x_lload_n (pc := 213) C (dq D_Model_cross 121 rfl) rfl ?_
        refine x_lconst (v := lN 1) (pc := 214) C (dq D_Model_cross 122 rfl) rfl ?_
        refine n_ladd (pc := 215) C (dq D_Model_cross 123 rfl) ?_
        refine x_lstore_n (i := 3) (pc := 216) C (dq D_Model_cross 124 rfl) rfl rfl rfl ?_
        simp only [List.set_cons_zero, List.set_cons_succ]
        refine x_lload_n (pc := 217) C (dq D_Model_cross 125 rfl) rfl ?_
        refine x_lconst (v := lN 0) (pc := 218) C (dq D_Model_cross 126 rfl) rfl ?_
        refine x_lcmp (pc := 219) C (dq D_Model_cross 127 rfl) ?_
        refine x_ifne (pc := 220) (tgt := 229) C (dq D_Model_cross 128 rfl) (by decide) (fun _ => ?_) (fun q => absurd (lgc q) (lN_ne0 (by omega) (by omega)))
        refine x_lload_n (pc := 229) C (dq D_Model_cross 133 rfl) rfl ?_
        refine x_lstore_n (i := 1) (pc := 230) C (dq D_Model_cross 134 rfl) rfl rfl rfl ?_
        simp only [List.set_cons_zero, List.set_cons_succ]
        refine x_iinc (pc := 231) C (dq D_Model_cross 135 rfl) rfl (ii_16 _) rfl rfl ?_
        simp only [List.set_cons_zero, List.set_cons_succ]
        refine x_goto (pc := 234) (tgt := 81) C (dq D_Model_cross 136 rfl) (by decide) ?_
        exact ih (i + 1) _ V R _ (by omega) hV hR he
      have over : ∀ (e k : Nat) (V R : List Nat), k + e = 16 * i + min 16 (nr - 16 * i) → 16 * i ≤ k → bm16 (enc T W 44 (ctr hi (lo + i)), V) → R.length = 112 → it (crs T W hi lo nr) (i + 1) d (it (crx (enc T W 44 (ctr hi (lo + i))) (16 * i)) k e R) = cro T W KP nr ROW → X g f M_Model_cross (0, 0) (fun o h' => o = .returned none ∧ ∃ B' M' : List Nat, bm16 (B', M') ∧ h' = mh g P cd ni no nt nr nl [W, T, U, IN, OUT, IS, IB, B', M', (cro T W KP nr ROW), TX, MA, SM, KP] S) (0, 0) 163 [some (.ref (zA (gz g) 44)), some (.long (lN (hi))), none, some (.long (lN (lo + i))), none, some (.int (nI (16 * i))), some (.int (nI k))] [] (mh g P cd ni no nt nr nl [W, T, U, IN, OUT, IS, IB, (enc T W 44 (ctr hi (lo + i))), V, R, TX, MA, SM, KP] S) := by
        intro e
        induction e with
        | zero =>
          intro k V R hke hk hV hR he
          rw [it_zero] at he
          by_cases hc : 16 * i + 16 ≤ k
          · refine x_iload (pc := 163) C (dq D_Model_cross 95 rfl) rfl ?_
            refine x_iload (pc := 165) C (dq D_Model_cross 96 rfl) rfl ?_
            refine x_bipush (pc := 167) C (dq D_Model_cross 97 rfl) cb_16 ?_
            refine n_iadd (pc := 169) C (dq D_Model_cross 98 rfl) ?_
            refine n_ge_t (pc := 170) (tgt := 213) C (dq D_Model_cross 99 rfl) (by decide) (by omega) (by omega) ?_
            exact next V R k hV hR he
          · refine x_iload (pc := 163) C (dq D_Model_cross 95 rfl) rfl ?_
            refine x_iload (pc := 165) C (dq D_Model_cross 96 rfl) rfl ?_
            refine x_bipush (pc := 167) C (dq D_Model_cross 97 rfl) cb_16 ?_
            refine n_iadd (pc := 169) C (dq D_Model_cross 98 rfl) ?_
            refine n_ge_f (pc := 170) (tgt := 213) C (dq D_Model_cross 99 rfl) (by decide) (by omega) (by omega) ?_
            refine x_iload (pc := 173) C (dq D_Model_cross 100 rfl) rfl ?_
            refine x_aload_n (pc := 175) C (dq D_Model_cross 101 rfl) rfl ?_
            refine x_get (pc := 176) (ci := 1) (j := 13) C (dq D_Model_cross 102 rfl) rfl rfl (mo hP) rfl k_fl_Model_100 ?_
            refine n_ge_t (pc := 179) (tgt := 213) C (dq D_Model_cross 103 rfl) (by decide) (by omega) (by omega) ?_
            exact next V R k hV hR he
        | succ e ih2 =>
          intro k V R hke hk hV hR he
          refine x_iload (pc := 163) C (dq D_Model_cross 95 rfl) rfl ?_
          refine x_iload (pc := 165) C (dq D_Model_cross 96 rfl) rfl ?_
          refine x_bipush (pc := 167) C (dq D_Model_cross 97 rfl) cb_16 ?_
          refine n_iadd (pc := 169) C (dq D_Model_cross 98 rfl) ?_
          refine n_ge_f (pc := 170) (tgt := 213) C (dq D_Model_cross 99 rfl) (by decide) (by omega) (by omega) ?_
          refine x_iload (pc := 173) C (dq D_Model_cross 100 rfl) rfl ?_
          refine x_aload_n (pc := 175) C (dq D_Model_cross 101 rfl) rfl ?_
          refine x_get (pc := 176) (ci := 1) (j := 13) C (dq D_Model_cross 102 rfl) rfl rfl (by first | exact mo hP | exact ma hP rfl rfl) rfl k_fl_Model_100 ?_
          refine n_ge_f (pc := 179) (tgt := 213) C (dq D_Model_cross 103 rfl) (by decide) (by omega) (by omega) ?_
          refine x_aload_n (pc := 182) C (dq D_Model_cross 104 rfl) rfl ?_
          refine x_get (pc := 183) (ci := 1) (j := 14) C (dq D_Model_cross 105 rfl) rfl rfl (by first | exact mo hP | exact ma hP rfl rfl) rfl k_fl_Model_37 ?_
          refine x_iload (pc := 186) C (dq D_Model_cross 106 rfl) rfl ?_
          refine x_aload_n (pc := 188) C (dq D_Model_cross 107 rfl) rfl ?_
          refine x_get (pc := 189) (ci := 1) (j := 14) C (dq D_Model_cross 108 rfl) rfl rfl (by first | exact mo hP | exact ma hP rfl rfl) rfl k_fl_Model_37 ?_
          refine x_iload (pc := 192) C (dq D_Model_cross 109 rfl) rfl ?_
          refine x_iald (pc := 194) C (dq D_Model_cross 110 rfl) (by first | exact mo hP | exact ma hP rfl rfl) (by (try simp only [List.length_set]); omega) ?_
          refine x_aload_n (pc := 195) C (dq D_Model_cross 111 rfl) rfl ?_
          refine x_get (pc := 196) (ci := 1) (j := 11) C (dq D_Model_cross 112 rfl) rfl rfl (by first | exact mo hP | exact ma hP rfl rfl) rfl k_fl_Model_31 ?_
          refine x_iload (pc := 199) C (dq D_Model_cross 113 rfl) rfl ?_
          refine x_iload (pc := 201) C (dq D_Model_cross 114 rfl) rfl ?_
          refine n_isub (pc := 203) C (dq D_Model_cross 115 rfl) (by omega) ?_
          refine x_iald (pc := 204) C (dq D_Model_cross 116 rfl) (by first | exact mo hP | exact ma hP rfl rfl) (by (try simp only [List.length_set]); omega) ?_
          refine n_ixor (pc := 205) C (dq D_Model_cross 117 rfl) ?_
          refine x_iast (pc := 206) C (dq D_Model_cross 118 rfl) (by first | exact mo hP | exact ma hP rfl rfl) (by (try simp only [List.length_set]); omega) ?_
          try rw [List.set_set]
          refine x_iinc (pc := 207) C (dq D_Model_cross 119 rfl) rfl (ii_1 _) rfl rfl ?_
          simp only [List.set_cons_zero, List.set_cons_succ]
          rw [mh_s hP rfl rfl]
          simp only [Nat.reduceSub, List.set_cons_zero, List.set_cons_succ]
          refine x_goto (pc := 210) (tgt := 163) C (dq D_Model_cross 120 rfl) (by decide) ?_
          exact ih2 (k + 1) V (crx (enc T W 44 (ctr hi (lo + i))) (16 * i) k R) (by omega) (by omega) hV (by rw [crx_len]; exact hR) he
      have lay : ∀ (e k : Nat) (B : List Nat), k + e = 8 → B.length = 16 → by8 B → it (ctb hi (lo + i)) k e B = ctr hi (lo + i) → X g f M_Model_cross (0, 0) (fun o h' => o = .returned none ∧ ∃ B' M' : List Nat, bm16 (B', M') ∧ h' = mh g P cd ni no nt nr nl [W, T, U, IN, OUT, IS, IB, B', M', (cro T W KP nr ROW), TX, MA, SM, KP] S) (0, 0) 93 [some (.ref (zA (gz g) 44)), some (.long (lN (hi))), none, some (.long (lN (lo + i))), none, some (.int (nI (16 * i))), some (.int (nI k))] [] (mh g P cd ni no nt nr nl [W, T, U, IN, OUT, IS, IB, B, V, R, TX, MA, SM, KP] S) := by
        intro e
        induction e with
        | zero =>
          intro k B hke hBl hB8 he2
          rw [it_zero] at he2
          rw [he2]
          refine x_iload (pc := 93) C (dq D_Model_cross 55 rfl) rfl ?_
          refine x_bipush (pc := 95) C (dq D_Model_cross 56 rfl) cb_8 ?_
          refine n_ge_t (pc := 97) (tgt := 153) C (dq D_Model_cross 57 rfl) (by decide) (by omega) (by omega) ?_
          refine x_aload_n (pc := 153) C (dq D_Model_cross 90 rfl) rfl ?_
          refine x_bipush (pc := 154) C (dq D_Model_cross 91 rfl) cb_44 ?_
          refine x_cV (pc := 156) (ci := 1) (M := M_Model_encipher) C (dq D_Model_cross 92 rfl) k_ml_Model_84 m_Model_encipher rfl rfl (mo hP) (c_enc hP hW hT hU ⟨(ctr_ok hi (lo + i)).1, (ctr_ok hi (lo + i)).2, hB.2.2⟩ (by omega)) rfl rfl rfl rfl (by decide) (fun o h2 hp => ?_)
          obtain ⟨rfl, V2, hV2, rfl⟩ := hp
          refine ⟨none, rfl, ?_⟩
          show X g f M_Model_cross (0, 0) (fun o h' => o = .returned none ∧ ∃ B' M' : List Nat, bm16 (B', M') ∧ h' = mh g P cd ni no nt nr nl [W, T, U, IN, OUT, IS, IB, B', M', (cro T W KP nr ROW), TX, MA, SM, KP] S) (0, 0) 159 [some (.ref (zA (gz g) 44)), some (.long (lN (hi))), none, some (.long (lN (lo + i))), none, some (.int (nI (16 * i))), some (.int (nI k))] [] (mh g P cd ni no nt nr nl [W, T, U, IN, OUT, IS, IB, (enc T W 44 (ctr hi (lo + i))), V2, R, TX, MA, SM, KP] S)
          refine x_iload (pc := 159) C (dq D_Model_cross 93 rfl) rfl ?_
          refine x_istore (i := 6) (pc := 161) C (dq D_Model_cross 94 rfl) rfl rfl rfl ?_
          simp only [List.set_cons_zero, List.set_cons_succ]
          exact over (min 16 (nr - 16 * i)) (16 * i) V2 R rfl (by omega) hV2 hR he
        | succ e ih2 =>
          intro k B hke hBl hB8 he2
          refine x_iload (pc := 93) C (dq D_Model_cross 55 rfl) rfl ?_
          refine x_bipush (pc := 95) C (dq D_Model_cross 56 rfl) cb_8 ?_
          refine n_ge_f (pc := 97) (tgt := 153) C (dq D_Model_cross 57 rfl) (by decide) (by omega) (by omega) ?_
          refine x_aload_n (pc := 100) C (dq D_Model_cross 58 rfl) rfl ?_
          refine x_get (pc := 101) (ci := 1) (j := 11) C (dq D_Model_cross 59 rfl) rfl rfl (by first | exact mo hP | exact ma hP rfl rfl) rfl k_fl_Model_31 ?_
          refine x_iload (pc := 104) C (dq D_Model_cross 60 rfl) rfl ?_
          refine x_lload_n (pc := 106) C (dq D_Model_cross 61 rfl) rfl ?_
          refine x_bipush (pc := 107) C (dq D_Model_cross 62 rfl) cb_56 ?_
          refine x_bipush (pc := 109) C (dq D_Model_cross 63 rfl) cb_8 ?_
          refine x_iload (pc := 111) C (dq D_Model_cross 64 rfl) rfl ?_
          refine n_imul (pc := 113) C (dq D_Model_cross 65 rfl) ?_
          refine n_isub (pc := 114) C (dq D_Model_cross 66 rfl) (by omega) ?_
          refine x_lshr (pc := 115) C (dq D_Model_cross 67 rfl) rfl ?_
          refine x_ldc2 (pc := 116) C (dq D_Model_cross 68 rfl) k_co_Model_103 ?_
          refine x_land (pc := 119) C (dq D_Model_cross 69 rfl) ?_
          refine x_l2i (pc := 120) C (dq D_Model_cross 70 rfl) (ls255 (by omega) (by omega)) ?_
          refine x_iast (pc := 121) C (dq D_Model_cross 71 rfl) (by first | exact mo hP | exact ma hP rfl rfl) (by (try simp only [List.length_set]); omega) ?_
          try rw [List.set_set]
          rw [mh_s hP rfl rfl]
          simp only [Nat.reduceSub, List.set_cons_zero, List.set_cons_succ]
          refine x_aload_n (pc := 122) C (dq D_Model_cross 72 rfl) rfl ?_
          refine x_get (pc := 123) (ci := 1) (j := 11) C (dq D_Model_cross 73 rfl) rfl rfl (by first | exact mo hP | exact ma hP rfl rfl) rfl k_fl_Model_31 ?_
          refine x_bipush (pc := 126) C (dq D_Model_cross 74 rfl) cb_8 ?_
          refine x_iload (pc := 128) C (dq D_Model_cross 75 rfl) rfl ?_
          refine n_iadd (pc := 130) C (dq D_Model_cross 76 rfl) ?_
          refine x_lload_n (pc := 131) C (dq D_Model_cross 77 rfl) rfl ?_
          refine x_bipush (pc := 132) C (dq D_Model_cross 78 rfl) cb_56 ?_
          refine x_bipush (pc := 134) C (dq D_Model_cross 79 rfl) cb_8 ?_
          refine x_iload (pc := 136) C (dq D_Model_cross 80 rfl) rfl ?_
          refine n_imul (pc := 138) C (dq D_Model_cross 81 rfl) ?_
          refine n_isub (pc := 139) C (dq D_Model_cross 82 rfl) (by omega) ?_
          refine x_lshr (pc := 140) C (dq D_Model_cross 83 rfl) rfl ?_
          refine x_ldc2 (pc := 141) C (dq D_Model_cross 84 rfl) k_co_Model_103 ?_
          refine x_land (pc := 144) C (dq D_Model_cross 85 rfl) ?_
          refine x_l2i (pc := 145) C (dq D_Model_cross 86 rfl) (ls255 (by omega) (by omega)) ?_
          refine x_iast (pc := 146) C (dq D_Model_cross 87 rfl) (by first | exact mo hP | exact ma hP rfl rfl) (by (try simp only [List.length_set]); omega) ?_
          try rw [List.set_set]
          rw [mh_s hP rfl rfl]
          simp only [Nat.reduceSub, List.set_cons_zero, List.set_cons_succ]
          refine x_iinc (pc := 147) C (dq D_Model_cross 88 rfl) rfl (ii_1 _) rfl rfl ?_
          simp only [List.set_cons_zero, List.set_cons_succ]
          refine x_goto (pc := 150) (tgt := 93) C (dq D_Model_cross 89 rfl) (by decide) ?_
          exact ih2 (k + 1) (ctb hi (lo + i) k B) (by omega) (by rw [ctb_len]; exact hBl) ((hB8.set (and8 _)).set (and8 _)) he2
      refine x_iload (pc := 81) C (dq D_Model_cross 49 rfl) rfl ?_
      refine x_aload_n (pc := 83) C (dq D_Model_cross 50 rfl) rfl ?_
      refine x_get (pc := 84) (ci := 1) (j := 13) C (dq D_Model_cross 51 rfl) rfl rfl (mo hP) rfl k_fl_Model_100 ?_
      refine n_ge_f (pc := 87) (tgt := 237) C (dq D_Model_cross 52 rfl) (by decide) (by omega) (by omega) ?_
      refine x_iconst (pc := 90) C (dq D_Model_cross 53 rfl) ci_0 ?_
      refine x_istore (i := 6) (pc := 91) C (dq D_Model_cross 54 rfl) rfl rfl rfl ?_
      simp only [List.set_cons_zero, List.set_cons_succ]
      exact lay 8 0 B rfl hB.1 hB.2.1 (ctb_ind hB.1)
  have load : ∀ (e k a b : Nat) (l6 : Option Value), k + e = 8 → a < 2 ^ (8 * k) → b < 2 ^ (8 * k) → it (hst KP) k e a = hi → it (lst KP) k e b = lo → X g f M_Model_cross (0, 0) (fun o h' => o = .returned none ∧ ∃ B' M' : List Nat, bm16 (B', M') ∧ h' = mh g P cd ni no nt nr nl [W, T, U, IN, OUT, IS, IB, B', M', (cro T W KP nr ROW), TX, MA, SM, KP] S) (0, 0) 7 [some (.ref (zA (gz g) 44)), some (.long (lN (a))), none, some (.long (lN (b))), none, some (.int (nI k)), l6] [] (mh g P cd ni no nt nr nl [W, T, U, IN, OUT, IS, IB, BL, MV, ROW, TX, MA, SM, KP] S) := by
    intro e
    induction e with
    | zero =>
      intro k a b l6 hke ha hb2 h1 h2
      rw [it_zero] at h1 h2
      rw [h1, h2]
      refine x_iload (pc := 7) C (dq D_Model_cross 6 rfl) rfl ?_
      refine x_bipush (pc := 9) C (dq D_Model_cross 7 rfl) cb_8 ?_
      refine n_ge_t (pc := 11) (tgt := 78) C (dq D_Model_cross 8 rfl) (by decide) (by omega) (by omega) ?_
      refine x_iconst (pc := 78) C (dq D_Model_cross 47 rfl) ci_0 ?_
      refine x_istore (i := 5) (pc := 79) C (dq D_Model_cross 48 rfl) rfl rfl rfl ?_
      simp only [List.set_cons_zero, List.set_cons_succ]
      refine blocks ((nr + 15) / 16) 0 BL MV ROW l6 (by omega) hb hR ?_
      unfold cro
      rw [hHi, hLo]
    | succ e ih =>
      intro k a b l6 hke ha hb2 h1 h2
      have p0 : 2 ^ (8 * k) ≤ 2 ^ 56 := Nat.pow_le_pow_right (by omega) (by omega)
      have p1 : a * 2 ^ 8 < 2 ^ 64 := by
        have q := Nat.mul_lt_mul_of_pos_right (Nat.lt_of_lt_of_le ha p0) (Nat.two_pow_pos 8)
        rw [← Nat.pow_add] at q
        exact q
      have p2 : b * 2 ^ 8 < 2 ^ 64 := by
        have q := Nat.mul_lt_mul_of_pos_right (Nat.lt_of_lt_of_le hb2 p0) (Nat.two_pow_pos 8)
        rw [← Nat.pow_add] at q
        exact q
      clear p0
      have v1 := hK.2.at k
      have v2 := hK.2.at (8 + k)
      have fin : ∀ v : Nat, v = (if k = 0 ∨ k = 4 then KP.getD (8 + k) 0 &&& 127 else KP.getD (8 + k) 0) → X g f M_Model_cross (0, 0) (fun o h' => o = .returned none ∧ ∃ B' M' : List Nat, bm16 (B', M') ∧ h' = mh g P cd ni no nt nr nl [W, T, U, IN, OUT, IS, IB, B', M', (cro T W KP nr ROW), TX, MA, SM, KP] S) (0, 0) 69 [some (.ref (zA (gz g) 44)), some (.long (lN (hst KP k a))), none, some (.long (lN b)), none, some (.int (nI k)), l6] [.int (nI v), .long (lN (b * 2 ^ 8))] (mh g P cd ni no nt nr nl [W, T, U, IN, OUT, IS, IB, BL, MV, ROW, TX, MA, SM, KP] S) := by
        intro v hv
        have v3 : v < 256 := by rw [hv]; exact lst_v hK.2 k
        refine n_i2l (pc := 69) C (dq D_Model_cross 42 rfl) (by omega) ?_
        refine n_lor (pc := 70) C (dq D_Model_cross 43 rfl) ?_
        refine x_lstore_n (i := 3) (pc := 71) C (dq D_Model_cross 44 rfl) rfl rfl rfl ?_
        simp only [List.set_cons_zero, List.set_cons_succ]
        refine x_iinc (pc := 72) C (dq D_Model_cross 45 rfl) rfl (ii_1 _) rfl rfl ?_
        simp only [List.set_cons_zero, List.set_cons_succ]
        refine x_goto (pc := 75) (tgt := 7) C (dq D_Model_cross 46 rfl) (by decide) ?_
        refine ih (k + 1) (hst KP k a) ((b * 2 ^ 8) ||| v) l6 (by omega) (or_lt ha v1) (or_lt hb2 v3) h1 ?_
        rw [hv]
        exact h2
      refine x_iload (pc := 7) C (dq D_Model_cross 6 rfl) rfl ?_
      refine x_bipush (pc := 9) C (dq D_Model_cross 7 rfl) cb_8 ?_
      refine n_ge_f (pc := 11) (tgt := 78) C (dq D_Model_cross 8 rfl) (by decide) (by omega) (by omega) ?_
      refine x_lload_n (pc := 14) C (dq D_Model_cross 9 rfl) rfl ?_
      refine x_bipush (pc := 15) C (dq D_Model_cross 10 rfl) cb_8 ?_
      refine n_lshl (pc := 17) C (dq D_Model_cross 11 rfl) (by omega) p1 ?_
      refine x_aload_n (pc := 18) C (dq D_Model_cross 12 rfl) rfl ?_
      refine x_get (pc := 19) (ci := 1) (j := 19) C (dq D_Model_cross 13 rfl) rfl rfl (by first | exact mo hP | exact ma hP rfl rfl) rfl k_fl_Model_49 ?_
      refine x_iload (pc := 22) C (dq D_Model_cross 14 rfl) rfl ?_
      refine x_iald (pc := 24) C (dq D_Model_cross 15 rfl) (by first | exact mo hP | exact ma hP rfl rfl) (by (try simp only [List.length_set]); omega) ?_
      refine n_i2l (pc := 25) C (dq D_Model_cross 16 rfl) (by omega) ?_
      refine n_lor (pc := 26) C (dq D_Model_cross 17 rfl) ?_
      refine x_lstore_n (i := 1) (pc := 27) C (dq D_Model_cross 18 rfl) rfl rfl rfl ?_
      simp only [List.set_cons_zero, List.set_cons_succ]
      refine x_lload_n (pc := 28) C (dq D_Model_cross 19 rfl) rfl ?_
      refine x_bipush (pc := 29) C (dq D_Model_cross 20 rfl) cb_8 ?_
      refine n_lshl (pc := 31) C (dq D_Model_cross 21 rfl) (by omega) p2 ?_
      refine x_iload (pc := 32) C (dq D_Model_cross 22 rfl) rfl ?_
      by_cases hk : k = 0 ∨ k = 4
      · rw [if_pos hk] at fin
        rcases hk with rfl | rfl
        · refine n_ifeq_t (pc := 34) (tgt := 43) C (dq D_Model_cross 23 rfl) (by decide) (by omega) (by omega) ?_
          refine x_aload_n (pc := 43) C (dq D_Model_cross 27 rfl) rfl ?_
          refine x_get (pc := 44) (ci := 1) (j := 19) C (dq D_Model_cross 28 rfl) rfl rfl (by first | exact mo hP | exact ma hP rfl rfl) rfl k_fl_Model_49 ?_
          refine x_bipush (pc := 47) C (dq D_Model_cross 29 rfl) cb_8 ?_
          refine x_iload (pc := 49) C (dq D_Model_cross 30 rfl) rfl ?_
          refine n_iadd (pc := 51) C (dq D_Model_cross 31 rfl) ?_
          refine x_iald (pc := 52) C (dq D_Model_cross 32 rfl) (by first | exact mo hP | exact ma hP rfl rfl) (by (try simp only [List.length_set]); omega) ?_
          refine x_bipush (pc := 53) C (dq D_Model_cross 33 rfl) cb_127 ?_
          refine n_iand (pc := 55) C (dq D_Model_cross 34 rfl) ?_
          refine x_goto (pc := 56) (tgt := 69) C (dq D_Model_cross 35 rfl) (by decide) ?_
          exact fin _ rfl
        · refine n_ifeq_f (pc := 34) (tgt := 43) C (dq D_Model_cross 23 rfl) (by decide) (by omega) (by omega) ?_
          refine x_iload (pc := 37) C (dq D_Model_cross 24 rfl) rfl ?_
          refine x_iconst (pc := 39) C (dq D_Model_cross 25 rfl) ci_4 ?_
          refine n_ne_f (pc := 40) (tgt := 59) C (dq D_Model_cross 26 rfl) (by decide) (by omega) (by omega) ?_
          refine x_aload_n (pc := 43) C (dq D_Model_cross 27 rfl) rfl ?_
          refine x_get (pc := 44) (ci := 1) (j := 19) C (dq D_Model_cross 28 rfl) rfl rfl (by first | exact mo hP | exact ma hP rfl rfl) rfl k_fl_Model_49 ?_
          refine x_bipush (pc := 47) C (dq D_Model_cross 29 rfl) cb_8 ?_
          refine x_iload (pc := 49) C (dq D_Model_cross 30 rfl) rfl ?_
          refine n_iadd (pc := 51) C (dq D_Model_cross 31 rfl) ?_
          refine x_iald (pc := 52) C (dq D_Model_cross 32 rfl) (by first | exact mo hP | exact ma hP rfl rfl) (by (try simp only [List.length_set]); omega) ?_
          refine x_bipush (pc := 53) C (dq D_Model_cross 33 rfl) cb_127 ?_
          refine n_iand (pc := 55) C (dq D_Model_cross 34 rfl) ?_
          refine x_goto (pc := 56) (tgt := 69) C (dq D_Model_cross 35 rfl) (by decide) ?_
          exact fin _ rfl
      · rw [if_neg hk] at fin
        refine n_ifeq_f (pc := 34) (tgt := 43) C (dq D_Model_cross 23 rfl) (by decide) (by omega) (by omega) ?_
        refine x_iload (pc := 37) C (dq D_Model_cross 24 rfl) rfl ?_
        refine x_iconst (pc := 39) C (dq D_Model_cross 25 rfl) ci_4 ?_
        refine n_ne_t (pc := 40) (tgt := 59) C (dq D_Model_cross 26 rfl) (by decide) (by omega) (by omega) ?_
        refine x_aload_n (pc := 59) C (dq D_Model_cross 36 rfl) rfl ?_
        refine x_get (pc := 60) (ci := 1) (j := 19) C (dq D_Model_cross 37 rfl) rfl rfl (by first | exact mo hP | exact ma hP rfl rfl) rfl k_fl_Model_49 ?_
        refine x_bipush (pc := 63) C (dq D_Model_cross 38 rfl) cb_8 ?_
        refine x_iload (pc := 65) C (dq D_Model_cross 39 rfl) rfl ?_
        refine n_iadd (pc := 67) C (dq D_Model_cross 40 rfl) ?_
        refine x_iald (pc := 68) C (dq D_Model_cross 41 rfl) (by first | exact mo hP | exact ma hP rfl rfl) (by (try simp only [List.length_set]); omega) ?_
        exact fin _ rfl
  refine x_lconst (v := lN 0) (pc := 0) C (dq D_Model_cross 0 rfl) rfl ?_
  refine x_lstore_n (i := 1) (pc := 1) C (dq D_Model_cross 1 rfl) rfl rfl rfl ?_
  simp only [List.set_cons_zero, List.set_cons_succ]
  refine x_lconst (v := lN 0) (pc := 2) C (dq D_Model_cross 2 rfl) rfl ?_
  refine x_lstore_n (i := 3) (pc := 3) C (dq D_Model_cross 3 rfl) rfl rfl rfl ?_
  simp only [List.set_cons_zero, List.set_cons_succ]
  refine x_iconst (pc := 4) C (dq D_Model_cross 4 rfl) ci_0 ?_
  refine x_istore (i := 5) (pc := 5) C (dq D_Model_cross 5 rfl) rfl rfl rfl ?_
  simp only [List.set_cons_zero, List.set_cons_succ]
  exact load 8 0 0 0 none rfl (by omega) (by omega) hHi hLo
