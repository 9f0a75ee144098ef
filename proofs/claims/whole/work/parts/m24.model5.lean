/-- the reference's mark: the padding, the twist, the chain -/
def mpd (n k : Nat) (TX : List Nat) : List Nat := TX.set k (if k = n then 128 else 0)
def wle (n : Nat) : Bool := decide (0 < n ∧ n % 16 = 0)
def mend (n : Nat) : Nat := if wle n then n else (n / 16 + 1) * 16
def mtw (T W : List Nat) (n : Nat) : List Nat := if wle n then mdb (enc T W 0 z16) else mdb (mdb (enc T W 0 z16))
def mxt (K : List Nat) (e k : Nat) (TX : List Nat) : List Nat := TX.set (e - 16 + k) (TX.getD (e - 16 + k) 0 ^^^ K.getD k 0)
def mxb (TX : List Nat) (a k : Nat) (B : List Nat) : List Nat := B.set k (B.getD k 0 ^^^ TX.getD (a + k) 0)
def mch (T W TX : List Nat) (i : Nat) (B : List Nat) : List Nat := enc T W 0 (it (mxb TX (16 * i)) 0 16 B)
/-- the text behind the padding and the twist -/
def mtt (T W : List Nat) (n : Nat) (TX : List Nat) : List Nat := it (mxt (mtw T W n) (mend n)) 0 16 (it (mpd n) n (mend n - n) TX)
def mmk (T W : List Nat) (n : Nat) (TX : List Nat) : List Nat := it (mch T W (mtt T W n TX)) 0 (mend n / 16) z16
theorem mpd_len (n k : Nat) (S : List Nat) : (mpd n k S).length = S.length := List.length_set
theorem mxt_len (K : List Nat) (e k : Nat) (S : List Nat) : (mxt K e k S).length = S.length := List.length_set
theorem mxb_len (TX : List Nat) (a k : Nat) (S : List Nat) : (mxb TX a k S).length = S.length := List.length_set
theorem mpd8 (n k d : Nat) {S : List Nat} (h : by8 S) : by8 (it (mpd n) k d S) := it_inv by8 d k S (fun j T _ _ hT => hT.set (by split <;> omega)) h
theorem mxt8 {K : List Nat} (hK : by8 K) (e k d : Nat) {S : List Nat} (h : by8 S) : by8 (it (mxt K e) k d S) := it_inv by8 d k S (fun j T _ _ hT => hT.set (xor8 (hT.at _) (hK.at _))) h
theorem mxb8 {TX : List Nat} (hK : by8 TX) (a k d : Nat) {S : List Nat} (h : by8 S) : by8 (it (mxb TX a) k d S) := it_inv by8 d k S (fun j T _ _ hT => hT.set (xor8 (hT.at _) (hK.at _))) h
theorem mend_ok (n : Nat) : n ≤ mend n ∧ 16 ≤ mend n ∧ mend n ≤ n + 16 ∧ mend n % 16 = 0 := by
  unfold mend wle
  by_cases h : 0 < n ∧ n % 16 = 0
  · rw [if_pos (by simpa using h)]
    omega
  · rw [if_neg (by simpa using h)]
    omega
theorem mtw_ok {T : List Nat} (hT : by8 T) (W : List Nat) (n : Nat) : (mtw T W n).length = 16 ∧ by8 (mtw T W n) := by
  obtain ⟨a, b⟩ := enc_ok hT W 0 (B := z16) rfl z16_8
  unfold mtw
  split
  · exact ⟨by rw [mdb_len]; exact a, mdb8 b⟩
  · exact ⟨by rw [mdb_len, mdb_len]; exact a, mdb8 (mdb8 b)⟩
theorem mch_ok {T : List Nat} (hT : by8 T) (W : List Nat) {TX : List Nat} (h8 : by8 TX) (i : Nat) {B : List Nat} (h : B.length = 16 ∧ by8 B) : (mch T W TX i B).length = 16 ∧ by8 (mch T W TX i B) := by
  unfold mch
  exact enc_ok hT W 0 (by rw [it_len (mxb_len TX (16 * i))]; exact h.1) (mxb8 h8 (16 * i) 0 16 h.2)
theorem mchs_ok {T : List Nat} (hT : by8 T) (W : List Nat) {TX : List Nat} (h8 : by8 TX) (k n : Nat) {B : List Nat} (h : B.length = 16 ∧ by8 B) : (it (mch T W TX) k n B).length = 16 ∧ by8 (it (mch T W TX) k n B) :=
  it_inv (fun B : List Nat => B.length = 16 ∧ by8 B) n k B (fun j S _ _ hS => mch_ok hT W h8 j hS) h
theorem mtt_ok {T : List Nat} (hT : by8 T) (W : List Nat) (n : Nat) {TX : List Nat} (h8 : by8 TX) : (mtt T W n TX).length = TX.length ∧ by8 (mtt T W n TX) := by
  unfold mtt
  exact ⟨by rw [it_len (mxt_len _ _), it_len (mpd_len n)], mxt8 (mtw_ok hT W n).2 _ 0 16 (mpd8 n n _ h8)⟩
theorem mmk_ok {T : List Nat} (hT : by8 T) (W : List Nat) (n : Nat) {TX : List Nat} (h8 : by8 TX) : (mmk T W n TX).length = 16 ∧ by8 (mmk T W n TX) :=
  mchs_ok hT W (mtt_ok hT W n h8).2 0 _ ⟨rfl, z16_8⟩
theorem cm_markText {g : Gp} {P S : Hp} {cd ni no nt nr nl : Nat} {W T U IN OUT IS IB BL MV ROW TX MA SM KP : List Nat} (hP : P.length = 44) (hW : W.length = 88 ∧ by32 W) (hT : T.length = 256 ∧ by8 T) (hU : U.length = 256 ∧ by8 U) (hb : bm16 (BL, MV)) (hTX : TX.length = 112 ∧ by8 TX) (hMA : MA.length = 16) (hnl : nl ≤ 88) :
    Con g M_Model_markText 2 (0, 0) [.ref (zA (gz g) 44)] (mh g P cd ni no nt nr nl [W, T, U, IN, OUT, IS, IB, BL, MV, ROW, TX, MA, SM, KP] S) (fun o h' => o = .returned none ∧ ∃ B' M' T' : List Nat, bm16 (B', M') ∧ T'.length = 112 ∧ by8 T' ∧ h' = mh g P cd ni no nt nr nl [W, T, U, IN, OUT, IS, IB, B', M', ROW, T', mmk T W nl TX, SM, KP] S) := by
  refine Con.of (by decide) rfl rfl (L := [some (.ref (zA (gz g) 44)), none, none, none, none]) rfl (fun f C => ?_)
  obtain ⟨e1, e2, e3, e4⟩ := mend_ok nl
  obtain ⟨k1, k2⟩ := mtw_ok hT.2 W nl
  obtain ⟨t1, t2⟩ := mtt_ok hT.2 W nl hTX.2
  -- the copy of the block
  have copy : ∀ (d k : Nat) (B V Y A : List Nat) (x : Nat) (l4 : Option Value), k + d = 16 → bm16 (B, V) → Y.length = 112 ∧ by8 Y → A.length = 16 → it (cp1 B) k d A = mmk T W nl TX → X g f M_Model_markText (0, 0) (fun o h' => o = .returned none ∧ ∃ B' M' T' : List Nat, bm16 (B', M') ∧ T'.length = 112 ∧ by8 T' ∧ h' = mh g P cd ni no nt nr nl [W, T, U, IN, OUT, IS, IB, B', M', ROW, T', mmk T W nl TX, SM, KP] S) (0, 0) 246 [some (.ref (zA (gz g) 44)), some (.int (nI x)), some (.int (nI (mend nl))), some (.int (nI k)), l4] [] (mh g P cd ni no nt nr nl [W, T, U, IN, OUT, IS, IB, B, V, ROW, Y, A, SM, KP] S) := by
    intro d
    induction d with
    | zero =>
      intro k B V Y A x l4 hkd hB hY hA he
      have e0 : A = mmk T W nl TX := he
      refine x_iload_n (pc := 246) C (dq D_Model_markText 140 rfl) rfl ?_
      refine x_bipush (pc := 247) C (dq D_Model_markText 141 rfl) cb_16 ?_
      refine n_ge_t (pc := 249) (tgt := 270) C (dq D_Model_markText 142 rfl) (by decide) (by omega) (by omega) ?_
      exact x_vret (pc := 270) C (dq D_Model_markText 153 rfl) rfl (by decide) ⟨rfl, B, V, Y, hB, hY.1, hY.2, by rw [e0]⟩
    | succ d ih =>
      intro k B V Y A x l4 hkd hB hY hA he
      have hB1 := hB.1
      dsimp only at hB1
      refine x_iload_n (pc := 246) C (dq D_Model_markText 140 rfl) rfl ?_
      refine x_bipush (pc := 247) C (dq D_Model_markText 141 rfl) cb_16 ?_
      refine n_ge_f (pc := 249) (tgt := 270) C (dq D_Model_markText 142 rfl) (by decide) (by omega) (by omega) ?_
      refine x_aload_n (pc := 252) C (dq D_Model_markText 143 rfl) rfl ?_
      refine x_get (pc := 253) (ci := 1) (j := 17) C (dq D_Model_markText 144 rfl) rfl rfl (by first | exact mo hP | exact ma hP rfl rfl) rfl k_fl_Model_43 ?_
      refine x_iload_n (pc := 256) C (dq D_Model_markText 145 rfl) rfl ?_
      refine x_aload_n (pc := 257) C (dq D_Model_markText 146 rfl) rfl ?_
      refine x_get (pc := 258) (ci := 1) (j := 11) C (dq D_Model_markText 147 rfl) rfl rfl (by first | exact mo hP | exact ma hP rfl rfl) rfl k_fl_Model_31 ?_
      refine x_iload_n (pc := 261) C (dq D_Model_markText 148 rfl) rfl ?_
      refine x_iald (pc := 262) C (dq D_Model_markText 149 rfl) (by first | exact mo hP | exact ma hP rfl rfl) (by (try simp only [List.length_set]); omega) ?_
      refine x_iast (pc := 263) C (dq D_Model_markText 150 rfl) (by first | exact mo hP | exact ma hP rfl rfl) (by (try simp only [List.length_set]); omega) ?_
      try rw [List.set_set]
      refine x_iinc (pc := 264) C (dq D_Model_markText 151 rfl) rfl (ii_1 _) rfl rfl ?_
      simp only [List.set_cons_zero, List.set_cons_succ]
      rw [mh_s hP rfl rfl]
      simp only [Nat.reduceSub, List.set_cons_zero, List.set_cons_succ]
      refine x_goto (pc := 267) (tgt := 246) C (dq D_Model_markText 152 rfl) (by decide) ?_
      exact ih (k + 1) B V Y (cp1 B k A) x l4 (by omega) hB hY (by rw [cp1_len]; exact hA) he
  -- the chain
  have chain : ∀ (d i : Nat) (B V A : List Nat) (x : Nat) (l4 : Option Value), 16 * i + 16 * d = mend nl → bm16 (B, V) → A.length = 16 → it (mch T W (mtt T W nl TX)) i d B = mmk T W nl TX → X g f M_Model_markText (0, 0) (fun o h' => o = .returned none ∧ ∃ B' M' T' : List Nat, bm16 (B', M') ∧ T'.length = 112 ∧ by8 T' ∧ h' = mh g P cd ni no nt nr nl [W, T, U, IN, OUT, IS, IB, B', M', ROW, T', mmk T W nl TX, SM, KP] S) (0, 0) 188 [some (.ref (zA (gz g) 44)), some (.int (nI x)), some (.int (nI (mend nl))), some (.int (nI (16 * i))), l4] [] (mh g P cd ni no nt nr nl [W, T, U, IN, OUT, IS, IB, B, V, ROW, (mtt T W nl TX), A, SM, KP] S) := by
    intro d
    induction d with
    | zero =>
      intro i B V A x l4 hid hB hA he
      have e0 : B = mmk T W nl TX := he
      refine x_iload_n (pc := 188) C (dq D_Model_markText 108 rfl) rfl ?_
      refine x_iload_n (pc := 189) C (dq D_Model_markText 109 rfl) rfl ?_
      refine n_ge_t (pc := 190) (tgt := 244) C (dq D_Model_markText 110 rfl) (by decide) (by omega) (by omega) ?_
      refine x_iconst (pc := 244) C (dq D_Model_markText 138 rfl) ci_0 ?_
      refine x_istore_n (i := 3) (pc := 245) C (dq D_Model_markText 139 rfl) rfl rfl rfl ?_
      simp only [List.set_cons_zero, List.set_cons_succ]
      exact copy 16 0 B V _ A x l4 rfl hB ⟨t1.trans hTX.1, t2⟩ hA (by rw [cp16 hB.1 hA]; exact e0)
    | succ d ih =>
      intro i B V A x l4 hid hB hA he
      have inner : ∀ (d2 k : Nat) (R : List Nat), k + d2 = 16 → R.length = 16 → by8 R → it (mxb (mtt T W nl TX) (16 * i)) k d2 R = it (mxb (mtt T W nl TX) (16 * i)) 0 16 B → X g f M_Model_markText (0, 0) (fun o h' => o = .returned none ∧ ∃ B' M' T' : List Nat, bm16 (B', M') ∧ T'.length = 112 ∧ by8 T' ∧ h' = mh g P cd ni no nt nr nl [W, T, U, IN, OUT, IS, IB, B', M', ROW, T', mmk T W nl TX, SM, KP] S) (0, 0) 196 [some (.ref (zA (gz g) 44)), some (.int (nI x)), some (.int (nI (mend nl))), some (.int (nI (16 * i))), some (.int (nI k))] [] (mh g P cd ni no nt nr nl [W, T, U, IN, OUT, IS, IB, R, V, ROW, (mtt T W nl TX), A, SM, KP] S) := by
        intro d2
        induction d2 with
        | zero =>
          intro k R hkd hR hR8 heR
          have e0 : R = it (mxb (mtt T W nl TX) (16 * i)) 0 16 B := heR
          refine x_iload (pc := 196) C (dq D_Model_markText 113 rfl) rfl ?_
          refine x_bipush (pc := 198) C (dq D_Model_markText 114 rfl) cb_16 ?_
          refine n_ge_t (pc := 200) (tgt := 233) C (dq D_Model_markText 115 rfl) (by decide) (by omega) (by omega) ?_
          refine x_aload_n (pc := 233) C (dq D_Model_markText 133 rfl) rfl ?_
          refine x_iconst (pc := 234) C (dq D_Model_markText 134 rfl) ci_0 ?_
          refine x_cV (pc := 235) (ci := 1) (M := M_Model_encipher) C (dq D_Model_markText 135 rfl) k_ml_Model_84 m_Model_encipher rfl rfl (mo hP) (c_enc hP hW hT hU ⟨hR, hR8, hB.2.2⟩ (by omega)) rfl rfl rfl rfl (by decide) (fun o h2 hp => ?_)
          obtain ⟨rfl, V2, hV2, rfl⟩ := hp
          refine ⟨none, rfl, ?_⟩
          rw [e0] at hV2 ⊢
          show X g f M_Model_markText (0, 0) (fun o h' => o = .returned none ∧ ∃ B' M' T' : List Nat, bm16 (B', M') ∧ T'.length = 112 ∧ by8 T' ∧ h' = mh g P cd ni no nt nr nl [W, T, U, IN, OUT, IS, IB, B', M', ROW, T', mmk T W nl TX, SM, KP] S) (0, 0) 238 [some (.ref (zA (gz g) 44)), some (.int (nI x)), some (.int (nI (mend nl))), some (.int (nI (16 * i))), some (.int (nI k))] [] (mh g P cd ni no nt nr nl [W, T, U, IN, OUT, IS, IB, (mch T W (mtt T W nl TX) i B), V2, ROW, (mtt T W nl TX), A, SM, KP] S)
          refine x_iinc (pc := 238) C (dq D_Model_markText 136 rfl) rfl (ii_16 _) rfl rfl ?_
          simp only [List.set_cons_zero, List.set_cons_succ]
          refine x_goto (pc := 241) (tgt := 188) C (dq D_Model_markText 137 rfl) (by decide) ?_
          exact ih (i + 1) (mch T W (mtt T W nl TX) i B) V2 A x _ (by omega) hV2 hA he
        | succ d2 ih2 =>
          intro k R hkd hR hR8 heR
          have hl : (mtt T W nl TX).length = 112 := t1.trans hTX.1
          refine x_iload (pc := 196) C (dq D_Model_markText 113 rfl) rfl ?_
          refine x_bipush (pc := 198) C (dq D_Model_markText 114 rfl) cb_16 ?_
          refine n_ge_f (pc := 200) (tgt := 233) C (dq D_Model_markText 115 rfl) (by decide) (by omega) (by omega) ?_
          refine x_aload_n (pc := 203) C (dq D_Model_markText 116 rfl) rfl ?_
          refine x_get (pc := 204) (ci := 1) (j := 11) C (dq D_Model_markText 117 rfl) rfl rfl (by first | exact mo hP | exact ma hP rfl rfl) rfl k_fl_Model_31 ?_
          refine x_iload (pc := 207) C (dq D_Model_markText 118 rfl) rfl ?_
          refine x_aload_n (pc := 209) C (dq D_Model_markText 119 rfl) rfl ?_
          refine x_get (pc := 210) (ci := 1) (j := 11) C (dq D_Model_markText 120 rfl) rfl rfl (by first | exact mo hP | exact ma hP rfl rfl) rfl k_fl_Model_31 ?_
          refine x_iload (pc := 213) C (dq D_Model_markText 121 rfl) rfl ?_
          refine x_iald (pc := 215) C (dq D_Model_markText 122 rfl) (by first | exact mo hP | exact ma hP rfl rfl) (by (try simp only [List.length_set]); omega) ?_
          refine x_aload_n (pc := 216) C (dq D_Model_markText 123 rfl) rfl ?_
          refine x_get (pc := 217) (ci := 1) (j := 16) C (dq D_Model_markText 124 rfl) rfl rfl (by first | exact mo hP | exact ma hP rfl rfl) rfl k_fl_Model_40 ?_
          refine x_iload_n (pc := 220) C (dq D_Model_markText 125 rfl) rfl ?_
          refine x_iload (pc := 221) C (dq D_Model_markText 126 rfl) rfl ?_
          refine n_iadd (pc := 223) C (dq D_Model_markText 127 rfl) ?_
          refine x_iald (pc := 224) C (dq D_Model_markText 128 rfl) (by first | exact mo hP | exact ma hP rfl rfl) (by (try simp only [List.length_set]); omega) ?_
          refine n_ixor (pc := 225) C (dq D_Model_markText 129 rfl) ?_
          refine x_iast (pc := 226) C (dq D_Model_markText 130 rfl) (by first | exact mo hP | exact ma hP rfl rfl) (by (try simp only [List.length_set]); omega) ?_
          try rw [List.set_set]
          refine x_iinc (pc := 227) C (dq D_Model_markText 131 rfl) rfl (ii_1 _) rfl rfl ?_
          simp only [List.set_cons_zero, List.set_cons_succ]
          rw [mh_s hP rfl rfl]
          simp only [Nat.reduceSub, List.set_cons_zero, List.set_cons_succ]
          refine x_goto (pc := 230) (tgt := 196) C (dq D_Model_markText 132 rfl) (by decide) ?_
          exact ih2 (k + 1) (mxb (mtt T W nl TX) (16 * i) k R) (by omega) (by rw [mxb_len]; exact hR) (hR8.set (xor8 (hR8.at _) (t2.at _))) heR
      refine x_iload_n (pc := 188) C (dq D_Model_markText 108 rfl) rfl ?_
      refine x_iload_n (pc := 189) C (dq D_Model_markText 109 rfl) rfl ?_
      refine n_ge_f (pc := 190) (tgt := 244) C (dq D_Model_markText 110 rfl) (by decide) (by omega) (by omega) ?_
      refine x_iconst (pc := 193) C (dq D_Model_markText 111 rfl) ci_0 ?_
      refine x_istore (i := 4) (pc := 194) C (dq D_Model_markText 112 rfl) rfl rfl rfl ?_
      simp only [List.set_cons_zero, List.set_cons_succ]
      exact inner 16 0 B rfl hB.1 hB.2.1 rfl
  -- the block cleared once more
  have clear2 : ∀ (d k : Nat) (B V A : List Nat) (x : Nat) (l4 : Option Value), k + d = 16 → B.length = 16 → V.length = 16 → by8 V → A.length = 16 → it (fls 0) k d B = z16 → X g f M_Model_markText (0, 0) (fun o h' => o = .returned none ∧ ∃ B' M' T' : List Nat, bm16 (B', M') ∧ T'.length = 112 ∧ by8 T' ∧ h' = mh g P cd ni no nt nr nl [W, T, U, IN, OUT, IS, IB, B', M', ROW, T', mmk T W nl TX, SM, KP] S) (0, 0) 167 [some (.ref (zA (gz g) 44)), some (.int (nI x)), some (.int (nI (mend nl))), some (.int (nI k)), l4] [] (mh g P cd ni no nt nr nl [W, T, U, IN, OUT, IS, IB, B, V, ROW, (mtt T W nl TX), A, SM, KP] S) := by
    intro d
    induction d with
    | zero =>
      intro k B V A x l4 hkd hB hV hV8 hA he
      obtain rfl : B = z16 := he
      refine x_iload_n (pc := 167) C (dq D_Model_markText 96 rfl) rfl ?_
      refine x_bipush (pc := 168) C (dq D_Model_markText 97 rfl) cb_16 ?_
      refine n_ge_t (pc := 170) (tgt := 186) C (dq D_Model_markText 98 rfl) (by decide) (by omega) (by omega) ?_
      refine x_iconst (pc := 186) C (dq D_Model_markText 106 rfl) ci_0 ?_
      refine x_istore_n (i := 3) (pc := 187) C (dq D_Model_markText 107 rfl) rfl rfl rfl ?_
      simp only [List.set_cons_zero, List.set_cons_succ]
      exact chain (mend nl / 16) 0 z16 V A x l4 (by omega) ⟨rfl, z16_8, hV, hV8⟩ hA rfl
    | succ d ih =>
      intro k B V A x l4 hkd hB hV hV8 hA he
      refine x_iload_n (pc := 167) C (dq D_Model_markText 96 rfl) rfl ?_
      refine x_bipush (pc := 168) C (dq D_Model_markText 97 rfl) cb_16 ?_
      refine n_ge_f (pc := 170) (tgt := 186) C (dq D_Model_markText 98 rfl) (by decide) (by omega) (by omega) ?_
      refine x_aload_n (pc := 173) C (dq D_Model_markText 99 rfl) rfl ?_
      refine x_get (pc := 174) (ci := 1) (j := 11) C (dq D_Model_markText 100 rfl) rfl rfl (by first | exact mo hP | exact ma hP rfl rfl) rfl k_fl_Model_31 ?_
      refine x_iload_n (pc := 177) C (dq D_Model_markText 101 rfl) rfl ?_
      refine x_iconst (pc := 178) C (dq D_Model_markText 102 rfl) ci_0 ?_
      refine x_iast (pc := 179) C (dq D_Model_markText 103 rfl) (by first | exact mo hP | exact ma hP rfl rfl) (by (try simp only [List.length_set]); omega) ?_
      try rw [List.set_set]
      refine x_iinc (pc := 180) C (dq D_Model_markText 104 rfl) rfl (ii_1 _) rfl rfl ?_
      simp only [List.set_cons_zero, List.set_cons_succ]
      rw [mh_s hP rfl rfl]
      simp only [Nat.reduceSub, List.set_cons_zero, List.set_cons_succ]
      refine x_goto (pc := 183) (tgt := 167) C (dq D_Model_markText 105 rfl) (by decide) ?_
      exact ih (k + 1) (fls 0 k B) V A x l4 (by omega) (by rw [fls_len]; exact hB) hV hV8 hA he
  -- the twist over the text
  have twist : ∀ (d k : Nat) (V Y A : List Nat) (x : Nat) (l4 : Option Value), k + d = 16 → V.length = 16 → by8 V → Y.length = 112 → A.length = 16 → it (mxt (mtw T W nl) (mend nl)) k d Y = mtt T W nl TX → X g f M_Model_markText (0, 0) (fun o h' => o = .returned none ∧ ∃ B' M' T' : List Nat, bm16 (B', M') ∧ T'.length = 112 ∧ by8 T' ∧ h' = mh g P cd ni no nt nr nl [W, T, U, IN, OUT, IS, IB, B', M', ROW, T', mmk T W nl TX, SM, KP] S) (0, 0) 124 [some (.ref (zA (gz g) 44)), some (.int (nI x)), some (.int (nI (mend nl))), some (.int (nI k)), l4] [] (mh g P cd ni no nt nr nl [W, T, U, IN, OUT, IS, IB, (mtw T W nl), V, ROW, Y, A, SM, KP] S) := by
    intro d
    induction d with
    | zero =>
      intro k V Y A x l4 hkd hV hV8 hY hA he
      obtain rfl : Y = mtt T W nl TX := he
      refine x_iload_n (pc := 124) C (dq D_Model_markText 68 rfl) rfl ?_
      refine x_bipush (pc := 125) C (dq D_Model_markText 69 rfl) cb_16 ?_
      refine n_ge_t (pc := 127) (tgt := 165) C (dq D_Model_markText 70 rfl) (by decide) (by omega) (by omega) ?_
      refine x_iconst (pc := 165) C (dq D_Model_markText 94 rfl) ci_0 ?_
      refine x_istore_n (i := 3) (pc := 166) C (dq D_Model_markText 95 rfl) rfl rfl rfl ?_
      simp only [List.set_cons_zero, List.set_cons_succ]
      exact clear2 16 0 _ V A x l4 rfl k1 hV hV8 hA (fls16 k1)
    | succ d ih =>
      intro k V Y A x l4 hkd hV hV8 hY hA he
      refine x_iload_n (pc := 124) C (dq D_Model_markText 68 rfl) rfl ?_
      refine x_bipush (pc := 125) C (dq D_Model_markText 69 rfl) cb_16 ?_
      refine n_ge_f (pc := 127) (tgt := 165) C (dq D_Model_markText 70 rfl) (by decide) (by omega) (by omega) ?_
      refine x_aload_n (pc := 130) C (dq D_Model_markText 71 rfl) rfl ?_
      refine x_get (pc := 131) (ci := 1) (j := 16) C (dq D_Model_markText 72 rfl) rfl rfl (by first | exact mo hP | exact ma hP rfl rfl) rfl k_fl_Model_40 ?_
      refine x_iload_n (pc := 134) C (dq D_Model_markText 73 rfl) rfl ?_
      refine x_bipush (pc := 135) C (dq D_Model_markText 74 rfl) cb_16 ?_
      refine n_isub (pc := 137) C (dq D_Model_markText 75 rfl) (by omega) ?_
      refine x_iload_n (pc := 138) C (dq D_Model_markText 76 rfl) rfl ?_
      refine n_iadd (pc := 139) C (dq D_Model_markText 77 rfl) ?_
      refine x_aload_n (pc := 140) C (dq D_Model_markText 78 rfl) rfl ?_
      refine x_get (pc := 141) (ci := 1) (j := 16) C (dq D_Model_markText 79 rfl) rfl rfl (by first | exact mo hP | exact ma hP rfl rfl) rfl k_fl_Model_40 ?_
      refine x_iload_n (pc := 144) C (dq D_Model_markText 80 rfl) rfl ?_
      refine x_bipush (pc := 145) C (dq D_Model_markText 81 rfl) cb_16 ?_
      refine n_isub (pc := 147) C (dq D_Model_markText 82 rfl) (by omega) ?_
      refine x_iload_n (pc := 148) C (dq D_Model_markText 83 rfl) rfl ?_
      refine n_iadd (pc := 149) C (dq D_Model_markText 84 rfl) ?_
      refine x_iald (pc := 150) C (dq D_Model_markText 85 rfl) (by first | exact mo hP | exact ma hP rfl rfl) (by (try simp only [List.length_set]); omega) ?_
      refine x_aload_n (pc := 151) C (dq D_Model_markText 86 rfl) rfl ?_
      refine x_get (pc := 152) (ci := 1) (j := 11) C (dq D_Model_markText 87 rfl) rfl rfl (by first | exact mo hP | exact ma hP rfl rfl) rfl k_fl_Model_31 ?_
      refine x_iload_n (pc := 155) C (dq D_Model_markText 88 rfl) rfl ?_
      refine x_iald (pc := 156) C (dq D_Model_markText 89 rfl) (by first | exact mo hP | exact ma hP rfl rfl) (by (try simp only [List.length_set]); omega) ?_
      refine n_ixor (pc := 157) C (dq D_Model_markText 90 rfl) ?_
      refine x_iast (pc := 158) C (dq D_Model_markText 91 rfl) (by first | exact mo hP | exact ma hP rfl rfl) (by (try simp only [List.length_set]); omega) ?_
      try rw [List.set_set]
      refine x_iinc (pc := 159) C (dq D_Model_markText 92 rfl) rfl (ii_1 _) rfl rfl ?_
      simp only [List.set_cons_zero, List.set_cons_succ]
      rw [mh_s hP rfl rfl]
      simp only [Nat.reduceSub, List.set_cons_zero, List.set_cons_succ]
      refine x_goto (pc := 162) (tgt := 124) C (dq D_Model_markText 93 rfl) (by decide) ?_
      exact ih (k + 1) V (mxt (mtw T W nl) (mend nl) k Y) A x l4 (by omega) hV hV8 (by rw [mxt_len]; exact hY) hA he
  -- the block cleared, turned, doubled
  have clear1 : ∀ (d k : Nat) (B V A : List Nat) (l4 : Option Value), k + d = 16 → B.length = 16 → V.length = 16 → by8 V → A.length = 16 → it (fls 0) k d B = z16 → X g f M_Model_markText (0, 0) (fun o h' => o = .returned none ∧ ∃ B' M' T' : List Nat, bm16 (B', M') ∧ T'.length = 112 ∧ by8 T' ∧ h' = mh g P cd ni no nt nr nl [W, T, U, IN, OUT, IS, IB, B', M', ROW, T', mmk T W nl TX, SM, KP] S) (0, 0) 86 [some (.ref (zA (gz g) 44)), some (.int (nI (if wle nl then 1 else 0))), some (.int (nI (mend nl))), some (.int (nI k)), l4] [] (mh g P cd ni no nt nr nl [W, T, U, IN, OUT, IS, IB, B, V, ROW, (it (mpd nl) nl (mend nl - nl) TX), A, SM, KP] S) := by
    intro d
    induction d with
    | zero =>
      intro k B V A l4 hkd hB hV hV8 hA he
      obtain rfl : B = z16 := he
      have ez := enc_ok hT.2 W 0 (B := z16) rfl z16_8
      have hpl : (it (mpd nl) nl (mend nl - nl) TX).length = 112 := by rw [it_len (mpd_len nl)]; exact hTX.1
      refine x_iload_n (pc := 86) C (dq D_Model_markText 47 rfl) rfl ?_
      refine x_bipush (pc := 87) C (dq D_Model_markText 48 rfl) cb_16 ?_
      refine n_ge_t (pc := 89) (tgt := 105) C (dq D_Model_markText 49 rfl) (by decide) (by omega) (by omega) ?_
      refine x_aload_n (pc := 105) C (dq D_Model_markText 57 rfl) rfl ?_
      refine x_iconst (pc := 106) C (dq D_Model_markText 58 rfl) ci_0 ?_
      refine x_cV (pc := 107) (ci := 1) (M := M_Model_encipher) C (dq D_Model_markText 59 rfl) k_ml_Model_84 m_Model_encipher rfl rfl (mo hP) (c_enc hP hW hT hU ⟨rfl, z16_8, hV, hV8⟩ (by omega)) rfl rfl rfl rfl (by decide) (fun o h2 hp => ?_)
      obtain ⟨rfl, V2, hV2, rfl⟩ := hp
      refine ⟨none, rfl, ?_⟩
      show X g f M_Model_markText (0, 0) (fun o h' => o = .returned none ∧ ∃ B' M' T' : List Nat, bm16 (B', M') ∧ T'.length = 112 ∧ by8 T' ∧ h' = mh g P cd ni no nt nr nl [W, T, U, IN, OUT, IS, IB, B', M', ROW, T', mmk T W nl TX, SM, KP] S) (0, 0) 110 [some (.ref (zA (gz g) 44)), some (.int (nI (if wle nl then 1 else 0))), some (.int (nI (mend nl))), some (.int (nI k)), l4] [] (mh g P cd ni no nt nr nl [W, T, U, IN, OUT, IS, IB, (enc T W 0 z16), V2, ROW, (it (mpd nl) nl (mend nl - nl) TX), A, SM, KP] S)
      refine x_aload_n (pc := 110) C (dq D_Model_markText 60 rfl) rfl ?_
      refine x_cV0 (pc := 111) (ci := 1) (M := M_Model_doubleBlock) C (dq D_Model_markText 61 rfl) k_ml_Model_88 m_Model_doubleBlock rfl rfl (mo hP) (cm_doubleBlock (mo hP) (ma hP rfl rfl) ez.1 ez.2) rfl rfl rfl rfl (by decide) ?_
      rw [mh_s hP rfl rfl]
      simp only [Nat.reduceSub, List.set_cons_zero, List.set_cons_succ]
      by_cases hw : wle nl = true
      · have ek : mtw T W nl = mdb (enc T W 0 z16) := by unfold mtw; rw [if_pos hw]
        rw [if_pos hw, ← ek]
        refine x_iload_n (pc := 114) C (dq D_Model_markText 62 rfl) rfl ?_
        refine n_ifne_t (pc := 115) (tgt := 122) C (dq D_Model_markText 63 rfl) (by decide) (by omega) (by omega) ?_
        refine x_iconst (pc := 122) C (dq D_Model_markText 66 rfl) ci_0 ?_
        refine x_istore_n (i := 3) (pc := 123) C (dq D_Model_markText 67 rfl) rfl rfl rfl ?_
        simp only [List.set_cons_zero, List.set_cons_succ]
        exact twist 16 0 V2 _ A 1 l4 rfl hV2.2.2.1 hV2.2.2.2 hpl hA rfl
      · have ek : mtw T W nl = mdb (mdb (enc T W 0 z16)) := by unfold mtw; rw [if_neg hw]
        rw [if_neg hw]
        refine x_iload_n (pc := 114) C (dq D_Model_markText 62 rfl) rfl ?_
        refine n_ifne_f (pc := 115) (tgt := 122) C (dq D_Model_markText 63 rfl) (by decide) (by omega) (by omega) ?_
        refine x_aload_n (pc := 118) C (dq D_Model_markText 64 rfl) rfl ?_
        refine x_cV0 (pc := 119) (ci := 1) (M := M_Model_doubleBlock) C (dq D_Model_markText 65 rfl) k_ml_Model_88 m_Model_doubleBlock rfl rfl (mo hP) (cm_doubleBlock (mo hP) (ma hP rfl rfl) (by rw [mdb_len]; exact ez.1) (mdb8 ez.2)) rfl rfl rfl rfl (by decide) ?_
        rw [mh_s hP rfl rfl]
        simp only [Nat.reduceSub, List.set_cons_zero, List.set_cons_succ]
        rw [← ek]
        refine x_iconst (pc := 122) C (dq D_Model_markText 66 rfl) ci_0 ?_
        refine x_istore_n (i := 3) (pc := 123) C (dq D_Model_markText 67 rfl) rfl rfl rfl ?_
        simp only [List.set_cons_zero, List.set_cons_succ]
        exact twist 16 0 V2 _ A 0 l4 rfl hV2.2.2.1 hV2.2.2.2 hpl hA rfl
    | succ d ih =>
      intro k B V A l4 hkd hB hV hV8 hA he
      refine x_iload_n (pc := 86) C (dq D_Model_markText 47 rfl) rfl ?_
      refine x_bipush (pc := 87) C (dq D_Model_markText 48 rfl) cb_16 ?_
      refine n_ge_f (pc := 89) (tgt := 105) C (dq D_Model_markText 49 rfl) (by decide) (by omega) (by omega) ?_
      refine x_aload_n (pc := 92) C (dq D_Model_markText 50 rfl) rfl ?_
      refine x_get (pc := 93) (ci := 1) (j := 11) C (dq D_Model_markText 51 rfl) rfl rfl (by first | exact mo hP | exact ma hP rfl rfl) rfl k_fl_Model_31 ?_
      refine x_iload_n (pc := 96) C (dq D_Model_markText 52 rfl) rfl ?_
      refine x_iconst (pc := 97) C (dq D_Model_markText 53 rfl) ci_0 ?_
      refine x_iast (pc := 98) C (dq D_Model_markText 54 rfl) (by first | exact mo hP | exact ma hP rfl rfl) (by (try simp only [List.length_set]); omega) ?_
      try rw [List.set_set]
      refine x_iinc (pc := 99) C (dq D_Model_markText 55 rfl) rfl (ii_1 _) rfl rfl ?_
      simp only [List.set_cons_zero, List.set_cons_succ]
      rw [mh_s hP rfl rfl]
      simp only [Nat.reduceSub, List.set_cons_zero, List.set_cons_succ]
      refine x_goto (pc := 102) (tgt := 86) C (dq D_Model_markText 56 rfl) (by decide) ?_
      exact ih (k + 1) (fls 0 k B) V A l4 (by omega) (by rw [fls_len]; exact hB) hV hV8 hA he
  -- the padding
  have pad : ∀ (d k : Nat) (Y : List Nat) (l4 : Option Value), k + d = mend nl → Y.length = 112 → it (mpd nl) k d Y = it (mpd nl) nl (mend nl - nl) TX → X g f M_Model_markText (0, 0) (fun o h' => o = .returned none ∧ ∃ B' M' T' : List Nat, bm16 (B', M') ∧ T'.length = 112 ∧ by8 T' ∧ h' = mh g P cd ni no nt nr nl [W, T, U, IN, OUT, IS, IB, B', M', ROW, T', mmk T W nl TX, SM, KP] S) (0, 0) 52 [some (.ref (zA (gz g) 44)), some (.int (nI (if wle nl then 1 else 0))), some (.int (nI (mend nl))), some (.int (nI k)), l4] [] (mh g P cd ni no nt nr nl [W, T, U, IN, OUT, IS, IB, BL, MV, ROW, Y, MA, SM, KP] S) := by
    intro d
    induction d with
    | zero =>
      intro k Y l4 hkd hY he
      obtain rfl : Y = it (mpd nl) nl (mend nl - nl) TX := he
      refine x_iload_n (pc := 52) C (dq D_Model_markText 29 rfl) rfl ?_
      refine x_iload_n (pc := 53) C (dq D_Model_markText 30 rfl) rfl ?_
      refine n_ge_t (pc := 54) (tgt := 84) C (dq D_Model_markText 31 rfl) (by decide) (by omega) (by omega) ?_
      refine x_iconst (pc := 84) C (dq D_Model_markText 45 rfl) ci_0 ?_
      refine x_istore_n (i := 3) (pc := 85) C (dq D_Model_markText 46 rfl) rfl rfl rfl ?_
      simp only [List.set_cons_zero, List.set_cons_succ]
      exact clear1 16 0 BL MV MA l4 rfl hb.1 hb.2.2.1 hb.2.2.2 hMA (fls16 hb.1)
    | succ d ih =>
      intro k Y l4 hkd hY he
      have fin : ∀ v : Nat, v = (if k = nl then 128 else 0) → X g f M_Model_markText (0, 0) (fun o h' => o = .returned none ∧ ∃ B' M' T' : List Nat, bm16 (B', M') ∧ T'.length = 112 ∧ by8 T' ∧ h' = mh g P cd ni no nt nr nl [W, T, U, IN, OUT, IS, IB, B', M', ROW, T', mmk T W nl TX, SM, KP] S) (0, 0) 77 [some (.ref (zA (gz g) 44)), some (.int (nI (if wle nl then 1 else 0))), some (.int (nI (mend nl))), some (.int (nI k)), l4] [.int (nI v), .int (nI k), .ref (zA (gz g) 55)] (mh g P cd ni no nt nr nl [W, T, U, IN, OUT, IS, IB, BL, MV, ROW, Y, MA, SM, KP] S) := by
        intro v hv
        refine x_iast (pc := 77) C (dq D_Model_markText 42 rfl) (ma hP rfl rfl) (by (try simp only [List.length_set]); omega) ?_
        try rw [List.set_set]
        rw [mh_s hP rfl rfl]
        simp only [Nat.reduceSub, List.set_cons_zero, List.set_cons_succ]
        refine x_iinc (pc := 78) C (dq D_Model_markText 43 rfl) rfl (ii_1 _) rfl rfl ?_
        simp only [List.set_cons_zero, List.set_cons_succ]
        refine x_goto (pc := 81) (tgt := 52) C (dq D_Model_markText 44 rfl) (by decide) ?_
        refine ih (k + 1) (Y.set k v) l4 (by omega) (by rw [List.length_set]; exact hY) ?_
        rw [hv]
        exact he
      refine x_iload_n (pc := 52) C (dq D_Model_markText 29 rfl) rfl ?_
      refine x_iload_n (pc := 53) C (dq D_Model_markText 30 rfl) rfl ?_
      refine n_ge_f (pc := 54) (tgt := 84) C (dq D_Model_markText 31 rfl) (by decide) (by omega) (by omega) ?_
      refine x_aload_n (pc := 57) C (dq D_Model_markText 32 rfl) rfl ?_
      refine x_get (pc := 58) (ci := 1) (j := 16) C (dq D_Model_markText 33 rfl) rfl rfl (mo hP) rfl k_fl_Model_40 ?_
      refine x_iload_n (pc := 61) C (dq D_Model_markText 34 rfl) rfl ?_
      refine x_iload_n (pc := 62) C (dq D_Model_markText 35 rfl) rfl ?_
      refine x_aload_n (pc := 63) C (dq D_Model_markText 36 rfl) rfl ?_
      refine x_get (pc := 64) (ci := 1) (j := 15) C (dq D_Model_markText 37 rfl) rfl rfl (mo hP) rfl k_fl_Model_81 ?_
      refine n_ne (pc := 67) (tgt := 76) C (dq D_Model_markText 38 rfl) (by decide) (by omega) (fun hq => ?_) (fun hq => ?_)
      · rw [if_neg hq] at fin
        refine x_iconst (pc := 76) C (dq D_Model_markText 41 rfl) ci_0 ?_
        exact fin 0 rfl
      · rw [if_pos hq] at fin
        refine x_sipush (pc := 70) C (dq D_Model_markText 39 rfl) cs_128 ?_
        refine x_goto (pc := 73) (tgt := 77) C (dq D_Model_markText 40 rfl) (by decide) ?_
        exact fin 128 rfl
  -- the beginning
  have start : ∀ x : Nat, x = (if wle nl then 1 else 0) → X g f M_Model_markText (0, 0) (fun o h' => o = .returned none ∧ ∃ B' M' T' : List Nat, bm16 (B', M') ∧ T'.length = 112 ∧ by8 T' ∧ h' = mh g P cd ni no nt nr nl [W, T, U, IN, OUT, IS, IB, B', M', ROW, T', mmk T W nl TX, SM, KP] S) (0, 0) 22 [some (.ref (zA (gz g) 44)), none, none, none, none] [.int (nI x)] (mh g P cd ni no nt nr nl [W, T, U, IN, OUT, IS, IB, BL, MV, ROW, TX, MA, SM, KP] S) := by
    intro x hx
    by_cases hw : wle nl = true
    · rw [if_pos hw] at hx pad
      subst hx
      have em : mend nl = nl := by unfold mend; rw [if_pos hw]
      refine x_istore_n (i := 1) (pc := 22) C (dq D_Model_markText 11 rfl) rfl rfl rfl ?_
      simp only [List.set_cons_zero, List.set_cons_succ]
      refine x_iload_n (pc := 23) C (dq D_Model_markText 12 rfl) rfl ?_
      refine n_ifeq_f (pc := 24) (tgt := 34) C (dq D_Model_markText 13 rfl) (by decide) (by omega) (by omega) ?_
      refine x_aload_n (pc := 27) C (dq D_Model_markText 14 rfl) rfl ?_
      refine x_get (pc := 28) (ci := 1) (j := 15) C (dq D_Model_markText 15 rfl) rfl rfl (mo hP) rfl k_fl_Model_81 ?_
      refine x_goto (pc := 31) (tgt := 46) C (dq D_Model_markText 16 rfl) (by decide) ?_
      rw [em] at pad
      refine x_istore_n (i := 2) (pc := 46) C (dq D_Model_markText 25 rfl) rfl rfl rfl ?_
      simp only [List.set_cons_zero, List.set_cons_succ]
      refine x_aload_n (pc := 47) C (dq D_Model_markText 26 rfl) rfl ?_
      refine x_get (pc := 48) (ci := 1) (j := 15) C (dq D_Model_markText 27 rfl) rfl rfl (mo hP) rfl k_fl_Model_81 ?_
      refine x_istore_n (i := 3) (pc := 51) C (dq D_Model_markText 28 rfl) rfl rfl rfl ?_
      simp only [List.set_cons_zero, List.set_cons_succ]
      exact pad 0 nl TX none (by omega) hTX.1 (by rw [Nat.sub_self])
    · rw [if_neg hw] at hx pad
      subst hx
      have em : mend nl = (nl / 16 + 1) * 16 := by unfold mend; rw [if_neg hw]
      refine x_istore_n (i := 1) (pc := 22) C (dq D_Model_markText 11 rfl) rfl rfl rfl ?_
      simp only [List.set_cons_zero, List.set_cons_succ]
      refine x_iload_n (pc := 23) C (dq D_Model_markText 12 rfl) rfl ?_
      refine n_ifeq_t (pc := 24) (tgt := 34) C (dq D_Model_markText 13 rfl) (by decide) (by omega) (by omega) ?_
      refine x_aload_n (pc := 34) C (dq D_Model_markText 17 rfl) rfl ?_
      refine x_get (pc := 35) (ci := 1) (j := 15) C (dq D_Model_markText 18 rfl) rfl rfl (mo hP) rfl k_fl_Model_81 ?_
      refine x_bipush (pc := 38) C (dq D_Model_markText 19 rfl) cb_16 ?_
      refine n_idiv (pc := 40) C (dq D_Model_markText 20 rfl) (by omega) (by omega) (by omega) ?_
      refine x_iconst (pc := 41) C (dq D_Model_markText 21 rfl) ci_1 ?_
      refine n_iadd (pc := 42) C (dq D_Model_markText 22 rfl) ?_
      refine x_bipush (pc := 43) C (dq D_Model_markText 23 rfl) cb_16 ?_
      refine n_imul (pc := 45) C (dq D_Model_markText 24 rfl) ?_
      rw [em] at pad e1
      refine x_istore_n (i := 2) (pc := 46) C (dq D_Model_markText 25 rfl) rfl rfl rfl ?_
      simp only [List.set_cons_zero, List.set_cons_succ]
      refine x_aload_n (pc := 47) C (dq D_Model_markText 26 rfl) rfl ?_
      refine x_get (pc := 48) (ci := 1) (j := 15) C (dq D_Model_markText 27 rfl) rfl rfl (mo hP) rfl k_fl_Model_81 ?_
      refine x_istore_n (i := 3) (pc := 51) C (dq D_Model_markText 28 rfl) rfl rfl rfl ?_
      simp only [List.set_cons_zero, List.set_cons_succ]
      exact pad ((nl / 16 + 1) * 16 - nl) nl TX none (by omega) hTX.1 rfl
  refine x_aload_n (pc := 0) C (dq D_Model_markText 0 rfl) rfl ?_
  refine x_get (pc := 1) (ci := 1) (j := 15) C (dq D_Model_markText 1 rfl) rfl rfl (mo hP) rfl k_fl_Model_81 ?_
  refine n_ifle (pc := 4) (tgt := 21) C (dq D_Model_markText 2 rfl) (by decide) (by omega) (fun hq => ?_) (fun hq => ?_)
  · refine x_iconst (pc := 21) C (dq D_Model_markText 10 rfl) ci_0 ?_
    exact start 0 (by rw [if_neg]; unfold wle; simp; omega)
  · refine x_aload_n (pc := 7) C (dq D_Model_markText 3 rfl) rfl ?_
    refine x_get (pc := 8) (ci := 1) (j := 15) C (dq D_Model_markText 4 rfl) rfl rfl (mo hP) rfl k_fl_Model_81 ?_
    refine x_bipush (pc := 11) C (dq D_Model_markText 5 rfl) cb_16 ?_
    refine n_irem (pc := 13) C (dq D_Model_markText 6 rfl) (by omega) (by omega) (by omega) ?_
    refine n_ifne (pc := 14) (tgt := 21) C (dq D_Model_markText 7 rfl) (by decide) (by omega) (fun hq => ?_) (fun hq => ?_)
    · refine x_iconst (pc := 21) C (dq D_Model_markText 10 rfl) ci_0 ?_
      exact start 0 (by rw [if_neg]; unfold wle; simp; omega)
    · refine x_iconst (pc := 17) C (dq D_Model_markText 8 rfl) ci_1 ?_
      refine x_goto (pc := 18) (tgt := 22) C (dq D_Model_markText 9 rfl) (by decide) ?_
      exact start 1 (by rw [if_pos]; unfold wle; simp; omega)
