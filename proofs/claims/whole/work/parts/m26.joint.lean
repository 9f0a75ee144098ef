/-- an item of the reference, a block over another, the joint mark -/
def itm (IB IS : List Nat) (i : Nat) : List Nat := (IB.drop (40 * i)).take (IS.getD i 0)
def xr (M : List Nat) (k : Nat) (S : List Nat) : List Nat := S.set k (S.getD k 0 ^^^ M.getD k 0)
theorem xr_len (M : List Nat) (k : Nat) (S : List Nat) : (xr M k S).length = S.length := List.length_set
theorem xr8 {M : List Nat} (hM : by8 M) (k d : Nat) {S : List Nat} (h : by8 S) : by8 (it (xr M) k d S) := it_inv by8 d k S (fun j T _ _ hT => hT.set (xor8 (hT.at _) (hM.at _))) h
def jst (T W IB IS : List Nat) (i : Nat) (SM : List Nat) : List Nat := it (xr (mk T W (itm IB IS i))) 0 16 (mdb SM)
/-- the row's bytes, filled up to sixteen -/
def fl16 (L : List Nat) : List Nat := it (mpd L.length) L.length (16 - L.length) (L ++ List.replicate (16 - L.length) 0)
def jlast (L SM : List Nat) : List Nat := if L.length < 16 then it (mxt (mdb SM) 16) 0 16 (fl16 L) else it (mxt SM L.length) 0 16 L
def mjo (T W IB IS : List Nat) (nt : Nat) (L : List Nat) : List Nat := mk T W (jlast L (it (jst T W IB IS) 0 nt (mk T W z16)))
theorem jst_ok {T : List Nat} (hT : by8 T) (W : List Nat) {IB : List Nat} (IS : List Nat) (hI : by8 IB) (i : Nat) {SM : List Nat} (h : SM.length = 16 ∧ by8 SM) : (jst T W IB IS i SM).length = 16 ∧ by8 (jst T W IB IS i SM) := by
  have h1 : by8 (itm IB IS i) := fun v hv => hI v (List.mem_of_mem_drop (List.mem_of_mem_take hv))
  have h2 := mk_ok hT W h1
  have h3 : (mdb SM).length = 16 := by rw [mdb_len]; exact h.1
  unfold jst
  exact ⟨by rw [it_len (xr_len _)]; exact h3, xr8 h2.2 0 16 (mdb8 h.2)⟩
/-- an item's bytes laid into the text -/
def cpi (IB : List Nat) (i k : Nat) (S : List Nat) : List Nat := S.set k (IB.getD (40 * i + k) 0)
theorem cpi_eq (IB : List Nat) (i : Nat) (k : Nat) (S : List Nat) : cpi IB i k S = cp1 (IB.drop (40 * i)) k S := by
  unfold cpi cp1
  rw [List.getD_eq_getElem?_getD, List.getD_eq_getElem?_getD, List.getElem?_drop]
theorem fls_take {S : List Nat} (h : 16 ≤ S.length) : (it (fls 0) 0 16 S).take 16 = z16 := by
  have e : it (fls 0) 0 16 S = it (cp1 z16) 0 16 S := it_congr 16 0 S (fun j s _ hj => by
    unfold fls cp1
    congr 1
    rw [List.getD_eq_getElem?_getD, z16, List.getElem?_replicate, if_pos (by omega)]
    rfl)
  rw [e]
  exact cp1_take 16 0 S h (by decide) (by simp)
/-- the filling, of a text whose first bytes are the row's -/
theorem fl16_take {A L : List Nat} (hA : 16 ≤ A.length) (hL : A.take L.length = L) (h : L.length < 16) : (it (mpd L.length) L.length (16 - L.length) A).take 16 = fl16 L := by
  have h0 : (L ++ List.replicate (16 - L.length) 0).length = 16 := by rw [List.length_append, List.length_replicate]; omega
  have h1 : agr L.length (A.take 16) (L ++ List.replicate (16 - L.length) 0) := by
    refine ⟨by rw [h0, List.length_take]; omega, fun j hj => ?_⟩
    rw [gd_take (by omega), gd_l hj, ← gd_take hj, hL]
  have h2 := mpd_agr L.length (16 - L.length) L.length (A.take 16) _ h1 (by rw [List.length_take]; omega)
  rw [show L.length + (16 - L.length) = 16 by omega] at h2
  have h3 : (it (mpd L.length) L.length (16 - L.length) A).take 16 = it (mpd L.length) L.length (16 - L.length) (A.take 16) :=
    it_hom (fun A : List Nat => A.take 16) (fun _ => True) _ _ A (fun j s _ hj _ => ⟨trivial, take_set⟩) trivial
  rw [h3]
  refine gd_ext h2.1 (fun j hj => h2.2 j ?_)
  rw [it_len (mpd_len _), List.length_take] at hj
  omega
set_option maxHeartbeats 3000000 in
theorem cm_markJointly {g : Gp} {P S : Hp} {cd ni no nt nr nl : Nat} {W T U IN OUT IS IB BL MV ROW TX MA SM KP : List Nat} (hP : P.length = 44) (hW : W.length = 88 ∧ by32 W) (hT : T.length = 256 ∧ by8 T) (hU : U.length = 256 ∧ by8 U) (hb : bm16 (BL, MV)) (hTX : TX.length = 112 ∧ by8 TX) (hMA : MA.length = 16 ∧ by8 MA) (hSM : SM.length = 16 ∧ by8 SM) (hI : IB.length = 200 ∧ by8 IB) (hIS : IS.length = 5 ∧ ∀ i, IS.getD i 0 ≤ 40) (hnt : nt ≤ 5) (hR : ROW.length = 112 ∧ by8 ROW) (hnr : nr ≤ 88) :
    Con g M_Model_markJointly 3 (0, 0) [.ref (zA (gz g) 44)] (mh g P cd ni no nt nr nl [W, T, U, IN, OUT, IS, IB, BL, MV, ROW, TX, MA, SM, KP] S) (fun o h' => o = .returned none ∧ ∃ (l : Nat) (B' M' T' S' : List Nat), bm16 (B', M') ∧ T'.length = 112 ∧ by8 T' ∧ S'.length = 16 ∧ by8 S' ∧ h' = mh g P cd ni no nt nr l [W, T, U, IN, OUT, IS, IB, B', M', ROW, T', (mjo T W IB IS nt (ROW.take nr)), S', KP] S) := by
  refine Con.of (by decide) rfl rfl (L := [some (.ref (zA (gz g) 44)), none, none]) rfl (fun f C => ?_)
  have hLl : (ROW.take nr).length = nr := by rw [List.length_take]; omega
  have hL8 := hR.2.take nr
  -- the sum over the text's end, and the last mark
  have last : ∀ (d k n : Nat) (B V Y A Q : List Nat) (l2 : Option Value), k + d = 16 → 16 ≤ n → n ≤ 88 → bm16 (B, V) → Y.length = 112 → by8 Y → A.length = 16 → Q.length = 16 → by8 Q → mk T W ((it (mxt Q n) k d Y).take n) = mjo T W IB IS nt (ROW.take nr) → X g f M_Model_markJointly (0, 0) (fun o h' => o = .returned none ∧ ∃ (l : Nat) (B' M' T' S' : List Nat), bm16 (B', M') ∧ T'.length = 112 ∧ by8 T' ∧ S'.length = 16 ∧ by8 S' ∧ h' = mh g P cd ni no nt nr l [W, T, U, IN, OUT, IS, IB, B', M', ROW, T', (mjo T W IB IS nt (ROW.take nr)), S', KP] S) (0, 0) 252 [some (.ref (zA (gz g) 44)), some (.int (nI k)), l2] [] (mh g P cd ni no nt nr n [W, T, U, IN, OUT, IS, IB, B, V, ROW, Y, A, Q, KP] S) := by
    intro d
    induction d with
    | zero =>
      intro k n B V Y A Q l2 hkd hn1 hn2 hB hY hY8 hA hQ hQ8 he
      refine x_iload_n (pc := 252) C (dq D_Model_markJointly 140 rfl) rfl ?_
      refine x_bipush (pc := 253) C (dq D_Model_markJointly 141 rfl) cb_16 ?_
      refine n_ge_t (pc := 255) (tgt := 299) C (dq D_Model_markJointly 142 rfl) (by decide) (by omega) (by omega) ?_
      refine x_aload_n (pc := 299) C (dq D_Model_markJointly 168 rfl) rfl ?_
      refine x_cV (pc := 300) (ci := 1) (M := M_Model_markText) C (dq D_Model_markJointly 169 rfl) k_ml_Model_91 m_Model_markText rfl rfl (mo hP) (cm_markText hP hW hT hU hB ⟨hY, hY8⟩ hA hn2) rfl rfl rfl rfl (by decide) (fun o h2 hp => ?_)
      obtain ⟨rfl, B', M', T', q1, q2, q3, rfl⟩ := hp
      refine ⟨none, rfl, ?_⟩
      have e0 : mmk T W n Y = mjo T W IB IS nt (ROW.take nr) := by rw [mmk_mk hY hn2]; exact he
      rw [e0]
      show X g f M_Model_markJointly (0, 0) (fun o h' => o = .returned none ∧ ∃ (l : Nat) (B' M' T' S' : List Nat), bm16 (B', M') ∧ T'.length = 112 ∧ by8 T' ∧ S'.length = 16 ∧ by8 S' ∧ h' = mh g P cd ni no nt nr l [W, T, U, IN, OUT, IS, IB, B', M', ROW, T', (mjo T W IB IS nt (ROW.take nr)), S', KP] S) (0, 0) 303 [some (.ref (zA (gz g) 44)), some (.int (nI k)), l2] [] (mh g P cd ni no nt nr n [W, T, U, IN, OUT, IS, IB, B', M', ROW, T', (mjo T W IB IS nt (ROW.take nr)), Q, KP] S)
      exact x_vret (pc := 303) C (dq D_Model_markJointly 170 rfl) rfl (by decide) ⟨rfl, n, B', M', T', Q, q1, q2, q3, hQ, hQ8, rfl⟩
    | succ d ih =>
      intro k n B V Y A Q l2 hkd hn1 hn2 hB hY hY8 hA hQ hQ8 he
      refine x_iload_n (pc := 252) C (dq D_Model_markJointly 140 rfl) rfl ?_
      refine x_bipush (pc := 253) C (dq D_Model_markJointly 141 rfl) cb_16 ?_
      refine n_ge_f (pc := 255) (tgt := 299) C (dq D_Model_markJointly 142 rfl) (by decide) (by omega) (by omega) ?_
      refine x_aload_n (pc := 258) C (dq D_Model_markJointly 143 rfl) rfl ?_
      refine x_get (pc := 259) (ci := 1) (j := 16) C (dq D_Model_markJointly 144 rfl) rfl rfl (by first | exact mo hP | exact ma hP rfl rfl) rfl k_fl_Model_40 ?_
      refine x_aload_n (pc := 262) C (dq D_Model_markJointly 145 rfl) rfl ?_
      refine x_get (pc := 263) (ci := 1) (j := 15) C (dq D_Model_markJointly 146 rfl) rfl rfl (by first | exact mo hP | exact ma hP rfl rfl) rfl k_fl_Model_81 ?_
      refine x_bipush (pc := 266) C (dq D_Model_markJointly 147 rfl) cb_16 ?_
      refine n_isub (pc := 268) C (dq D_Model_markJointly 148 rfl) (by omega) ?_
      refine x_iload_n (pc := 269) C (dq D_Model_markJointly 149 rfl) rfl ?_
      refine n_iadd (pc := 270) C (dq D_Model_markJointly 150 rfl) ?_
      refine x_aload_n (pc := 271) C (dq D_Model_markJointly 151 rfl) rfl ?_
      refine x_get (pc := 272) (ci := 1) (j := 16) C (dq D_Model_markJointly 152 rfl) rfl rfl (by first | exact mo hP | exact ma hP rfl rfl) rfl k_fl_Model_40 ?_
      refine x_aload_n (pc := 275) C (dq D_Model_markJointly 153 rfl) rfl ?_
      refine x_get (pc := 276) (ci := 1) (j := 15) C (dq D_Model_markJointly 154 rfl) rfl rfl (by first | exact mo hP | exact ma hP rfl rfl) rfl k_fl_Model_81 ?_
      refine x_bipush (pc := 279) C (dq D_Model_markJointly 155 rfl) cb_16 ?_
      refine n_isub (pc := 281) C (dq D_Model_markJointly 156 rfl) (by omega) ?_
      refine x_iload_n (pc := 282) C (dq D_Model_markJointly 157 rfl) rfl ?_
      refine n_iadd (pc := 283) C (dq D_Model_markJointly 158 rfl) ?_
      refine x_iald (pc := 284) C (dq D_Model_markJointly 159 rfl) (by first | exact mo hP | exact ma hP rfl rfl) (by (try simp only [List.length_set]); omega) ?_
      refine x_aload_n (pc := 285) C (dq D_Model_markJointly 160 rfl) rfl ?_
      refine x_get (pc := 286) (ci := 1) (j := 18) C (dq D_Model_markJointly 161 rfl) rfl rfl (by first | exact mo hP | exact ma hP rfl rfl) rfl k_fl_Model_46 ?_
      refine x_iload_n (pc := 289) C (dq D_Model_markJointly 162 rfl) rfl ?_
      refine x_iald (pc := 290) C (dq D_Model_markJointly 163 rfl) (by first | exact mo hP | exact ma hP rfl rfl) (by (try simp only [List.length_set]); omega) ?_
      refine n_ixor (pc := 291) C (dq D_Model_markJointly 164 rfl) ?_
      refine x_iast (pc := 292) C (dq D_Model_markJointly 165 rfl) (by first | exact mo hP | exact ma hP rfl rfl) (by (try simp only [List.length_set]); omega) ?_
      try rw [List.set_set]
      refine x_iinc (pc := 293) C (dq D_Model_markJointly 166 rfl) rfl (ii_1 _) rfl rfl ?_
      simp only [List.set_cons_zero, List.set_cons_succ]
      rw [mh_s hP rfl rfl]
      simp only [Nat.reduceSub, List.set_cons_zero, List.set_cons_succ]
      refine x_goto (pc := 296) (tgt := 252) C (dq D_Model_markJointly 167 rfl) (by decide) ?_
      exact ih (k + 1) n B V (mxt Q n k Y) A Q l2 (by omega) hn1 hn2 hB (by rw [mxt_len]; exact hY) (hY8.set (xor8 (hY8.at _) (hQ8.at _))) hA hQ hQ8 he
  -- a short row is filled
  have fill : ∀ (d k : Nat) (B V Y A Q : List Nat) (l2 : Option Value), k + d = 16 → nr < 16 → bm16 (B, V) → Y.length = 112 → by8 Y → A.length = 16 → Q.length = 16 → by8 Q → (it (mpd nr) k d Y).take 16 = fl16 (ROW.take nr) → it (jst T W IB IS) 0 nt (mk T W z16) = Q → X g f M_Model_markJointly (0, 0) (fun o h' => o = .returned none ∧ ∃ (l : Nat) (B' M' T' S' : List Nat), bm16 (B', M') ∧ T'.length = 112 ∧ by8 T' ∧ S'.length = 16 ∧ by8 S' ∧ h' = mh g P cd ni no nt nr l [W, T, U, IN, OUT, IS, IB, B', M', ROW, T', (mjo T W IB IS nt (ROW.take nr)), S', KP] S) (0, 0) 207 [some (.ref (zA (gz g) 44)), some (.int (nI k)), l2] [] (mh g P cd ni no nt nr nr [W, T, U, IN, OUT, IS, IB, B, V, ROW, Y, A, Q, KP] S) := by
    intro d
    induction d with
    | zero =>
      intro k B V Y A Q l2 hkd hnr16 hB hY hY8 hA hQ hQ8 he hQe
      have e0 : Y.take 16 = fl16 (ROW.take nr) := he
      refine x_iload_n (pc := 207) C (dq D_Model_markJointly 117 rfl) rfl ?_
      refine x_bipush (pc := 208) C (dq D_Model_markJointly 118 rfl) cb_16 ?_
      refine n_ge_t (pc := 210) (tgt := 240) C (dq D_Model_markJointly 119 rfl) (by decide) (by omega) (by omega) ?_
      refine x_aload_n (pc := 240) C (dq D_Model_markJointly 133 rfl) rfl ?_
      refine x_bipush (pc := 241) C (dq D_Model_markJointly 134 rfl) cb_16 ?_
      refine x_put (pc := 243) (ci := 1) (j := 15) (ty := .int) C (dq D_Model_markJointly 135 rfl) rfl rfl (mo hP) rfl k_fl_Model_81 (Or.inl rfl) (by decide +kernel) rfl rfl ?_
      simp only [List.set_cons_zero, List.set_cons_succ]
      rw [mh_p hP]
      refine x_aload_n (pc := 246) C (dq D_Model_markJointly 136 rfl) rfl ?_
      refine x_cV0 (pc := 247) (ci := 1) (M := M_Model_doubleSum) C (dq D_Model_markJointly 137 rfl) k_ml_Model_97 m_Model_doubleSum rfl rfl (mo hP) (cm_doubleSum (mo hP) (ma hP rfl rfl) hQ hQ8) rfl rfl rfl rfl (by decide) ?_
      rw [mh_s hP rfl rfl]
      simp only [Nat.reduceSub, List.set_cons_zero, List.set_cons_succ]
      refine x_iconst (pc := 250) C (dq D_Model_markJointly 138 rfl) ci_0 ?_
      refine x_istore_n (i := 1) (pc := 251) C (dq D_Model_markJointly 139 rfl) rfl rfl rfl ?_
      simp only [List.set_cons_zero, List.set_cons_succ]
      refine last 16 0 16 B V Y A (mdb Q) l2 rfl (by omega) (by omega) hB hY hY8 hA (by rw [mdb_len]; exact hQ) (mdb8 hQ8) ?_
      unfold mjo jlast
      rw [if_pos (by omega), hQe, mxt_take _ _ (by omega), e0]
    | succ d ih =>
      intro k B V Y A Q l2 hkd hnr16 hB hY hY8 hA hQ hQ8 he hQe
      have fin : ∀ v : Nat, v < 256 → v = (if k = nr then 128 else 0) → X g f M_Model_markJointly (0, 0) (fun o h' => o = .returned none ∧ ∃ (l : Nat) (B' M' T' S' : List Nat), bm16 (B', M') ∧ T'.length = 112 ∧ by8 T' ∧ S'.length = 16 ∧ by8 S' ∧ h' = mh g P cd ni no nt nr l [W, T, U, IN, OUT, IS, IB, B', M', ROW, T', (mjo T W IB IS nt (ROW.take nr)), S', KP] S) (0, 0) 233 [some (.ref (zA (gz g) 44)), some (.int (nI k)), l2] [.int (nI v), .int (nI k), .ref (zA (gz g) 55)] (mh g P cd ni no nt nr nr [W, T, U, IN, OUT, IS, IB, B, V, ROW, Y, A, Q, KP] S) := by
        intro v hv8 hv
        refine x_iast (pc := 233) C (dq D_Model_markJointly 130 rfl) (ma hP rfl rfl) (by (try simp only [List.length_set]); omega) ?_
        try rw [List.set_set]
        rw [mh_s hP rfl rfl]
        simp only [Nat.reduceSub, List.set_cons_zero, List.set_cons_succ]
        refine x_iinc (pc := 234) C (dq D_Model_markJointly 131 rfl) rfl (ii_1 _) rfl rfl ?_
        simp only [List.set_cons_zero, List.set_cons_succ]
        refine x_goto (pc := 237) (tgt := 207) C (dq D_Model_markJointly 132 rfl) (by decide) ?_
        refine ih (k + 1) B V (Y.set k v) A Q l2 (by omega) hnr16 hB (by rw [List.length_set]; exact hY) (hY8.set hv8) hA hQ hQ8 ?_ hQe
        rw [hv]
        exact he
      refine x_iload_n (pc := 207) C (dq D_Model_markJointly 117 rfl) rfl ?_
      refine x_bipush (pc := 208) C (dq D_Model_markJointly 118 rfl) cb_16 ?_
      refine n_ge_f (pc := 210) (tgt := 240) C (dq D_Model_markJointly 119 rfl) (by decide) (by omega) (by omega) ?_
      refine x_aload_n (pc := 213) C (dq D_Model_markJointly 120 rfl) rfl ?_
      refine x_get (pc := 214) (ci := 1) (j := 16) C (dq D_Model_markJointly 121 rfl) rfl rfl (mo hP) rfl k_fl_Model_40 ?_
      refine x_iload_n (pc := 217) C (dq D_Model_markJointly 122 rfl) rfl ?_
      refine x_iload_n (pc := 218) C (dq D_Model_markJointly 123 rfl) rfl ?_
      refine x_aload_n (pc := 219) C (dq D_Model_markJointly 124 rfl) rfl ?_
      refine x_get (pc := 220) (ci := 1) (j := 13) C (dq D_Model_markJointly 125 rfl) rfl rfl (mo hP) rfl k_fl_Model_100 ?_
      refine n_ne (pc := 223) (tgt := 232) C (dq D_Model_markJointly 126 rfl) (by decide) (by omega) (fun hq => ?_) (fun hq => ?_)
      · rw [if_neg hq] at fin
        refine x_iconst (pc := 232) C (dq D_Model_markJointly 129 rfl) ci_0 ?_
        exact fin 0 (by omega) rfl
      · rw [if_pos hq] at fin
        refine x_sipush (pc := 226) C (dq D_Model_markJointly 127 rfl) cs_128 ?_
        refine x_goto (pc := 229) (tgt := 233) C (dq D_Model_markJointly 128 rfl) (by decide) ?_
        exact fin 128 (by omega) rfl
  -- the row's bytes
  have body : ∀ (d k : Nat) (B V Y A Q : List Nat) (l2 : Option Value), k + d = nr → bm16 (B, V) → Y.length = 112 → by8 Y → A.length = 16 → Q.length = 16 → by8 Q → (it (cp1 ROW) k d Y).take nr = ROW.take nr → it (jst T W IB IS) 0 nt (mk T W z16) = Q → X g f M_Model_markJointly (0, 0) (fun o h' => o = .returned none ∧ ∃ (l : Nat) (B' M' T' S' : List Nat), bm16 (B', M') ∧ T'.length = 112 ∧ by8 T' ∧ S'.length = 16 ∧ by8 S' ∧ h' = mh g P cd ni no nt nr l [W, T, U, IN, OUT, IS, IB, B', M', ROW, T', (mjo T W IB IS nt (ROW.take nr)), S', KP] S) (0, 0) 167 [some (.ref (zA (gz g) 44)), some (.int (nI k)), l2] [] (mh g P cd ni no nt nr nr [W, T, U, IN, OUT, IS, IB, B, V, ROW, Y, A, Q, KP] S) := by
    intro d
    induction d with
    | zero =>
      intro k B V Y A Q l2 hkd hB hY hY8 hA hQ hQ8 he hQe
      have e0 : Y.take nr = ROW.take nr := he
      refine x_iload_n (pc := 167) C (dq D_Model_markJointly 96 rfl) rfl ?_
      refine x_aload_n (pc := 168) C (dq D_Model_markJointly 97 rfl) rfl ?_
      refine x_get (pc := 169) (ci := 1) (j := 13) C (dq D_Model_markJointly 98 rfl) rfl rfl (mo hP) rfl k_fl_Model_100 ?_
      refine n_ge_t (pc := 172) (tgt := 193) C (dq D_Model_markJointly 99 rfl) (by decide) (by omega) (by omega) ?_
      refine x_aload_n (pc := 193) C (dq D_Model_markJointly 110 rfl) rfl ?_
      refine x_get (pc := 194) (ci := 1) (j := 13) C (dq D_Model_markJointly 111 rfl) rfl rfl (mo hP) rfl k_fl_Model_100 ?_
      refine x_bipush (pc := 197) C (dq D_Model_markJointly 112 rfl) cb_16 ?_
      refine n_ge (pc := 199) (tgt := 250) C (dq D_Model_markJointly 113 rfl) (by decide) (by omega) (fun hq => ?_) (fun hq => ?_)
      · refine x_iconst (pc := 250) C (dq D_Model_markJointly 138 rfl) ci_0 ?_
        refine x_istore_n (i := 1) (pc := 251) C (dq D_Model_markJointly 139 rfl) rfl rfl rfl ?_
        simp only [List.set_cons_zero, List.set_cons_succ]
        refine last 16 0 nr B V Y A Q l2 rfl (by omega) hnr hB hY hY8 hA hQ hQ8 ?_
        unfold mjo jlast
        rw [if_neg (by omega), hQe, mxt_take _ _ (by omega), e0, hLl]
      · refine x_aload_n (pc := 202) C (dq D_Model_markJointly 114 rfl) rfl ?_
        refine x_get (pc := 203) (ci := 1) (j := 13) C (dq D_Model_markJointly 115 rfl) rfl rfl (mo hP) rfl k_fl_Model_100 ?_
        refine x_istore_n (i := 1) (pc := 206) C (dq D_Model_markJointly 116 rfl) rfl rfl rfl ?_
        simp only [List.set_cons_zero, List.set_cons_succ]
        refine fill (16 - nr) nr B V Y A Q l2 (by omega) (by omega) hB hY hY8 hA hQ hQ8 ?_ hQe
        have h1 := fl16_take (A := Y) (L := ROW.take nr) (by omega) (by rw [hLl]; exact e0) (by omega)
        rw [hLl] at h1
        exact h1
    | succ d ih =>
      intro k B V Y A Q l2 hkd hB hY hY8 hA hQ hQ8 he hQe
      refine x_iload_n (pc := 167) C (dq D_Model_markJointly 96 rfl) rfl ?_
      refine x_aload_n (pc := 168) C (dq D_Model_markJointly 97 rfl) rfl ?_
      refine x_get (pc := 169) (ci := 1) (j := 13) C (dq D_Model_markJointly 98 rfl) rfl rfl (by first | exact mo hP | exact ma hP rfl rfl) rfl k_fl_Model_100 ?_
      refine n_ge_f (pc := 172) (tgt := 193) C (dq D_Model_markJointly 99 rfl) (by decide) (by omega) (by omega) ?_
      refine x_aload_n (pc := 175) C (dq D_Model_markJointly 100 rfl) rfl ?_
      refine x_get (pc := 176) (ci := 1) (j := 16) C (dq D_Model_markJointly 101 rfl) rfl rfl (by first | exact mo hP | exact ma hP rfl rfl) rfl k_fl_Model_40 ?_
      refine x_iload_n (pc := 179) C (dq D_Model_markJointly 102 rfl) rfl ?_
      refine x_aload_n (pc := 180) C (dq D_Model_markJointly 103 rfl) rfl ?_
      refine x_get (pc := 181) (ci := 1) (j := 14) C (dq D_Model_markJointly 104 rfl) rfl rfl (by first | exact mo hP | exact ma hP rfl rfl) rfl k_fl_Model_37 ?_
      refine x_iload_n (pc := 184) C (dq D_Model_markJointly 105 rfl) rfl ?_
      refine x_iald (pc := 185) C (dq D_Model_markJointly 106 rfl) (by first | exact mo hP | exact ma hP rfl rfl) (by (try simp only [List.length_set]); omega) ?_
      refine x_iast (pc := 186) C (dq D_Model_markJointly 107 rfl) (by first | exact mo hP | exact ma hP rfl rfl) (by (try simp only [List.length_set]); omega) ?_
      try rw [List.set_set]
      refine x_iinc (pc := 187) C (dq D_Model_markJointly 108 rfl) rfl (ii_1 _) rfl rfl ?_
      simp only [List.set_cons_zero, List.set_cons_succ]
      rw [mh_s hP rfl rfl]
      simp only [Nat.reduceSub, List.set_cons_zero, List.set_cons_succ]
      refine x_goto (pc := 190) (tgt := 167) C (dq D_Model_markJointly 109 rfl) (by decide) ?_
      exact ih (k + 1) B V (cp1 ROW k Y) A Q l2 (by omega) hB (by rw [cp1_len]; exact hY) (hY8.set (hR.2.at _)) hA hQ hQ8 he hQe
  -- the items
  have items : ∀ (d i n : Nat) (B V Y A Q : List Nat) (l2 : Option Value), i + d = nt → bm16 (B, V) → Y.length = 112 → by8 Y → A.length = 16 → Q.length = 16 → by8 Q → it (jst T W IB IS) i d Q = it (jst T W IB IS) 0 nt (mk T W z16) → X g f M_Model_markJointly (0, 0) (fun o h' => o = .returned none ∧ ∃ (l : Nat) (B' M' T' S' : List Nat), bm16 (B', M') ∧ T'.length = 112 ∧ by8 T' ∧ S'.length = 16 ∧ by8 S' ∧ h' = mh g P cd ni no nt nr l [W, T, U, IN, OUT, IS, IB, B', M', ROW, T', (mjo T W IB IS nt (ROW.take nr)), S', KP] S) (0, 0) 59 [some (.ref (zA (gz g) 44)), some (.int (nI i)), l2] [] (mh g P cd ni no nt nr n [W, T, U, IN, OUT, IS, IB, B, V, ROW, Y, A, Q, KP] S) := by
    intro d
    induction d with
    | zero =>
      intro i n B V Y A Q l2 hid hB hY hY8 hA hQ hQ8 he
      have e0 : Q = it (jst T W IB IS) 0 nt (mk T W z16) := he
      refine x_iload_n (pc := 59) C (dq D_Model_markJointly 34 rfl) rfl ?_
      refine x_aload_n (pc := 60) C (dq D_Model_markJointly 35 rfl) rfl ?_
      refine x_get (pc := 61) (ci := 1) (j := 8) C (dq D_Model_markJointly 36 rfl) rfl rfl (mo hP) rfl k_fl_Model_94 ?_
      refine n_ge_t (pc := 64) (tgt := 157) C (dq D_Model_markJointly 37 rfl) (by decide) (by omega) (by omega) ?_
      refine x_aload_n (pc := 157) C (dq D_Model_markJointly 90 rfl) rfl ?_
      refine x_aload_n (pc := 158) C (dq D_Model_markJointly 91 rfl) rfl ?_
      refine x_get (pc := 159) (ci := 1) (j := 13) C (dq D_Model_markJointly 92 rfl) rfl rfl (mo hP) rfl k_fl_Model_100 ?_
      refine x_put (pc := 162) (ci := 1) (j := 15) (ty := .int) C (dq D_Model_markJointly 93 rfl) rfl rfl (mo hP) rfl k_fl_Model_81 (Or.inl rfl) (by decide +kernel) rfl rfl ?_
      simp only [List.set_cons_zero, List.set_cons_succ]
      rw [mh_p hP]
      refine x_iconst (pc := 165) C (dq D_Model_markJointly 94 rfl) ci_0 ?_
      refine x_istore_n (i := 1) (pc := 166) C (dq D_Model_markJointly 95 rfl) rfl rfl rfl ?_
      simp only [List.set_cons_zero, List.set_cons_succ]
      refine body nr 0 B V Y A Q l2 (by omega) hB hY hY8 hA hQ hQ8 ?_ e0.symm
      have h1 := cp1_take (R := ROW) nr 0 Y (by omega) (by omega) (by simp)
      rw [Nat.zero_add] at h1
      exact h1
    | succ d ih =>
      intro i n B V Y A Q l2 hid hB hY hY8 hA hQ hQ8 he
      have hsz := hIS.2 i
      have hmq : (mdb Q).length = 16 := by rw [mdb_len]; exact hQ
      have hmq8 := mdb8 hQ8
      have hit8 : by8 (itm IB IS i) := fun v hv => hI.2 v (List.mem_of_mem_drop (List.mem_of_mem_take hv))
      obtain ⟨m1, m2⟩ := mk_ok hT.2 W hit8
      -- the mark over the sum
      have over : ∀ (d2 k : Nat) (B V Y R : List Nat), k + d2 = 16 → bm16 (B, V) → Y.length = 112 → by8 Y → R.length = 16 → it (xr (mk T W (itm IB IS i))) k d2 R = jst T W IB IS i Q → X g f M_Model_markJointly (0, 0) (fun o h' => o = .returned none ∧ ∃ (l : Nat) (B' M' T' S' : List Nat), bm16 (B', M') ∧ T'.length = 112 ∧ by8 T' ∧ S'.length = 16 ∧ by8 S' ∧ h' = mh g P cd ni no nt nr l [W, T, U, IN, OUT, IS, IB, B', M', ROW, T', (mjo T W IB IS nt (ROW.take nr)), S', KP] S) (0, 0) 120 [some (.ref (zA (gz g) 44)), some (.int (nI i)), some (.int (nI k))] [] (mh g P cd ni no nt nr (IS.getD i 0) [W, T, U, IN, OUT, IS, IB, B, V, ROW, Y, (mk T W (itm IB IS i)), R, KP] S) := by
        intro d2
        induction d2 with
        | zero =>
          intro k B V Y R hkd hB hY hY8 hR0 he2
          rw [it_zero] at he2
          obtain ⟨j1, j2⟩ := jst_ok hT.2 W IS hI.2 i ⟨hQ, hQ8⟩
          rw [← he2] at j1 j2
          rw [it_succ, ← he2] at he
          refine x_iload_n (pc := 120) C (dq D_Model_markJointly 70 rfl) rfl ?_
          refine x_bipush (pc := 121) C (dq D_Model_markJointly 71 rfl) cb_16 ?_
          refine n_ge_t (pc := 123) (tgt := 151) C (dq D_Model_markJointly 72 rfl) (by decide) (by omega) (by omega) ?_
          refine x_iinc (pc := 151) C (dq D_Model_markJointly 88 rfl) rfl (ii_1 _) rfl rfl ?_
          simp only [List.set_cons_zero, List.set_cons_succ]
          refine x_goto (pc := 154) (tgt := 59) C (dq D_Model_markJointly 89 rfl) (by decide) ?_
          exact ih (i + 1) (IS.getD i 0) B V Y (mk T W (itm IB IS i)) R (some (.int (nI k))) (by omega) hB hY hY8 m1 j1 j2 he
        | succ d2 ih2 =>
          intro k B V Y R hkd hB hY hY8 hR0 he2
          refine x_iload_n (pc := 120) C (dq D_Model_markJointly 70 rfl) rfl ?_
          refine x_bipush (pc := 121) C (dq D_Model_markJointly 71 rfl) cb_16 ?_
          refine n_ge_f (pc := 123) (tgt := 151) C (dq D_Model_markJointly 72 rfl) (by decide) (by omega) (by omega) ?_
          refine x_aload_n (pc := 126) C (dq D_Model_markJointly 73 rfl) rfl ?_
          refine x_get (pc := 127) (ci := 1) (j := 18) C (dq D_Model_markJointly 74 rfl) rfl rfl (by first | exact mo hP | exact ma hP rfl rfl) rfl k_fl_Model_46 ?_
          refine x_iload_n (pc := 130) C (dq D_Model_markJointly 75 rfl) rfl ?_
          refine x_aload_n (pc := 131) C (dq D_Model_markJointly 76 rfl) rfl ?_
          refine x_get (pc := 132) (ci := 1) (j := 18) C (dq D_Model_markJointly 77 rfl) rfl rfl (by first | exact mo hP | exact ma hP rfl rfl) rfl k_fl_Model_46 ?_
          refine x_iload_n (pc := 135) C (dq D_Model_markJointly 78 rfl) rfl ?_
          refine x_iald (pc := 136) C (dq D_Model_markJointly 79 rfl) (by first | exact mo hP | exact ma hP rfl rfl) (by (try simp only [List.length_set]); omega) ?_
          refine x_aload_n (pc := 137) C (dq D_Model_markJointly 80 rfl) rfl ?_
          refine x_get (pc := 138) (ci := 1) (j := 17) C (dq D_Model_markJointly 81 rfl) rfl rfl (by first | exact mo hP | exact ma hP rfl rfl) rfl k_fl_Model_43 ?_
          refine x_iload_n (pc := 141) C (dq D_Model_markJointly 82 rfl) rfl ?_
          refine x_iald (pc := 142) C (dq D_Model_markJointly 83 rfl) (by first | exact mo hP | exact ma hP rfl rfl) (by (try simp only [List.length_set]); omega) ?_
          refine n_ixor (pc := 143) C (dq D_Model_markJointly 84 rfl) ?_
          refine x_iast (pc := 144) C (dq D_Model_markJointly 85 rfl) (by first | exact mo hP | exact ma hP rfl rfl) (by (try simp only [List.length_set]); omega) ?_
          try rw [List.set_set]
          refine x_iinc (pc := 145) C (dq D_Model_markJointly 86 rfl) rfl (ii_1 _) rfl rfl ?_
          simp only [List.set_cons_zero, List.set_cons_succ]
          rw [mh_s hP rfl rfl]
          simp only [Nat.reduceSub, List.set_cons_zero, List.set_cons_succ]
          refine x_goto (pc := 148) (tgt := 120) C (dq D_Model_markJointly 87 rfl) (by decide) ?_
          exact ih2 (k + 1) B V Y (xr (mk T W (itm IB IS i)) k R) (by omega) hB hY hY8 (by rw [xr_len]; exact hR0) he2
      -- the item's bytes
      have bytes : ∀ (d2 k : Nat) (Y : List Nat), k + d2 = IS.getD i 0 → Y.length = 112 → by8 Y → (it (cpi IB i) k d2 Y).take (IS.getD i 0) = itm IB IS i → X g f M_Model_markJointly (0, 0) (fun o h' => o = .returned none ∧ ∃ (l : Nat) (B' M' T' S' : List Nat), bm16 (B', M') ∧ T'.length = 112 ∧ by8 T' ∧ S'.length = 16 ∧ by8 S' ∧ h' = mh g P cd ni no nt nr l [W, T, U, IN, OUT, IS, IB, B', M', ROW, T', (mjo T W IB IS nt (ROW.take nr)), S', KP] S) (0, 0) 83 [some (.ref (zA (gz g) 44)), some (.int (nI i)), some (.int (nI k))] [] (mh g P cd ni no nt nr (IS.getD i 0) [W, T, U, IN, OUT, IS, IB, B, V, ROW, Y, A, (mdb Q), KP] S) := by
        intro d2
        induction d2 with
        | zero =>
          intro k Y hkd hY hY8 he2
          have e0 : Y.take (IS.getD i 0) = itm IB IS i := he2
          refine x_iload_n (pc := 83) C (dq D_Model_markJointly 48 rfl) rfl ?_
          refine x_aload_n (pc := 84) C (dq D_Model_markJointly 49 rfl) rfl ?_
          refine x_get (pc := 85) (ci := 1) (j := 15) C (dq D_Model_markJointly 50 rfl) rfl rfl (mo hP) rfl k_fl_Model_81 ?_
          refine n_ge_t (pc := 88) (tgt := 114) C (dq D_Model_markJointly 51 rfl) (by decide) (by omega) (by omega) ?_
          refine x_aload_n (pc := 114) C (dq D_Model_markJointly 66 rfl) rfl ?_
          refine x_cV (pc := 115) (ci := 1) (M := M_Model_markText) C (dq D_Model_markJointly 67 rfl) k_ml_Model_91 m_Model_markText rfl rfl (mo hP) (cm_markText hP hW hT hU hB ⟨hY, hY8⟩ hA (by omega)) rfl rfl rfl rfl (by decide) (fun o h2 hp => ?_)
          obtain ⟨rfl, B', M', T', q1, q2, q3, rfl⟩ := hp
          refine ⟨none, rfl, ?_⟩
          rw [mmk_mk hY (by omega), e0]
          show X g f M_Model_markJointly (0, 0) (fun o h' => o = .returned none ∧ ∃ (l : Nat) (B' M' T' S' : List Nat), bm16 (B', M') ∧ T'.length = 112 ∧ by8 T' ∧ S'.length = 16 ∧ by8 S' ∧ h' = mh g P cd ni no nt nr l [W, T, U, IN, OUT, IS, IB, B', M', ROW, T', (mjo T W IB IS nt (ROW.take nr)), S', KP] S) (0, 0) 118 [some (.ref (zA (gz g) 44)), some (.int (nI i)), some (.int (nI k))] [] (mh g P cd ni no nt nr (IS.getD i 0) [W, T, U, IN, OUT, IS, IB, B', M', ROW, T', (mk T W (itm IB IS i)), (mdb Q), KP] S)
          refine x_iconst (pc := 118) C (dq D_Model_markJointly 68 rfl) ci_0 ?_
          refine x_istore_n (i := 2) (pc := 119) C (dq D_Model_markJointly 69 rfl) rfl rfl rfl ?_
          simp only [List.set_cons_zero, List.set_cons_succ]
          exact over 16 0 B' M' T' (mdb Q) rfl q1 q2 q3 hmq (by rw [jst])
        | succ d2 ih2 =>
          intro k Y hkd hY hY8 he2
          refine x_iload_n (pc := 83) C (dq D_Model_markJointly 48 rfl) rfl ?_
          refine x_aload_n (pc := 84) C (dq D_Model_markJointly 49 rfl) rfl ?_
          refine x_get (pc := 85) (ci := 1) (j := 15) C (dq D_Model_markJointly 50 rfl) rfl rfl (by first | exact mo hP | exact ma hP rfl rfl) rfl k_fl_Model_81 ?_
          refine n_ge_f (pc := 88) (tgt := 114) C (dq D_Model_markJointly 51 rfl) (by decide) (by omega) (by omega) ?_
          refine x_aload_n (pc := 91) C (dq D_Model_markJointly 52 rfl) rfl ?_
          refine x_get (pc := 92) (ci := 1) (j := 16) C (dq D_Model_markJointly 53 rfl) rfl rfl (by first | exact mo hP | exact ma hP rfl rfl) rfl k_fl_Model_40 ?_
          refine x_iload_n (pc := 95) C (dq D_Model_markJointly 54 rfl) rfl ?_
          refine x_aload_n (pc := 96) C (dq D_Model_markJointly 55 rfl) rfl ?_
          refine x_get (pc := 97) (ci := 1) (j := 10) C (dq D_Model_markJointly 56 rfl) rfl rfl (by first | exact mo hP | exact ma hP rfl rfl) rfl k_fl_Model_28 ?_
          refine x_bipush (pc := 100) C (dq D_Model_markJointly 57 rfl) cb_40 ?_
          refine x_iload_n (pc := 102) C (dq D_Model_markJointly 58 rfl) rfl ?_
          refine n_imul (pc := 103) C (dq D_Model_markJointly 59 rfl) ?_
          refine x_iload_n (pc := 104) C (dq D_Model_markJointly 60 rfl) rfl ?_
          refine n_iadd (pc := 105) C (dq D_Model_markJointly 61 rfl) ?_
          refine x_iald (pc := 106) C (dq D_Model_markJointly 62 rfl) (by first | exact mo hP | exact ma hP rfl rfl) (by (try simp only [List.length_set]); omega) ?_
          refine x_iast (pc := 107) C (dq D_Model_markJointly 63 rfl) (by first | exact mo hP | exact ma hP rfl rfl) (by (try simp only [List.length_set]); omega) ?_
          try rw [List.set_set]
          refine x_iinc (pc := 108) C (dq D_Model_markJointly 64 rfl) rfl (ii_1 _) rfl rfl ?_
          simp only [List.set_cons_zero, List.set_cons_succ]
          rw [mh_s hP rfl rfl]
          simp only [Nat.reduceSub, List.set_cons_zero, List.set_cons_succ]
          refine x_goto (pc := 111) (tgt := 83) C (dq D_Model_markJointly 65 rfl) (by decide) ?_
          exact ih2 (k + 1) (cpi IB i k Y) (by omega) (by unfold cpi; rw [List.length_set]; exact hY) (hY8.set (hI.2.at _)) he2
      refine x_iload_n (pc := 59) C (dq D_Model_markJointly 34 rfl) rfl ?_
      refine x_aload_n (pc := 60) C (dq D_Model_markJointly 35 rfl) rfl ?_
      refine x_get (pc := 61) (ci := 1) (j := 8) C (dq D_Model_markJointly 36 rfl) rfl rfl (mo hP) rfl k_fl_Model_94 ?_
      refine n_ge_f (pc := 64) (tgt := 157) C (dq D_Model_markJointly 37 rfl) (by decide) (by omega) (by omega) ?_
      refine x_aload_n (pc := 67) C (dq D_Model_markJointly 38 rfl) rfl ?_
      refine x_cV0 (pc := 68) (ci := 1) (M := M_Model_doubleSum) C (dq D_Model_markJointly 39 rfl) k_ml_Model_97 m_Model_doubleSum rfl rfl (mo hP) (cm_doubleSum (mo hP) (ma hP rfl rfl) hQ hQ8) rfl rfl rfl rfl (by decide) ?_
      rw [mh_s hP rfl rfl]
      simp only [Nat.reduceSub, List.set_cons_zero, List.set_cons_succ]
      refine x_aload_n (pc := 71) C (dq D_Model_markJointly 40 rfl) rfl ?_
      refine x_aload_n (pc := 72) C (dq D_Model_markJointly 41 rfl) rfl ?_
      refine x_get (pc := 73) (ci := 1) (j := 9) C (dq D_Model_markJointly 42 rfl) rfl rfl (by first | exact mo hP | exact ma hP rfl rfl) rfl k_fl_Model_25 ?_
      refine x_iload_n (pc := 76) C (dq D_Model_markJointly 43 rfl) rfl ?_
      refine x_iald (pc := 77) C (dq D_Model_markJointly 44 rfl) (by first | exact mo hP | exact ma hP rfl rfl) (by (try simp only [List.length_set]); omega) ?_
      refine x_put (pc := 78) (ci := 1) (j := 15) (ty := .int) C (dq D_Model_markJointly 45 rfl) rfl rfl (by first | exact mo hP | exact ma hP rfl rfl) rfl k_fl_Model_81 (Or.inl rfl) (by decide +kernel) rfl rfl ?_
      simp only [List.set_cons_zero, List.set_cons_succ]
      rw [mh_p hP]
      refine x_iconst (pc := 81) C (dq D_Model_markJointly 46 rfl) ci_0 ?_
      refine x_istore_n (i := 2) (pc := 82) C (dq D_Model_markJointly 47 rfl) rfl rfl rfl ?_
      simp only [List.set_cons_zero, List.set_cons_succ]
      refine bytes (IS.getD i 0) 0 Y (by omega) hY hY8 ?_
      have h1 : it (cpi IB i) 0 (IS.getD i 0) Y = it (cp1 (IB.drop (40 * i))) 0 (IS.getD i 0) Y := it_congr _ _ _ (fun j s _ _ => cpi_eq IB i j s)
      have h2 := cp1_take (R := IB.drop (40 * i)) (IS.getD i 0) 0 Y (by omega) (by rw [List.length_drop]; omega) (by simp)
      rw [Nat.zero_add] at h2
      rw [h1]
      exact h2
  -- the sum is the first mark
  have first : ∀ (d k : Nat) (B V Y R : List Nat) (l2 : Option Value), k + d = 16 → bm16 (B, V) → Y.length = 112 → by8 Y → R.length = 16 → it (cp1 (mk T W z16)) k d R = mk T W z16 → X g f M_Model_markJointly (0, 0) (fun o h' => o = .returned none ∧ ∃ (l : Nat) (B' M' T' S' : List Nat), bm16 (B', M') ∧ T'.length = 112 ∧ by8 T' ∧ S'.length = 16 ∧ by8 S' ∧ h' = mh g P cd ni no nt nr l [W, T, U, IN, OUT, IS, IB, B', M', ROW, T', (mjo T W IB IS nt (ROW.take nr)), S', KP] S) (0, 0) 33 [some (.ref (zA (gz g) 44)), some (.int (nI k)), l2] [] (mh g P cd ni no nt nr 16 [W, T, U, IN, OUT, IS, IB, B, V, ROW, Y, (mk T W z16), R, KP] S) := by
    intro d
    obtain ⟨m1, m2⟩ := mk_ok hT.2 W z16_8
    induction d with
    | zero =>
      intro k B V Y R l2 hkd hB hY hY8 hR0 he
      rw [it_zero] at he
      rw [he]
      refine x_iload_n (pc := 33) C (dq D_Model_markJointly 19 rfl) rfl ?_
      refine x_bipush (pc := 34) C (dq D_Model_markJointly 20 rfl) cb_16 ?_
      refine n_ge_t (pc := 36) (tgt := 57) C (dq D_Model_markJointly 21 rfl) (by decide) (by omega) (by omega) ?_
      refine x_iconst (pc := 57) C (dq D_Model_markJointly 32 rfl) ci_0 ?_
      refine x_istore_n (i := 1) (pc := 58) C (dq D_Model_markJointly 33 rfl) rfl rfl rfl ?_
      simp only [List.set_cons_zero, List.set_cons_succ]
      exact items nt 0 16 B V Y _ _ l2 (by omega) hB hY hY8 m1 m1 m2 rfl
    | succ d ih =>
      intro k B V Y R l2 hkd hB hY hY8 hR0 he
      refine x_iload_n (pc := 33) C (dq D_Model_markJointly 19 rfl) rfl ?_
      refine x_bipush (pc := 34) C (dq D_Model_markJointly 20 rfl) cb_16 ?_
      refine n_ge_f (pc := 36) (tgt := 57) C (dq D_Model_markJointly 21 rfl) (by decide) (by omega) (by omega) ?_
      refine x_aload_n (pc := 39) C (dq D_Model_markJointly 22 rfl) rfl ?_
      refine x_get (pc := 40) (ci := 1) (j := 18) C (dq D_Model_markJointly 23 rfl) rfl rfl (by first | exact mo hP | exact ma hP rfl rfl) rfl k_fl_Model_46 ?_
      refine x_iload_n (pc := 43) C (dq D_Model_markJointly 24 rfl) rfl ?_
      refine x_aload_n (pc := 44) C (dq D_Model_markJointly 25 rfl) rfl ?_
      refine x_get (pc := 45) (ci := 1) (j := 17) C (dq D_Model_markJointly 26 rfl) rfl rfl (by first | exact mo hP | exact ma hP rfl rfl) rfl k_fl_Model_43 ?_
      refine x_iload_n (pc := 48) C (dq D_Model_markJointly 27 rfl) rfl ?_
      refine x_iald (pc := 49) C (dq D_Model_markJointly 28 rfl) (by first | exact mo hP | exact ma hP rfl rfl) (by (try simp only [List.length_set]); omega) ?_
      refine x_iast (pc := 50) C (dq D_Model_markJointly 29 rfl) (by first | exact mo hP | exact ma hP rfl rfl) (by (try simp only [List.length_set]); omega) ?_
      try rw [List.set_set]
      refine x_iinc (pc := 51) C (dq D_Model_markJointly 30 rfl) rfl (ii_1 _) rfl rfl ?_
      simp only [List.set_cons_zero, List.set_cons_succ]
      rw [mh_s hP rfl rfl]
      simp only [Nat.reduceSub, List.set_cons_zero, List.set_cons_succ]
      refine x_goto (pc := 54) (tgt := 33) C (dq D_Model_markJointly 31 rfl) (by decide) ?_
      exact ih (k + 1) B V Y (cp1 (mk T W z16) k R) l2 (by omega) hB hY hY8 (by rw [cp1_len]; exact hR0) he
  have zeros : ∀ (d k : Nat) (Y : List Nat) (l2 : Option Value), k + d = 16 → Y.length = 112 → by8 Y → (it (fls 0) k d Y).take 16 = z16 → X g f M_Model_markJointly (0, 0) (fun o h' => o = .returned none ∧ ∃ (l : Nat) (B' M' T' S' : List Nat), bm16 (B', M') ∧ T'.length = 112 ∧ by8 T' ∧ S'.length = 16 ∧ by8 S' ∧ h' = mh g P cd ni no nt nr l [W, T, U, IN, OUT, IS, IB, B', M', ROW, T', (mjo T W IB IS nt (ROW.take nr)), S', KP] S) (0, 0) 8 [some (.ref (zA (gz g) 44)), some (.int (nI k)), l2] [] (mh g P cd ni no nt nr 16 [W, T, U, IN, OUT, IS, IB, BL, MV, ROW, Y, MA, SM, KP] S) := by
    intro d
    induction d with
    | zero =>
      intro k Y l2 hkd hY hY8 he
      have e0 : Y.take 16 = z16 := he
      obtain ⟨m1, m2⟩ := mk_ok hT.2 W z16_8
      refine x_iload_n (pc := 8) C (dq D_Model_markJointly 5 rfl) rfl ?_
      refine x_bipush (pc := 9) C (dq D_Model_markJointly 6 rfl) cb_16 ?_
      refine n_ge_t (pc := 11) (tgt := 27) C (dq D_Model_markJointly 7 rfl) (by decide) (by omega) (by omega) ?_
      refine x_aload_n (pc := 27) C (dq D_Model_markJointly 15 rfl) rfl ?_
      refine x_cV (pc := 28) (ci := 1) (M := M_Model_markText) C (dq D_Model_markJointly 16 rfl) k_ml_Model_91 m_Model_markText rfl rfl (mo hP) (cm_markText hP hW hT hU hb ⟨hY, hY8⟩ hMA.1 (by omega)) rfl rfl rfl rfl (by decide) (fun o h2 hp => ?_)
      obtain ⟨rfl, B', M', T', q1, q2, q3, rfl⟩ := hp
      refine ⟨none, rfl, ?_⟩
      rw [mmk_mk hY (by omega), e0]
      show X g f M_Model_markJointly (0, 0) (fun o h' => o = .returned none ∧ ∃ (l : Nat) (B' M' T' S' : List Nat), bm16 (B', M') ∧ T'.length = 112 ∧ by8 T' ∧ S'.length = 16 ∧ by8 S' ∧ h' = mh g P cd ni no nt nr l [W, T, U, IN, OUT, IS, IB, B', M', ROW, T', (mjo T W IB IS nt (ROW.take nr)), S', KP] S) (0, 0) 31 [some (.ref (zA (gz g) 44)), some (.int (nI k)), l2] [] (mh g P cd ni no nt nr 16 [W, T, U, IN, OUT, IS, IB, B', M', ROW, T', (mk T W z16), SM, KP] S)
      refine x_iconst (pc := 31) C (dq D_Model_markJointly 17 rfl) ci_0 ?_
      refine x_istore_n (i := 1) (pc := 32) C (dq D_Model_markJointly 18 rfl) rfl rfl rfl ?_
      simp only [List.set_cons_zero, List.set_cons_succ]
      exact first 16 0 B' M' T' SM l2 rfl q1 q2 q3 hSM.1 (cp16 m1 hSM.1)
    | succ d ih =>
      intro k Y l2 hkd hY hY8 he
      refine x_iload_n (pc := 8) C (dq D_Model_markJointly 5 rfl) rfl ?_
      refine x_bipush (pc := 9) C (dq D_Model_markJointly 6 rfl) cb_16 ?_
      refine n_ge_f (pc := 11) (tgt := 27) C (dq D_Model_markJointly 7 rfl) (by decide) (by omega) (by omega) ?_
      refine x_aload_n (pc := 14) C (dq D_Model_markJointly 8 rfl) rfl ?_
      refine x_get (pc := 15) (ci := 1) (j := 16) C (dq D_Model_markJointly 9 rfl) rfl rfl (by first | exact mo hP | exact ma hP rfl rfl) rfl k_fl_Model_40 ?_
      refine x_iload_n (pc := 18) C (dq D_Model_markJointly 10 rfl) rfl ?_
      refine x_iconst (pc := 19) C (dq D_Model_markJointly 11 rfl) ci_0 ?_
      refine x_iast (pc := 20) C (dq D_Model_markJointly 12 rfl) (by first | exact mo hP | exact ma hP rfl rfl) (by (try simp only [List.length_set]); omega) ?_
      try rw [List.set_set]
      refine x_iinc (pc := 21) C (dq D_Model_markJointly 13 rfl) rfl (ii_1 _) rfl rfl ?_
      simp only [List.set_cons_zero, List.set_cons_succ]
      rw [mh_s hP rfl rfl]
      simp only [Nat.reduceSub, List.set_cons_zero, List.set_cons_succ]
      refine x_goto (pc := 24) (tgt := 8) C (dq D_Model_markJointly 14 rfl) (by decide) ?_
      exact ih (k + 1) (fls 0 k Y) l2 (by omega) (by rw [fls_len]; exact hY) (hY8.set (by omega)) he
  refine x_aload_n (pc := 0) C (dq D_Model_markJointly 0 rfl) rfl ?_
  refine x_bipush (pc := 1) C (dq D_Model_markJointly 1 rfl) cb_16 ?_
  refine x_put (pc := 3) (ci := 1) (j := 15) (ty := .int) C (dq D_Model_markJointly 2 rfl) rfl rfl (mo hP) rfl k_fl_Model_81 (Or.inl rfl) (by decide +kernel) rfl rfl ?_
  simp only [List.set_cons_zero, List.set_cons_succ]
  rw [mh_p hP]
  refine x_iconst (pc := 6) C (dq D_Model_markJointly 3 rfl) ci_0 ?_
  refine x_istore_n (i := 1) (pc := 7) C (dq D_Model_markJointly 4 rfl) rfl rfl rfl ?_
  simp only [List.set_cons_zero, List.set_cons_succ]
  exact zeros 16 0 TX none rfl hTX.1 hTX.2 (fls_take (by omega))
