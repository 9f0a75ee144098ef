/-! The reference seals and opens. -/
def smv (K : List Nat) (k : Nat) (R : List Nat) : List Nat := R.set k (if k < 16 then K.getD k 0 else R.getD (k - 16) 0)
theorem smv_len (K : List Nat) (k : Nat) (R : List Nat) : (smv K k R).length = R.length := List.length_set
/-- what the reference seals with a mark: the mark, then the bytes crossed -/
def msl (T W K : List Nat) (n : Nat) (R : List Nat) : List Nat := it (fun i => smv K (n + 15 - i)) 0 (n + 16) (cro T W K n R)
theorem cro_ok {T : List Nat} (hT : by8 T) (W KP : List Nat) (n : Nat) {R : List Nat} (h : by8 R) : (cro T W KP n R).length = R.length ∧ by8 (cro T W KP n R) := by
  unfold cro
  refine it_inv (fun S : List Nat => S.length = R.length ∧ by8 S) _ 0 R (fun j S _ _ hS => ?_) ⟨rfl, h⟩
  have hk := enc_ok hT W 44 (ctr_ok (khi KP) (klo KP + j)).1 (ctr_ok (khi KP) (klo KP + j)).2
  unfold crs
  exact ⟨by rw [it_len (crx_len _ (16 * j))]; exact hS.1, crx8 hk.2 _ _ _ hS.2⟩
theorem mjo_ok {T : List Nat} (hT : by8 T) (W : List Nat) {IB : List Nat} (IS : List Nat) (hI : by8 IB) (nt : Nat) {L : List Nat} (hL : by8 L) : (mjo T W IB IS nt L).length = 16 ∧ by8 (mjo T W IB IS nt L) := by
  have h0 := mk_ok hT W z16_8
  have h1 : (it (jst T W IB IS) 0 nt (mk T W z16)).length = 16 ∧ by8 (it (jst T W IB IS) 0 nt (mk T W z16)) := it_inv (fun S : List Nat => S.length = 16 ∧ by8 S) nt 0 _ (fun j S _ _ hS => jst_ok hT W IS hI j hS) h0
  unfold mjo
  refine mk_ok hT W ?_
  unfold jlast
  split
  · refine mxt8 (mdb8 h1.2) _ 0 16 ?_
    unfold fl16
    exact mpd8 _ _ _ (hL.app (fun v hv => by rw [List.eq_of_mem_replicate hv]; decide))
  · exact mxt8 h1.2 _ 0 16 hL
set_option maxHeartbeats 4000000 in
theorem cm_sealMarked {g : Gp} {P S : Hp} {cd ni no nt nr nl : Nat} {W T U IN OUT IS IB BL MV ROW TX MA SM KP : List Nat} (hP : P.length = 44) (hW : W.length = 88 ∧ by32 W) (hT : T.length = 256 ∧ by8 T) (hU : U.length = 256 ∧ by8 U) (hb : bm16 (BL, MV)) (hTX : TX.length = 112 ∧ by8 TX) (hMA : MA.length = 16 ∧ by8 MA) (hSM : SM.length = 16 ∧ by8 SM) (hI : IB.length = 200 ∧ by8 IB) (hIS : IS.length = 5 ∧ ∀ i, IS.getD i 0 ≤ 40) (hnt : nt ≤ 5) (hR : ROW.length = 112 ∧ by8 ROW) (hKP : KP.length = 16 ∧ by8 KP) (hnr : nr ≤ 64) :
    Con g M_Model_sealMarked 4 (0, 0) [.ref (zA (gz g) 44)] (mh g P cd ni no nt nr nl [W, T, U, IN, OUT, IS, IB, BL, MV, ROW, TX, MA, SM, KP] S) (fun o h' => o = .returned none ∧ ∃ (l : Nat) (B' M' T' S' : List Nat), bm16 (B', M') ∧ T'.length = 112 ∧ by8 T' ∧ S'.length = 16 ∧ by8 S' ∧ h' = mh g P cd ni no nt (nr + 16) l [W, T, U, IN, OUT, IS, IB, B', M', (msl T W (mjo T W IB IS nt (ROW.take nr)) nr ROW), T', (mjo T W IB IS nt (ROW.take nr)), S', (mjo T W IB IS nt (ROW.take nr))] S) := by
  obtain ⟨j1, j2⟩ := mjo_ok hT.2 W IS hI.2 nt (hR.2.take nr)
  obtain ⟨c1, c2⟩ := cro_ok hT.2 W (mjo T W IB IS nt (ROW.take nr)) nr hR.2
  refine Con.of (by decide) rfl rfl (L := [some (.ref (zA (gz g) 44)), none]) rfl (fun f C => ?_)
  have shift : ∀ (d i l : Nat) (x : Int32) (B V R Y Q : List Nat), i + d = nr + 16 → (d = 0 → x = -1) → (∀ e, d = e + 1 → x = nI e) → bm16 (B, V) → Y.length = 112 ∧ by8 Y → Q.length = 16 ∧ by8 Q → R.length = 112 → it (fun i => smv (mjo T W IB IS nt (ROW.take nr)) (nr + 15 - i)) i d R = msl T W (mjo T W IB IS nt (ROW.take nr)) nr ROW → X g f M_Model_sealMarked (0, 0) (fun o h' => o = .returned none ∧ ∃ (l : Nat) (B' M' T' S' : List Nat), bm16 (B', M') ∧ T'.length = 112 ∧ by8 T' ∧ S'.length = 16 ∧ by8 S' ∧ h' = mh g P cd ni no nt (nr + 16) l [W, T, U, IN, OUT, IS, IB, B', M', (msl T W (mjo T W IB IS nt (ROW.take nr)) nr ROW), T', (mjo T W IB IS nt (ROW.take nr)), S', (mjo T W IB IS nt (ROW.take nr))] S) (0, 0) 42 [some (.ref (zA (gz g) 44)), some (.int x)] [] (mh g P cd ni no nt nr l [W, T, U, IN, OUT, IS, IB, B, V, R, Y, (mjo T W IB IS nt (ROW.take nr)), Q, (mjo T W IB IS nt (ROW.take nr))] S) := by
    intro d
    induction d with
    | zero =>
      intro i l x B V R Y Q hid hx0 hx1 hB hY hQ hR he
      rw [it_zero] at he
      obtain rfl := hx0 rfl
      refine x_iload_n (pc := 42) C (dq D_Model_sealMarked 24 rfl) rfl ?_
      refine x_iflt (pc := 43) (tgt := 82) C (dq D_Model_sealMarked 25 rfl) (by decide) (fun _ => ?_) (fun q => absurd (by decide) q)
      refine x_aload_n (pc := 82) C (dq D_Model_sealMarked 46 rfl) rfl ?_
      refine x_aload_n (pc := 83) C (dq D_Model_sealMarked 47 rfl) rfl ?_
      refine x_get (pc := 84) (ci := 1) (j := 13) C (dq D_Model_sealMarked 48 rfl) rfl rfl (mo hP) rfl k_fl_Model_100 ?_
      refine x_bipush (pc := 87) C (dq D_Model_sealMarked 49 rfl) cb_16 ?_
      refine n_iadd (pc := 89) C (dq D_Model_sealMarked 50 rfl) ?_
      refine x_put (pc := 90) (ci := 1) (j := 13) (ty := .int) C (dq D_Model_sealMarked 51 rfl) rfl rfl (mo hP) rfl k_fl_Model_100 (Or.inl rfl) (by decide +kernel) rfl rfl ?_
      simp only [List.set_cons_zero, List.set_cons_succ]
      rw [mh_p hP]
      exact x_vret (pc := 93) C (dq D_Model_sealMarked 52 rfl) rfl (by decide) ⟨rfl, l, B, V, Y, Q, hB, hY.1, hY.2, hQ.1, hQ.2, by rw [he]⟩
    | succ d ih =>
      intro i l x B V R Y Q hid hx0 hx1 hB hY hQ hR he
      obtain rfl := hx1 d rfl
      have e0 : nr + 15 - i = d := by omega
      have fin : ∀ v : Nat, v = (if d < 16 then ((mjo T W IB IS nt (ROW.take nr))).getD d 0 else R.getD (d - 16) 0) → X g f M_Model_sealMarked (0, 0) (fun o h' => o = .returned none ∧ ∃ (l : Nat) (B' M' T' S' : List Nat), bm16 (B', M') ∧ T'.length = 112 ∧ by8 T' ∧ S'.length = 16 ∧ by8 S' ∧ h' = mh g P cd ni no nt (nr + 16) l [W, T, U, IN, OUT, IS, IB, B', M', (msl T W (mjo T W IB IS nt (ROW.take nr)) nr ROW), T', (mjo T W IB IS nt (ROW.take nr)), S', (mjo T W IB IS nt (ROW.take nr))] S) (0, 0) 75 [some (.ref (zA (gz g) 44)), some (.int (nI d))] [.int (nI v), .int (nI d), .ref (zA (gz g) 54)] (mh g P cd ni no nt nr l [W, T, U, IN, OUT, IS, IB, B, V, R, Y, (mjo T W IB IS nt (ROW.take nr)), Q, (mjo T W IB IS nt (ROW.take nr))] S) := by
        intro v hv
        refine x_iast (pc := 75) C (dq D_Model_sealMarked 43 rfl) (ma hP rfl rfl) (by (try simp only [List.length_set]); omega) ?_
        try rw [List.set_set]
        rw [mh_s hP rfl rfl]
        simp only [Nat.reduceSub, List.set_cons_zero, List.set_cons_succ]
        refine x_iinc (pc := 76) C (dq D_Model_sealMarked 44 rfl) rfl rfl rfl rfl ?_
        simp only [List.set_cons_zero, List.set_cons_succ]
        refine x_goto (pc := 79) (tgt := 42) C (dq D_Model_sealMarked 45 rfl) (by decide) ?_
        refine ih (i + 1) l _ B V (R.set d v) Y Q (by omega) (fun z => by subst z; decide +kernel) (fun e z => by subst z; exact iim (by omega)) hB hY hQ (by rw [List.length_set]; exact hR) ?_
        rw [it_succ, e0] at he
        rw [hv]
        exact he
      refine x_iload_n (pc := 42) C (dq D_Model_sealMarked 24 rfl) rfl ?_
      refine n_iflt_f (pc := 43) (tgt := 82) C (dq D_Model_sealMarked 25 rfl) (by decide) (by omega) (by omega) ?_
      refine x_aload_n (pc := 46) C (dq D_Model_sealMarked 26 rfl) rfl ?_
      refine x_get (pc := 47) (ci := 1) (j := 14) C (dq D_Model_sealMarked 27 rfl) rfl rfl (mo hP) rfl k_fl_Model_37 ?_
      refine x_iload_n (pc := 50) C (dq D_Model_sealMarked 28 rfl) rfl ?_
      refine x_iload_n (pc := 51) C (dq D_Model_sealMarked 29 rfl) rfl ?_
      refine x_bipush (pc := 52) C (dq D_Model_sealMarked 30 rfl) cb_16 ?_
      refine n_ge (pc := 54) (tgt := 66) C (dq D_Model_sealMarked 31 rfl) (by decide) (by omega) (fun hq => ?_) (fun hq => ?_)
      · rw [if_neg (by omega)] at fin
        refine x_aload_n (pc := 66) C (dq D_Model_sealMarked 37 rfl) rfl ?_
        refine x_get (pc := 67) (ci := 1) (j := 14) C (dq D_Model_sealMarked 38 rfl) rfl rfl (by first | exact mo hP | exact ma hP rfl rfl) rfl k_fl_Model_37 ?_
        refine x_iload_n (pc := 70) C (dq D_Model_sealMarked 39 rfl) rfl ?_
        refine x_bipush (pc := 71) C (dq D_Model_sealMarked 40 rfl) cb_16 ?_
        refine n_isub (pc := 73) C (dq D_Model_sealMarked 41 rfl) (by omega) ?_
        refine x_iald (pc := 74) C (dq D_Model_sealMarked 42 rfl) (by first | exact mo hP | exact ma hP rfl rfl) (by (try simp only [List.length_set]); omega) ?_
        exact fin _ rfl
      · rw [if_pos hq] at fin
        refine x_aload_n (pc := 57) C (dq D_Model_sealMarked 32 rfl) rfl ?_
        refine x_get (pc := 58) (ci := 1) (j := 19) C (dq D_Model_sealMarked 33 rfl) rfl rfl (by first | exact mo hP | exact ma hP rfl rfl) rfl k_fl_Model_49 ?_
        refine x_iload_n (pc := 61) C (dq D_Model_sealMarked 34 rfl) rfl ?_
        refine x_iald (pc := 62) C (dq D_Model_sealMarked 35 rfl) (by first | exact mo hP | exact ma hP rfl rfl) (by (try simp only [List.length_set]); omega) ?_
        refine x_goto (pc := 63) (tgt := 75) C (dq D_Model_sealMarked 36 rfl) (by decide) ?_
        exact fin _ rfl
  have keep : ∀ (d k l : Nat) (B V Y Q K : List Nat), k + d = 16 → bm16 (B, V) → Y.length = 112 ∧ by8 Y → Q.length = 16 ∧ by8 Q → K.length = 16 → it (cp1 (mjo T W IB IS nt (ROW.take nr))) k d K = (mjo T W IB IS nt (ROW.take nr)) → X g f M_Model_sealMarked (0, 0) (fun o h' => o = .returned none ∧ ∃ (l : Nat) (B' M' T' S' : List Nat), bm16 (B', M') ∧ T'.length = 112 ∧ by8 T' ∧ S'.length = 16 ∧ by8 S' ∧ h' = mh g P cd ni no nt (nr + 16) l [W, T, U, IN, OUT, IS, IB, B', M', (msl T W (mjo T W IB IS nt (ROW.take nr)) nr ROW), T', (mjo T W IB IS nt (ROW.take nr)), S', (mjo T W IB IS nt (ROW.take nr))] S) (0, 0) 6 [some (.ref (zA (gz g) 44)), some (.int (nI k))] [] (mh g P cd ni no nt nr l [W, T, U, IN, OUT, IS, IB, B, V, ROW, Y, (mjo T W IB IS nt (ROW.take nr)), Q, K] S) := by
    intro d
    induction d with
    | zero =>
      intro k l B V Y Q K hkd hB hY hQ hK he
      rw [it_zero] at he
      rw [he]
      refine x_iload_n (pc := 6) C (dq D_Model_sealMarked 4 rfl) rfl ?_
      refine x_bipush (pc := 7) C (dq D_Model_sealMarked 5 rfl) cb_16 ?_
      refine n_ge_t (pc := 9) (tgt := 30) C (dq D_Model_sealMarked 6 rfl) (by decide) (by omega) (by omega) ?_
      refine x_aload_n (pc := 30) C (dq D_Model_sealMarked 17 rfl) rfl ?_
      refine x_cV (pc := 31) (ci := 1) (M := M_Model_cross) C (dq D_Model_sealMarked 18 rfl) k_ml_Model_108 m_Model_cross rfl rfl (mo hP) (cm_cross hP hW hT hU hB ⟨j1, j2⟩ hR.1 (by omega)) rfl rfl rfl rfl (by decide) (fun o h2 hp => ?_)
      obtain ⟨rfl, B2, V2, hB2, rfl⟩ := hp
      refine ⟨none, rfl, ?_⟩
      show X g f M_Model_sealMarked (0, 0) (fun o h' => o = .returned none ∧ ∃ (l : Nat) (B' M' T' S' : List Nat), bm16 (B', M') ∧ T'.length = 112 ∧ by8 T' ∧ S'.length = 16 ∧ by8 S' ∧ h' = mh g P cd ni no nt (nr + 16) l [W, T, U, IN, OUT, IS, IB, B', M', (msl T W (mjo T W IB IS nt (ROW.take nr)) nr ROW), T', (mjo T W IB IS nt (ROW.take nr)), S', (mjo T W IB IS nt (ROW.take nr))] S) (0, 0) 34 [some (.ref (zA (gz g) 44)), some (.int (nI k))] [] (mh g P cd ni no nt nr l [W, T, U, IN, OUT, IS, IB, B2, V2, (cro T W (mjo T W IB IS nt (ROW.take nr)) nr ROW), Y, (mjo T W IB IS nt (ROW.take nr)), Q, (mjo T W IB IS nt (ROW.take nr))] S)
      refine x_aload_n (pc := 34) C (dq D_Model_sealMarked 19 rfl) rfl ?_
      refine x_get (pc := 35) (ci := 1) (j := 13) C (dq D_Model_sealMarked 20 rfl) rfl rfl (mo hP) rfl k_fl_Model_100 ?_
      refine x_bipush (pc := 38) C (dq D_Model_sealMarked 21 rfl) cb_15 ?_
      refine n_iadd (pc := 40) C (dq D_Model_sealMarked 22 rfl) ?_
      refine x_istore_n (i := 1) (pc := 41) C (dq D_Model_sealMarked 23 rfl) rfl rfl rfl ?_
      simp only [List.set_cons_zero, List.set_cons_succ]
      exact shift (nr + 16) 0 l (nI (nr + 15)) B2 V2 _ Y Q (by omega) (fun z => by omega) (fun e z => by rw [show e = nr + 15 by omega]) hB2 hY hQ (c1.trans hR.1) (by rw [msl])
    | succ d ih =>
      intro k l B V Y Q K hkd hB hY hQ hK he
      refine x_iload_n (pc := 6) C (dq D_Model_sealMarked 4 rfl) rfl ?_
      refine x_bipush (pc := 7) C (dq D_Model_sealMarked 5 rfl) cb_16 ?_
      refine n_ge_f (pc := 9) (tgt := 30) C (dq D_Model_sealMarked 6 rfl) (by decide) (by omega) (by omega) ?_
      refine x_aload_n (pc := 12) C (dq D_Model_sealMarked 7 rfl) rfl ?_
      refine x_get (pc := 13) (ci := 1) (j := 19) C (dq D_Model_sealMarked 8 rfl) rfl rfl (by first | exact mo hP | exact ma hP rfl rfl) rfl k_fl_Model_49 ?_
      refine x_iload_n (pc := 16) C (dq D_Model_sealMarked 9 rfl) rfl ?_
      refine x_aload_n (pc := 17) C (dq D_Model_sealMarked 10 rfl) rfl ?_
      refine x_get (pc := 18) (ci := 1) (j := 17) C (dq D_Model_sealMarked 11 rfl) rfl rfl (by first | exact mo hP | exact ma hP rfl rfl) rfl k_fl_Model_43 ?_
      refine x_iload_n (pc := 21) C (dq D_Model_sealMarked 12 rfl) rfl ?_
      refine x_iald (pc := 22) C (dq D_Model_sealMarked 13 rfl) (by first | exact mo hP | exact ma hP rfl rfl) (by (try simp only [List.length_set]); omega) ?_
      refine x_iast (pc := 23) C (dq D_Model_sealMarked 14 rfl) (by first | exact mo hP | exact ma hP rfl rfl) (by (try simp only [List.length_set]); omega) ?_
      try rw [List.set_set]
      refine x_iinc (pc := 24) C (dq D_Model_sealMarked 15 rfl) rfl (ii_1 _) rfl rfl ?_
      simp only [List.set_cons_zero, List.set_cons_succ]
      rw [mh_s hP rfl rfl]
      simp only [Nat.reduceSub, List.set_cons_zero, List.set_cons_succ]
      refine x_goto (pc := 27) (tgt := 6) C (dq D_Model_sealMarked 16 rfl) (by decide) ?_
      exact ih (k + 1) l B V Y Q (cp1 (mjo T W IB IS nt (ROW.take nr)) k K) (by omega) hB hY hQ (by rw [cp1_len]; exact hK) he
  refine x_aload_n (pc := 0) C (dq D_Model_sealMarked 0 rfl) rfl ?_
  refine x_cV (pc := 1) (ci := 1) (M := M_Model_markJointly) C (dq D_Model_sealMarked 1 rfl) k_ml_Model_105 m_Model_markJointly rfl rfl (mo hP) (cm_markJointly hP hW hT hU hb hTX hMA hSM hI hIS hnt hR (by omega)) rfl rfl rfl rfl (by decide) (fun o h2 hp => ?_)
  obtain ⟨rfl, l, B2, V2, T2, S2, q1, q2, q3, q4, q5, rfl⟩ := hp
  refine ⟨none, rfl, ?_⟩
  show X g f M_Model_sealMarked (0, 0) (fun o h' => o = .returned none ∧ ∃ (l : Nat) (B' M' T' S' : List Nat), bm16 (B', M') ∧ T'.length = 112 ∧ by8 T' ∧ S'.length = 16 ∧ by8 S' ∧ h' = mh g P cd ni no nt (nr + 16) l [W, T, U, IN, OUT, IS, IB, B', M', (msl T W (mjo T W IB IS nt (ROW.take nr)) nr ROW), T', (mjo T W IB IS nt (ROW.take nr)), S', (mjo T W IB IS nt (ROW.take nr))] S) (0, 0) 4 [some (.ref (zA (gz g) 44)), none] [] (mh g P cd ni no nt nr l [W, T, U, IN, OUT, IS, IB, B2, V2, ROW, T2, (mjo T W IB IS nt (ROW.take nr)), S2, KP] S)
  refine x_iconst (pc := 4) C (dq D_Model_sealMarked 2 rfl) ci_0 ?_
  refine x_istore_n (i := 1) (pc := 5) C (dq D_Model_sealMarked 3 rfl) rfl rfl rfl ?_
  simp only [List.set_cons_zero, List.set_cons_succ]
  exact keep 16 0 l B2 V2 T2 S2 KP rfl q1 ⟨q2, q3⟩ ⟨q4, q5⟩ hKP.1 (cp16 j1 hKP.1)
/-- the front of sixteen dropped -/
def d16 (k : Nat) (R : List Nat) : List Nat := R.set k (R.getD (k + 16) 0)
theorem d16_len (k : Nat) (R : List Nat) : (d16 k R).length = R.length := List.length_set
def eqs (A B : List Nat) (k : Nat) (b : Bool) : Bool := b && decide (A.getD k 0 = B.getD k 0)
/-- what the reference opens -/
def mop (T W : List Nat) (n : Nat) (R : List Nat) : List Nat := cro T W (R.take 16) (n - 16) (it d16 0 (n - 16) R)
theorem eqs_f (A B : List Nat) : ∀ (d k : Nat), it (eqs A B) k d false = false
  | 0, _ => rfl
  | d + 1, k => eqs_f A B d (k + 1)
set_option maxHeartbeats 4000000 in
theorem cm_openMarked {g : Gp} {P S : Hp} {cd ni no nt nr nl : Nat} {W T U IN OUT IS IB BL MV ROW TX MA SM KP : List Nat} (hP : P.length = 44) (hW : W.length = 88 ∧ by32 W) (hT : T.length = 256 ∧ by8 T) (hU : U.length = 256 ∧ by8 U) (hb : bm16 (BL, MV)) (hTX : TX.length = 112 ∧ by8 TX) (hMA : MA.length = 16 ∧ by8 MA) (hSM : SM.length = 16 ∧ by8 SM) (hI : IB.length = 200 ∧ by8 IB) (hIS : IS.length = 5 ∧ ∀ i, IS.getD i 0 ≤ 40) (hnt : nt ≤ 5) (hR : ROW.length = 112 ∧ by8 ROW) (hKP : KP.length = 16 ∧ by8 KP) (hnr : 16 ≤ nr ∧ nr ≤ 80) :
    Con g M_Model_openMarked 4 (0, 0) [.ref (zA (gz g) 44)] (mh g P cd ni no nt nr nl [W, T, U, IN, OUT, IS, IB, BL, MV, ROW, TX, MA, SM, KP] S) (fun o h' => o = .returned (some (.int (nI (if (it (eqs (mjo T W IB IS nt ((mop T W nr ROW).take (nr - 16))) (ROW.take 16)) 0 16 true) then 1 else 0)))) ∧ ∃ (l : Nat) (B' M' T' S' : List Nat), bm16 (B', M') ∧ T'.length = 112 ∧ by8 T' ∧ S'.length = 16 ∧ by8 S' ∧ h' = mh g P cd ni no nt (nr - 16) l [W, T, U, IN, OUT, IS, IB, B', M', (mop T W nr ROW), T', (mjo T W IB IS nt ((mop T W nr ROW).take (nr - 16))), S', (ROW.take 16)] S) := by
  have hk1 : (ROW.take 16).length = 16 := by rw [List.length_take, hR.1]; rfl
  have hk8 := hR.2.take 16
  have hd : (it d16 0 (nr - 16) ROW).length = 112 ∧ by8 (it d16 0 (nr - 16) ROW) := ⟨by rw [it_len d16_len]; exact hR.1, it_inv by8 _ 0 ROW (fun j S _ _ hS => hS.set (hS.at _)) hR.2⟩
  obtain ⟨c1, c2⟩ := cro_ok hT.2 W (ROW.take 16) (nr - 16) hd.2
  have hr2 : ((mop T W nr ROW)).length = 112 ∧ by8 (mop T W nr ROW) := by
    unfold mop
    exact ⟨c1.trans hd.1, c2⟩
  obtain ⟨j1, j2⟩ := mjo_ok hT.2 W IS hI.2 nt (hr2.2.take (nr - 16))
  refine Con.of (by decide) rfl rfl (L := [some (.ref (zA (gz g) 44)), none, none]) rfl (fun f C => ?_)
  have cmp : ∀ (d k l : Nat) (b : Bool) (B V Y Q : List Nat), k + d = 16 → bm16 (B, V) → Y.length = 112 ∧ by8 Y → Q.length = 16 ∧ by8 Q → it (eqs (mjo T W IB IS nt ((mop T W nr ROW).take (nr - 16))) (ROW.take 16)) k d b = (it (eqs (mjo T W IB IS nt ((mop T W nr ROW).take (nr - 16))) (ROW.take 16)) 0 16 true) → X g f M_Model_openMarked (0, 0) (fun o h' => o = .returned (some (.int (nI (if (it (eqs (mjo T W IB IS nt ((mop T W nr ROW).take (nr - 16))) (ROW.take 16)) 0 16 true) then 1 else 0)))) ∧ ∃ (l : Nat) (B' M' T' S' : List Nat), bm16 (B', M') ∧ T'.length = 112 ∧ by8 T' ∧ S'.length = 16 ∧ by8 S' ∧ h' = mh g P cd ni no nt (nr - 16) l [W, T, U, IN, OUT, IS, IB, B', M', (mop T W nr ROW), T', (mjo T W IB IS nt ((mop T W nr ROW).take (nr - 16))), S', (ROW.take 16)] S) (0, 0) 80 [some (.ref (zA (gz g) 44)), some (.int (nI (if b then 1 else 0))), some (.int (nI k))] [] (mh g P cd ni no nt (nr - 16) l [W, T, U, IN, OUT, IS, IB, B, V, (mop T W nr ROW), Y, (mjo T W IB IS nt ((mop T W nr ROW).take (nr - 16))), Q, (ROW.take 16)] S) := by
    intro d
    induction d with
    | zero =>
      intro k l b B V Y Q hkd hB hY hQ he
      rw [it_zero] at he
      rw [he]
      have hz : narrow .boolean (.int (nI (if (it (eqs (mjo T W IB IS nt ((mop T W nr ROW).take (nr - 16))) (ROW.take 16)) 0 16 true) then 1 else 0))) = .int (nI (if (it (eqs (mjo T W IB IS nt ((mop T W nr ROW).take (nr - 16))) (ROW.take 16)) 0 16 true) then 1 else 0)) := by
        split <;> decide +kernel
      refine x_iload_n (pc := 80) C (dq D_Model_openMarked 47 rfl) rfl ?_
      refine x_bipush (pc := 81) C (dq D_Model_openMarked 48 rfl) cb_16 ?_
      refine n_ge_t (pc := 83) (tgt := 117) C (dq D_Model_openMarked 49 rfl) (by decide) (by omega) (by omega) ?_
      refine x_iload_n (pc := 117) C (dq D_Model_openMarked 67 rfl) rfl ?_
      exact x_zret (pc := 118) C (dq D_Model_openMarked 68 rfl) rfl hz (by decide) ⟨rfl, l, B, V, Y, Q, hB, hY.1, hY.2, hQ.1, hQ.2, rfl⟩
    | succ d ih =>
      intro k l b B V Y Q hkd hB hY hQ he
      have v1 := j2.at k
      have v2 := hk8.at k
      have fin : ∀ b' : Bool, b' = eqs (mjo T W IB IS nt ((mop T W nr ROW).take (nr - 16))) (ROW.take 16) k b → X g f M_Model_openMarked (0, 0) (fun o h' => o = .returned (some (.int (nI (if (it (eqs (mjo T W IB IS nt ((mop T W nr ROW).take (nr - 16))) (ROW.take 16)) 0 16 true) then 1 else 0)))) ∧ ∃ (l : Nat) (B' M' T' S' : List Nat), bm16 (B', M') ∧ T'.length = 112 ∧ by8 T' ∧ S'.length = 16 ∧ by8 S' ∧ h' = mh g P cd ni no nt (nr - 16) l [W, T, U, IN, OUT, IS, IB, B', M', (mop T W nr ROW), T', (mjo T W IB IS nt ((mop T W nr ROW).take (nr - 16))), S', (ROW.take 16)] S) (0, 0) 110 [some (.ref (zA (gz g) 44)), some (.int (nI (if b then 1 else 0))), some (.int (nI k))] [.int (nI (if b' then 1 else 0))] (mh g P cd ni no nt (nr - 16) l [W, T, U, IN, OUT, IS, IB, B, V, (mop T W nr ROW), Y, (mjo T W IB IS nt ((mop T W nr ROW).take (nr - 16))), Q, (ROW.take 16)] S) := by
        intro b' hb'
        refine x_istore_n (i := 1) (pc := 110) C (dq D_Model_openMarked 64 rfl) rfl rfl rfl ?_
        simp only [List.set_cons_zero, List.set_cons_succ]
        refine x_iinc (pc := 111) C (dq D_Model_openMarked 65 rfl) rfl (ii_1 _) rfl rfl ?_
        simp only [List.set_cons_zero, List.set_cons_succ]
        refine x_goto (pc := 114) (tgt := 80) C (dq D_Model_openMarked 66 rfl) (by decide) ?_
        refine ih (k + 1) l b' B V Y Q (by omega) hB hY hQ ?_
        rw [hb']
        exact he
      cases b with
      | false =>
        have e1 : (nI (if false = true then 1 else 0)) = nI 0 := rfl
        rw [e1] at fin ⊢
        refine x_iload_n (pc := 80) C (dq D_Model_openMarked 47 rfl) rfl ?_
        refine x_bipush (pc := 81) C (dq D_Model_openMarked 48 rfl) cb_16 ?_
        refine n_ge_f (pc := 83) (tgt := 117) C (dq D_Model_openMarked 49 rfl) (by decide) (by omega) (by omega) ?_
        refine x_iload_n (pc := 86) C (dq D_Model_openMarked 50 rfl) rfl ?_
        refine n_ifeq_t (pc := 87) (tgt := 109) C (dq D_Model_openMarked 51 rfl) (by decide) (by omega) (by omega) ?_
        refine x_iconst (pc := 109) C (dq D_Model_openMarked 63 rfl) ci_0 ?_
        exact fin false rfl
      | true =>
        have e1 : (nI (if true = true then 1 else 0)) = nI 1 := rfl
        rw [e1] at fin ⊢
        refine x_iload_n (pc := 80) C (dq D_Model_openMarked 47 rfl) rfl ?_
        refine x_bipush (pc := 81) C (dq D_Model_openMarked 48 rfl) cb_16 ?_
        refine n_ge_f (pc := 83) (tgt := 117) C (dq D_Model_openMarked 49 rfl) (by decide) (by omega) (by omega) ?_
        refine x_iload_n (pc := 86) C (dq D_Model_openMarked 50 rfl) rfl ?_
        refine n_ifeq_f (pc := 87) (tgt := 109) C (dq D_Model_openMarked 51 rfl) (by decide) (by omega) (by omega) ?_
        refine x_aload_n (pc := 90) C (dq D_Model_openMarked 52 rfl) rfl ?_
        refine x_get (pc := 91) (ci := 1) (j := 17) C (dq D_Model_openMarked 53 rfl) rfl rfl (by first | exact mo hP | exact ma hP rfl rfl) rfl k_fl_Model_43 ?_
        refine x_iload_n (pc := 94) C (dq D_Model_openMarked 54 rfl) rfl ?_
        refine x_iald (pc := 95) C (dq D_Model_openMarked 55 rfl) (by first | exact mo hP | exact ma hP rfl rfl) (by (try simp only [List.length_set]); omega) ?_
        refine x_aload_n (pc := 96) C (dq D_Model_openMarked 56 rfl) rfl ?_
        refine x_get (pc := 97) (ci := 1) (j := 19) C (dq D_Model_openMarked 57 rfl) rfl rfl (by first | exact mo hP | exact ma hP rfl rfl) rfl k_fl_Model_49 ?_
        refine x_iload_n (pc := 100) C (dq D_Model_openMarked 58 rfl) rfl ?_
        refine x_iald (pc := 101) C (dq D_Model_openMarked 59 rfl) (by first | exact mo hP | exact ma hP rfl rfl) (by (try simp only [List.length_set]); omega) ?_
        refine n_ne (pc := 102) (tgt := 109) C (dq D_Model_openMarked 60 rfl) (by decide) (by omega) (fun hq => ?_) (fun hq => ?_)
        · refine x_iconst (pc := 109) C (dq D_Model_openMarked 63 rfl) ci_0 ?_
          exact fin false (by unfold eqs; rw [decide_eq_false hq]; rfl)
        · refine x_iconst (pc := 105) C (dq D_Model_openMarked 61 rfl) ci_1 ?_
          refine x_goto (pc := 106) (tgt := 110) C (dq D_Model_openMarked 62 rfl) (by decide) ?_
          exact fin true (by unfold eqs; rw [decide_eq_true hq]; rfl)
  have move : ∀ (d k : Nat) (R : List Nat) (l2 : Option Value), k + d = nr - 16 → R.length = 112 → it d16 k d R = it d16 0 (nr - 16) ROW → X g f M_Model_openMarked (0, 0) (fun o h' => o = .returned (some (.int (nI (if (it (eqs (mjo T W IB IS nt ((mop T W nr ROW).take (nr - 16))) (ROW.take 16)) 0 16 true) then 1 else 0)))) ∧ ∃ (l : Nat) (B' M' T' S' : List Nat), bm16 (B', M') ∧ T'.length = 112 ∧ by8 T' ∧ S'.length = 16 ∧ by8 S' ∧ h' = mh g P cd ni no nt (nr - 16) l [W, T, U, IN, OUT, IS, IB, B', M', (mop T W nr ROW), T', (mjo T W IB IS nt ((mop T W nr ROW).take (nr - 16))), S', (ROW.take 16)] S) (0, 0) 39 [some (.ref (zA (gz g) 44)), some (.int (nI k)), l2] [] (mh g P cd ni no nt (nr - 16) nl [W, T, U, IN, OUT, IS, IB, BL, MV, R, TX, MA, SM, (ROW.take 16)] S) := by
    intro d
    induction d with
    | zero =>
      intro k R l2 hkd hR0 he
      rw [it_zero] at he
      rw [he]
      refine x_iload_n (pc := 39) C (dq D_Model_openMarked 23 rfl) rfl ?_
      refine x_aload_n (pc := 40) C (dq D_Model_openMarked 24 rfl) rfl ?_
      refine x_get (pc := 41) (ci := 1) (j := 13) C (dq D_Model_openMarked 25 rfl) rfl rfl (mo hP) rfl k_fl_Model_100 ?_
      refine n_ge_t (pc := 44) (tgt := 68) C (dq D_Model_openMarked 26 rfl) (by decide) (by omega) (by omega) ?_
      refine x_aload_n (pc := 68) C (dq D_Model_openMarked 39 rfl) rfl ?_
      refine x_cV (pc := 69) (ci := 1) (M := M_Model_cross) C (dq D_Model_openMarked 40 rfl) k_ml_Model_108 m_Model_cross rfl rfl (mo hP) (cm_cross hP hW hT hU hb ⟨hk1, hk8⟩ hd.1 (by omega)) rfl rfl rfl rfl (by decide) (fun o h2 hp => ?_)
      obtain ⟨rfl, B2, V2, hB2, rfl⟩ := hp
      refine ⟨none, rfl, ?_⟩
      show X g f M_Model_openMarked (0, 0) (fun o h' => o = .returned (some (.int (nI (if (it (eqs (mjo T W IB IS nt ((mop T W nr ROW).take (nr - 16))) (ROW.take 16)) 0 16 true) then 1 else 0)))) ∧ ∃ (l : Nat) (B' M' T' S' : List Nat), bm16 (B', M') ∧ T'.length = 112 ∧ by8 T' ∧ S'.length = 16 ∧ by8 S' ∧ h' = mh g P cd ni no nt (nr - 16) l [W, T, U, IN, OUT, IS, IB, B', M', (mop T W nr ROW), T', (mjo T W IB IS nt ((mop T W nr ROW).take (nr - 16))), S', (ROW.take 16)] S) (0, 0) 72 [some (.ref (zA (gz g) 44)), some (.int (nI k)), l2] [] (mh g P cd ni no nt (nr - 16) nl [W, T, U, IN, OUT, IS, IB, B2, V2, (mop T W nr ROW), TX, MA, SM, (ROW.take 16)] S)
      refine x_aload_n (pc := 72) C (dq D_Model_openMarked 41 rfl) rfl ?_
      refine x_cV (pc := 73) (ci := 1) (M := M_Model_markJointly) C (dq D_Model_openMarked 42 rfl) k_ml_Model_105 m_Model_markJointly rfl rfl (mo hP) (cm_markJointly hP hW hT hU hB2 hTX hMA hSM hI hIS hnt hr2 (by omega)) rfl rfl rfl rfl (by decide) (fun o h2 hp => ?_)
      obtain ⟨rfl, l, B3, V3, T3, S3, q1, q2, q3, q4, q5, rfl⟩ := hp
      refine ⟨none, rfl, ?_⟩
      show X g f M_Model_openMarked (0, 0) (fun o h' => o = .returned (some (.int (nI (if (it (eqs (mjo T W IB IS nt ((mop T W nr ROW).take (nr - 16))) (ROW.take 16)) 0 16 true) then 1 else 0)))) ∧ ∃ (l : Nat) (B' M' T' S' : List Nat), bm16 (B', M') ∧ T'.length = 112 ∧ by8 T' ∧ S'.length = 16 ∧ by8 S' ∧ h' = mh g P cd ni no nt (nr - 16) l [W, T, U, IN, OUT, IS, IB, B', M', (mop T W nr ROW), T', (mjo T W IB IS nt ((mop T W nr ROW).take (nr - 16))), S', (ROW.take 16)] S) (0, 0) 76 [some (.ref (zA (gz g) 44)), some (.int (nI k)), l2] [] (mh g P cd ni no nt (nr - 16) l [W, T, U, IN, OUT, IS, IB, B3, V3, (mop T W nr ROW), T3, (mjo T W IB IS nt ((mop T W nr ROW).take (nr - 16))), S3, (ROW.take 16)] S)
      refine x_iconst (pc := 76) C (dq D_Model_openMarked 43 rfl) ci_1 ?_
      refine x_istore_n (i := 1) (pc := 77) C (dq D_Model_openMarked 44 rfl) rfl rfl rfl ?_
      simp only [List.set_cons_zero, List.set_cons_succ]
      refine x_iconst (pc := 78) C (dq D_Model_openMarked 45 rfl) ci_0 ?_
      refine x_istore_n (i := 2) (pc := 79) C (dq D_Model_openMarked 46 rfl) rfl rfl rfl ?_
      simp only [List.set_cons_zero, List.set_cons_succ]
      exact cmp 16 0 l true B3 V3 T3 S3 rfl q1 ⟨q2, q3⟩ ⟨q4, q5⟩ rfl
    | succ d ih =>
      intro k R l2 hkd hR0 he
      refine x_iload_n (pc := 39) C (dq D_Model_openMarked 23 rfl) rfl ?_
      refine x_aload_n (pc := 40) C (dq D_Model_openMarked 24 rfl) rfl ?_
      refine x_get (pc := 41) (ci := 1) (j := 13) C (dq D_Model_openMarked 25 rfl) rfl rfl (by first | exact mo hP | exact ma hP rfl rfl) rfl k_fl_Model_100 ?_
      refine n_ge_f (pc := 44) (tgt := 68) C (dq D_Model_openMarked 26 rfl) (by decide) (by omega) (by omega) ?_
      refine x_aload_n (pc := 47) C (dq D_Model_openMarked 27 rfl) rfl ?_
      refine x_get (pc := 48) (ci := 1) (j := 14) C (dq D_Model_openMarked 28 rfl) rfl rfl (by first | exact mo hP | exact ma hP rfl rfl) rfl k_fl_Model_37 ?_
      refine x_iload_n (pc := 51) C (dq D_Model_openMarked 29 rfl) rfl ?_
      refine x_aload_n (pc := 52) C (dq D_Model_openMarked 30 rfl) rfl ?_
      refine x_get (pc := 53) (ci := 1) (j := 14) C (dq D_Model_openMarked 31 rfl) rfl rfl (by first | exact mo hP | exact ma hP rfl rfl) rfl k_fl_Model_37 ?_
      refine x_iload_n (pc := 56) C (dq D_Model_openMarked 32 rfl) rfl ?_
      refine x_bipush (pc := 57) C (dq D_Model_openMarked 33 rfl) cb_16 ?_
      refine n_iadd (pc := 59) C (dq D_Model_openMarked 34 rfl) ?_
      refine x_iald (pc := 60) C (dq D_Model_openMarked 35 rfl) (by first | exact mo hP | exact ma hP rfl rfl) (by (try simp only [List.length_set]); omega) ?_
      refine x_iast (pc := 61) C (dq D_Model_openMarked 36 rfl) (by first | exact mo hP | exact ma hP rfl rfl) (by (try simp only [List.length_set]); omega) ?_
      try rw [List.set_set]
      refine x_iinc (pc := 62) C (dq D_Model_openMarked 37 rfl) rfl (ii_1 _) rfl rfl ?_
      simp only [List.set_cons_zero, List.set_cons_succ]
      rw [mh_s hP rfl rfl]
      simp only [Nat.reduceSub, List.set_cons_zero, List.set_cons_succ]
      refine x_goto (pc := 65) (tgt := 39) C (dq D_Model_openMarked 38 rfl) (by decide) ?_
      exact ih (k + 1) (d16 k R) l2 (by omega) (by rw [d16_len]; exact hR0) he
  have keep : ∀ (d k : Nat) (K : List Nat) (l2 : Option Value), k + d = 16 → K.length = 16 → it (cp1 ROW) k d K = ROW.take 16 → X g f M_Model_openMarked (0, 0) (fun o h' => o = .returned (some (.int (nI (if (it (eqs (mjo T W IB IS nt ((mop T W nr ROW).take (nr - 16))) (ROW.take 16)) 0 16 true) then 1 else 0)))) ∧ ∃ (l : Nat) (B' M' T' S' : List Nat), bm16 (B', M') ∧ T'.length = 112 ∧ by8 T' ∧ S'.length = 16 ∧ by8 S' ∧ h' = mh g P cd ni no nt (nr - 16) l [W, T, U, IN, OUT, IS, IB, B', M', (mop T W nr ROW), T', (mjo T W IB IS nt ((mop T W nr ROW).take (nr - 16))), S', (ROW.take 16)] S) (0, 0) 2 [some (.ref (zA (gz g) 44)), some (.int (nI k)), l2] [] (mh g P cd ni no nt nr nl [W, T, U, IN, OUT, IS, IB, BL, MV, ROW, TX, MA, SM, K] S) := by
    intro d
    induction d with
    | zero =>
      intro k K l2 hkd hK he
      rw [it_zero] at he
      rw [he]
      refine x_iload_n (pc := 2) C (dq D_Model_openMarked 2 rfl) rfl ?_
      refine x_bipush (pc := 3) C (dq D_Model_openMarked 3 rfl) cb_16 ?_
      refine n_ge_t (pc := 5) (tgt := 26) C (dq D_Model_openMarked 4 rfl) (by decide) (by omega) (by omega) ?_
      refine x_aload_n (pc := 26) C (dq D_Model_openMarked 15 rfl) rfl ?_
      refine x_aload_n (pc := 27) C (dq D_Model_openMarked 16 rfl) rfl ?_
      refine x_get (pc := 28) (ci := 1) (j := 13) C (dq D_Model_openMarked 17 rfl) rfl rfl (mo hP) rfl k_fl_Model_100 ?_
      refine x_bipush (pc := 31) C (dq D_Model_openMarked 18 rfl) cb_16 ?_
      refine n_isub (pc := 33) C (dq D_Model_openMarked 19 rfl) (by omega) ?_
      refine x_put (pc := 34) (ci := 1) (j := 13) (ty := .int) C (dq D_Model_openMarked 20 rfl) rfl rfl (mo hP) rfl k_fl_Model_100 (Or.inl rfl) (by decide +kernel) rfl rfl ?_
      simp only [List.set_cons_zero, List.set_cons_succ]
      rw [mh_p hP]
      refine x_iconst (pc := 37) C (dq D_Model_openMarked 21 rfl) ci_0 ?_
      refine x_istore_n (i := 1) (pc := 38) C (dq D_Model_openMarked 22 rfl) rfl rfl rfl ?_
      simp only [List.set_cons_zero, List.set_cons_succ]
      exact move (nr - 16) 0 ROW l2 (by omega) hR.1 rfl
    | succ d ih =>
      intro k K l2 hkd hK he
      have hR1 := hR.1
      refine x_iload_n (pc := 2) C (dq D_Model_openMarked 2 rfl) rfl ?_
      refine x_bipush (pc := 3) C (dq D_Model_openMarked 3 rfl) cb_16 ?_
      refine n_ge_f (pc := 5) (tgt := 26) C (dq D_Model_openMarked 4 rfl) (by decide) (by omega) (by omega) ?_
      refine x_aload_n (pc := 8) C (dq D_Model_openMarked 5 rfl) rfl ?_
      refine x_get (pc := 9) (ci := 1) (j := 19) C (dq D_Model_openMarked 6 rfl) rfl rfl (by first | exact mo hP | exact ma hP rfl rfl) rfl k_fl_Model_49 ?_
      refine x_iload_n (pc := 12) C (dq D_Model_openMarked 7 rfl) rfl ?_
      refine x_aload_n (pc := 13) C (dq D_Model_openMarked 8 rfl) rfl ?_
      refine x_get (pc := 14) (ci := 1) (j := 14) C (dq D_Model_openMarked 9 rfl) rfl rfl (by first | exact mo hP | exact ma hP rfl rfl) rfl k_fl_Model_37 ?_
      refine x_iload_n (pc := 17) C (dq D_Model_openMarked 10 rfl) rfl ?_
      refine x_iald (pc := 18) C (dq D_Model_openMarked 11 rfl) (by first | exact mo hP | exact ma hP rfl rfl) (by (try simp only [List.length_set]); omega) ?_
      refine x_iast (pc := 19) C (dq D_Model_openMarked 12 rfl) (by first | exact mo hP | exact ma hP rfl rfl) (by (try simp only [List.length_set]); omega) ?_
      try rw [List.set_set]
      refine x_iinc (pc := 20) C (dq D_Model_openMarked 13 rfl) rfl (ii_1 _) rfl rfl ?_
      simp only [List.set_cons_zero, List.set_cons_succ]
      rw [mh_s hP rfl rfl]
      simp only [Nat.reduceSub, List.set_cons_zero, List.set_cons_succ]
      refine x_goto (pc := 23) (tgt := 2) C (dq D_Model_openMarked 14 rfl) (by decide) ?_
      exact ih (k + 1) (cp1 ROW k K) l2 (by omega) (by rw [cp1_len]; exact hK) he
  refine x_iconst (pc := 0) C (dq D_Model_openMarked 0 rfl) ci_0 ?_
  refine x_istore_n (i := 1) (pc := 1) C (dq D_Model_openMarked 1 rfl) rfl rfl rfl ?_
  simp only [List.set_cons_zero, List.set_cons_succ]
  exact keep 16 0 KP none rfl hKP.1 (cp16T (by rw [hR.1]; decide) hKP.1)
