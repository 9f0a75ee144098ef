/-! The reference's large calls: cipher, mark, seal, open; its scratch apart. -/
/-- the reference's cells, its scratch anyhow -/
def mok (g : Gp) (P S : Hp) (T U : List Nat) (cd ni no nt : Nat) (W IN OUT IS IB : List Nat) (h : Hp) : Prop :=
  ∃ (nr nl : Nat) (BL MV ROW TX MA SM KP : List Nat), bm16 (BL, MV) ∧ (ROW.length = 112 ∧ by8 ROW) ∧ (TX.length = 112 ∧ by8 TX) ∧ (MA.length = 16 ∧ by8 MA) ∧ (SM.length = 16 ∧ by8 SM) ∧ (KP.length = 16 ∧ by8 KP) ∧ h = mh g P cd ni no nt nr nl [W, T, U, IN, OUT, IS, IB, BL, MV, ROW, TX, MA, SM, KP] S
/-- what the reference holds between calls -/
def mst0 (T U : List Nat) (ni no nt : Nat) (W IN OUT IS IB : List Nat) : Prop :=
  (T.length = 256 ∧ by8 T) ∧ (U.length = 256 ∧ by8 U) ∧ (W.length = 88 ∧ by32 W) ∧ (IN.length = 88 ∧ by8 IN) ∧ (OUT.length = 112 ∧ by8 OUT) ∧ (IS.length = 5 ∧ ∀ i, IS.getD i 0 ≤ 40) ∧ (IB.length = 200 ∧ by8 IB) ∧ ni ≤ 88 ∧ no ≤ 88 ∧ nt ≤ 5
/-- a row that begins with the input -/
def rin (IN : List Nat) (ni : Nat) (R : List Nat) : Prop := R.length = 112 ∧ by8 R ∧ R.take ni = IN.take ni
theorem rin_begin {IN ROW : List Nat} {ni : Nat} (hI : IN.length = 88 ∧ by8 IN) (hR : ROW.length = 112 ∧ by8 ROW) (hn : ni ≤ 88) : rin IN ni (it (cp1 IN) 0 ni ROW) := by
  refine ⟨by rw [it_len (cp1_len IN)]; exact hR.1, cp1_8 hI.2 0 ni hR.2, ?_⟩
  have h := cp1_take (R := IN) ni 0 ROW (by omega) (by omega) (by simp)
  rw [Nat.zero_add] at h
  exact h
theorem show_take {R OUT : List Nat} {n : Nat} (hO : OUT.length = 112) (hR : R.length = 112) (hn : n ≤ 112) : (it (cp1 R) 0 n OUT).take n = R.take n := by
  have h := cp1_take (R := R) n 0 OUT (by omega) (by omega) (by simp)
  rw [Nat.zero_add] at h
  exact h
/-- an end of a call of the reference with a new output -/
def mout (g : Gp) (P S : Hp) (T U : List Nat) (ni nt : Nat) (W IN IS IB : List Nat) (r : Option Value) (n : Nat) (L : List Nat) : Outcome → Hp → Prop :=
  fun o h' => o = .returned r ∧ ∃ OUT', (OUT'.length = 112 ∧ by8 OUT') ∧ OUT'.take n = L ∧ mok g P S T U 0 ni n nt W IN OUT' IS IB h'
theorem cq_cipher {g : Gp} {P S : Hp} {T U : List Nat} {cd ni no nt : Nat} {W IN OUT IS IB : List Nat} {h : Hp} {bk : Nat} (hP : P.length = 44) (hs : mst0 T U ni no nt W IN OUT IS IB) (hm : mok g P S T U cd ni no nt W IN OUT IS IB h) (h16 : ni = 16) (hk : bk < 2) :
    Con g M_Model_cipher 3 (0, 0) [.ref (zA (gz g) 44), .int (nI bk)] h (mout g P S T U ni nt W IN IS IB none 16 (if bk = 0 then enc T W 0 (IN.take 16) else dec U W 0 (IN.take 16))) := by
  obtain ⟨nr, nl, BL, MV, ROW, TX, MA, SM, KP, hb, hR, hTX, hMA, hSM, hKP, rfl⟩ := hm
  obtain ⟨sT, sU, sW, sI, sO, sIS, sIB, sni, sno, snt⟩ := hs
  have hr := rin_begin sI hR sni
  generalize hR0 : it (cp1 IN) 0 ni ROW = R0 at hr
  have hr1 := hr.1
  refine Con.of (by decide) rfl rfl (L := [some (.ref (zA (gz g) 44)), some (.int (nI bk)), none]) rfl (fun f C => ?_)
  refine x_aload_n (pc := 0) C (dq D_Model_cipher 0 rfl) rfl ?_
  refine x_aload_n (pc := 1) C (dq D_Model_cipher 1 rfl) rfl ?_
  refine x_get (pc := 2) (ci := 1) (j := 4) C (dq D_Model_cipher 2 rfl) rfl rfl (mo hP) rfl k_fl_Model_133 ?_
  refine x_bipush (pc := 5) C (dq D_Model_cipher 3 rfl) cb_16 ?_
  refine n_eq_t (pc := 7) (tgt := 14) C (dq D_Model_cipher 4 rfl) (by decide) (by omega) (by omega) ?_
  refine x_iconst (pc := 14) C (dq D_Model_cipher 7 rfl) ci_0 ?_
  refine x_put (pc := 15) (ci := 1) (j := 0) (ty := .int) C (dq D_Model_cipher 8 rfl) rfl rfl (mo hP) rfl k_fl_Model_64 (Or.inl rfl) (by decide +kernel) rfl rfl ?_
  simp only [List.set_cons_zero, List.set_cons_succ]
  rw [mh_p hP]
  refine x_aload_n (pc := 18) C (dq D_Model_cipher 9 rfl) rfl ?_
  refine x_get (pc := 19) (ci := 1) (j := 0) C (dq D_Model_cipher 10 rfl) rfl rfl (mo hP) rfl k_fl_Model_64 ?_
  refine n_ifle_t (pc := 22) (tgt := 26) C (dq D_Model_cipher 11 rfl) (by decide) (by omega) (by omega) ?_
  refine x_aload_n (pc := 26) C (dq D_Model_cipher 13 rfl) rfl ?_
  refine x_cV0 (pc := 27) (ci := 1) (M := M_Model_begin) C (dq D_Model_cipher 14 rfl) k_ml_Model_139 m_Model_begin rfl rfl (mo hP) (cm_begin hP sI.1 sni hR.1) rfl rfl rfl rfl (by decide) ?_
  rw [hR0]
  refine x_aload_n (pc := 30) C (dq D_Model_cipher 15 rfl) rfl ?_
  refine x_iload_n (pc := 31) C (dq D_Model_cipher 16 rfl) rfl ?_
  refine x_cV (pc := 32) (ci := 1) (M := M_Model_single) C (dq D_Model_cipher 17 rfl) k_ml_Model_120 m_Model_single rfl rfl (mo hP) (cm_single hP sW sT sU hb ⟨hr.1, hr.2.1⟩ hk) rfl rfl rfl rfl (by decide) (fun o h2 hp => ?_)
  obtain ⟨rfl, B2, V2, hB2, rfl⟩ := hp
  refine ⟨none, rfl, ?_⟩
  have e0 : R0.take 16 = IN.take 16 := by have := hr.2.2; rw [h16] at this; exact this
  rw [e0]
  have ht : (IN.take 16).length = 16 := by rw [List.length_take, sI.1]; rfl
  have hK : (if bk = 0 then enc T W 0 (IN.take 16) else dec U W 0 (IN.take 16)).length = 16 ∧ by8 (if bk = 0 then enc T W 0 (IN.take 16) else dec U W 0 (IN.take 16)) := by
    split
    · exact enc_ok sT.2 W 0 ht (sI.2.take 16)
    · exact dec_ok sU.2 W 0 ht (sI.2.take 16)
  generalize (if bk = 0 then enc T W 0 (IN.take 16) else dec U W 0 (IN.take 16)) = K at hK ⊢
  obtain ⟨g1, g2⟩ := sgl_ok hK.2 hr.2.1
  have g3 : (sgl K R0).take 16 = K := by
    unfold sgl
    have h := cp1_take (R := K) 16 0 R0 (by omega) (by omega) (by simp)
    rw [Nat.zero_add, List.take_of_length_le (l := K) (by omega)] at h
    exact h
  show X g f M_Model_cipher (0, 0) (mout g P S T U ni nt W IN IS IB none 16 K) (0, 0) 35 [some (.ref (zA (gz g) 44)), some (.int (nI bk)), none] [] (mh g P 0 ni no nt ni nl [W, T, U, IN, OUT, IS, IB, B2, V2, sgl K R0, TX, MA, SM, KP] S)
  refine x_aload_n (pc := 35) C (dq D_Model_cipher 18 rfl) rfl ?_
  refine x_cV1 (pc := 36) (ci := 1) (M := M_Model_show) C (dq D_Model_cipher 19 rfl) k_ml_Model_142 m_Model_show rfl rfl (mo hP) (cm_show hP sO.1 sni (g1.trans hr.1)) rfl rfl rfl rfl (by decide) ?_
  rw [h16]
  refine x_istore_n (i := 2) (pc := 39) C (dq D_Model_cipher 20 rfl) rfl rfl rfl ?_
  simp only [List.set_cons_zero, List.set_cons_succ]
  exact x_vret (pc := 40) C (dq D_Model_cipher 21 rfl) rfl (by decide) ⟨rfl, _, ⟨by rw [it_len (cp1_len _)]; exact sO.1, cp1_8 g2 0 16 sO.2⟩, (show_take sO.1 (g1.trans hr.1) (by omega)).trans g3, 16, nl, B2, V2, _, TX, MA, SM, KP, hB2, ⟨g1.trans hr.1, g2⟩, hTX, hMA, hSM, hKP, rfl⟩
theorem cq_cipher_bad {g : Gp} {P S : Hp} {T U : List Nat} {cd ni no nt : Nat} {W IN OUT IS IB : List Nat} {h : Hp} {x : Int32} (hP : P.length = 44) (hm : mok g P S T U cd ni no nt W IN OUT IS IB h) (h16 : ni ≠ 16) (hn : ni ≤ 88) :
    Con g M_Model_cipher 3 (0, 0) [.ref (zA (gz g) 44), .int x] h (fun o h' => o = .returned none ∧ mok g P S T U 1 ni no nt W IN OUT IS IB h') := by
  obtain ⟨nr, nl, BL, MV, ROW, TX, MA, SM, KP, hb, hR, hTX, hMA, hSM, hKP, rfl⟩ := hm
  refine Con.of (by decide) rfl rfl (L := [some (.ref (zA (gz g) 44)), some (.int x), none]) rfl (fun f C => ?_)
  refine x_aload_n (pc := 0) C (dq D_Model_cipher 0 rfl) rfl ?_
  refine x_aload_n (pc := 1) C (dq D_Model_cipher 1 rfl) rfl ?_
  refine x_get (pc := 2) (ci := 1) (j := 4) C (dq D_Model_cipher 2 rfl) rfl rfl (mo hP) rfl k_fl_Model_133 ?_
  refine x_bipush (pc := 5) C (dq D_Model_cipher 3 rfl) cb_16 ?_
  refine n_eq_f (pc := 7) (tgt := 14) C (dq D_Model_cipher 4 rfl) (by decide) (by omega) (by omega) ?_
  refine x_iconst (pc := 10) C (dq D_Model_cipher 5 rfl) ci_1 ?_
  refine x_goto (pc := 11) (tgt := 15) C (dq D_Model_cipher 6 rfl) (by decide) ?_
  refine x_put (pc := 15) (ci := 1) (j := 0) (ty := .int) C (dq D_Model_cipher 8 rfl) rfl rfl (mo hP) rfl k_fl_Model_64 (Or.inl rfl) (by decide +kernel) rfl rfl ?_
  simp only [List.set_cons_zero, List.set_cons_succ]
  rw [mh_p hP]
  refine x_aload_n (pc := 18) C (dq D_Model_cipher 9 rfl) rfl ?_
  refine x_get (pc := 19) (ci := 1) (j := 0) C (dq D_Model_cipher 10 rfl) rfl rfl (mo hP) rfl k_fl_Model_64 ?_
  refine n_ifle_f (pc := 22) (tgt := 26) C (dq D_Model_cipher 11 rfl) (by decide) (by omega) (by omega) ?_
  exact x_vret (pc := 25) C (dq D_Model_cipher 12 rfl) rfl (by decide) ⟨rfl, nr, nl, BL, MV, ROW, TX, MA, SM, KP, hb, hR, hTX, hMA, hSM, hKP, rfl⟩
set_option maxHeartbeats 4000000 in
theorem cq_mark {g : Gp} {P S : Hp} {T U : List Nat} {cd ni no nt : Nat} {W IN OUT IS IB : List Nat} {h : Hp} {jt : Nat} (hP : P.length = 44) (hs : mst0 T U ni no nt W IN OUT IS IB) (hm : mok g P S T U cd ni no nt W IN OUT IS IB h) (hk : jt < 2) :
    Con g M_Model_mark 4 (0, 0) [.ref (zA (gz g) 44), .int (nI jt)] h (mout g P S T U ni nt W IN IS IB none 16 (if jt = 0 then mk T W (IN.take ni) else mjo T W IB IS nt (IN.take ni))) := by
  obtain ⟨nr, nl, BL, MV, ROW, TX, MA, SM, KP, hb, hR, hTX, hMA, hSM, hKP, rfl⟩ := hm
  obtain ⟨sT, sU, sW, sI, sO, sIS, sIB, sni, sno, snt⟩ := hs
  have hr := rin_begin sI hR sni
  generalize hR0 : it (cp1 IN) 0 ni ROW = R0 at hr
  have hr1 := hr.1
  have hLL : ((if jt = 0 then mk T W (IN.take ni) else mjo T W IB IS nt (IN.take ni))).length = 16 ∧ by8 (if jt = 0 then mk T W (IN.take ni) else mjo T W IB IS nt (IN.take ni)) := by
    split
    · exact mk_ok sT.2 W (sI.2.take ni)
    · exact mjo_ok sT.2 W IS sIB.2 nt (sI.2.take ni)
  refine Con.of (by decide) rfl rfl (L := [some (.ref (zA (gz g) 44)), some (.int (nI jt)), none]) rfl (fun f C => ?_)
  have out : ∀ (d k n : Nat) (B V Y Q A O : List Nat), k + d = 16 → A = (if jt = 0 then mk T W (IN.take ni) else mjo T W IB IS nt (IN.take ni)) → bm16 (B, V) → (Y.length = 112 ∧ by8 Y) → (Q.length = 16 ∧ by8 Q) → (O.length = 112 ∧ by8 O) → (it (cp1 A) k d O).take 16 = (if jt = 0 then mk T W (IN.take ni) else mjo T W IB IS nt (IN.take ni)) → X g f M_Model_mark (0, 0) (mout g P S T U ni nt W IN IS IB none 16 (if jt = 0 then mk T W (IN.take ni) else mjo T W IB IS nt (IN.take ni))) (0, 0) 68 [some (.ref (zA (gz g) 44)), some (.int (nI jt)), some (.int (nI k))] [] (mh g P 0 ni 16 nt ni n [W, T, U, IN, O, IS, IB, B, V, R0, Y, A, Q, KP] S) := by
    intro d
    induction d with
    | zero =>
      intro k n B V Y Q A O hkd hA hB hY hQ hO he
      rw [it_zero] at he
      refine x_iload_n (pc := 68) C (dq D_Model_mark 37 rfl) rfl ?_
      refine x_bipush (pc := 69) C (dq D_Model_mark 38 rfl) cb_16 ?_
      refine n_ge_t (pc := 71) (tgt := 92) C (dq D_Model_mark 39 rfl) (by decide) (by omega) (by omega) ?_
      exact x_vret (pc := 92) C (dq D_Model_mark 50 rfl) rfl (by decide) ⟨rfl, O, hO, he, ni, n, B, V, R0, Y, A, Q, KP, hB, ⟨hr.1, hr.2.1⟩, hY, by rw [hA]; exact hLL, hQ, hKP, rfl⟩
    | succ d ih =>
      intro k n B V Y Q A O hkd hA hB hY hQ hO he
      have hAl : A.length = 16 := by rw [hA]; exact hLL.1
      have hA8 : by8 A := by rw [hA]; exact hLL.2
      have hOl := hO.1
      refine x_iload_n (pc := 68) C (dq D_Model_mark 37 rfl) rfl ?_
      refine x_bipush (pc := 69) C (dq D_Model_mark 38 rfl) cb_16 ?_
      refine n_ge_f (pc := 71) (tgt := 92) C (dq D_Model_mark 39 rfl) (by decide) (by omega) (by omega) ?_
      refine x_aload_n (pc := 74) C (dq D_Model_mark 40 rfl) rfl ?_
      refine x_get (pc := 75) (ci := 1) (j := 7) C (dq D_Model_mark 41 rfl) rfl rfl (by first | exact mo hP | exact ma hP rfl rfl) rfl k_fl_Model_22 ?_
      refine x_iload_n (pc := 78) C (dq D_Model_mark 42 rfl) rfl ?_
      refine x_aload_n (pc := 79) C (dq D_Model_mark 43 rfl) rfl ?_
      refine x_get (pc := 80) (ci := 1) (j := 17) C (dq D_Model_mark 44 rfl) rfl rfl (by first | exact mo hP | exact ma hP rfl rfl) rfl k_fl_Model_43 ?_
      refine x_iload_n (pc := 83) C (dq D_Model_mark 45 rfl) rfl ?_
      refine x_iald (pc := 84) C (dq D_Model_mark 46 rfl) (by first | exact mo hP | exact ma hP rfl rfl) (by (try simp only [List.length_set]); omega) ?_
      refine x_iast (pc := 85) C (dq D_Model_mark 47 rfl) (by first | exact mo hP | exact ma hP rfl rfl) (by (try simp only [List.length_set]); omega) ?_
      try rw [List.set_set]
      refine x_iinc (pc := 86) C (dq D_Model_mark 48 rfl) rfl (ii_1 _) rfl rfl ?_
      simp only [List.set_cons_zero, List.set_cons_succ]
      rw [mh_s hP rfl rfl]
      simp only [Nat.reduceSub, List.set_cons_zero, List.set_cons_succ]
      refine x_goto (pc := 89) (tgt := 68) C (dq D_Model_mark 49 rfl) (by decide) ?_
      exact ih (k + 1) n B V Y Q A (cp1 A k O) (by omega) hA hB hY hQ ⟨by rw [cp1_len]; exact hO.1, hO.2.set (hA8.at _)⟩ he
  have last : ∀ (n : Nat) (B V Y Q A : List Nat) (l2 : Option Value), A = (if jt = 0 then mk T W (IN.take ni) else mjo T W IB IS nt (IN.take ni)) → bm16 (B, V) → (Y.length = 112 ∧ by8 Y) → (Q.length = 16 ∧ by8 Q) → X g f M_Model_mark (0, 0) (mout g P S T U ni nt W IN IS IB none 16 (if jt = 0 then mk T W (IN.take ni) else mjo T W IB IS nt (IN.take ni))) (0, 0) 60 [some (.ref (zA (gz g) 44)), some (.int (nI jt)), l2] [] (mh g P 0 ni no nt ni n [W, T, U, IN, OUT, IS, IB, B, V, R0, Y, A, Q, KP] S) := by
    intro n B V Y Q A l2 hA hB hY hQ
    refine x_aload_n (pc := 60) C (dq D_Model_mark 32 rfl) rfl ?_
    refine x_bipush (pc := 61) C (dq D_Model_mark 33 rfl) cb_16 ?_
    refine x_put (pc := 63) (ci := 1) (j := 6) (ty := .int) C (dq D_Model_mark 34 rfl) rfl rfl (mo hP) rfl k_fl_Model_136 (Or.inl rfl) (by decide +kernel) rfl rfl ?_
    simp only [List.set_cons_zero, List.set_cons_succ]
    rw [mh_p hP]
    refine x_iconst (pc := 66) C (dq D_Model_mark 35 rfl) ci_0 ?_
    refine x_istore_n (i := 2) (pc := 67) C (dq D_Model_mark 36 rfl) rfl rfl rfl ?_
    simp only [List.set_cons_zero, List.set_cons_succ]
    refine out 16 0 n B V Y Q A OUT rfl hA hB hY hQ sO ?_
    have hAl : A.length = 16 := by rw [hA]; exact hLL.1
    have h := cp1_take (R := A) 16 0 OUT (by omega) (by omega) (by simp)
    rw [Nat.zero_add, List.take_of_length_le (l := A) (by omega), hA] at h
    rw [hA]
    exact h
  have text : ∀ (d k : Nat) (Y : List Nat), jt = 0 → k + d = ni → (Y.length = 112 ∧ by8 Y) → (it (cp1 R0) k d Y).take ni = IN.take ni → X g f M_Model_mark (0, 0) (mout g P S T U ni nt W IN IS IB none 16 (if jt = 0 then mk T W (IN.take ni) else mjo T W IB IS nt (IN.take ni))) (0, 0) 30 [some (.ref (zA (gz g) 44)), some (.int (nI jt)), some (.int (nI k))] [] (mh g P 0 ni no nt ni ni [W, T, U, IN, OUT, IS, IB, BL, MV, R0, Y, MA, SM, KP] S) := by
    intro d
    induction d with
    | zero =>
      intro k Y h0 hkd hY he
      rw [it_zero] at he
      refine x_iload_n (pc := 30) C (dq D_Model_mark 16 rfl) rfl ?_
      refine x_aload_n (pc := 31) C (dq D_Model_mark 17 rfl) rfl ?_
      refine x_get (pc := 32) (ci := 1) (j := 13) C (dq D_Model_mark 18 rfl) rfl rfl (mo hP) rfl k_fl_Model_100 ?_
      refine n_ge_t (pc := 35) (tgt := 56) C (dq D_Model_mark 19 rfl) (by decide) (by omega) (by omega) ?_
      refine x_aload_n (pc := 56) C (dq D_Model_mark 30 rfl) rfl ?_
      refine x_cV (pc := 57) (ci := 1) (M := M_Model_markText) C (dq D_Model_mark 31 rfl) k_ml_Model_91 m_Model_markText rfl rfl (mo hP) (cm_markText hP sW sT sU hb hY hMA.1 sni) rfl rfl rfl rfl (by decide) (fun o h2 hp => ?_)
      obtain ⟨rfl, B2, V2, T2, q1, q2, q3, rfl⟩ := hp
      refine ⟨none, rfl, ?_⟩
      rw [mmk_mk hY.1 sni, he]
      exact last ni B2 V2 T2 SM _ _ (if_pos h0).symm q1 ⟨q2, q3⟩ hSM
    | succ d ih =>
      intro k Y h0 hkd hY he
      have hYl := hY.1
      refine x_iload_n (pc := 30) C (dq D_Model_mark 16 rfl) rfl ?_
      refine x_aload_n (pc := 31) C (dq D_Model_mark 17 rfl) rfl ?_
      refine x_get (pc := 32) (ci := 1) (j := 13) C (dq D_Model_mark 18 rfl) rfl rfl (by first | exact mo hP | exact ma hP rfl rfl) rfl k_fl_Model_100 ?_
      refine n_ge_f (pc := 35) (tgt := 56) C (dq D_Model_mark 19 rfl) (by decide) (by omega) (by omega) ?_
      refine x_aload_n (pc := 38) C (dq D_Model_mark 20 rfl) rfl ?_
      refine x_get (pc := 39) (ci := 1) (j := 16) C (dq D_Model_mark 21 rfl) rfl rfl (by first | exact mo hP | exact ma hP rfl rfl) rfl k_fl_Model_40 ?_
      refine x_iload_n (pc := 42) C (dq D_Model_mark 22 rfl) rfl ?_
      refine x_aload_n (pc := 43) C (dq D_Model_mark 23 rfl) rfl ?_
      refine x_get (pc := 44) (ci := 1) (j := 14) C (dq D_Model_mark 24 rfl) rfl rfl (by first | exact mo hP | exact ma hP rfl rfl) rfl k_fl_Model_37 ?_
      refine x_iload_n (pc := 47) C (dq D_Model_mark 25 rfl) rfl ?_
      refine x_iald (pc := 48) C (dq D_Model_mark 26 rfl) (by first | exact mo hP | exact ma hP rfl rfl) (by (try simp only [List.length_set]); omega) ?_
      refine x_iast (pc := 49) C (dq D_Model_mark 27 rfl) (by first | exact mo hP | exact ma hP rfl rfl) (by (try simp only [List.length_set]); omega) ?_
      try rw [List.set_set]
      refine x_iinc (pc := 50) C (dq D_Model_mark 28 rfl) rfl (ii_1 _) rfl rfl ?_
      simp only [List.set_cons_zero, List.set_cons_succ]
      rw [mh_s hP rfl rfl]
      simp only [Nat.reduceSub, List.set_cons_zero, List.set_cons_succ]
      refine x_goto (pc := 53) (tgt := 30) C (dq D_Model_mark 29 rfl) (by decide) ?_
      exact ih (k + 1) (cp1 R0 k Y) h0 (by omega) ⟨by rw [cp1_len]; exact hY.1, hY.2.set (hr.2.1.at _)⟩ he
  refine x_aload_n (pc := 0) C (dq D_Model_mark 0 rfl) rfl ?_
  refine x_iconst (pc := 1) C (dq D_Model_mark 1 rfl) ci_0 ?_
  refine x_put (pc := 2) (ci := 1) (j := 0) (ty := .int) C (dq D_Model_mark 2 rfl) rfl rfl (mo hP) rfl k_fl_Model_64 (Or.inl rfl) (by decide +kernel) rfl rfl ?_
  simp only [List.set_cons_zero, List.set_cons_succ]
  rw [mh_p hP]
  refine x_aload_n (pc := 5) C (dq D_Model_mark 3 rfl) rfl ?_
  refine x_cV0 (pc := 6) (ci := 1) (M := M_Model_begin) C (dq D_Model_mark 4 rfl) k_ml_Model_139 m_Model_begin rfl rfl (mo hP) (cm_begin hP sI.1 sni hR.1) rfl rfl rfl rfl (by decide) ?_
  rw [hR0]
  by_cases h0 : jt = 0
  · refine x_iload_n (pc := 9) C (dq D_Model_mark 5 rfl) rfl ?_
    refine n_ifeq_t (pc := 10) (tgt := 20) C (dq D_Model_mark 6 rfl) (by decide) (by omega) (by omega) ?_
    refine x_aload_n (pc := 20) C (dq D_Model_mark 10 rfl) rfl ?_
    refine x_aload_n (pc := 21) C (dq D_Model_mark 11 rfl) rfl ?_
    refine x_get (pc := 22) (ci := 1) (j := 13) C (dq D_Model_mark 12 rfl) rfl rfl (mo hP) rfl k_fl_Model_100 ?_
    refine x_put (pc := 25) (ci := 1) (j := 15) (ty := .int) C (dq D_Model_mark 13 rfl) rfl rfl (mo hP) rfl k_fl_Model_81 (Or.inl rfl) (by decide +kernel) rfl rfl ?_
    simp only [List.set_cons_zero, List.set_cons_succ]
    rw [mh_p hP]
    refine x_iconst (pc := 28) C (dq D_Model_mark 14 rfl) ci_0 ?_
    refine x_istore_n (i := 2) (pc := 29) C (dq D_Model_mark 15 rfl) rfl rfl rfl ?_
    simp only [List.set_cons_zero, List.set_cons_succ]
    refine text ni 0 TX h0 (by omega) hTX ?_
    have h := cp1_take (R := R0) ni 0 TX (by omega) (by omega) (by simp)
    rw [Nat.zero_add, hr.2.2] at h
    exact h
  · refine x_iload_n (pc := 9) C (dq D_Model_mark 5 rfl) rfl ?_
    refine n_ifeq_f (pc := 10) (tgt := 20) C (dq D_Model_mark 6 rfl) (by decide) (by omega) (by omega) ?_
    refine x_aload_n (pc := 13) C (dq D_Model_mark 7 rfl) rfl ?_
    refine x_cV (pc := 14) (ci := 1) (M := M_Model_markJointly) C (dq D_Model_mark 8 rfl) k_ml_Model_105 m_Model_markJointly rfl rfl (mo hP) (cm_markJointly hP sW sT sU hb hTX hMA hSM sIB sIS snt ⟨hr.1, hr.2.1⟩ sni) rfl rfl rfl rfl (by decide) (fun o h2 hp => ?_)
    obtain ⟨rfl, l, B2, V2, T2, S2, q1, q2, q3, q4, q5, rfl⟩ := hp
    refine ⟨none, rfl, ?_⟩
    rw [hr.2.2]
    have e0 : mjo T W IB IS nt (IN.take ni) = (if jt = 0 then mk T W (IN.take ni) else mjo T W IB IS nt (IN.take ni)) := (if_neg h0).symm
    show X g f M_Model_mark (0, 0) (mout g P S T U ni nt W IN IS IB none 16 (if jt = 0 then mk T W (IN.take ni) else mjo T W IB IS nt (IN.take ni))) (0, 0) 17 [some (.ref (zA (gz g) 44)), some (.int (nI jt)), none] [] (mh g P 0 ni no nt ni l [W, T, U, IN, OUT, IS, IB, B2, V2, R0, T2, mjo T W IB IS nt (IN.take ni), S2, KP] S)
    refine x_goto (pc := 17) (tgt := 60) C (dq D_Model_mark 9 rfl) (by decide) ?_
    exact last l B2 V2 T2 S2 _ _ e0 q1 ⟨q2, q3⟩ ⟨q4, q5⟩
