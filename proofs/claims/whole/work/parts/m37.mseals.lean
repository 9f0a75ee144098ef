/-! The reference's seal and open. -/
/-- an end with a new output, made of a row that begins with the input -/
def mour (g : Gp) (P S : Hp) (T U : List Nat) (ni nt : Nat) (W IN IS IB : List Nat) (n : Nat) (raw : List Nat → List Nat) : Outcome → Hp → Prop :=
  fun o h' => o = .returned (some (.int (nI n))) ∧ ∃ R0 OUT', rin IN ni R0 ∧ (OUT'.length = 112 ∧ by8 OUT') ∧ OUT'.take n = (raw R0).take n ∧ mok g P S T U 0 ni n nt W IN OUT' IS IB h'
theorem msl_ok {T : List Nat} (hT : by8 T) (W : List Nat) {K : List Nat} (hK : by8 K) (n : Nat) {R : List Nat} (h : by8 R) : (msl T W K n R).length = R.length ∧ by8 (msl T W K n R) := by
  obtain ⟨a, b⟩ := cro_ok hT W K n h
  unfold msl
  refine ⟨by rw [it_len (fun i S => smv_len K (n + 15 - i) S)]; exact a, it_inv by8 _ 0 _ (fun j S _ _ hS => hS.set ?_) b⟩
  split
  · exact hK.at _
  · exact hS.at _
theorem mpw_ok {T : List Nat} (hT : by8 T) (W : List Nat) {n : Nat} (hn : n ≤ 64) {R : List Nat} (hl : R.length = 112) (h : by8 R) : (mpw T W n R).length = 112 ∧ by8 (mpw T W n R) := by
  obtain ⟨a, b⟩ := pdr_ok (n := n) (by omega) h
  have ht : ((pdr n R).take 16).length = 16 := by rw [List.length_take, a, hl]; rfl
  have hr8 : r8 n = (n + 7) / 8 * 8 := rfl
  unfold mpw
  split
  · obtain ⟨c, d⟩ := sgl_ok (enc_ok hT W 0 ht (b.take 16)).2 b
    exact ⟨c.trans (a.trans hl), d⟩
  · exact mwd_ok hT W (by omega) ⟨a.trans hl, b⟩
set_option maxHeartbeats 2000000 in
theorem cq_seal0 {g : Gp} {P S : Hp} {T U : List Nat} {cd ni no nt : Nat} {W IN OUT IS IB : List Nat} {h : Hp} (hP : P.length = 44) (hs : mst0 T U ni no nt W IN OUT IS IB) (hm : mok g P S T U cd ni no nt W IN OUT IS IB h) (hf : ni ≤ 64) :
    Con g M_Model_seal 5 (0, 0) [.ref (zA (gz g) 44), .int (nI 0)] h (mour g P S T U ni nt W IN IS IB (ni + 16) (fun R => msl T W (mjo T W IB IS nt (IN.take ni)) ni R)) := by
  obtain ⟨nr, nl, BL, MV, ROW, TX, MA, SM, KP, hb, hR, hTX, hMA, hSM, hKP, rfl⟩ := hm
  obtain ⟨sT, sU, sW, sI, sO, sIS, sIB, sni, sno, snt⟩ := hs
  have hr := rin_begin sI hR sni
  generalize hR0 : it (cp1 IN) 0 ni ROW = R0 at hr
  have hr1 := hr.1
  refine Con.of (by decide) rfl rfl (L := [some (.ref (zA (gz g) 44)), some (.int (nI 0)), none]) rfl (fun f C => ?_)
  have tail : ∀ (n2 : Nat) (B V Y A Q K : List Nat), bm16 (B, V) → (Y.length = 112 ∧ by8 Y) → (A.length = 16 ∧ by8 A) → (Q.length = 16 ∧ by8 Q) → (K.length = 16 ∧ by8 K) → ((msl T W (mjo T W IB IS nt (IN.take ni)) ni R0).length = 112 ∧ by8 (msl T W (mjo T W IB IS nt (IN.take ni)) ni R0)) → X g f M_Model_seal (0, 0) (mour g P S T U ni nt W IN IS IB (ni + 16) (fun R => msl T W (mjo T W IB IS nt (IN.take ni)) ni R)) (0, 0) 161 [some (.ref (zA (gz g) 44)), some (.int (nI 0)), some (.int (nI 1))] [] (mh g P 0 ni no nt (ni + 16) n2 [W, T, U, IN, OUT, IS, IB, B, V, msl T W (mjo T W IB IS nt (IN.take ni)) ni R0, Y, A, Q, K] S) := by
    intro n2 B V Y A Q K hB hY hA hQ hK hZ
    refine x_aload_n (pc := 161) C (dq D_Model_seal 80 rfl) rfl ?_
    refine x_cV1 (pc := 162) (ci := 1) (M := M_Model_show) C (dq D_Model_seal 81 rfl) k_ml_Model_142 m_Model_show rfl rfl (mo hP) (cm_show hP sO.1 (by omega) hZ.1) rfl rfl rfl rfl (by decide) ?_
    exact x_iret (pc := 165) C (dq D_Model_seal 82 rfl) rfl (by decide) ⟨rfl, R0, _, hr, ⟨by rw [it_len (cp1_len _)]; exact sO.1, cp1_8 hZ.2 0 _ sO.2⟩, show_take sO.1 hZ.1 (by omega), _, n2, B, V, _, Y, A, Q, K, hB, hZ, hY, hA, hQ, hK, rfl⟩
  refine x_iload_n (pc := 0) C (dq D_Model_seal 0 rfl) rfl ?_
  refine n_ifne_f (pc := 1) (tgt := 21) C (dq D_Model_seal 1 rfl) (by decide) (by omega) (by omega) ?_
  refine x_aload_n (pc := 4) C (dq D_Model_seal 2 rfl) rfl ?_
  refine x_get (pc := 5) (ci := 1) (j := 4) C (dq D_Model_seal 3 rfl) rfl rfl (mo hP) rfl k_fl_Model_133 ?_
  refine x_bipush (pc := 8) C (dq D_Model_seal 4 rfl) cb_64 ?_
  refine n_gt_f (pc := 10) (tgt := 17) C (dq D_Model_seal 5 rfl) (by decide) (by omega) (by omega) ?_
  refine x_iconst (pc := 13) C (dq D_Model_seal 6 rfl) ci_1 ?_
  refine x_goto (pc := 14) (tgt := 84) C (dq D_Model_seal 7 rfl) (by decide) ?_
  refine x_istore_n (i := 2) (pc := 84) C (dq D_Model_seal 41 rfl) rfl rfl rfl ?_
  simp only [List.set_cons_zero, List.set_cons_succ]
  refine x_aload_n (pc := 85) C (dq D_Model_seal 42 rfl) rfl ?_
  refine x_iload_n (pc := 86) C (dq D_Model_seal 43 rfl) rfl ?_
  refine n_iflt_f (pc := 87) (tgt := 95) C (dq D_Model_seal 44 rfl) (by decide) (by omega) (by omega) ?_
  refine x_iload_n (pc := 90) C (dq D_Model_seal 45 rfl) rfl ?_
  refine x_iconst (pc := 91) C (dq D_Model_seal 46 rfl) ci_2 ?_
  refine n_le_t (pc := 92) (tgt := 99) C (dq D_Model_seal 47 rfl) (by decide) (by omega) (by omega) ?_
  refine x_iload_n (pc := 99) C (dq D_Model_seal 50 rfl) rfl ?_
  refine n_ifne_t (pc := 100) (tgt := 107) C (dq D_Model_seal 51 rfl) (by decide) (by omega) (by omega) ?_
  refine x_iconst (pc := 107) C (dq D_Model_seal 54 rfl) ci_0 ?_
  refine x_put (pc := 108) (ci := 1) (j := 0) (ty := .int) C (dq D_Model_seal 55 rfl) rfl rfl (mo hP) rfl k_fl_Model_64 (Or.inl rfl) (by decide +kernel) rfl rfl ?_
  simp only [List.set_cons_zero, List.set_cons_succ]
  rw [mh_p hP]
  refine x_aload_n (pc := 111) C (dq D_Model_seal 56 rfl) rfl ?_
  refine x_get (pc := 112) (ci := 1) (j := 0) C (dq D_Model_seal 57 rfl) rfl rfl (mo hP) rfl k_fl_Model_64 ?_
  refine n_ifle_t (pc := 115) (tgt := 120) C (dq D_Model_seal 58 rfl) (by decide) (by omega) (by omega) ?_
  refine x_aload_n (pc := 120) C (dq D_Model_seal 61 rfl) rfl ?_
  refine x_cV0 (pc := 121) (ci := 1) (M := M_Model_begin) C (dq D_Model_seal 62 rfl) k_ml_Model_139 m_Model_begin rfl rfl (mo hP) (cm_begin hP sI.1 sni hR.1) rfl rfl rfl rfl (by decide) ?_
  rw [hR0]
  refine x_iload_n (pc := 124) C (dq D_Model_seal 63 rfl) rfl ?_
  refine n_ifne_f (pc := 125) (tgt := 135) C (dq D_Model_seal 64 rfl) (by decide) (by omega) (by omega) ?_
  refine x_aload_n (pc := 128) C (dq D_Model_seal 65 rfl) rfl ?_
  refine x_cV (pc := 129) (ci := 1) (M := M_Model_sealMarked) C (dq D_Model_seal 66 rfl) k_ml_Model_146 m_Model_sealMarked rfl rfl (mo hP) (cm_sealMarked hP sW sT sU hb hTX hMA hSM sIB sIS snt ⟨hr.1, hr.2.1⟩ hKP hf) rfl rfl rfl rfl (by decide) (fun o h2 hp => ?_)
  obtain ⟨rfl, l, B2, V2, T2, S2, q1, q2, q3, q4, q5, rfl⟩ := hp
  refine ⟨none, rfl, ?_⟩
  rw [hr.2.2]
  have hj := mjo_ok sT.2 W IS sIB.2 nt (sI.2.take ni)
  obtain ⟨m1, m2⟩ := msl_ok sT.2 W hj.2 ni hr.2.1
  have h1 := tail l B2 V2 T2 (mjo T W IB IS nt (IN.take ni)) S2 (mjo T W IB IS nt (IN.take ni)) q1 ⟨q2, q3⟩ hj ⟨q4, q5⟩ hj ⟨m1.trans hr.1, m2⟩
  show X g f M_Model_seal (0, 0) _ (0, 0) 132 [some (.ref (zA (gz g) 44)), some (.int (nI 0)), some (.int (nI 1))] [] (mh g P 0 ni no nt (ni + 16) l [W, T, U, IN, OUT, IS, IB, B2, V2, msl T W (mjo T W IB IS nt (IN.take ni)) ni R0, T2, mjo T W IB IS nt (IN.take ni), S2, mjo T W IB IS nt (IN.take ni)] S)
  refine x_goto (pc := 132) (tgt := 161) C (dq D_Model_seal 67 rfl) (by decide) ?_
  exact h1
set_option maxHeartbeats 2000000 in
theorem cq_seal1 {g : Gp} {P S : Hp} {T U : List Nat} {cd ni no nt : Nat} {W IN OUT IS IB : List Nat} {h : Hp} (hP : P.length = 44) (hs : mst0 T U ni no nt W IN OUT IS IB) (hm : mok g P S T U cd ni no nt W IN OUT IS IB h) (hf : ni % 8 = 0 ∧ 16 ≤ ni ∧ ni ≤ 64) :
    Con g M_Model_seal 5 (0, 0) [.ref (zA (gz g) 44), .int (nI 1)] h (mour g P S T U ni nt W IN IS IB (ni + 8) (fun R => mwd T W ((ni + 8) / 8 - 1) (frt 166 166 ni R))) := by
  obtain ⟨nr, nl, BL, MV, ROW, TX, MA, SM, KP, hb, hR, hTX, hMA, hSM, hKP, rfl⟩ := hm
  obtain ⟨sT, sU, sW, sI, sO, sIS, sIB, sni, sno, snt⟩ := hs
  have hr := rin_begin sI hR sni
  generalize hR0 : it (cp1 IN) 0 ni ROW = R0 at hr
  have hr1 := hr.1
  refine Con.of (by decide) rfl rfl (L := [some (.ref (zA (gz g) 44)), some (.int (nI 1)), none]) rfl (fun f C => ?_)
  have tail : ∀ (n2 : Nat) (B V Y A Q K : List Nat), bm16 (B, V) → (Y.length = 112 ∧ by8 Y) → (A.length = 16 ∧ by8 A) → (Q.length = 16 ∧ by8 Q) → (K.length = 16 ∧ by8 K) → ((mwd T W ((ni + 8) / 8 - 1) (frt 166 166 ni R0)).length = 112 ∧ by8 (mwd T W ((ni + 8) / 8 - 1) (frt 166 166 ni R0))) → X g f M_Model_seal (0, 0) (mour g P S T U ni nt W IN IS IB (ni + 8) (fun R => mwd T W ((ni + 8) / 8 - 1) (frt 166 166 ni R))) (0, 0) 161 [some (.ref (zA (gz g) 44)), some (.int (nI 1)), some (.int (nI 1))] [] (mh g P 0 ni no nt (ni + 8) n2 [W, T, U, IN, OUT, IS, IB, B, V, mwd T W ((ni + 8) / 8 - 1) (frt 166 166 ni R0), Y, A, Q, K] S) := by
    intro n2 B V Y A Q K hB hY hA hQ hK hZ
    refine x_aload_n (pc := 161) C (dq D_Model_seal 80 rfl) rfl ?_
    refine x_cV1 (pc := 162) (ci := 1) (M := M_Model_show) C (dq D_Model_seal 81 rfl) k_ml_Model_142 m_Model_show rfl rfl (mo hP) (cm_show hP sO.1 (by omega) hZ.1) rfl rfl rfl rfl (by decide) ?_
    exact x_iret (pc := 165) C (dq D_Model_seal 82 rfl) rfl (by decide) ⟨rfl, R0, _, hr, ⟨by rw [it_len (cp1_len _)]; exact sO.1, cp1_8 hZ.2 0 _ sO.2⟩, show_take sO.1 hZ.1 (by omega), _, n2, B, V, _, Y, A, Q, K, hB, hZ, hY, hA, hQ, hK, rfl⟩
  refine x_iload_n (pc := 0) C (dq D_Model_seal 0 rfl) rfl ?_
  refine n_ifne_t (pc := 1) (tgt := 21) C (dq D_Model_seal 1 rfl) (by decide) (by omega) (by omega) ?_
  refine x_iload_n (pc := 21) C (dq D_Model_seal 10 rfl) rfl ?_
  refine x_iconst (pc := 22) C (dq D_Model_seal 11 rfl) ci_1 ?_
  refine n_ne_f (pc := 23) (tgt := 62) C (dq D_Model_seal 12 rfl) (by decide) (by omega) (by omega) ?_
  refine x_aload_n (pc := 26) C (dq D_Model_seal 13 rfl) rfl ?_
  refine x_get (pc := 27) (ci := 1) (j := 4) C (dq D_Model_seal 14 rfl) rfl rfl (mo hP) rfl k_fl_Model_133 ?_
  refine x_bipush (pc := 30) C (dq D_Model_seal 15 rfl) cb_8 ?_
  refine n_irem (pc := 32) C (dq D_Model_seal 16 rfl) (by omega) (by omega) (by omega) ?_
  refine n_ifne_f (pc := 33) (tgt := 58) C (dq D_Model_seal 17 rfl) (by decide) (by omega) (by omega) ?_
  refine x_aload_n (pc := 36) C (dq D_Model_seal 18 rfl) rfl ?_
  refine x_get (pc := 37) (ci := 1) (j := 4) C (dq D_Model_seal 19 rfl) rfl rfl (mo hP) rfl k_fl_Model_133 ?_
  refine x_bipush (pc := 40) C (dq D_Model_seal 20 rfl) cb_16 ?_
  refine n_lt_f (pc := 42) (tgt := 58) C (dq D_Model_seal 21 rfl) (by decide) (by omega) (by omega) ?_
  refine x_aload_n (pc := 45) C (dq D_Model_seal 22 rfl) rfl ?_
  refine x_get (pc := 46) (ci := 1) (j := 4) C (dq D_Model_seal 23 rfl) rfl rfl (mo hP) rfl k_fl_Model_133 ?_
  refine x_bipush (pc := 49) C (dq D_Model_seal 24 rfl) cb_64 ?_
  refine n_gt_f (pc := 51) (tgt := 58) C (dq D_Model_seal 25 rfl) (by decide) (by omega) (by omega) ?_
  refine x_iconst (pc := 54) C (dq D_Model_seal 26 rfl) ci_1 ?_
  refine x_goto (pc := 55) (tgt := 84) C (dq D_Model_seal 27 rfl) (by decide) ?_
  refine x_istore_n (i := 2) (pc := 84) C (dq D_Model_seal 41 rfl) rfl rfl rfl ?_
  simp only [List.set_cons_zero, List.set_cons_succ]
  refine x_aload_n (pc := 85) C (dq D_Model_seal 42 rfl) rfl ?_
  refine x_iload_n (pc := 86) C (dq D_Model_seal 43 rfl) rfl ?_
  refine n_iflt_f (pc := 87) (tgt := 95) C (dq D_Model_seal 44 rfl) (by decide) (by omega) (by omega) ?_
  refine x_iload_n (pc := 90) C (dq D_Model_seal 45 rfl) rfl ?_
  refine x_iconst (pc := 91) C (dq D_Model_seal 46 rfl) ci_2 ?_
  refine n_le_t (pc := 92) (tgt := 99) C (dq D_Model_seal 47 rfl) (by decide) (by omega) (by omega) ?_
  refine x_iload_n (pc := 99) C (dq D_Model_seal 50 rfl) rfl ?_
  refine n_ifne_t (pc := 100) (tgt := 107) C (dq D_Model_seal 51 rfl) (by decide) (by omega) (by omega) ?_
  refine x_iconst (pc := 107) C (dq D_Model_seal 54 rfl) ci_0 ?_
  refine x_put (pc := 108) (ci := 1) (j := 0) (ty := .int) C (dq D_Model_seal 55 rfl) rfl rfl (mo hP) rfl k_fl_Model_64 (Or.inl rfl) (by decide +kernel) rfl rfl ?_
  simp only [List.set_cons_zero, List.set_cons_succ]
  rw [mh_p hP]
  refine x_aload_n (pc := 111) C (dq D_Model_seal 56 rfl) rfl ?_
  refine x_get (pc := 112) (ci := 1) (j := 0) C (dq D_Model_seal 57 rfl) rfl rfl (mo hP) rfl k_fl_Model_64 ?_
  refine n_ifle_t (pc := 115) (tgt := 120) C (dq D_Model_seal 58 rfl) (by decide) (by omega) (by omega) ?_
  refine x_aload_n (pc := 120) C (dq D_Model_seal 61 rfl) rfl ?_
  refine x_cV0 (pc := 121) (ci := 1) (M := M_Model_begin) C (dq D_Model_seal 62 rfl) k_ml_Model_139 m_Model_begin rfl rfl (mo hP) (cm_begin hP sI.1 sni hR.1) rfl rfl rfl rfl (by decide) ?_
  rw [hR0]
  obtain ⟨f1, f2⟩ := frt_ok (b := 166) (c := 166) (by omega) (by omega) ni hr.2.1
  refine x_iload_n (pc := 124) C (dq D_Model_seal 63 rfl) rfl ?_
  refine n_ifne_t (pc := 125) (tgt := 135) C (dq D_Model_seal 64 rfl) (by decide) (by omega) (by omega) ?_
  refine x_iload_n (pc := 135) C (dq D_Model_seal 68 rfl) rfl ?_
  refine x_iconst (pc := 136) C (dq D_Model_seal 69 rfl) ci_1 ?_
  refine n_ne_f (pc := 137) (tgt := 157) C (dq D_Model_seal 70 rfl) (by decide) (by omega) (by omega) ?_
  refine x_aload_n (pc := 140) C (dq D_Model_seal 71 rfl) rfl ?_
  refine x_sipush (pc := 141) C (dq D_Model_seal 72 rfl) cs_166 ?_
  refine x_sipush (pc := 144) C (dq D_Model_seal 73 rfl) cs_166 ?_
  refine x_cV0 (pc := 147) (ci := 1) (M := M_Model_front) C (dq D_Model_seal 74 rfl) k_ml_Model_117 m_Model_front rfl rfl (mo hP) (cm_front hP hr.1 (by omega)) rfl rfl rfl rfl (by decide) ?_
  refine x_aload_n (pc := 150) C (dq D_Model_seal 75 rfl) rfl ?_
  refine x_cV (pc := 151) (ci := 1) (M := M_Model_wrap) C (dq D_Model_seal 76 rfl) k_ml_Model_124 m_Model_wrap rfl rfl (mo hP) (cm_wrap hP sW sT sU hb ⟨f1.trans hr.1, f2⟩ (by omega)) rfl rfl rfl rfl (by decide) (fun o h2 hp => ?_)
  obtain ⟨rfl, B2, V2, hB2, rfl⟩ := hp
  refine ⟨none, rfl, ?_⟩
  have hZ := mwd_ok sT.2 W (n := (ni + 8) / 8 - 1) (by omega) ⟨f1.trans hr.1, f2⟩
  have h1 := tail nl B2 V2 TX MA SM KP hB2 hTX hMA hSM hKP hZ
  show X g f M_Model_seal (0, 0) _ (0, 0) 154 [some (.ref (zA (gz g) 44)), some (.int (nI 1)), some (.int (nI 1))] [] (mh g P 0 ni no nt (ni + 8) nl [W, T, U, IN, OUT, IS, IB, B2, V2, mwd T W ((ni + 8) / 8 - 1) (frt 166 166 ni R0), TX, MA, SM, KP] S)
  refine x_goto (pc := 154) (tgt := 161) C (dq D_Model_seal 77 rfl) (by decide) ?_
  exact h1
set_option maxHeartbeats 2000000 in
theorem cq_seal2 {g : Gp} {P S : Hp} {T U : List Nat} {cd ni no nt : Nat} {W IN OUT IS IB : List Nat} {h : Hp} (hP : P.length = 44) (hs : mst0 T U ni no nt W IN OUT IS IB) (hm : mok g P S T U cd ni no nt W IN OUT IS IB h) (hf : 1 ≤ ni ∧ ni ≤ 64) :
    Con g M_Model_seal 5 (0, 0) [.ref (zA (gz g) 44), .int (nI 2)] h (mour g P S T U ni nt W IN IS IB (r8 ni + 8) (fun R => mpw T W ni R)) := by
  obtain ⟨nr, nl, BL, MV, ROW, TX, MA, SM, KP, hb, hR, hTX, hMA, hSM, hKP, rfl⟩ := hm
  obtain ⟨sT, sU, sW, sI, sO, sIS, sIB, sni, sno, snt⟩ := hs
  have hr := rin_begin sI hR sni
  generalize hR0 : it (cp1 IN) 0 ni ROW = R0 at hr
  have hr1 := hr.1
  refine Con.of (by decide) rfl rfl (L := [some (.ref (zA (gz g) 44)), some (.int (nI 2)), none]) rfl (fun f C => ?_)
  have hr8a : r8 ni = (ni + 7) / 8 * 8 := rfl
  have tail : ∀ (n2 : Nat) (B V Y A Q K : List Nat), bm16 (B, V) → (Y.length = 112 ∧ by8 Y) → (A.length = 16 ∧ by8 A) → (Q.length = 16 ∧ by8 Q) → (K.length = 16 ∧ by8 K) → ((mpw T W ni R0).length = 112 ∧ by8 (mpw T W ni R0)) → X g f M_Model_seal (0, 0) (mour g P S T U ni nt W IN IS IB (r8 ni + 8) (fun R => mpw T W ni R)) (0, 0) 161 [some (.ref (zA (gz g) 44)), some (.int (nI 2)), some (.int (nI 1))] [] (mh g P 0 ni no nt (r8 ni + 8) n2 [W, T, U, IN, OUT, IS, IB, B, V, mpw T W ni R0, Y, A, Q, K] S) := by
    intro n2 B V Y A Q K hB hY hA hQ hK hZ
    refine x_aload_n (pc := 161) C (dq D_Model_seal 80 rfl) rfl ?_
    refine x_cV1 (pc := 162) (ci := 1) (M := M_Model_show) C (dq D_Model_seal 81 rfl) k_ml_Model_142 m_Model_show rfl rfl (mo hP) (cm_show hP sO.1 (by omega) hZ.1) rfl rfl rfl rfl (by decide) ?_
    exact x_iret (pc := 165) C (dq D_Model_seal 82 rfl) rfl (by decide) ⟨rfl, R0, _, hr, ⟨by rw [it_len (cp1_len _)]; exact sO.1, cp1_8 hZ.2 0 _ sO.2⟩, show_take sO.1 hZ.1 (by omega), _, n2, B, V, _, Y, A, Q, K, hB, hZ, hY, hA, hQ, hK, rfl⟩
  have hr8 : r8 ni = (ni + 7) / 8 * 8 := rfl
  refine x_iload_n (pc := 0) C (dq D_Model_seal 0 rfl) rfl ?_
  refine n_ifne_t (pc := 1) (tgt := 21) C (dq D_Model_seal 1 rfl) (by decide) (by omega) (by omega) ?_
  refine x_iload_n (pc := 21) C (dq D_Model_seal 10 rfl) rfl ?_
  refine x_iconst (pc := 22) C (dq D_Model_seal 11 rfl) ci_1 ?_
  refine n_ne_t (pc := 23) (tgt := 62) C (dq D_Model_seal 12 rfl) (by decide) (by omega) (by omega) ?_
  refine x_aload_n (pc := 62) C (dq D_Model_seal 30 rfl) rfl ?_
  refine x_get (pc := 63) (ci := 1) (j := 4) C (dq D_Model_seal 31 rfl) rfl rfl (mo hP) rfl k_fl_Model_133 ?_
  refine x_iconst (pc := 66) C (dq D_Model_seal 32 rfl) ci_1 ?_
  refine n_lt_f (pc := 67) (tgt := 83) C (dq D_Model_seal 33 rfl) (by decide) (by omega) (by omega) ?_
  refine x_aload_n (pc := 70) C (dq D_Model_seal 34 rfl) rfl ?_
  refine x_get (pc := 71) (ci := 1) (j := 4) C (dq D_Model_seal 35 rfl) rfl rfl (mo hP) rfl k_fl_Model_133 ?_
  refine x_bipush (pc := 74) C (dq D_Model_seal 36 rfl) cb_64 ?_
  refine n_gt_f (pc := 76) (tgt := 83) C (dq D_Model_seal 37 rfl) (by decide) (by omega) (by omega) ?_
  refine x_iconst (pc := 79) C (dq D_Model_seal 38 rfl) ci_1 ?_
  refine x_goto (pc := 80) (tgt := 84) C (dq D_Model_seal 39 rfl) (by decide) ?_
  refine x_istore_n (i := 2) (pc := 84) C (dq D_Model_seal 41 rfl) rfl rfl rfl ?_
  simp only [List.set_cons_zero, List.set_cons_succ]
  refine x_aload_n (pc := 85) C (dq D_Model_seal 42 rfl) rfl ?_
  refine x_iload_n (pc := 86) C (dq D_Model_seal 43 rfl) rfl ?_
  refine n_iflt_f (pc := 87) (tgt := 95) C (dq D_Model_seal 44 rfl) (by decide) (by omega) (by omega) ?_
  refine x_iload_n (pc := 90) C (dq D_Model_seal 45 rfl) rfl ?_
  refine x_iconst (pc := 91) C (dq D_Model_seal 46 rfl) ci_2 ?_
  refine n_le_t (pc := 92) (tgt := 99) C (dq D_Model_seal 47 rfl) (by decide) (by omega) (by omega) ?_
  refine x_iload_n (pc := 99) C (dq D_Model_seal 50 rfl) rfl ?_
  refine n_ifne_t (pc := 100) (tgt := 107) C (dq D_Model_seal 51 rfl) (by decide) (by omega) (by omega) ?_
  refine x_iconst (pc := 107) C (dq D_Model_seal 54 rfl) ci_0 ?_
  refine x_put (pc := 108) (ci := 1) (j := 0) (ty := .int) C (dq D_Model_seal 55 rfl) rfl rfl (mo hP) rfl k_fl_Model_64 (Or.inl rfl) (by decide +kernel) rfl rfl ?_
  simp only [List.set_cons_zero, List.set_cons_succ]
  rw [mh_p hP]
  refine x_aload_n (pc := 111) C (dq D_Model_seal 56 rfl) rfl ?_
  refine x_get (pc := 112) (ci := 1) (j := 0) C (dq D_Model_seal 57 rfl) rfl rfl (mo hP) rfl k_fl_Model_64 ?_
  refine n_ifle_t (pc := 115) (tgt := 120) C (dq D_Model_seal 58 rfl) (by decide) (by omega) (by omega) ?_
  refine x_aload_n (pc := 120) C (dq D_Model_seal 61 rfl) rfl ?_
  refine x_cV0 (pc := 121) (ci := 1) (M := M_Model_begin) C (dq D_Model_seal 62 rfl) k_ml_Model_139 m_Model_begin rfl rfl (mo hP) (cm_begin hP sI.1 sni hR.1) rfl rfl rfl rfl (by decide) ?_
  rw [hR0]
  refine x_iload_n (pc := 124) C (dq D_Model_seal 63 rfl) rfl ?_
  refine n_ifne_t (pc := 125) (tgt := 135) C (dq D_Model_seal 64 rfl) (by decide) (by omega) (by omega) ?_
  refine x_iload_n (pc := 135) C (dq D_Model_seal 68 rfl) rfl ?_
  refine x_iconst (pc := 136) C (dq D_Model_seal 69 rfl) ci_1 ?_
  refine n_ne_t (pc := 137) (tgt := 157) C (dq D_Model_seal 70 rfl) (by decide) (by omega) (by omega) ?_
  refine x_aload_n (pc := 157) C (dq D_Model_seal 78 rfl) rfl ?_
  refine x_cV (pc := 158) (ci := 1) (M := M_Model_sealPadded) C (dq D_Model_seal 79 rfl) k_ml_Model_149 m_Model_sealPadded rfl rfl (mo hP) (cm_sealPadded hP sW sT sU hb ⟨hr.1, hr.2.1⟩ hf) rfl rfl rfl rfl (by decide) (fun o h2 hp => ?_)
  obtain ⟨rfl, B2, V2, hB2, rfl⟩ := hp
  refine ⟨none, rfl, ?_⟩
  exact tail nl B2 V2 TX MA SM KP hB2 hTX hMA hSM hKP (mpw_ok sT.2 W hf.2 hr.1 hr.2.1)
def fit (w n : Nat) : Prop := if w = 0 then n ≤ 64 else if w = 1 then n % 8 = 0 ∧ 16 ≤ n ∧ n ≤ 64 else 1 ≤ n ∧ n ≤ 64
set_option maxHeartbeats 2000000 in
theorem cq_seal_unfit {g : Gp} {P S : Hp} {T U : List Nat} {cd ni no nt : Nat} {W IN OUT IS IB : List Nat} {h : Hp} {w : Nat} (hP : P.length = 44) (hm : mok g P S T U cd ni no nt W IN OUT IS IB h) (hn : ni ≤ 88) (hw : w ≤ 2) (hf : ¬ fit w ni) :
    Con g M_Model_seal 5 (0, 0) [.ref (zA (gz g) 44), .int (nI w)] h (fun o h' => o = .returned (some (.int (nI 0))) ∧ mok g P S T U 2 ni no nt W IN OUT IS IB h') := by
  obtain ⟨nr, nl, BL, MV, ROW, TX, MA, SM, KP, hb, hR, hTX, hMA, hSM, hKP, rfl⟩ := hm
  refine Con.of (by decide) rfl rfl (L := [some (.ref (zA (gz g) 44)), some (.int (nI w)), none]) rfl (fun f C => ?_)
  have tail : X g f M_Model_seal (0, 0) (fun o h' => o = .returned (some (.int (nI 0))) ∧ mok g P S T U 2 ni no nt W IN OUT IS IB h') (0, 0) 84 [some (.ref (zA (gz g) 44)), some (.int (nI w)), none] [.int (nI 0)] (mh g P cd ni no nt nr nl [W, T, U, IN, OUT, IS, IB, BL, MV, ROW, TX, MA, SM, KP] S) := by
    refine x_istore_n (i := 2) (pc := 84) C (dq D_Model_seal 41 rfl) rfl rfl rfl ?_
    simp only [List.set_cons_zero, List.set_cons_succ]
    refine x_aload_n (pc := 85) C (dq D_Model_seal 42 rfl) rfl ?_
    refine x_iload_n (pc := 86) C (dq D_Model_seal 43 rfl) rfl ?_
    refine n_iflt_f (pc := 87) (tgt := 95) C (dq D_Model_seal 44 rfl) (by decide) (by omega) (by omega) ?_
    refine x_iload_n (pc := 90) C (dq D_Model_seal 45 rfl) rfl ?_
    refine x_iconst (pc := 91) C (dq D_Model_seal 46 rfl) ci_2 ?_
    refine n_le_t (pc := 92) (tgt := 99) C (dq D_Model_seal 47 rfl) (by decide) (by omega) (by omega) ?_
    refine x_iload_n (pc := 99) C (dq D_Model_seal 50 rfl) rfl ?_
    refine n_ifne_f (pc := 100) (tgt := 107) C (dq D_Model_seal 51 rfl) (by decide) (by omega) (by omega) ?_
    refine x_iconst (pc := 103) C (dq D_Model_seal 52 rfl) ci_2 ?_
    refine x_goto (pc := 104) (tgt := 108) C (dq D_Model_seal 53 rfl) (by decide) ?_
    refine x_put (pc := 108) (ci := 1) (j := 0) (ty := .int) C (dq D_Model_seal 55 rfl) rfl rfl (mo hP) rfl k_fl_Model_64 (Or.inl rfl) (by decide +kernel) rfl rfl ?_
    simp only [List.set_cons_zero, List.set_cons_succ]
    rw [mh_p hP]
    refine x_aload_n (pc := 111) C (dq D_Model_seal 56 rfl) rfl ?_
    refine x_get (pc := 112) (ci := 1) (j := 0) C (dq D_Model_seal 57 rfl) rfl rfl (mo hP) rfl k_fl_Model_64 ?_
    refine n_ifle_f (pc := 115) (tgt := 120) C (dq D_Model_seal 58 rfl) (by decide) (by omega) (by omega) ?_
    refine x_iconst (pc := 118) C (dq D_Model_seal 59 rfl) ci_0 ?_
    exact x_iret (pc := 119) C (dq D_Model_seal 60 rfl) rfl (by decide) ⟨rfl, nr, nl, BL, MV, ROW, TX, MA, SM, KP, hb, hR, hTX, hMA, hSM, hKP, rfl⟩
  rcases (show w = 0 ∨ w = 1 ∨ w = 2 by omega) with rfl | rfl | rfl
  · have hf1 : ¬ ni ≤ 64 := hf
    refine x_iload_n (pc := 0) C (dq D_Model_seal 0 rfl) rfl ?_
    refine n_ifne_f (pc := 1) (tgt := 21) C (dq D_Model_seal 1 rfl) (by decide) (by omega) (by omega) ?_
    refine x_aload_n (pc := 4) C (dq D_Model_seal 2 rfl) rfl ?_
    refine x_get (pc := 5) (ci := 1) (j := 4) C (dq D_Model_seal 3 rfl) rfl rfl (mo hP) rfl k_fl_Model_133 ?_
    refine x_bipush (pc := 8) C (dq D_Model_seal 4 rfl) cb_64 ?_
    refine n_gt_t (pc := 10) (tgt := 17) C (dq D_Model_seal 5 rfl) (by decide) (by omega) (by omega) ?_
    refine x_iconst (pc := 17) C (dq D_Model_seal 8 rfl) ci_0 ?_
    refine x_goto (pc := 18) (tgt := 84) C (dq D_Model_seal 9 rfl) (by decide) ?_
    exact tail
  · have hf1 : ¬ (ni % 8 = 0 ∧ 16 ≤ ni ∧ ni ≤ 64) := hf
    refine x_iload_n (pc := 0) C (dq D_Model_seal 0 rfl) rfl ?_
    refine n_ifne_t (pc := 1) (tgt := 21) C (dq D_Model_seal 1 rfl) (by decide) (by omega) (by omega) ?_
    refine x_iload_n (pc := 21) C (dq D_Model_seal 10 rfl) rfl ?_
    refine x_iconst (pc := 22) C (dq D_Model_seal 11 rfl) ci_1 ?_
    refine n_ne_f (pc := 23) (tgt := 62) C (dq D_Model_seal 12 rfl) (by decide) (by omega) (by omega) ?_
    refine x_aload_n (pc := 26) C (dq D_Model_seal 13 rfl) rfl ?_
    refine x_get (pc := 27) (ci := 1) (j := 4) C (dq D_Model_seal 14 rfl) rfl rfl (mo hP) rfl k_fl_Model_133 ?_
    refine x_bipush (pc := 30) C (dq D_Model_seal 15 rfl) cb_8 ?_
    refine n_irem (pc := 32) C (dq D_Model_seal 16 rfl) (by omega) (by omega) (by omega) ?_
    refine n_ifne (pc := 33) (tgt := 58) C (dq D_Model_seal 17 rfl) (by decide) (by omega) (fun hq => ?_) (fun hq => ?_)
    · refine x_iconst (pc := 58) C (dq D_Model_seal 28 rfl) ci_0 ?_
      refine x_goto (pc := 59) (tgt := 84) C (dq D_Model_seal 29 rfl) (by decide) ?_
      exact tail
    · refine x_aload_n (pc := 36) C (dq D_Model_seal 18 rfl) rfl ?_
      refine x_get (pc := 37) (ci := 1) (j := 4) C (dq D_Model_seal 19 rfl) rfl rfl (mo hP) rfl k_fl_Model_133 ?_
      refine x_bipush (pc := 40) C (dq D_Model_seal 20 rfl) cb_16 ?_
      refine n_lt (pc := 42) (tgt := 58) C (dq D_Model_seal 21 rfl) (by decide) (by omega) (fun hq => ?_) (fun hq => ?_)
      · refine x_iconst (pc := 58) C (dq D_Model_seal 28 rfl) ci_0 ?_
        refine x_goto (pc := 59) (tgt := 84) C (dq D_Model_seal 29 rfl) (by decide) ?_
        exact tail
      · refine x_aload_n (pc := 45) C (dq D_Model_seal 22 rfl) rfl ?_
        refine x_get (pc := 46) (ci := 1) (j := 4) C (dq D_Model_seal 23 rfl) rfl rfl (mo hP) rfl k_fl_Model_133 ?_
        refine x_bipush (pc := 49) C (dq D_Model_seal 24 rfl) cb_64 ?_
        refine n_gt_t (pc := 51) (tgt := 58) C (dq D_Model_seal 25 rfl) (by decide) (by omega) (by omega) ?_
        refine x_iconst (pc := 58) C (dq D_Model_seal 28 rfl) ci_0 ?_
        refine x_goto (pc := 59) (tgt := 84) C (dq D_Model_seal 29 rfl) (by decide) ?_
        exact tail
  · have hf1 : ¬ (1 ≤ ni ∧ ni ≤ 64) := hf
    refine x_iload_n (pc := 0) C (dq D_Model_seal 0 rfl) rfl ?_
    refine n_ifne_t (pc := 1) (tgt := 21) C (dq D_Model_seal 1 rfl) (by decide) (by omega) (by omega) ?_
    refine x_iload_n (pc := 21) C (dq D_Model_seal 10 rfl) rfl ?_
    refine x_iconst (pc := 22) C (dq D_Model_seal 11 rfl) ci_1 ?_
    refine n_ne_t (pc := 23) (tgt := 62) C (dq D_Model_seal 12 rfl) (by decide) (by omega) (by omega) ?_
    refine x_aload_n (pc := 62) C (dq D_Model_seal 30 rfl) rfl ?_
    refine x_get (pc := 63) (ci := 1) (j := 4) C (dq D_Model_seal 31 rfl) rfl rfl (mo hP) rfl k_fl_Model_133 ?_
    refine x_iconst (pc := 66) C (dq D_Model_seal 32 rfl) ci_1 ?_
    refine n_lt (pc := 67) (tgt := 83) C (dq D_Model_seal 33 rfl) (by decide) (by omega) (fun hq => ?_) (fun hq => ?_)
    · refine x_iconst (pc := 83) C (dq D_Model_seal 40 rfl) ci_0 ?_
      exact tail
    · refine x_aload_n (pc := 70) C (dq D_Model_seal 34 rfl) rfl ?_
      refine x_get (pc := 71) (ci := 1) (j := 4) C (dq D_Model_seal 35 rfl) rfl rfl (mo hP) rfl k_fl_Model_133 ?_
      refine x_bipush (pc := 74) C (dq D_Model_seal 36 rfl) cb_64 ?_
      refine n_gt_t (pc := 76) (tgt := 83) C (dq D_Model_seal 37 rfl) (by decide) (by omega) (by omega) ?_
      refine x_iconst (pc := 83) C (dq D_Model_seal 40 rfl) ci_0 ?_
      exact tail
set_option maxHeartbeats 2000000 in
theorem cq_seal_bad {g : Gp} {P S : Hp} {T U : List Nat} {cd ni no nt : Nat} {W IN OUT IS IB : List Nat} {h : Hp} {x : Int32} (hP : P.length = 44) (hm : mok g P S T U cd ni no nt W IN OUT IS IB h) (hn : ni ≤ 88) (hx : x < 0 ∨ ¬ x ≤ nI 2) :
    Con g M_Model_seal 5 (0, 0) [.ref (zA (gz g) 44), .int x] h (fun o h' => o = .returned (some (.int (nI 0))) ∧ mok g P S T U 1 ni no nt W IN OUT IS IB h') := by
  obtain ⟨nr, nl, BL, MV, ROW, TX, MA, SM, KP, hb, hR, hTX, hMA, hSM, hKP, rfl⟩ := hm
  refine Con.of (by decide) rfl rfl (L := [some (.ref (zA (gz g) 44)), some (.int x), none]) rfl (fun f C => ?_)
  have x0 : ¬ x = 0 := fun e => by subst e; exact absurd hx (by decide)
  have x1 : ¬ x = nI 1 := fun e => by subst e; exact absurd hx (by decide)
  have bad : ∀ l2, X g f M_Model_seal (0, 0) (fun o h' => o = .returned (some (.int (nI 0))) ∧ mok g P S T U 1 ni no nt W IN OUT IS IB h') (0, 0) 95 [some (.ref (zA (gz g) 44)), some (.int x), l2] [.ref (zA (gz g) 44)] (mh g P cd ni no nt nr nl [W, T, U, IN, OUT, IS, IB, BL, MV, ROW, TX, MA, SM, KP] S) := by
    intro l2
    refine x_iconst (pc := 95) C (dq D_Model_seal 48 rfl) ci_1 ?_
    refine x_goto (pc := 96) (tgt := 108) C (dq D_Model_seal 49 rfl) (by decide) ?_
    refine x_put (pc := 108) (ci := 1) (j := 0) (ty := .int) C (dq D_Model_seal 55 rfl) rfl rfl (mo hP) rfl k_fl_Model_64 (Or.inl rfl) (by decide +kernel) rfl rfl ?_
    simp only [List.set_cons_zero, List.set_cons_succ]
    rw [mh_p hP]
    refine x_aload_n (pc := 111) C (dq D_Model_seal 56 rfl) rfl ?_
    refine x_get (pc := 112) (ci := 1) (j := 0) C (dq D_Model_seal 57 rfl) rfl rfl (mo hP) rfl k_fl_Model_64 ?_
    refine n_ifle_f (pc := 115) (tgt := 120) C (dq D_Model_seal 58 rfl) (by decide) (by omega) (by omega) ?_
    refine x_iconst (pc := 118) C (dq D_Model_seal 59 rfl) ci_0 ?_
    exact x_iret (pc := 119) C (dq D_Model_seal 60 rfl) rfl (by decide) ⟨rfl, nr, nl, BL, MV, ROW, TX, MA, SM, KP, hb, hR, hTX, hMA, hSM, hKP, rfl⟩
  have tail : ∀ v : Int32, X g f M_Model_seal (0, 0) (fun o h' => o = .returned (some (.int (nI 0))) ∧ mok g P S T U 1 ni no nt W IN OUT IS IB h') (0, 0) 84 [some (.ref (zA (gz g) 44)), some (.int x), none] [.int v] (mh g P cd ni no nt nr nl [W, T, U, IN, OUT, IS, IB, BL, MV, ROW, TX, MA, SM, KP] S) := by
    intro v
    refine x_istore_n (i := 2) (pc := 84) C (dq D_Model_seal 41 rfl) rfl rfl rfl ?_
    simp only [List.set_cons_zero, List.set_cons_succ]
    refine x_aload_n (pc := 85) C (dq D_Model_seal 42 rfl) rfl ?_
    refine x_iload_n (pc := 86) C (dq D_Model_seal 43 rfl) rfl ?_
    refine x_iflt (pc := 87) (tgt := 95) C (dq D_Model_seal 44 rfl) (by decide) (fun hq => ?_) (fun hq => ?_)
    · exact bad _
    · have hq0 := hq
      refine x_iload_n (pc := 90) C (dq D_Model_seal 45 rfl) rfl ?_
      refine x_iconst (pc := 91) C (dq D_Model_seal 46 rfl) ci_2 ?_
      refine x_le (pc := 92) (tgt := 99) C (dq D_Model_seal 47 rfl) (by decide) (fun hq => ?_) (fun hq => ?_)
      · exact absurd hx (fun z => z.elim hq0 (fun y => y hq))
      · exact bad _
  refine x_iload_n (pc := 0) C (dq D_Model_seal 0 rfl) rfl ?_
  refine x_ifne (pc := 1) (tgt := 21) C (dq D_Model_seal 1 rfl) (by decide) (fun _ => ?_) (fun q => absurd q x0)
  refine x_iload_n (pc := 21) C (dq D_Model_seal 10 rfl) rfl ?_
  refine x_iconst (pc := 22) C (dq D_Model_seal 11 rfl) ci_1 ?_
  refine x_ne (pc := 23) (tgt := 62) C (dq D_Model_seal 12 rfl) (by decide) (fun _ => ?_) (fun q => absurd q x1)
  refine x_aload_n (pc := 62) C (dq D_Model_seal 30 rfl) rfl ?_
  refine x_get (pc := 63) (ci := 1) (j := 4) C (dq D_Model_seal 31 rfl) rfl rfl (mo hP) rfl k_fl_Model_133 ?_
  refine x_iconst (pc := 66) C (dq D_Model_seal 32 rfl) ci_1 ?_
  refine n_lt (pc := 67) (tgt := 83) C (dq D_Model_seal 33 rfl) (by decide) (by omega) (fun hq => ?_) (fun hq => ?_)
  · refine x_iconst (pc := 83) C (dq D_Model_seal 40 rfl) ci_0 ?_
    exact tail _
  · refine x_aload_n (pc := 70) C (dq D_Model_seal 34 rfl) rfl ?_
    refine x_get (pc := 71) (ci := 1) (j := 4) C (dq D_Model_seal 35 rfl) rfl rfl (mo hP) rfl k_fl_Model_133 ?_
    refine x_bipush (pc := 74) C (dq D_Model_seal 36 rfl) cb_64 ?_
    refine n_gt (pc := 76) (tgt := 83) C (dq D_Model_seal 37 rfl) (by decide) (by omega) (fun hq => ?_) (fun hq => ?_)
    · refine x_iconst (pc := 83) C (dq D_Model_seal 40 rfl) ci_0 ?_
      exact tail _
    · refine x_iconst (pc := 79) C (dq D_Model_seal 38 rfl) ci_1 ?_
      refine x_goto (pc := 80) (tgt := 84) C (dq D_Model_seal 39 rfl) (by decide) ?_
      exact tail _
