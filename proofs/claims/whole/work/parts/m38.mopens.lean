/-! The reference's open. -/
def moup (g : Gp) (P S : Hp) (T U : List Nat) (ni no nt : Nat) (W IN OUT IS IB : List Nat) (ok : List Nat → Bool) (nf : List Nat → Nat) (raw : List Nat → List Nat) : Outcome → Hp → Prop :=
  fun o h' => ∃ R0, rin IN ni R0 ∧ ((ok R0 = true ∧ o = .returned (some (.int (nI (nf R0)))) ∧ ∃ OUT', (OUT'.length = 112 ∧ by8 OUT') ∧ OUT'.take (nf R0) = (raw R0).take (nf R0) ∧ mok g P S T U 0 ni (nf R0) nt W IN OUT' IS IB h') ∨ (ok R0 = false ∧ o = .returned (some (.int (-1))) ∧ mok g P S T U 0 ni no nt W IN OUT IS IB h'))
theorem eqz_f (n : Nat) (R : List Nat) : ∀ (d k : Nat), it (eqz n R) k d false = false
  | 0, _ => rfl
  | d + 1, k => eqz_f n R d (k + 1)
theorem opk_le {m : Nat} {R : List Nat} (h : opk m R = true) : R.getD 7 0 ≤ m := by
  unfold opk at h
  by_cases hc : (sgn R && decide (m - 8 < R.getD 7 0 ∧ R.getD 7 0 ≤ m)) = true
  · rw [Bool.and_eq_true, decide_eq_true_eq] at hc
    exact hc.2.2
  · have hc : (sgn R && decide (m - 8 < R.getD 7 0 ∧ R.getD 7 0 ≤ m)) = false := by simpa using hc
    rw [hc, eqz_f] at h
    cases h
theorem opr_ok {U : List Nat} (hU : by8 U) (W : List Nat) {n : Nat} (hn : n ≤ 88) {R : List Nat} (hl : R.length = 112) (h : by8 R) : (opr U W n R).length = 112 ∧ by8 (opr U W n R) := by
  have ht : (R.take 16).length = 16 := by rw [List.length_take, hl]; rfl
  unfold opr
  split
  · obtain ⟨c, d⟩ := sgl_ok (dec_ok hU W 0 ht (h.take 16)).2 h
    exact ⟨c.trans hl, d⟩
  · exact mud_ok hU W (by omega) ⟨hl, h⟩
theorem mop_ok {T : List Nat} (hT : by8 T) (W : List Nat) (n : Nat) {R : List Nat} (hl : R.length = 112) (h : by8 R) : (mop T W n R).length = 112 ∧ by8 (mop T W n R) := by
  have hd : (it d16 0 (n - 16) R).length = 112 ∧ by8 (it d16 0 (n - 16) R) := ⟨by rw [it_len d16_len]; exact hl, it_inv by8 _ 0 R (fun j S _ _ hS => hS.set (hS.at _)) h⟩
  obtain ⟨c1, c2⟩ := cro_ok hT W (R.take 16) (n - 16) hd.2
  unfold mop
  exact ⟨c1.trans hd.1, c2⟩
set_option maxHeartbeats 2000000 in
theorem cq_open0 {g : Gp} {P S : Hp} {T U : List Nat} {cd ni no nt : Nat} {W IN OUT IS IB : List Nat} {h : Hp} (hP : P.length = 44) (hs : mst0 T U ni no nt W IN OUT IS IB) (hm : mok g P S T U cd ni no nt W IN OUT IS IB h) (hf : 16 ≤ ni ∧ ni ≤ 80) :
    Con g M_Model_open 5 (0, 0) [.ref (zA (gz g) 44), .int (nI 0)] h (moup g P S T U ni no nt W IN OUT IS IB (fun R => it (eqs (mjo T W IB IS nt ((mop T W ni R).take (ni - 16))) (R.take 16)) 0 16 true) (fun R => ni - 16) (fun R => mop T W ni R)) := by
  obtain ⟨nr, nl, BL, MV, ROW, TX, MA, SM, KP, hb, hR, hTX, hMA, hSM, hKP, rfl⟩ := hm
  obtain ⟨sT, sU, sW, sI, sO, sIS, sIB, sni, sno, snt⟩ := hs
  have hr := rin_begin sI hR sni
  generalize hR0 : it (cp1 IN) 0 ni ROW = R0 at hr
  have hr1 := hr.1
  refine Con.of (by decide) rfl rfl (L := [some (.ref (zA (gz g) 44)), some (.int (nI 0)), none, none]) rfl (fun f C => ?_)
  have tail : ∀ (n2 n3 : Nat) (B V Y A Q K : List Nat), (it (eqs (mjo T W IB IS nt ((mop T W ni R0).take (ni - 16))) (R0.take 16)) 0 16 true = true → n3 = ni - 16 ∧ n3 ≤ 88) → bm16 (B, V) → (Y.length = 112 ∧ by8 Y) → (A.length = 16 ∧ by8 A) → (Q.length = 16 ∧ by8 Q) → (K.length = 16 ∧ by8 K) → ((mop T W ni R0).length = 112 ∧ by8 (mop T W ni R0)) → X g f M_Model_open (0, 0) (moup g P S T U ni no nt W IN OUT IS IB (fun R => it (eqs (mjo T W IB IS nt ((mop T W ni R).take (ni - 16))) (R.take 16)) 0 16 true) (fun R => ni - 16) (fun R => mop T W ni R)) (0, 0) 140 [some (.ref (zA (gz g) 44)), some (.int (nI 0)), some (.int (nI 1)), none] [.int (nI (if it (eqs (mjo T W IB IS nt ((mop T W ni R0).take (ni - 16))) (R0.take 16)) 0 16 true then 1 else 0))] (mh g P 0 ni no nt n3 n2 [W, T, U, IN, OUT, IS, IB, B, V, mop T W ni R0, Y, A, Q, K] S) := by
    intro n2 n3 B V Y A Q K hn3 hB hY hA hQ hK hZ
    cases hk : it (eqs (mjo T W IB IS nt ((mop T W ni R0).take (ni - 16))) (R0.take 16)) 0 16 true with
    | true =>
      obtain ⟨e3, l3⟩ := hn3 hk
      have e1 : (nI (if true = true then 1 else 0)) = nI 1 := rfl
      rw [e1, e3]
      rw [e3] at l3
      refine x_istore_n (i := 3) (pc := 140) C (dq D_Model_open 70 rfl) rfl rfl rfl ?_
      simp only [List.set_cons_zero, List.set_cons_succ]
      refine x_iload_n (pc := 141) C (dq D_Model_open 71 rfl) rfl ?_
      refine n_ifeq_f (pc := 142) (tgt := 152) C (dq D_Model_open 72 rfl) (by decide) (by omega) (by omega) ?_
      refine x_aload_n (pc := 145) C (dq D_Model_open 73 rfl) rfl ?_
      refine x_cV1 (pc := 146) (ci := 1) (M := M_Model_show) C (dq D_Model_open 74 rfl) k_ml_Model_142 m_Model_show rfl rfl (mo hP) (cm_show hP sO.1 l3 hZ.1) rfl rfl rfl rfl (by decide) ?_
      refine x_goto (pc := 149) (tgt := 153) C (dq D_Model_open 75 rfl) (by decide) ?_
      exact x_iret (pc := 153) C (dq D_Model_open 77 rfl) rfl (by decide) ⟨R0, hr, Or.inl ⟨hk, rfl, _, ⟨by rw [it_len (cp1_len _)]; exact sO.1, cp1_8 hZ.2 0 _ sO.2⟩, show_take sO.1 hZ.1 (Nat.le_trans l3 (by decide)), _, n2, B, V, _, Y, A, Q, K, hB, hZ, hY, hA, hQ, hK, rfl⟩⟩
    | false =>
      have e1 : (nI (if false = true then 1 else 0)) = nI 0 := rfl
      rw [e1]
      refine x_istore_n (i := 3) (pc := 140) C (dq D_Model_open 70 rfl) rfl rfl rfl ?_
      simp only [List.set_cons_zero, List.set_cons_succ]
      refine x_iload_n (pc := 141) C (dq D_Model_open 71 rfl) rfl ?_
      refine n_ifeq_t (pc := 142) (tgt := 152) C (dq D_Model_open 72 rfl) (by decide) (by omega) (by omega) ?_
      refine x_iconst (pc := 152) C (dq D_Model_open 76 rfl) ci_m1 ?_
      exact x_iret (pc := 153) C (dq D_Model_open 77 rfl) rfl (by decide) ⟨R0, hr, Or.inr ⟨hk, rfl, n3, n2, B, V, _, Y, A, Q, K, hB, hZ, hY, hA, hQ, hK, rfl⟩⟩
  refine x_iload_n (pc := 0) C (dq D_Model_open 0 rfl) rfl ?_
  refine n_ifne_f (pc := 1) (tgt := 30) C (dq D_Model_open 1 rfl) (by decide) (by omega) (by omega) ?_
  refine x_aload_n (pc := 4) C (dq D_Model_open 2 rfl) rfl ?_
  refine x_get (pc := 5) (ci := 1) (j := 4) C (dq D_Model_open 3 rfl) rfl rfl (mo hP) rfl k_fl_Model_133 ?_
  refine x_bipush (pc := 8) C (dq D_Model_open 4 rfl) cb_16 ?_
  refine n_lt_f (pc := 10) (tgt := 26) C (dq D_Model_open 5 rfl) (by decide) (by omega) (by omega) ?_
  refine x_aload_n (pc := 13) C (dq D_Model_open 6 rfl) rfl ?_
  refine x_get (pc := 14) (ci := 1) (j := 4) C (dq D_Model_open 7 rfl) rfl rfl (mo hP) rfl k_fl_Model_133 ?_
  refine x_bipush (pc := 17) C (dq D_Model_open 8 rfl) cb_80 ?_
  refine n_gt_f (pc := 19) (tgt := 26) C (dq D_Model_open 9 rfl) (by decide) (by omega) (by omega) ?_
  refine x_iconst (pc := 22) C (dq D_Model_open 10 rfl) ci_1 ?_
  refine x_goto (pc := 23) (tgt := 73) C (dq D_Model_open 11 rfl) (by decide) ?_
  refine x_istore_n (i := 2) (pc := 73) C (dq D_Model_open 35 rfl) rfl rfl rfl ?_
  simp only [List.set_cons_zero, List.set_cons_succ]
  refine x_aload_n (pc := 74) C (dq D_Model_open 36 rfl) rfl ?_
  refine x_iload_n (pc := 75) C (dq D_Model_open 37 rfl) rfl ?_
  refine n_iflt_f (pc := 76) (tgt := 84) C (dq D_Model_open 38 rfl) (by decide) (by omega) (by omega) ?_
  refine x_iload_n (pc := 79) C (dq D_Model_open 39 rfl) rfl ?_
  refine x_iconst (pc := 80) C (dq D_Model_open 40 rfl) ci_2 ?_
  refine n_le_t (pc := 81) (tgt := 88) C (dq D_Model_open 41 rfl) (by decide) (by omega) (by omega) ?_
  refine x_iload_n (pc := 88) C (dq D_Model_open 44 rfl) rfl ?_
  refine n_ifne_t (pc := 89) (tgt := 96) C (dq D_Model_open 45 rfl) (by decide) (by omega) (by omega) ?_
  refine x_iconst (pc := 96) C (dq D_Model_open 48 rfl) ci_0 ?_
  refine x_put (pc := 97) (ci := 1) (j := 0) (ty := .int) C (dq D_Model_open 49 rfl) rfl rfl (mo hP) rfl k_fl_Model_64 (Or.inl rfl) (by decide +kernel) rfl rfl ?_
  simp only [List.set_cons_zero, List.set_cons_succ]
  rw [mh_p hP]
  refine x_aload_n (pc := 100) C (dq D_Model_open 50 rfl) rfl ?_
  refine x_get (pc := 101) (ci := 1) (j := 0) C (dq D_Model_open 51 rfl) rfl rfl (mo hP) rfl k_fl_Model_64 ?_
  refine n_ifle_t (pc := 104) (tgt := 109) C (dq D_Model_open 52 rfl) (by decide) (by omega) (by omega) ?_
  refine x_aload_n (pc := 109) C (dq D_Model_open 55 rfl) rfl ?_
  refine x_cV0 (pc := 110) (ci := 1) (M := M_Model_begin) C (dq D_Model_open 56 rfl) k_ml_Model_139 m_Model_begin rfl rfl (mo hP) (cm_begin hP sI.1 sni hR.1) rfl rfl rfl rfl (by decide) ?_
  rw [hR0]
  refine x_iload_n (pc := 113) C (dq D_Model_open 57 rfl) rfl ?_
  refine n_ifne_f (pc := 114) (tgt := 124) C (dq D_Model_open 58 rfl) (by decide) (by omega) (by omega) ?_
  refine x_aload_n (pc := 117) C (dq D_Model_open 59 rfl) rfl ?_
  refine x_cV (pc := 118) (ci := 1) (M := M_Model_openMarked) C (dq D_Model_open 60 rfl) k_ml_Model_152 m_Model_openMarked rfl rfl (mo hP) (cm_openMarked hP sW sT sU hb hTX hMA hSM sIB sIS snt ⟨hr.1, hr.2.1⟩ hKP hf) rfl rfl rfl rfl (by decide) (fun o h2 hp => ?_)
  obtain ⟨rfl, l, B2, V2, T2, S2, q1, q2, q3, q4, q5, rfl⟩ := hp
  refine ⟨_, rfl, ?_⟩
  have hZ := mop_ok sT.2 W ni hr.1 hr.2.1
  have hj := mjo_ok sT.2 W IS sIB.2 nt (hZ.2.take (ni - 16))
  have h1 := tail l (ni - 16) B2 V2 T2 (mjo T W IB IS nt ((mop T W ni R0).take (ni - 16))) S2 (R0.take 16) (fun _ => ⟨rfl, by omega⟩) q1 ⟨q2, q3⟩ hj ⟨q4, q5⟩ ⟨by rw [List.length_take, hr.1]; rfl, hr.2.1.take 16⟩ hZ
  show X g f M_Model_open (0, 0) _ (0, 0) 121 [some (.ref (zA (gz g) 44)), some (.int (nI 0)), some (.int (nI 1)), none] [.int (nI (if it (eqs (mjo T W IB IS nt ((mop T W ni R0).take (ni - 16))) (R0.take 16)) 0 16 true then 1 else 0))] (mh g P 0 ni no nt (ni - 16) l [W, T, U, IN, OUT, IS, IB, B2, V2, mop T W ni R0, T2, mjo T W IB IS nt ((mop T W ni R0).take (ni - 16)), S2, R0.take 16] S)
  refine x_goto (pc := 121) (tgt := 140) C (dq D_Model_open 61 rfl) (by decide) ?_
  exact h1
set_option maxHeartbeats 2000000 in
theorem cq_open1 {g : Gp} {P S : Hp} {T U : List Nat} {cd ni no nt : Nat} {W IN OUT IS IB : List Nat} {h : Hp} (hP : P.length = 44) (hs : mst0 T U ni no nt W IN OUT IS IB) (hm : mok g P S T U cd ni no nt W IN OUT IS IB h) (hf : ni % 8 = 0 ∧ 24 ≤ ni ∧ ni ≤ 72) :
    Con g M_Model_open 5 (0, 0) [.ref (zA (gz g) 44), .int (nI 1)] h (moup g P S T U ni no nt W IN OUT IS IB (fun R => it (eqv 166 (mud U W (ni / 8 - 1) R)) 0 8 true) (fun R => ni - 8) (fun R => drp (ni - 8) (mud U W (ni / 8 - 1) R))) := by
  obtain ⟨nr, nl, BL, MV, ROW, TX, MA, SM, KP, hb, hR, hTX, hMA, hSM, hKP, rfl⟩ := hm
  obtain ⟨sT, sU, sW, sI, sO, sIS, sIB, sni, sno, snt⟩ := hs
  have hr := rin_begin sI hR sni
  generalize hR0 : it (cp1 IN) 0 ni ROW = R0 at hr
  have hr1 := hr.1
  refine Con.of (by decide) rfl rfl (L := [some (.ref (zA (gz g) 44)), some (.int (nI 1)), none, none]) rfl (fun f C => ?_)
  have tail : ∀ (n2 n3 : Nat) (B V Y A Q K : List Nat), (it (eqv 166 (mud U W (ni / 8 - 1) R0)) 0 8 true = true → n3 = ni - 8 ∧ n3 ≤ 88) → bm16 (B, V) → (Y.length = 112 ∧ by8 Y) → (A.length = 16 ∧ by8 A) → (Q.length = 16 ∧ by8 Q) → (K.length = 16 ∧ by8 K) → ((drp (ni - 8) (mud U W (ni / 8 - 1) R0)).length = 112 ∧ by8 (drp (ni - 8) (mud U W (ni / 8 - 1) R0))) → X g f M_Model_open (0, 0) (moup g P S T U ni no nt W IN OUT IS IB (fun R => it (eqv 166 (mud U W (ni / 8 - 1) R)) 0 8 true) (fun R => ni - 8) (fun R => drp (ni - 8) (mud U W (ni / 8 - 1) R))) (0, 0) 140 [some (.ref (zA (gz g) 44)), some (.int (nI 1)), some (.int (nI 1)), none] [.int (nI (if it (eqv 166 (mud U W (ni / 8 - 1) R0)) 0 8 true then 1 else 0))] (mh g P 0 ni no nt n3 n2 [W, T, U, IN, OUT, IS, IB, B, V, drp (ni - 8) (mud U W (ni / 8 - 1) R0), Y, A, Q, K] S) := by
    intro n2 n3 B V Y A Q K hn3 hB hY hA hQ hK hZ
    cases hk : it (eqv 166 (mud U W (ni / 8 - 1) R0)) 0 8 true with
    | true =>
      obtain ⟨e3, l3⟩ := hn3 hk
      have e1 : (nI (if true = true then 1 else 0)) = nI 1 := rfl
      rw [e1, e3]
      rw [e3] at l3
      refine x_istore_n (i := 3) (pc := 140) C (dq D_Model_open 70 rfl) rfl rfl rfl ?_
      simp only [List.set_cons_zero, List.set_cons_succ]
      refine x_iload_n (pc := 141) C (dq D_Model_open 71 rfl) rfl ?_
      refine n_ifeq_f (pc := 142) (tgt := 152) C (dq D_Model_open 72 rfl) (by decide) (by omega) (by omega) ?_
      refine x_aload_n (pc := 145) C (dq D_Model_open 73 rfl) rfl ?_
      refine x_cV1 (pc := 146) (ci := 1) (M := M_Model_show) C (dq D_Model_open 74 rfl) k_ml_Model_142 m_Model_show rfl rfl (mo hP) (cm_show hP sO.1 l3 hZ.1) rfl rfl rfl rfl (by decide) ?_
      refine x_goto (pc := 149) (tgt := 153) C (dq D_Model_open 75 rfl) (by decide) ?_
      exact x_iret (pc := 153) C (dq D_Model_open 77 rfl) rfl (by decide) ⟨R0, hr, Or.inl ⟨hk, rfl, _, ⟨by rw [it_len (cp1_len _)]; exact sO.1, cp1_8 hZ.2 0 _ sO.2⟩, show_take sO.1 hZ.1 (Nat.le_trans l3 (by decide)), _, n2, B, V, _, Y, A, Q, K, hB, hZ, hY, hA, hQ, hK, rfl⟩⟩
    | false =>
      have e1 : (nI (if false = true then 1 else 0)) = nI 0 := rfl
      rw [e1]
      refine x_istore_n (i := 3) (pc := 140) C (dq D_Model_open 70 rfl) rfl rfl rfl ?_
      simp only [List.set_cons_zero, List.set_cons_succ]
      refine x_iload_n (pc := 141) C (dq D_Model_open 71 rfl) rfl ?_
      refine n_ifeq_t (pc := 142) (tgt := 152) C (dq D_Model_open 72 rfl) (by decide) (by omega) (by omega) ?_
      refine x_iconst (pc := 152) C (dq D_Model_open 76 rfl) ci_m1 ?_
      exact x_iret (pc := 153) C (dq D_Model_open 77 rfl) rfl (by decide) ⟨R0, hr, Or.inr ⟨hk, rfl, n3, n2, B, V, _, Y, A, Q, K, hB, hZ, hY, hA, hQ, hK, rfl⟩⟩
  refine x_iload_n (pc := 0) C (dq D_Model_open 0 rfl) rfl ?_
  refine n_ifne_t (pc := 1) (tgt := 30) C (dq D_Model_open 1 rfl) (by decide) (by omega) (by omega) ?_
  refine x_aload_n (pc := 30) C (dq D_Model_open 14 rfl) rfl ?_
  refine x_get (pc := 31) (ci := 1) (j := 4) C (dq D_Model_open 15 rfl) rfl rfl (mo hP) rfl k_fl_Model_133 ?_
  refine x_bipush (pc := 34) C (dq D_Model_open 16 rfl) cb_8 ?_
  refine n_irem (pc := 36) C (dq D_Model_open 17 rfl) (by omega) (by omega) (by omega) ?_
  refine n_ifne_f (pc := 37) (tgt := 72) C (dq D_Model_open 18 rfl) (by decide) (by omega) (by omega) ?_
  refine x_aload_n (pc := 40) C (dq D_Model_open 19 rfl) rfl ?_
  refine x_get (pc := 41) (ci := 1) (j := 4) C (dq D_Model_open 20 rfl) rfl rfl (mo hP) rfl k_fl_Model_133 ?_
  refine x_iload_n (pc := 44) C (dq D_Model_open 21 rfl) rfl ?_
  refine x_iconst (pc := 45) C (dq D_Model_open 22 rfl) ci_1 ?_
  refine n_ne_f (pc := 46) (tgt := 54) C (dq D_Model_open 23 rfl) (by decide) (by omega) (by omega) ?_
  refine x_bipush (pc := 49) C (dq D_Model_open 24 rfl) cb_24 ?_
  refine x_goto (pc := 51) (tgt := 56) C (dq D_Model_open 25 rfl) (by decide) ?_
  refine n_lt_f (pc := 56) (tgt := 72) C (dq D_Model_open 27 rfl) (by decide) (by omega) (by omega) ?_
  refine x_aload_n (pc := 59) C (dq D_Model_open 28 rfl) rfl ?_
  refine x_get (pc := 60) (ci := 1) (j := 4) C (dq D_Model_open 29 rfl) rfl rfl (mo hP) rfl k_fl_Model_133 ?_
  refine x_bipush (pc := 63) C (dq D_Model_open 30 rfl) cb_72 ?_
  refine n_gt_f (pc := 65) (tgt := 72) C (dq D_Model_open 31 rfl) (by decide) (by omega) (by omega) ?_
  refine x_iconst (pc := 68) C (dq D_Model_open 32 rfl) ci_1 ?_
  refine x_goto (pc := 69) (tgt := 73) C (dq D_Model_open 33 rfl) (by decide) ?_
  refine x_istore_n (i := 2) (pc := 73) C (dq D_Model_open 35 rfl) rfl rfl rfl ?_
  simp only [List.set_cons_zero, List.set_cons_succ]
  refine x_aload_n (pc := 74) C (dq D_Model_open 36 rfl) rfl ?_
  refine x_iload_n (pc := 75) C (dq D_Model_open 37 rfl) rfl ?_
  refine n_iflt_f (pc := 76) (tgt := 84) C (dq D_Model_open 38 rfl) (by decide) (by omega) (by omega) ?_
  refine x_iload_n (pc := 79) C (dq D_Model_open 39 rfl) rfl ?_
  refine x_iconst (pc := 80) C (dq D_Model_open 40 rfl) ci_2 ?_
  refine n_le_t (pc := 81) (tgt := 88) C (dq D_Model_open 41 rfl) (by decide) (by omega) (by omega) ?_
  refine x_iload_n (pc := 88) C (dq D_Model_open 44 rfl) rfl ?_
  refine n_ifne_t (pc := 89) (tgt := 96) C (dq D_Model_open 45 rfl) (by decide) (by omega) (by omega) ?_
  refine x_iconst (pc := 96) C (dq D_Model_open 48 rfl) ci_0 ?_
  refine x_put (pc := 97) (ci := 1) (j := 0) (ty := .int) C (dq D_Model_open 49 rfl) rfl rfl (mo hP) rfl k_fl_Model_64 (Or.inl rfl) (by decide +kernel) rfl rfl ?_
  simp only [List.set_cons_zero, List.set_cons_succ]
  rw [mh_p hP]
  refine x_aload_n (pc := 100) C (dq D_Model_open 50 rfl) rfl ?_
  refine x_get (pc := 101) (ci := 1) (j := 0) C (dq D_Model_open 51 rfl) rfl rfl (mo hP) rfl k_fl_Model_64 ?_
  refine n_ifle_t (pc := 104) (tgt := 109) C (dq D_Model_open 52 rfl) (by decide) (by omega) (by omega) ?_
  refine x_aload_n (pc := 109) C (dq D_Model_open 55 rfl) rfl ?_
  refine x_cV0 (pc := 110) (ci := 1) (M := M_Model_begin) C (dq D_Model_open 56 rfl) k_ml_Model_139 m_Model_begin rfl rfl (mo hP) (cm_begin hP sI.1 sni hR.1) rfl rfl rfl rfl (by decide) ?_
  rw [hR0]
  refine x_iload_n (pc := 113) C (dq D_Model_open 57 rfl) rfl ?_
  refine n_ifne_t (pc := 114) (tgt := 124) C (dq D_Model_open 58 rfl) (by decide) (by omega) (by omega) ?_
  refine x_iload_n (pc := 124) C (dq D_Model_open 62 rfl) rfl ?_
  refine x_iconst (pc := 125) C (dq D_Model_open 63 rfl) ci_1 ?_
  refine n_ne_f (pc := 126) (tgt := 136) C (dq D_Model_open 64 rfl) (by decide) (by omega) (by omega) ?_
  refine x_aload_n (pc := 129) C (dq D_Model_open 65 rfl) rfl ?_
  refine x_cV (pc := 130) (ci := 1) (M := M_Model_openWrapped) C (dq D_Model_open 66 rfl) k_ml_Model_156 m_Model_openWrapped rfl rfl (mo hP) (cm_openWrapped hP sW sT sU hb ⟨hr.1, hr.2.1⟩ (by omega)) rfl rfl rfl rfl (by decide) (fun o h2 hp => ?_)
  obtain ⟨rfl, B2, V2, hB2, rfl⟩ := hp
  refine ⟨_, rfl, ?_⟩
  obtain ⟨m1, m2⟩ := mud_ok sU.2 W (n := ni / 8 - 1) (by omega) ⟨hr.1, hr.2.1⟩
  obtain ⟨d1, d2⟩ := drp_ok (ni - 8) m2
  have h1 := tail nl (ni - 8) B2 V2 TX MA SM KP (fun _ => ⟨rfl, by omega⟩) hB2 hTX hMA hSM hKP ⟨d1.trans m1, d2⟩
  show X g f M_Model_open (0, 0) _ (0, 0) 133 [some (.ref (zA (gz g) 44)), some (.int (nI 1)), some (.int (nI 1)), none] [.int (nI (if it (eqv 166 (mud U W (ni / 8 - 1) R0)) 0 8 true then 1 else 0))] (mh g P 0 ni no nt (ni - 8) nl [W, T, U, IN, OUT, IS, IB, B2, V2, drp (ni - 8) (mud U W (ni / 8 - 1) R0), TX, MA, SM, KP] S)
  refine x_goto (pc := 133) (tgt := 140) C (dq D_Model_open 67 rfl) (by decide) ?_
  exact h1
set_option maxHeartbeats 2000000 in
theorem cq_open2 {g : Gp} {P S : Hp} {T U : List Nat} {cd ni no nt : Nat} {W IN OUT IS IB : List Nat} {h : Hp} (hP : P.length = 44) (hs : mst0 T U ni no nt W IN OUT IS IB) (hm : mok g P S T U cd ni no nt W IN OUT IS IB h) (hf : ni % 8 = 0 ∧ 16 ≤ ni ∧ ni ≤ 72) :
    Con g M_Model_open 5 (0, 0) [.ref (zA (gz g) 44), .int (nI 2)] h (moup g P S T U ni no nt W IN OUT IS IB (fun R => opk (ni - 8) (opr U W ni R)) (fun R => (opr U W ni R).getD 7 0) (fun R => drp (ni - 8) (opr U W ni R))) := by
  obtain ⟨nr, nl, BL, MV, ROW, TX, MA, SM, KP, hb, hR, hTX, hMA, hSM, hKP, rfl⟩ := hm
  obtain ⟨sT, sU, sW, sI, sO, sIS, sIB, sni, sno, snt⟩ := hs
  have hr := rin_begin sI hR sni
  generalize hR0 : it (cp1 IN) 0 ni ROW = R0 at hr
  have hr1 := hr.1
  refine Con.of (by decide) rfl rfl (L := [some (.ref (zA (gz g) 44)), some (.int (nI 2)), none, none]) rfl (fun f C => ?_)
  have tail : ∀ (n2 n3 : Nat) (B V Y A Q K : List Nat), (opk (ni - 8) (opr U W ni R0) = true → n3 = (opr U W ni R0).getD 7 0 ∧ n3 ≤ 88) → bm16 (B, V) → (Y.length = 112 ∧ by8 Y) → (A.length = 16 ∧ by8 A) → (Q.length = 16 ∧ by8 Q) → (K.length = 16 ∧ by8 K) → ((drp (ni - 8) (opr U W ni R0)).length = 112 ∧ by8 (drp (ni - 8) (opr U W ni R0))) → X g f M_Model_open (0, 0) (moup g P S T U ni no nt W IN OUT IS IB (fun R => opk (ni - 8) (opr U W ni R)) (fun R => (opr U W ni R).getD 7 0) (fun R => drp (ni - 8) (opr U W ni R))) (0, 0) 140 [some (.ref (zA (gz g) 44)), some (.int (nI 2)), some (.int (nI 1)), none] [.int (nI (if opk (ni - 8) (opr U W ni R0) then 1 else 0))] (mh g P 0 ni no nt n3 n2 [W, T, U, IN, OUT, IS, IB, B, V, drp (ni - 8) (opr U W ni R0), Y, A, Q, K] S) := by
    intro n2 n3 B V Y A Q K hn3 hB hY hA hQ hK hZ
    cases hk : opk (ni - 8) (opr U W ni R0) with
    | true =>
      obtain ⟨e3, l3⟩ := hn3 hk
      have e1 : (nI (if true = true then 1 else 0)) = nI 1 := rfl
      rw [e1, e3]
      rw [e3] at l3
      refine x_istore_n (i := 3) (pc := 140) C (dq D_Model_open 70 rfl) rfl rfl rfl ?_
      simp only [List.set_cons_zero, List.set_cons_succ]
      refine x_iload_n (pc := 141) C (dq D_Model_open 71 rfl) rfl ?_
      refine n_ifeq_f (pc := 142) (tgt := 152) C (dq D_Model_open 72 rfl) (by decide) (by omega) (by omega) ?_
      refine x_aload_n (pc := 145) C (dq D_Model_open 73 rfl) rfl ?_
      refine x_cV1 (pc := 146) (ci := 1) (M := M_Model_show) C (dq D_Model_open 74 rfl) k_ml_Model_142 m_Model_show rfl rfl (mo hP) (cm_show hP sO.1 l3 hZ.1) rfl rfl rfl rfl (by decide) ?_
      refine x_goto (pc := 149) (tgt := 153) C (dq D_Model_open 75 rfl) (by decide) ?_
      exact x_iret (pc := 153) C (dq D_Model_open 77 rfl) rfl (by decide) ⟨R0, hr, Or.inl ⟨hk, rfl, _, ⟨by rw [it_len (cp1_len _)]; exact sO.1, cp1_8 hZ.2 0 _ sO.2⟩, show_take sO.1 hZ.1 (Nat.le_trans l3 (by decide)), _, n2, B, V, _, Y, A, Q, K, hB, hZ, hY, hA, hQ, hK, rfl⟩⟩
    | false =>
      have e1 : (nI (if false = true then 1 else 0)) = nI 0 := rfl
      rw [e1]
      refine x_istore_n (i := 3) (pc := 140) C (dq D_Model_open 70 rfl) rfl rfl rfl ?_
      simp only [List.set_cons_zero, List.set_cons_succ]
      refine x_iload_n (pc := 141) C (dq D_Model_open 71 rfl) rfl ?_
      refine n_ifeq_t (pc := 142) (tgt := 152) C (dq D_Model_open 72 rfl) (by decide) (by omega) (by omega) ?_
      refine x_iconst (pc := 152) C (dq D_Model_open 76 rfl) ci_m1 ?_
      exact x_iret (pc := 153) C (dq D_Model_open 77 rfl) rfl (by decide) ⟨R0, hr, Or.inr ⟨hk, rfl, n3, n2, B, V, _, Y, A, Q, K, hB, hZ, hY, hA, hQ, hK, rfl⟩⟩
  refine x_iload_n (pc := 0) C (dq D_Model_open 0 rfl) rfl ?_
  refine n_ifne_t (pc := 1) (tgt := 30) C (dq D_Model_open 1 rfl) (by decide) (by omega) (by omega) ?_
  refine x_aload_n (pc := 30) C (dq D_Model_open 14 rfl) rfl ?_
  refine x_get (pc := 31) (ci := 1) (j := 4) C (dq D_Model_open 15 rfl) rfl rfl (mo hP) rfl k_fl_Model_133 ?_
  refine x_bipush (pc := 34) C (dq D_Model_open 16 rfl) cb_8 ?_
  refine n_irem (pc := 36) C (dq D_Model_open 17 rfl) (by omega) (by omega) (by omega) ?_
  refine n_ifne_f (pc := 37) (tgt := 72) C (dq D_Model_open 18 rfl) (by decide) (by omega) (by omega) ?_
  refine x_aload_n (pc := 40) C (dq D_Model_open 19 rfl) rfl ?_
  refine x_get (pc := 41) (ci := 1) (j := 4) C (dq D_Model_open 20 rfl) rfl rfl (mo hP) rfl k_fl_Model_133 ?_
  refine x_iload_n (pc := 44) C (dq D_Model_open 21 rfl) rfl ?_
  refine x_iconst (pc := 45) C (dq D_Model_open 22 rfl) ci_1 ?_
  refine n_ne_t (pc := 46) (tgt := 54) C (dq D_Model_open 23 rfl) (by decide) (by omega) (by omega) ?_
  refine x_bipush (pc := 54) C (dq D_Model_open 26 rfl) cb_16 ?_
  refine n_lt_f (pc := 56) (tgt := 72) C (dq D_Model_open 27 rfl) (by decide) (by omega) (by omega) ?_
  refine x_aload_n (pc := 59) C (dq D_Model_open 28 rfl) rfl ?_
  refine x_get (pc := 60) (ci := 1) (j := 4) C (dq D_Model_open 29 rfl) rfl rfl (mo hP) rfl k_fl_Model_133 ?_
  refine x_bipush (pc := 63) C (dq D_Model_open 30 rfl) cb_72 ?_
  refine n_gt_f (pc := 65) (tgt := 72) C (dq D_Model_open 31 rfl) (by decide) (by omega) (by omega) ?_
  refine x_iconst (pc := 68) C (dq D_Model_open 32 rfl) ci_1 ?_
  refine x_goto (pc := 69) (tgt := 73) C (dq D_Model_open 33 rfl) (by decide) ?_
  refine x_istore_n (i := 2) (pc := 73) C (dq D_Model_open 35 rfl) rfl rfl rfl ?_
  simp only [List.set_cons_zero, List.set_cons_succ]
  refine x_aload_n (pc := 74) C (dq D_Model_open 36 rfl) rfl ?_
  refine x_iload_n (pc := 75) C (dq D_Model_open 37 rfl) rfl ?_
  refine n_iflt_f (pc := 76) (tgt := 84) C (dq D_Model_open 38 rfl) (by decide) (by omega) (by omega) ?_
  refine x_iload_n (pc := 79) C (dq D_Model_open 39 rfl) rfl ?_
  refine x_iconst (pc := 80) C (dq D_Model_open 40 rfl) ci_2 ?_
  refine n_le_t (pc := 81) (tgt := 88) C (dq D_Model_open 41 rfl) (by decide) (by omega) (by omega) ?_
  refine x_iload_n (pc := 88) C (dq D_Model_open 44 rfl) rfl ?_
  refine n_ifne_t (pc := 89) (tgt := 96) C (dq D_Model_open 45 rfl) (by decide) (by omega) (by omega) ?_
  refine x_iconst (pc := 96) C (dq D_Model_open 48 rfl) ci_0 ?_
  refine x_put (pc := 97) (ci := 1) (j := 0) (ty := .int) C (dq D_Model_open 49 rfl) rfl rfl (mo hP) rfl k_fl_Model_64 (Or.inl rfl) (by decide +kernel) rfl rfl ?_
  simp only [List.set_cons_zero, List.set_cons_succ]
  rw [mh_p hP]
  refine x_aload_n (pc := 100) C (dq D_Model_open 50 rfl) rfl ?_
  refine x_get (pc := 101) (ci := 1) (j := 0) C (dq D_Model_open 51 rfl) rfl rfl (mo hP) rfl k_fl_Model_64 ?_
  refine n_ifle_t (pc := 104) (tgt := 109) C (dq D_Model_open 52 rfl) (by decide) (by omega) (by omega) ?_
  refine x_aload_n (pc := 109) C (dq D_Model_open 55 rfl) rfl ?_
  refine x_cV0 (pc := 110) (ci := 1) (M := M_Model_begin) C (dq D_Model_open 56 rfl) k_ml_Model_139 m_Model_begin rfl rfl (mo hP) (cm_begin hP sI.1 sni hR.1) rfl rfl rfl rfl (by decide) ?_
  rw [hR0]
  refine x_iload_n (pc := 113) C (dq D_Model_open 57 rfl) rfl ?_
  refine n_ifne_t (pc := 114) (tgt := 124) C (dq D_Model_open 58 rfl) (by decide) (by omega) (by omega) ?_
  refine x_iload_n (pc := 124) C (dq D_Model_open 62 rfl) rfl ?_
  refine x_iconst (pc := 125) C (dq D_Model_open 63 rfl) ci_1 ?_
  refine n_ne_t (pc := 126) (tgt := 136) C (dq D_Model_open 64 rfl) (by decide) (by omega) (by omega) ?_
  refine x_aload_n (pc := 136) C (dq D_Model_open 68 rfl) rfl ?_
  refine x_cV (pc := 137) (ci := 1) (M := M_Model_openPadded) C (dq D_Model_open 69 rfl) k_ml_Model_159 m_Model_openPadded rfl rfl (mo hP) (cm_openPadded hP sW sT sU hb ⟨hr.1, hr.2.1⟩ (by omega)) rfl rfl rfl rfl (by decide) (fun o h2 hp => ?_)
  obtain ⟨rfl, B2, V2, hB2, rfl⟩ := hp
  refine ⟨_, rfl, ?_⟩
  obtain ⟨m1, m2⟩ := opr_ok sU.2 W (n := ni) (by omega) hr.1 hr.2.1
  obtain ⟨d1, d2⟩ := drp_ok (ni - 8) m2
  exact tail nl _ B2 V2 TX MA SM KP (fun z => ⟨if_pos z, by rw [if_pos z]; have := opk_le z; omega⟩) hB2 hTX hMA hSM hKP ⟨d1.trans m1, d2⟩
def fito (w n : Nat) : Prop := if w = 0 then 16 ≤ n ∧ n ≤ 80 else n % 8 = 0 ∧ (if w = 1 then 24 else 16) ≤ n ∧ n ≤ 72
set_option maxHeartbeats 2000000 in
theorem cq_open_unfit {g : Gp} {P S : Hp} {T U : List Nat} {cd ni no nt : Nat} {W IN OUT IS IB : List Nat} {h : Hp} {w : Nat} (hP : P.length = 44) (hm : mok g P S T U cd ni no nt W IN OUT IS IB h) (hn : ni ≤ 88) (hw : w ≤ 2) (hf : ¬ fito w ni) :
    Con g M_Model_open 5 (0, 0) [.ref (zA (gz g) 44), .int (nI w)] h (fun o h' => o = .returned (some (.int (nI 0))) ∧ mok g P S T U 2 ni no nt W IN OUT IS IB h') := by
  obtain ⟨nr, nl, BL, MV, ROW, TX, MA, SM, KP, hb, hR, hTX, hMA, hSM, hKP, rfl⟩ := hm
  refine Con.of (by decide) rfl rfl (L := [some (.ref (zA (gz g) 44)), some (.int (nI w)), none, none]) rfl (fun f C => ?_)
  have tail : X g f M_Model_open (0, 0) (fun o h' => o = .returned (some (.int (nI 0))) ∧ mok g P S T U 2 ni no nt W IN OUT IS IB h') (0, 0) 73 [some (.ref (zA (gz g) 44)), some (.int (nI w)), none, none] [.int (nI 0)] (mh g P cd ni no nt nr nl [W, T, U, IN, OUT, IS, IB, BL, MV, ROW, TX, MA, SM, KP] S) := by
    refine x_istore_n (i := 2) (pc := 73) C (dq D_Model_open 35 rfl) rfl rfl rfl ?_
    simp only [List.set_cons_zero, List.set_cons_succ]
    refine x_aload_n (pc := 74) C (dq D_Model_open 36 rfl) rfl ?_
    refine x_iload_n (pc := 75) C (dq D_Model_open 37 rfl) rfl ?_
    refine n_iflt_f (pc := 76) (tgt := 84) C (dq D_Model_open 38 rfl) (by decide) (by omega) (by omega) ?_
    refine x_iload_n (pc := 79) C (dq D_Model_open 39 rfl) rfl ?_
    refine x_iconst (pc := 80) C (dq D_Model_open 40 rfl) ci_2 ?_
    refine n_le_t (pc := 81) (tgt := 88) C (dq D_Model_open 41 rfl) (by decide) (by omega) (by omega) ?_
    refine x_iload_n (pc := 88) C (dq D_Model_open 44 rfl) rfl ?_
    refine n_ifne_f (pc := 89) (tgt := 96) C (dq D_Model_open 45 rfl) (by decide) (by omega) (by omega) ?_
    refine x_iconst (pc := 92) C (dq D_Model_open 46 rfl) ci_2 ?_
    refine x_goto (pc := 93) (tgt := 97) C (dq D_Model_open 47 rfl) (by decide) ?_
    refine x_put (pc := 97) (ci := 1) (j := 0) (ty := .int) C (dq D_Model_open 49 rfl) rfl rfl (mo hP) rfl k_fl_Model_64 (Or.inl rfl) (by decide +kernel) rfl rfl ?_
    simp only [List.set_cons_zero, List.set_cons_succ]
    rw [mh_p hP]
    refine x_aload_n (pc := 100) C (dq D_Model_open 50 rfl) rfl ?_
    refine x_get (pc := 101) (ci := 1) (j := 0) C (dq D_Model_open 51 rfl) rfl rfl (mo hP) rfl k_fl_Model_64 ?_
    refine n_ifle_f (pc := 104) (tgt := 109) C (dq D_Model_open 52 rfl) (by decide) (by omega) (by omega) ?_
    refine x_iconst (pc := 107) C (dq D_Model_open 53 rfl) ci_0 ?_
    exact x_iret (pc := 108) C (dq D_Model_open 54 rfl) rfl (by decide) ⟨rfl, nr, nl, BL, MV, ROW, TX, MA, SM, KP, hb, hR, hTX, hMA, hSM, hKP, rfl⟩
  rcases (show w = 0 ∨ w = 1 ∨ w = 2 by omega) with rfl | rfl | rfl
  · have hf1 : ¬ (16 ≤ ni ∧ ni ≤ 80) := hf
    refine x_iload_n (pc := 0) C (dq D_Model_open 0 rfl) rfl ?_
    refine n_ifne_f (pc := 1) (tgt := 30) C (dq D_Model_open 1 rfl) (by decide) (by omega) (by omega) ?_
    refine x_aload_n (pc := 4) C (dq D_Model_open 2 rfl) rfl ?_
    refine x_get (pc := 5) (ci := 1) (j := 4) C (dq D_Model_open 3 rfl) rfl rfl (mo hP) rfl k_fl_Model_133 ?_
    refine x_bipush (pc := 8) C (dq D_Model_open 4 rfl) cb_16 ?_
    refine n_lt (pc := 10) (tgt := 26) C (dq D_Model_open 5 rfl) (by decide) (by omega) (fun hq => ?_) (fun hq => ?_)
    · refine x_iconst (pc := 26) C (dq D_Model_open 12 rfl) ci_0 ?_
      refine x_goto (pc := 27) (tgt := 73) C (dq D_Model_open 13 rfl) (by decide) ?_
      exact tail
    · refine x_aload_n (pc := 13) C (dq D_Model_open 6 rfl) rfl ?_
      refine x_get (pc := 14) (ci := 1) (j := 4) C (dq D_Model_open 7 rfl) rfl rfl (mo hP) rfl k_fl_Model_133 ?_
      refine x_bipush (pc := 17) C (dq D_Model_open 8 rfl) cb_80 ?_
      refine n_gt_t (pc := 19) (tgt := 26) C (dq D_Model_open 9 rfl) (by decide) (by omega) (by omega) ?_
      refine x_iconst (pc := 26) C (dq D_Model_open 12 rfl) ci_0 ?_
      refine x_goto (pc := 27) (tgt := 73) C (dq D_Model_open 13 rfl) (by decide) ?_
      exact tail
  · have hf1 : ¬ (ni % 8 = 0 ∧ 24 ≤ ni ∧ ni ≤ 72) := hf
    refine x_iload_n (pc := 0) C (dq D_Model_open 0 rfl) rfl ?_
    refine n_ifne_t (pc := 1) (tgt := 30) C (dq D_Model_open 1 rfl) (by decide) (by omega) (by omega) ?_
    refine x_aload_n (pc := 30) C (dq D_Model_open 14 rfl) rfl ?_
    refine x_get (pc := 31) (ci := 1) (j := 4) C (dq D_Model_open 15 rfl) rfl rfl (mo hP) rfl k_fl_Model_133 ?_
    refine x_bipush (pc := 34) C (dq D_Model_open 16 rfl) cb_8 ?_
    refine n_irem (pc := 36) C (dq D_Model_open 17 rfl) (by omega) (by omega) (by omega) ?_
    refine n_ifne (pc := 37) (tgt := 72) C (dq D_Model_open 18 rfl) (by decide) (by omega) (fun hq => ?_) (fun hq => ?_)
    · refine x_iconst (pc := 72) C (dq D_Model_open 34 rfl) ci_0 ?_
      exact tail
    · refine x_aload_n (pc := 40) C (dq D_Model_open 19 rfl) rfl ?_
      refine x_get (pc := 41) (ci := 1) (j := 4) C (dq D_Model_open 20 rfl) rfl rfl (mo hP) rfl k_fl_Model_133 ?_
      refine x_iload_n (pc := 44) C (dq D_Model_open 21 rfl) rfl ?_
      refine x_iconst (pc := 45) C (dq D_Model_open 22 rfl) ci_1 ?_
      refine n_ne_f (pc := 46) (tgt := 54) C (dq D_Model_open 23 rfl) (by decide) (by omega) (by omega) ?_
      refine x_bipush (pc := 49) C (dq D_Model_open 24 rfl) cb_24 ?_
      refine x_goto (pc := 51) (tgt := 56) C (dq D_Model_open 25 rfl) (by decide) ?_
      refine n_lt (pc := 56) (tgt := 72) C (dq D_Model_open 27 rfl) (by decide) (by omega) (fun hq => ?_) (fun hq => ?_)
      · refine x_iconst (pc := 72) C (dq D_Model_open 34 rfl) ci_0 ?_
        exact tail
      · refine x_aload_n (pc := 59) C (dq D_Model_open 28 rfl) rfl ?_
        refine x_get (pc := 60) (ci := 1) (j := 4) C (dq D_Model_open 29 rfl) rfl rfl (mo hP) rfl k_fl_Model_133 ?_
        refine x_bipush (pc := 63) C (dq D_Model_open 30 rfl) cb_72 ?_
        refine n_gt_t (pc := 65) (tgt := 72) C (dq D_Model_open 31 rfl) (by decide) (by omega) (by omega) ?_
        refine x_iconst (pc := 72) C (dq D_Model_open 34 rfl) ci_0 ?_
        exact tail
  · have hf1 : ¬ (ni % 8 = 0 ∧ 16 ≤ ni ∧ ni ≤ 72) := hf
    refine x_iload_n (pc := 0) C (dq D_Model_open 0 rfl) rfl ?_
    refine n_ifne_t (pc := 1) (tgt := 30) C (dq D_Model_open 1 rfl) (by decide) (by omega) (by omega) ?_
    refine x_aload_n (pc := 30) C (dq D_Model_open 14 rfl) rfl ?_
    refine x_get (pc := 31) (ci := 1) (j := 4) C (dq D_Model_open 15 rfl) rfl rfl (mo hP) rfl k_fl_Model_133 ?_
    refine x_bipush (pc := 34) C (dq D_Model_open 16 rfl) cb_8 ?_
    refine n_irem (pc := 36) C (dq D_Model_open 17 rfl) (by omega) (by omega) (by omega) ?_
    refine n_ifne (pc := 37) (tgt := 72) C (dq D_Model_open 18 rfl) (by decide) (by omega) (fun hq => ?_) (fun hq => ?_)
    · refine x_iconst (pc := 72) C (dq D_Model_open 34 rfl) ci_0 ?_
      exact tail
    · refine x_aload_n (pc := 40) C (dq D_Model_open 19 rfl) rfl ?_
      refine x_get (pc := 41) (ci := 1) (j := 4) C (dq D_Model_open 20 rfl) rfl rfl (mo hP) rfl k_fl_Model_133 ?_
      refine x_iload_n (pc := 44) C (dq D_Model_open 21 rfl) rfl ?_
      refine x_iconst (pc := 45) C (dq D_Model_open 22 rfl) ci_1 ?_
      refine n_ne_t (pc := 46) (tgt := 54) C (dq D_Model_open 23 rfl) (by decide) (by omega) (by omega) ?_
      refine x_bipush (pc := 54) C (dq D_Model_open 26 rfl) cb_16 ?_
      refine n_lt (pc := 56) (tgt := 72) C (dq D_Model_open 27 rfl) (by decide) (by omega) (fun hq => ?_) (fun hq => ?_)
      · refine x_iconst (pc := 72) C (dq D_Model_open 34 rfl) ci_0 ?_
        exact tail
      · refine x_aload_n (pc := 59) C (dq D_Model_open 28 rfl) rfl ?_
        refine x_get (pc := 60) (ci := 1) (j := 4) C (dq D_Model_open 29 rfl) rfl rfl (mo hP) rfl k_fl_Model_133 ?_
        refine x_bipush (pc := 63) C (dq D_Model_open 30 rfl) cb_72 ?_
        refine n_gt_t (pc := 65) (tgt := 72) C (dq D_Model_open 31 rfl) (by decide) (by omega) (by omega) ?_
        refine x_iconst (pc := 72) C (dq D_Model_open 34 rfl) ci_0 ?_
        exact tail
set_option maxHeartbeats 2000000 in
theorem cq_open_bad {g : Gp} {P S : Hp} {T U : List Nat} {cd ni no nt : Nat} {W IN OUT IS IB : List Nat} {h : Hp} {x : Int32} (hP : P.length = 44) (hm : mok g P S T U cd ni no nt W IN OUT IS IB h) (hn : ni ≤ 88) (hx : x < 0 ∨ ¬ x ≤ nI 2) :
    Con g M_Model_open 5 (0, 0) [.ref (zA (gz g) 44), .int x] h (fun o h' => o = .returned (some (.int (nI 0))) ∧ mok g P S T U 1 ni no nt W IN OUT IS IB h') := by
  obtain ⟨nr, nl, BL, MV, ROW, TX, MA, SM, KP, hb, hR, hTX, hMA, hSM, hKP, rfl⟩ := hm
  refine Con.of (by decide) rfl rfl (L := [some (.ref (zA (gz g) 44)), some (.int x), none, none]) rfl (fun f C => ?_)
  have x0 : ¬ x = 0 := fun e => by subst e; exact absurd hx (by decide)
  have x1 : ¬ x = nI 1 := fun e => by subst e; exact absurd hx (by decide)
  have bad : ∀ l2, X g f M_Model_open (0, 0) (fun o h' => o = .returned (some (.int (nI 0))) ∧ mok g P S T U 1 ni no nt W IN OUT IS IB h') (0, 0) 84 [some (.ref (zA (gz g) 44)), some (.int x), l2, none] [.ref (zA (gz g) 44)] (mh g P cd ni no nt nr nl [W, T, U, IN, OUT, IS, IB, BL, MV, ROW, TX, MA, SM, KP] S) := by
    intro l2
    refine x_iconst (pc := 84) C (dq D_Model_open 42 rfl) ci_1 ?_
    refine x_goto (pc := 85) (tgt := 97) C (dq D_Model_open 43 rfl) (by decide) ?_
    refine x_put (pc := 97) (ci := 1) (j := 0) (ty := .int) C (dq D_Model_open 49 rfl) rfl rfl (mo hP) rfl k_fl_Model_64 (Or.inl rfl) (by decide +kernel) rfl rfl ?_
    simp only [List.set_cons_zero, List.set_cons_succ]
    rw [mh_p hP]
    refine x_aload_n (pc := 100) C (dq D_Model_open 50 rfl) rfl ?_
    refine x_get (pc := 101) (ci := 1) (j := 0) C (dq D_Model_open 51 rfl) rfl rfl (mo hP) rfl k_fl_Model_64 ?_
    refine n_ifle_f (pc := 104) (tgt := 109) C (dq D_Model_open 52 rfl) (by decide) (by omega) (by omega) ?_
    refine x_iconst (pc := 107) C (dq D_Model_open 53 rfl) ci_0 ?_
    exact x_iret (pc := 108) C (dq D_Model_open 54 rfl) rfl (by decide) ⟨rfl, nr, nl, BL, MV, ROW, TX, MA, SM, KP, hb, hR, hTX, hMA, hSM, hKP, rfl⟩
  have tail : ∀ v : Int32, X g f M_Model_open (0, 0) (fun o h' => o = .returned (some (.int (nI 0))) ∧ mok g P S T U 1 ni no nt W IN OUT IS IB h') (0, 0) 73 [some (.ref (zA (gz g) 44)), some (.int x), none, none] [.int v] (mh g P cd ni no nt nr nl [W, T, U, IN, OUT, IS, IB, BL, MV, ROW, TX, MA, SM, KP] S) := by
    intro v
    refine x_istore_n (i := 2) (pc := 73) C (dq D_Model_open 35 rfl) rfl rfl rfl ?_
    simp only [List.set_cons_zero, List.set_cons_succ]
    refine x_aload_n (pc := 74) C (dq D_Model_open 36 rfl) rfl ?_
    refine x_iload_n (pc := 75) C (dq D_Model_open 37 rfl) rfl ?_
    refine x_iflt (pc := 76) (tgt := 84) C (dq D_Model_open 38 rfl) (by decide) (fun hq => ?_) (fun hq => ?_)
    · exact bad _
    · have hq0 := hq
      refine x_iload_n (pc := 79) C (dq D_Model_open 39 rfl) rfl ?_
      refine x_iconst (pc := 80) C (dq D_Model_open 40 rfl) ci_2 ?_
      refine x_le (pc := 81) (tgt := 88) C (dq D_Model_open 41 rfl) (by decide) (fun hq => ?_) (fun hq => ?_)
      · exact absurd hx (fun z => z.elim hq0 (fun y => y hq))
      · exact bad _
  refine x_iload_n (pc := 0) C (dq D_Model_open 0 rfl) rfl ?_
  refine x_ifne (pc := 1) (tgt := 30) C (dq D_Model_open 1 rfl) (by decide) (fun _ => ?_) (fun q => absurd q x0)
  refine x_aload_n (pc := 30) C (dq D_Model_open 14 rfl) rfl ?_
  refine x_get (pc := 31) (ci := 1) (j := 4) C (dq D_Model_open 15 rfl) rfl rfl (mo hP) rfl k_fl_Model_133 ?_
  refine x_bipush (pc := 34) C (dq D_Model_open 16 rfl) cb_8 ?_
  refine n_irem (pc := 36) C (dq D_Model_open 17 rfl) (by omega) (by omega) (by omega) ?_
  refine n_ifne (pc := 37) (tgt := 72) C (dq D_Model_open 18 rfl) (by decide) (by omega) (fun hq => ?_) (fun hq => ?_)
  · refine x_iconst (pc := 72) C (dq D_Model_open 34 rfl) ci_0 ?_
    exact tail _
  · refine x_aload_n (pc := 40) C (dq D_Model_open 19 rfl) rfl ?_
    refine x_get (pc := 41) (ci := 1) (j := 4) C (dq D_Model_open 20 rfl) rfl rfl (mo hP) rfl k_fl_Model_133 ?_
    refine x_iload_n (pc := 44) C (dq D_Model_open 21 rfl) rfl ?_
    refine x_iconst (pc := 45) C (dq D_Model_open 22 rfl) ci_1 ?_
    refine x_ne (pc := 46) (tgt := 54) C (dq D_Model_open 23 rfl) (by decide) (fun _ => ?_) (fun q => absurd q x1)
    refine x_bipush (pc := 54) C (dq D_Model_open 26 rfl) cb_16 ?_
    refine n_lt (pc := 56) (tgt := 72) C (dq D_Model_open 27 rfl) (by decide) (by omega) (fun hq => ?_) (fun hq => ?_)
    · refine x_iconst (pc := 72) C (dq D_Model_open 34 rfl) ci_0 ?_
      exact tail _
    · refine x_aload_n (pc := 59) C (dq D_Model_open 28 rfl) rfl ?_
      refine x_get (pc := 60) (ci := 1) (j := 4) C (dq D_Model_open 29 rfl) rfl rfl (mo hP) rfl k_fl_Model_133 ?_
      refine x_bipush (pc := 63) C (dq D_Model_open 30 rfl) cb_72 ?_
      refine n_gt (pc := 65) (tgt := 72) C (dq D_Model_open 31 rfl) (by decide) (by omega) (fun hq => ?_) (fun hq => ?_)
      · refine x_iconst (pc := 72) C (dq D_Model_open 34 rfl) ci_0 ?_
        exact tail _
      · refine x_iconst (pc := 68) C (dq D_Model_open 32 rfl) ci_1 ?_
        refine x_goto (pc := 69) (tgt := 73) C (dq D_Model_open 33 rfl) (by decide) ?_
        exact tail _
