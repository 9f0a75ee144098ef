/-! Sealing and opening of the law on what both hold. -/
theorem s0_l88 {FO K1 K2 JB SM SG MB NL IN OU : List Nat} {BL : List (List Nat)} {ct ni : Nat} (hF : by8 FO) (hK1 : by8 K1) (hK2 : by8 K2) (hJ : l88 JB) (hS : l16 SM) (hG : l16 SG) (hMB : l16 MB) (hI : ∀ i, i < 5 → l88 (BL.getD i []) ∧ NL.getD i 0 ≤ 40) (hct : ct ≤ 5) (hIN : l88 IN) (hOU : l88 OU) (hn : ni ≤ 64) : l88 ((it (ast FO K2 16) 16 (16 + ni - 16) ((cpy IN (cpy (cjo FO K1 JB SM SG BL NL ct IN ni) OU 0 0 16) 0 16 ni), ct0 (cpy IN (cpy (cjo FO K1 JB SM SG BL NL ct IN ni) OU 0 0 16) 0 16 ni), MB)).1) := by
  have hco := cjo_ok (JB := JB) (SM := SM) (M := SG) (BL := BL) (NL := NL) (ct := ct) (n := ni) (RB := IN) hF hK1 hJ.2 hS.2 hG.2 (fun i hi => (hI i (by omega)).1.2) hIN.2
  have hc1 : l88 (cpy (cjo FO K1 JB SM SG BL NL ct IN ni) OU 0 0 16) := ⟨(cpy_length (by rw [hco.1, hG.1]; omega) (by rw [hOU.1]; omega)).trans hOU.1, cpy8 hco.2 hOU.2⟩
  have hc2 := cpy_l88 hIN hc1 (show 0 + ni ≤ 88 by omega) (show 16 + ni ≤ 88 by omega)
  exact (ast_all hF hK2 16 16 (16 + ni - 16) (q := (_, _, _)) ⟨hc2, ct0_ok (by rw [hc2.1]; omega) hc2.2, hMB⟩).1
theorem s2_l88 {FO K IN OU : List Nat} {ni : Nat} (hF : by8 FO) (hK : by8 K) (hIN : l88 IN) (hOU : l88 OU) (hn : ni ≤ 64) : l88 (cpw FO K ni IN OU) := by
  obtain ⟨p1, p2, -⟩ := pdo_ok hIN hOU hn
  have hr2 : ni ≤ r8 (8 + ni) ∧ r8 (8 + ni) < ni + 16 ∧ r8 (8 + ni) % 8 = 0 := by unfold r8; omega
  unfold cpw
  split
  · exact ⟨by rw [trn_len]; exact p1, trn8 hF hK p2⟩
  · exact wnd_ok hF hK (by omega) (by omega) ⟨p1, p2⟩

set_option maxHeartbeats 4000000 in
theorem o_seal {g : Gp} {FO BA : List Nat} {cd : Nat} {v : Int64} {h : Hp} {y0 : Int32} (hno0 : noTr g) (hJ : JSc g FO BA cd v h) : ConW g M_Law_seal [(0, 9, 12, 13), (0, 9, 15, 19)] 7 (1, 6) [.ref (zA (gz g) 0), .int y0, .ref (zA (gz g) 59)] h (fun o h1 => ∃ kk, kk ≤ 2 ∧ o = .returned (some (.int (nI kk))) ∧ (∃ vs, h1[44]? = some (.inr (1, vs))) ∧ Con g M_Model_seal 5 (0, 0) [.ref (zA (gz g) 44), .int y0] h1 (fun o h2 => ∃ (b : Int32) (v' : Int64), o = .returned (some (.int b)) ∧ JSc g FO BA kk v' h2 ∧ (kk = 0 → v' = b.toInt64))) := by
  obtain ⟨ct, ni, no, NL, BL, K1, K2, IN, OU, W, INm, OUT, IS, IB, hj, hs, hm, hr⟩ := hJ
  obtain ⟨S, hS, hd, hcl⟩ := jh_cls hj
  obtain ⟨vs, h0⟩ := jh_0 hj
  have hs' := hs
  have hm' := hm
  have hr' := hr
  obtain ⟨hT, hK1, hK2, hIN, hOU, hI, hct, hni, hno⟩ := hs'
  obtain ⟨mT, mU, mW, mI, mO, mS, mB, -, -, -⟩ := hm'
  obtain ⟨r1, r2, r3, r4, r5⟩ := hr'
  have hin : IN.take ni = INm.take ni := tk_of (by rw [hIN.1]; omega) (by rw [mI.1]; omega) r3
  rcases i32_up y0 (b := 2) (by omega) with hb | ⟨w, hw, rfl⟩
  · refine (w_seal_1 h0 (t_seal_bad hno0 hS hs hd hb)).weaken (fun o h1 hp => ?_)
    obtain ⟨rfl, rfl⟩ := hp
    obtain ⟨P, hP, hq, hmd⟩ := jh_mod hj
    exact ⟨1, by omega, rfl, jh_44 hj, (cq_seal_bad hP hq hni hb).weaken (fun o h2 hp => ⟨nI 0, v, hp.1, JSc.mk (hmd hp.2) hs hm hr, fun q => by omega⟩)⟩
  have hw2 : w = 0 ∨ w = 1 ∨ w = 2 := by omega
  rcases hw2 with rfl | rfl | rfl
  · by_cases hf : ni ≤ 64
    · refine (w_seal_ok h0 (d_seal0 hs hd hf) (fun o h' hp => by
      obtain ⟨ho, JB, SM, SG, MB, -, -, -, -, hd1⟩ := hp
      exact ⟨⟨_, ho⟩, v, jh_59 (hcl hd1)⟩)).weaken (fun o h1 hp => ?_)
      obtain ⟨rfl, r, h', ⟨hr0, JB, SM, SG, MB, hJB, hSM, hSG, hMB, hd1⟩, rfl⟩ := hp
      cases hr0
      have hj1 := jh_out (hcl hd1) (nI (16 + ni)).toInt64
      obtain ⟨P, hP, hq, hmd⟩ := jh_mod hj1
      refine ⟨0, by omega, rfl, jh_44 hj1, (cq_seal0 hP hm hq hf).weaken (fun o h2 hp => ?_)⟩
      obtain ⟨ho, R0, O1, hR0, hO1, hO2, hk⟩ := hp
      rw [Nat.add_comm ni 16] at ho hO2 hk
      rw [← hin] at hO2
      exact ⟨nI (16 + ni), _, ho, JSc.mk (hmd hk) ⟨hT, hK1, hK2, hIN, s0_l88 hT.1.2 hK1.2 hK2.2 hJB hSM hSG hMB hI hct hIN hOU hf, hI, hct, hni, by omega⟩ ⟨mT, mU, mW, mI, hO1, mS, mB, hni, by omega, hct⟩ ⟨r1, r2, r3, fun q hq => (e_seal0 hT.1.2 hK1.2 hK2.2 r1 r2 hJB hSM hSG hI hct r5 mB.2 hIN hOU hf hR0.1 (rin_gd hR0 r3) q hq).trans (tk_gd hO2 hq).symm, r5⟩, fun _ => rfl⟩
    · refine (w_seal_2 h0 (t_seal_unfit0 hno0 hS hs hd hf)).weaken (fun o h1 hp => ?_)
      obtain ⟨rfl, rfl⟩ := hp
      obtain ⟨P, hP, hq, hmd⟩ := jh_mod hj
      exact ⟨2, by omega, rfl, jh_44 hj, (cq_seal_unfit (w := 0) hP hq hni (by omega) (by unfold fit; rw [if_pos rfl]; exact hf)).weaken (fun o h2 hp => ⟨nI 0, v, hp.1, JSc.mk (hmd hp.2) hs hm hr, fun q => by omega⟩)⟩
  · by_cases hf : ni % 8 = 0 ∧ 16 ≤ ni ∧ ni ≤ 64
    · have hfl : l88 (it (fls 166) 0 8 OU) := ⟨(it_len (fls_len 166) 8 0 OU).trans hOU.1, it_inv by8 8 0 OU (fun j S _ _ hS => hS.set (by omega)) hOU.2⟩
      have hc := cpy_l88 hIN hfl (show 0 + ni ≤ 88 by omega) (show 8 + ni ≤ 88 by omega)
      refine (w_seal_ok h0 (d_seal1 hs hd hf) (fun o h' hp => ⟨⟨_, hp.1⟩, v, jh_59 (hcl hp.2)⟩)).weaken (fun o h1 hp => ?_)
      obtain ⟨rfl, r, h', ⟨hr0, hd1⟩, rfl⟩ := hp
      cases hr0
      have hj1 := jh_out (hcl hd1) (nI (8 + ni)).toInt64
      obtain ⟨P, hP, hq, hmd⟩ := jh_mod hj1
      refine ⟨0, by omega, rfl, jh_44 hj1, (cq_seal1 hP hm hq hf).weaken (fun o h2 hp => ?_)⟩
      obtain ⟨ho, R0, O1, hR0, hO1, hO2, hk⟩ := hp
      have hO3 : ∀ q, q < 8 + ni → O1.getD q 0 = (mwd FO W ((ni + 8) / 8 - 1) (frt 166 166 ni R0)).getD q 0 := fun q hq => tk_gd hO2 (by omega)
      have ho' : o = .returned (some (.int (nI (8 + ni)))) := by rw [Nat.add_comm 8 ni]; exact ho
      have hk' : mok g P [lc g (nI (8 + ni)).toInt64] FO BA 0 ni (8 + ni) ct W INm O1 IS IB h2 := by rw [Nat.add_comm 8 ni] at hk ⊢; exact hk
      exact ⟨nI (8 + ni), _, ho', JSc.mk (hmd hk') ⟨hT, hK1, hK2, hIN, wnd_ok hT.1.2 hK1.2 (by omega) (by omega) hc, hI, hct, hni, by omega⟩ ⟨mT, mU, mW, mI, hO1, mS, mB, hni, by omega, hct⟩ ⟨r1, r2, r3, fun q hq => (e_seal1 hT.1.2 hK1.2 r1 hIN hOU hf hR0.1 hR0.2.1 (rin_gd hR0 r3) q hq).trans (hO3 q hq).symm, r5⟩, fun _ => rfl⟩
    · refine (w_seal_2 h0 (t_seal_unfit1 hno0 hS hs hd hf)).weaken (fun o h1 hp => ?_)
      obtain ⟨rfl, rfl⟩ := hp
      obtain ⟨P, hP, hq, hmd⟩ := jh_mod hj
      exact ⟨2, by omega, rfl, jh_44 hj, (cq_seal_unfit (w := 1) hP hq hni (by omega) (by unfold fit; rw [if_neg (by omega), if_pos rfl]; exact hf)).weaken (fun o h2 hp => ⟨nI 0, v, hp.1, JSc.mk (hmd hp.2) hs hm hr, fun q => by omega⟩)⟩
  · by_cases hf : 1 ≤ ni ∧ ni ≤ 64
    · have hr2 : r8 ni + 8 ≤ 88 := by unfold r8; omega
      refine (w_seal_ok h0 (d_seal2 hs hd hf) (fun o h' hp => ⟨⟨_, hp.1⟩, v, jh_59 (hcl hp.2)⟩)).weaken (fun o h1 hp => ?_)
      obtain ⟨rfl, r, h', ⟨hr0, hd1⟩, rfl⟩ := hp
      cases hr0
      rw [r8_8] at hd1 ⊢
      have hj1 := jh_out (hcl hd1) (nI (r8 ni + 8)).toInt64
      obtain ⟨P, hP, hq, hmd⟩ := jh_mod hj1
      refine ⟨0, by omega, rfl, jh_44 hj1, (cq_seal2 hP hm hq hf).weaken (fun o h2 hp => ?_)⟩
      obtain ⟨ho, R0, O1, hR0, hO1, hO2, hk⟩ := hp
      exact ⟨nI (r8 ni + 8), _, ho, JSc.mk (hmd hk) ⟨hT, hK1, hK2, hIN, s2_l88 hT.1.2 hK1.2 hIN hOU hf.2, hI, hct, hni, hr2⟩ ⟨mT, mU, mW, mI, hO1, mS, mB, hni, hr2, hct⟩ ⟨r1, r2, r3, fun q hq => (e_seal2 hT.1.2 hK1.2 r1 hIN hOU hf hR0.1 hR0.2.1 (rin_gd hR0 r3) q hq).trans (tk_gd hO2 hq).symm, r5⟩, fun _ => rfl⟩
    · refine (w_seal_2 h0 (t_seal_unfit2 hno0 hS hs hd hf)).weaken (fun o h1 hp => ?_)
      obtain ⟨rfl, rfl⟩ := hp
      obtain ⟨P, hP, hq, hmd⟩ := jh_mod hj
      exact ⟨2, by omega, rfl, jh_44 hj, (cq_seal_unfit (w := 2) hP hq hni (by omega) (by unfold fit; rw [if_neg (by omega), if_neg (by omega)]; exact hf)).weaken (fun o h2 hp => ⟨nI 0, v, hp.1, JSc.mk (hmd hp.2) hs hm hr, fun q => by omega⟩)⟩
set_option maxHeartbeats 4000000 in
theorem o_open {g : Gp} {FO BA : List Nat} {cd : Nat} {v : Int64} {h : Hp} {y0 : Int32} (hno0 : noTr g) (hJ : JSc g FO BA cd v h) : ConW g M_Law_open [(0, 9, 12, 13), (0, 9, 15, 19)] 7 (1, 6) [.ref (zA (gz g) 0), .int y0, .ref (zA (gz g) 59)] h (fun o h1 => ∃ kk, kk ≤ 2 ∧ o = .returned (some (.int (nI kk))) ∧ (∃ vs, h1[44]? = some (.inr (1, vs))) ∧ Con g M_Model_open 5 (0, 0) [.ref (zA (gz g) 44), .int y0] h1 (fun o h2 => ∃ (b : Int32) (v' : Int64), o = .returned (some (.int b)) ∧ JSc g FO BA kk v' h2 ∧ (kk = 0 → v' = b.toInt64))) := by
  obtain ⟨ct, ni, no, NL, BL, K1, K2, IN, OU, W, INm, OUT, IS, IB, hj, hs, hm, hr⟩ := hJ
  obtain ⟨S, hS, hd, hcl⟩ := jh_cls hj
  obtain ⟨vs, h0⟩ := jh_0 hj
  have hs' := hs
  have hm' := hm
  have hr' := hr
  obtain ⟨hT, hK1, hK2, hIN, hOU, hI, hct, hni, hno⟩ := hs'
  obtain ⟨mT, mU, mW, mI, mO, mS, mB, -, -, -⟩ := hm'
  obtain ⟨r1, r2, r3, r4, r5⟩ := hr'
  have hin : IN.take ni = INm.take ni := tk_of (by rw [hIN.1]; omega) (by rw [mI.1]; omega) r3
  rcases i32_up y0 (b := 2) (by omega) with hb | ⟨w, hw, rfl⟩
  · refine (w_open_1 h0 (t_open_bad hno0 hS hs hd hb)).weaken (fun o h1 hp => ?_)
    obtain ⟨rfl, rfl⟩ := hp
    obtain ⟨P, hP, hq, hmd⟩ := jh_mod hj
    exact ⟨1, by omega, rfl, jh_44 hj, (cq_open_bad hP hq hni hb).weaken (fun o h2 hp => ⟨nI 0, v, hp.1, JSc.mk (hmd hp.2) hs hm hr, fun q => by omega⟩)⟩
  have hw2 : w = 0 ∨ w = 1 ∨ w = 2 := by omega
  rcases hw2 with rfl | rfl | rfl
  · by_cases hf : 16 ≤ ni ∧ ni ≤ 80
    · refine (w_open_ok h0 (d_open0 hs hd hf) (fun o h' hp => by
      obtain ⟨JB, SM, SG, MB, OP, -, -, -, -, -, hc⟩ := hp
      rcases hc with ⟨-, ho, hd1⟩ | ⟨-, ho, hd1⟩
      · exact ⟨⟨_, ho⟩, v, jh_59 (hcl hd1)⟩
      · exact ⟨⟨_, ho⟩, v, jh_59 (hcl hd1)⟩)).weaken (fun o h1 hp => ?_)
      obtain ⟨rfl, r, h', ⟨JB, SM, SG, MB, OP, hJB, hSM, hSG, hMB, hOP, hc⟩, rfl⟩ := hp
      rcases hc with ⟨hok, hr0, hd1⟩ | ⟨hok, hr0, hd1⟩
      · cases hr0
        have hj1 := jh_out (hcl hd1) (nI (ni - 16)).toInt64
        obtain ⟨P, hP, hq, hmd⟩ := jh_mod hj1
        refine ⟨0, by omega, rfl, jh_44 hj1, (cq_open0 hP hm hq hf).weaken (fun o h2 hp => ?_)⟩
        obtain ⟨R0, hR0, hc2⟩ := hp
        have E := e_open0 (K1 := K1) (K2 := K2) (JB := JB) (SM := SM) (SG := SG) (MB := MB) (OP := OP) hT.1.2 hK1.2 hK2.2 r1 r2 hJB hSM hSG hMB hOP hI hct r5 mB.2 hIN hf hR0.1 (rin_gd hR0 r3)
        have hpc := cpy_l88 hIN hOP (show 16 + (ni - 16) ≤ 88 by omega) (show 0 + (ni - 16) ≤ 88 by omega)
        have hal := (ast_all (q := (cpy IN OP 16 0 (ni - 16), ct0 IN, MB)) hT.1.2 hK2.2 0 0 (ni - 16 - 0) ⟨hpc, ct0_ok (by rw [hIN.1]; omega) hIN.2, hMB⟩).1
        rcases hc2 with ⟨hok2, ho, O1, hO1, hO2, hk⟩ | ⟨hok2, ho, hk⟩
        · refine ⟨nI (ni - 16), _, ho, JSc.mk (hmd hk) ⟨hT, hK1, hK2, hIN, cpy_l88 hal hOU (by omega) (by omega), hI, hct, hni, by omega⟩ ⟨mT, mU, mW, mI, hO1, mS, mB, hni, by omega, hct⟩ ⟨r1, r2, r3, fun q hq => ?_, r5⟩, fun _ => rfl⟩
          rw [gd_cpy (by rw [hal.1]; omega) (by rw [hOU.1]; omega), if_pos (show 0 ≤ q ∧ q < 0 + (ni - 16) by omega), show 0 + (q - 0) = q by omega]
          exact (E.1 q hq).trans (tk_gd hO2 hq).symm
        · exact absurd ((E.2.symm.trans hok).symm.trans hok2) (by decide)
      · cases hr0
        have hj1 := jh_out (hcl hd1) (-1 : Int32).toInt64
        obtain ⟨P, hP, hq, hmd⟩ := jh_mod hj1
        refine ⟨0, by omega, rfl, jh_44 hj1, (cq_open0 hP hm hq hf).weaken (fun o h2 hp => ?_)⟩
        obtain ⟨R0, hR0, hc2⟩ := hp
        have E := e_open0 (K1 := K1) (K2 := K2) (JB := JB) (SM := SM) (SG := SG) (MB := MB) (OP := OP) hT.1.2 hK1.2 hK2.2 r1 r2 hJB hSM hSG hMB hOP hI hct r5 mB.2 hIN hf hR0.1 (rin_gd hR0 r3)
        rcases hc2 with ⟨hok2, ho, O1, hO1, hO2, hk⟩ | ⟨hok2, ho, hk⟩
        · exact absurd ((E.2.symm.trans hok).symm.trans hok2) (by decide)
        · exact ⟨-1, _, ho, JSc.mk (hmd hk) hs hm hr, fun _ => rfl⟩
    · refine (w_open_2 h0 (t_open_unfit0 hno0 hS hs hd hf)).weaken (fun o h1 hp => ?_)
      obtain ⟨rfl, rfl⟩ := hp
      obtain ⟨P, hP, hq, hmd⟩ := jh_mod hj
      exact ⟨2, by omega, rfl, jh_44 hj, (cq_open_unfit (w := 0) hP hq hni (by omega) (by unfold fito; rw [if_pos rfl]; exact hf)).weaken (fun o h2 hp => ⟨nI 0, v, hp.1, JSc.mk (hmd hp.2) hs hm hr, fun q => by omega⟩)⟩
  · by_cases hf : ni % 8 = 0 ∧ 24 ≤ ni ∧ ni ≤ 72
    · refine (w_open_ok h0 (d_open1 hs hd hf) (fun o h' hp => by
      obtain ⟨JB, SM, SG, MB, OP, -, -, -, -, -, hc⟩ := hp
      rcases hc with ⟨-, ho, hd1⟩ | ⟨-, ho, hd1⟩
      · exact ⟨⟨_, ho⟩, v, jh_59 (hcl hd1)⟩
      · exact ⟨⟨_, ho⟩, v, jh_59 (hcl hd1)⟩)).weaken (fun o h1 hp => ?_)
      obtain ⟨rfl, r, h', ⟨JB, SM, SG, MB, OP, hJB, hSM, hSG, hMB, hOP, hc⟩, rfl⟩ := hp
      rcases hc with ⟨hok, hr0, hd1⟩ | ⟨hok, hr0, hd1⟩
      · cases hr0
        have hj1 := jh_out (hcl hd1) (nI (ni - 8)).toInt64
        obtain ⟨P, hP, hq, hmd⟩ := jh_mod hj1
        refine ⟨0, by omega, rfl, jh_44 hj1, (cq_open1 hP hm hq hf).weaken (fun o h2 hp => ?_)⟩
        obtain ⟨R0, hR0, hc2⟩ := hp
        have E := e_open1 (K := K1) (OP := OP) hT.2.2 r1 hIN hOP hOU hf hR0.1 hR0.2.1 (rin_gd hR0 r3)
        have hpc := cpy_l88 hIN hOP (show 0 + ni ≤ 88 by omega) (show 0 + ni ≤ 88 by omega)
        have hal : l88 (uwn BA K1 (ni / 8 - 1) (cpy IN OP 0 0 ni)) := uwn_ok hT.2.2 hK1.2 (by omega) (by omega) hpc
        rcases hc2 with ⟨hok2, ho, O1, hO1, hO2, hk⟩ | ⟨hok2, ho, hk⟩
        · exact ⟨nI (ni - 8), _, ho, JSc.mk (hmd hk) ⟨hT, hK1, hK2, hIN, cpy_l88 (cpy_l88 hal hal (by omega) (by omega)) hOU (by omega) (by omega), hI, hct, hni, by omega⟩ ⟨mT, mU, mW, mI, hO1, mS, mB, hni, by omega, hct⟩ ⟨r1, r2, r3, fun q hq => (E.2 q hq).trans (tk_gd hO2 hq).symm, r5⟩, fun _ => rfl⟩
        · exact absurd ((E.1.symm.trans hok).symm.trans hok2) (by decide)
      · cases hr0
        have hj1 := jh_out (hcl hd1) (-1 : Int32).toInt64
        obtain ⟨P, hP, hq, hmd⟩ := jh_mod hj1
        refine ⟨0, by omega, rfl, jh_44 hj1, (cq_open1 hP hm hq hf).weaken (fun o h2 hp => ?_)⟩
        obtain ⟨R0, hR0, hc2⟩ := hp
        have E := e_open1 (K := K1) (OP := OP) hT.2.2 r1 hIN hOP hOU hf hR0.1 hR0.2.1 (rin_gd hR0 r3)
        rcases hc2 with ⟨hok2, ho, O1, hO1, hO2, hk⟩ | ⟨hok2, ho, hk⟩
        · exact absurd ((E.1.symm.trans hok).symm.trans hok2) (by decide)
        · exact ⟨-1, _, ho, JSc.mk (hmd hk) hs hm hr, fun _ => rfl⟩
    · refine (w_open_2 h0 (t_open_unfit1 hno0 hS hs hd hf)).weaken (fun o h1 hp => ?_)
      obtain ⟨rfl, rfl⟩ := hp
      obtain ⟨P, hP, hq, hmd⟩ := jh_mod hj
      exact ⟨2, by omega, rfl, jh_44 hj, (cq_open_unfit (w := 1) hP hq hni (by omega) (by unfold fito; rw [if_neg (by omega), if_pos rfl]; exact hf)).weaken (fun o h2 hp => ⟨nI 0, v, hp.1, JSc.mk (hmd hp.2) hs hm hr, fun q => by omega⟩)⟩
  · by_cases hf : ni % 8 = 0 ∧ 16 ≤ ni ∧ ni ≤ 72
    · refine (w_open_ok h0 (d_open2 hs hd hf) (fun o h' hp => by
      obtain ⟨JB, SM, SG, MB, OP, -, -, -, -, -, hc⟩ := hp
      rcases hc with ⟨-, ho, hd1⟩ | ⟨-, ho, hd1⟩
      · exact ⟨⟨_, ho⟩, v, jh_59 (hcl hd1)⟩
      · exact ⟨⟨_, ho⟩, v, jh_59 (hcl hd1)⟩)).weaken (fun o h1 hp => ?_)
      obtain ⟨rfl, r, h', ⟨JB, SM, SG, MB, OP, hJB, hSM, hSG, hMB, hOP, hc⟩, rfl⟩ := hp
      rcases hc with ⟨hok, hr0, hd1⟩ | ⟨hok, hr0, hd1⟩
      · cases hr0
        have hj1 := jh_out (hcl hd1) (nI (wat (cop BA K1 ni (cpy IN OP 0 0 ni)) 4)).toInt64
        obtain ⟨P, hP, hq, hmd⟩ := jh_mod hj1
        refine ⟨0, by omega, rfl, jh_44 hj1, (cq_open2 hP hm hq hf).weaken (fun o h2 hp => ?_)⟩
        obtain ⟨R0, hR0, hc2⟩ := hp
        have E := e_open2 (K := K1) (OP := OP) hT.2.2 r1 hIN hOP hOU hf hR0.1 hR0.2.1 (rin_gd hR0 r3)
        have hpc := cpy_l88 hIN hOP (show 0 + ni ≤ 88 by omega) (show 0 + ni ≤ 88 by omega)
        have hal := cop_ok (n := ni) hT.2.2 hK1.2 hni hpc
        rcases hc2 with ⟨hok2, ho, O1, hO1, hO2, hk⟩ | ⟨hok2, ho, hk⟩
        · obtain ⟨e1, e2, e3⟩ := E.2 hok2
          have e2' : wat (cop BA K1 ni (cpy IN OP 0 0 ni)) 4 ≤ ni - 8 := by rw [e1]; exact e2
          have ho' : o = .returned (some (.int (nI (wat (cop BA K1 ni (cpy IN OP 0 0 ni)) 4)))) := by rw [e1]; exact ho
          have hk' : mok g P [lc g (nI (wat (cop BA K1 ni (cpy IN OP 0 0 ni)) 4)).toInt64] FO BA 0 ni (wat (cop BA K1 ni (cpy IN OP 0 0 ni)) 4) ct W INm O1 IS IB h2 := (congrArg (fun n => mok g P [lc g (nI (wat (cop BA K1 ni (cpy IN OP 0 0 ni)) 4)).toInt64] FO BA 0 ni n ct W INm O1 IS IB h2) e1.symm).mp hk
          exact ⟨_, _, ho', JSc.mk (hmd hk') ⟨hT, hK1, hK2, hIN, cpy_l88 (cpy_l88 hal hal (by omega) (by omega)) hOU (by omega) (by omega), hI, hct, hni, by omega⟩ ⟨mT, mU, mW, mI, hO1, mS, mB, hni, by omega, hct⟩ ⟨r1, r2, r3, fun q hq => (e3 q (by rw [← e1]; exact hq)).trans (tk_gd hO2 (show q < (opr BA W ni R0).getD 7 0 by rw [← e1]; exact hq)).symm, r5⟩, fun _ => rfl⟩
        · exact absurd ((E.1.symm.trans hok).symm.trans hok2) (by decide)
      · cases hr0
        have hj1 := jh_out (hcl hd1) (-1 : Int32).toInt64
        obtain ⟨P, hP, hq, hmd⟩ := jh_mod hj1
        refine ⟨0, by omega, rfl, jh_44 hj1, (cq_open2 hP hm hq hf).weaken (fun o h2 hp => ?_)⟩
        obtain ⟨R0, hR0, hc2⟩ := hp
        have E := e_open2 (K := K1) (OP := OP) hT.2.2 r1 hIN hOP hOU hf hR0.1 hR0.2.1 (rin_gd hR0 r3)
        rcases hc2 with ⟨hok2, ho, O1, hO1, hO2, hk⟩ | ⟨hok2, ho, hk⟩
        · exact absurd ((E.1.symm.trans hok).symm.trans hok2) (by decide)
        · exact ⟨-1, _, ho, JSc.mk (hmd hk) hs hm hr, fun _ => rfl⟩
    · refine (w_open_2 h0 (t_open_unfit2 hno0 hS hs hd hf)).weaken (fun o h1 hp => ?_)
      obtain ⟨rfl, rfl⟩ := hp
      obtain ⟨P, hP, hq, hmd⟩ := jh_mod hj
      exact ⟨2, by omega, rfl, jh_44 hj, (cq_open_unfit (w := 2) hP hq hni (by omega) (by unfold fito; rw [if_neg (by omega), if_neg (by omega)]; exact hf)).weaken (fun o h2 hp => ⟨nI 0, v, hp.1, JSc.mk (hmd hp.2) hs hm hr, fun q => by omega⟩)⟩
