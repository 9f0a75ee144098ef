/-! Each operation of the law on what both hold. -/
theorem gl_set {A : List (List Nat)} {j k : Nat} {B : List Nat} : (A.set k B).getD j [] = if k = j ∧ k < A.length then B else A.getD j [] := by
  rw [List.getD_eq_getElem?_getD, List.getD_eq_getElem?_getD, List.getElem?_set]
  by_cases h : k = j
  · subst h
    by_cases h2 : k < A.length
    · simp [h2]
    · simp [h2]
  · simp [h]
theorem dok_len {g : Gp} {S : Hp} {FO BA : List Nat} {ct ni no : Nat} {NL : List Nat} {BL : List (List Nat)} {K1 K2 IN OU : List Nat} {h : Hp} (hd : dok g S FO BA ct ni no NL BL K1 K2 IN OU h) : NL.length = 5 ∧ BL.length = 5 := by
  obtain ⟨nj, n0, n1, n2, n3, n4, np, PW, F1, F2, WB, TW, SM, JB, B0, B1, B2, B3, B4, SG, CT, MB, OP, rfl, rfl, hd, rfl⟩ := hd
  exact ⟨rfl, rfl⟩
theorem d_item {g : Gp} {S : Hp} {FO BA : List Nat} {ct ni no : Nat} {NL : List Nat} {BL : List (List Nat)} {K1 K2 IN OU : List Nat} {h : Hp} (hs : dst0 FO BA ct ni no NL BL K1 K2 IN OU) (hd : dok g S FO BA ct ni no NL BL K1 K2 IN OU h) (hn : ni ≤ 40) (hc : ct < 5) :
    Con g M_Desk_item 6 (0, 0) [.ref (zA (gz g) 0)] h (dre g S FO BA (some (.int (nI (ct + 1)))) (ct + 1) 0 no (NL.set ct ni) (BL.set ct (cpy IN (BL.getD ct []) 0 0 ni)) K1 K2 IN OU) := by
  match ct, hc, hs, hd with
  | 0, _, hs, hd => exact d_item0 hs hd hn
  | 1, _, hs, hd => exact d_item1 hs hd hn
  | 2, _, hs, hd => exact d_item2 hs hd hn
  | 3, _, hs, hd => exact d_item3 hs hd hn
  | 4, _, hs, hd => exact d_item4 hs hd hn
theorem cpy_l88 {A B : List Nat} {sp dp n : Nat} (hA : l88 A) (hB : l88 B) (h1 : sp + n ≤ 88) (h2 : dp + n ≤ 88) : l88 (cpy A B sp dp n) := ⟨(cpy_length (by rw [hA.1]; exact h1) (by rw [hB.1]; exact h2)).trans hB.1, cpy8 hA.2 hB.2⟩
theorem tk_of {A B : List Nat} {n : Nat} (h1 : n ≤ A.length) (h2 : n ≤ B.length) (h : ∀ q, q < n → A.getD q 0 = B.getD q 0) : A.take n = B.take n := gd_tk2 h1 h2 h
theorem rin_gd {IN INm R : List Nat} {ni : Nat} (h : rin INm ni R) (hr : ∀ q, q < ni → IN.getD q 0 = INm.getD q 0) : ∀ q, q < ni → R.getD q 0 = IN.getD q 0 := fun q hq => (tk_gd h.2.2 hq).trans (hr q hq).symm
theorem fdm_l88 {w n d : Nat} {A : List Nat} (h : l88 A) : l88 (it (fdm w n) 0 d A) := ⟨(it_len (fdm_len w n) d 0 A).trans h.1, fdm8 0 d h.2⟩
theorem item_r {ct ni : Nat} {NL : List Nat} {BL : List (List Nat)} {IN INm IB IS : List Nat} (hNL : NL.length = 5) (hBL : BL.length = 5) (hI : ∀ i, i < 5 → l88 (BL.getD i []) ∧ NL.getD i 0 ≤ 40) (hIN : l88 IN) (hB : IB.length = 200) (hS : IS.length = 5) (hct : ct < 5) (hn : ni ≤ 40) (r3 : ∀ q, q < ni → IN.getD q 0 = INm.getD q 0) (hi : INm.length = 88) (r5 : itr ct BL NL IB IS) :
    itr (ct + 1) (BL.set ct (cpy IN (BL.getD ct []) 0 0 ni)) (NL.set ct ni) (it (itp INm ct) 0 ni IB) (IS.set ct ni) := by
  intro i hi2
  rw [gl_set, gd_set, gd_set]
  have hbl := (hI ct hct).1.1
  have hgd : ∀ q, (it (itp INm ct) 0 ni IB).getD q 0 = if 40 * ct ≤ q ∧ q < 40 * ct + ni then INm.getD (q - 40 * ct) 0 else IB.getD q 0 := fun q => gd_itp (by rw [hB]; omega) q
  have hlen : (it (itp INm ct) 0 ni IB).length = 200 := (it_len (itp_len INm ct) ni 0 IB).trans hB
  by_cases hc : ct = i
  · subst hc
    rw [if_pos ⟨rfl, by omega⟩, if_pos ⟨rfl, by omega⟩, if_pos ⟨rfl, by omega⟩]
    refine ⟨rfl, ?_⟩
    unfold itm
    rw [gd_set, if_pos ⟨rfl, by omega⟩]
    have hcl : (cpy IN (BL.getD ct []) 0 0 ni).length = 88 := (cpy_length (by rw [hIN.1]; omega) (by rw [hbl]; omega)).trans hbl
    refine gd_ext (by rw [List.length_take, List.length_take, List.length_drop, hcl, hlen]; omega) (fun q hq => ?_)
    rw [List.length_take, hcl] at hq
    rw [gd_tk, if_pos (show q < ni by omega), gd_cpy (by rw [hIN.1]; omega) (by rw [hbl]; omega), if_pos (show 0 ≤ q ∧ q < 0 + ni by omega), gd_tk, if_pos (show q < ni by omega), gd_dr, hgd, if_pos (show 40 * ct ≤ 40 * ct + q ∧ 40 * ct + q < 40 * ct + ni by omega), show 0 + (q - 0) = q by omega, show 40 * ct + q - 40 * ct = q by omega]
    exact r3 q (by omega)
  · obtain ⟨e1, e2⟩ := r5 i (by omega)
    rw [if_neg (by omega), if_neg (by omega), if_neg (by omega)]
    refine ⟨e1, ?_⟩
    rw [e2]
    have hle := (hI i (by omega)).2
    unfold itm
    rw [gd_set, if_neg (by omega)]
    refine gd_ext (by rw [List.length_take, List.length_take, List.length_drop, List.length_drop, hlen, hB]) (fun q hq => ?_)
    rw [List.length_take, List.length_drop, hB] at hq
    rw [gd_tk, gd_tk, gd_dr, gd_dr, hgd, if_neg (show ¬ (40 * ct ≤ 40 * i + q ∧ 40 * i + q < 40 * ct + ni) by omega)]

theorem o_key {g : Gp} {FO BA : List Nat} {cd : Nat} {v : Int64} {h : Hp} {y0 y1 y2 y3 y4 : Int32} (hno0 : noTr g) (hJ : JSc g FO BA cd v h) : ConW g M_Law_key [(0, 11, 14, 13)] 7 (1, 6) [.ref (zA (gz g) 0), .int y0, .int y1, .int y2, .int y3, .int y4] h (fun o h1 => ∃ kk, kk ≤ 2 ∧ o = .returned (some (.int (nI kk))) ∧ (∃ vs, h1[44]? = some (.inr (1, vs))) ∧ Con g M_Model_key 2 (0, 0) [.ref (zA (gz g) 44), .int y0, .int y1, .int y2, .int y3, .int y4] h1 (fun o h2 => o = .returned none ∧ ∃ v', JSc g FO BA kk v' h2)) := by
  obtain ⟨ct, ni, no, NL, BL, K1, K2, IN, OU, W, INm, OUT, IS, IB, hj, hs, hm, hr⟩ := hJ
  obtain ⟨S, hS, hd, hcl⟩ := jh_cls hj
  obtain ⟨vs, h0⟩ := jh_0 hj
  have hs' := hs
  have hm' := hm
  have hr' := hr
  obtain ⟨hT, hK1, hK2, hIN, hOU, hI, hct, hni, hno⟩ := hs'
  obtain ⟨mT, mU, mW, mI, mO, mS, mB, -, -, -⟩ := hm'
  obtain ⟨r1, r2, r3, r4, r5⟩ := hr'
  rcases i32_up y0 (b := 1) (by omega) with hb | ⟨w, hw, rfl⟩
  · refine (w_key_1 h0 (t_key hno0 hS hs hd hb)).weaken (fun o h1 hp => ?_)
    obtain ⟨rfl, rfl⟩ := hp
    obtain ⟨P, hP, hq, hmd⟩ := jh_mod hj
    exact ⟨1, by omega, rfl, jh_44 hj, (q_key_bad hP hm hq hb).weaken (fun o h2 hp => ⟨hp.1, v, JSc.mk (hmd hp.2) hs hm hr⟩)⟩
  · obtain ⟨a, ha, rfl⟩ := i32_nI y1
    obtain ⟨b, hb, rfl⟩ := i32_nI y2
    obtain ⟨c, hc, rfl⟩ := i32_nI y3
    obtain ⟨d, hdd, rfl⟩ := i32_nI y4
    have hw2 : w = 0 ∨ w = 1 := by omega
    rcases hw2 with rfl | rfl
    · refine (w_key_ok h0 (d_key0 hs hd ha hb hc hdd) (fun o h' hp => hp.1)).weaken (fun o h1 hp => ?_)
      obtain ⟨rfl, -, hd1⟩ := hp
      have hj1 := hcl hd1
      obtain ⟨P, hP, hq, hmd⟩ := jh_mod hj1
      exact ⟨0, by omega, rfl, jh_44 hj1, (q_key_ok (w := 0) hP hm hq (by omega) ha hb hc hdd).weaken (fun o h2 hp => ⟨hp.1, v, JSc.mk (hmd hp.2) ⟨hT, keys_ok hT.1.2 a b c d hK1.1 hK1.2, hK2, hIN, hOU, hI, hct, hni, hno⟩ ⟨mT, mU, mky_ok mT.2 0 ha hb hc hdd mW, mI, mO, mS, mB, hni, hno, hct⟩ ⟨keys_kr hT.1.2 (by omega) hK1.1 mW ha hb hc hdd, kr_other r2 (by omega), r3, r4, r5⟩⟩)⟩
    · refine (w_key_ok h0 (d_key1 hs hd ha hb hc hdd) (fun o h' hp => hp.1)).weaken (fun o h1 hp => ?_)
      obtain ⟨rfl, -, hd1⟩ := hp
      have hj1 := hcl hd1
      obtain ⟨P, hP, hq, hmd⟩ := jh_mod hj1
      exact ⟨0, by omega, rfl, jh_44 hj1, (q_key_ok (w := 1) hP hm hq (by omega) ha hb hc hdd).weaken (fun o h2 hp => ⟨hp.1, v, JSc.mk (hmd hp.2) ⟨hT, hK1, keys_ok hT.1.2 a b c d hK2.1 hK2.2, hIN, hOU, hI, hct, hni, hno⟩ ⟨mT, mU, mky_ok mT.2 44 ha hb hc hdd mW, mI, mO, mS, mB, hni, hno, hct⟩ ⟨kr_other r1 (by omega), keys_kr hT.1.2 (by omega) hK2.1 mW ha hb hc hdd, r3, r4, r5⟩⟩)⟩
theorem o_feed {g : Gp} {FO BA : List Nat} {cd : Nat} {v : Int64} {h : Hp} {y0 y1 : Int32} (hno0 : noTr g) (hJ : JSc g FO BA cd v h) : ConW g M_Law_feed [(0, 10, 13, 19), (0, 10, 17, 21)] 7 (1, 6) [.ref (zA (gz g) 0), .int y0, .int y1, .ref (zA (gz g) 59)] h (fun o h1 => ∃ kk, kk ≤ 2 ∧ o = .returned (some (.int (nI kk))) ∧ (∃ vs, h1[44]? = some (.inr (1, vs))) ∧ Con g M_Model_feed 0 (0, 0) [.ref (zA (gz g) 44), .int y0, .int y1] h1 (fun o h2 => ∃ (b : Int32) (v' : Int64), o = .returned (some (.int b)) ∧ JSc g FO BA kk v' h2 ∧ (kk = 0 → v' = b.toInt64))) := by
  obtain ⟨ct, ni, no, NL, BL, K1, K2, IN, OU, W, INm, OUT, IS, IB, hj, hs, hm, hr⟩ := hJ
  obtain ⟨S, hS, hd, hcl⟩ := jh_cls hj
  obtain ⟨vs, h0⟩ := jh_0 hj
  have hs' := hs
  have hm' := hm
  have hr' := hr
  obtain ⟨hT, hK1, hK2, hIN, hOU, hI, hct, hni, hno⟩ := hs'
  obtain ⟨mT, mU, mW, mI, mO, mS, mB, -, -, -⟩ := hm'
  obtain ⟨r1, r2, r3, r4, r5⟩ := hr'
  by_cases hb : y1 < nI 1 ∨ ¬ y1 ≤ nI 4
  · refine (w_feed_1 h0 (t_feed_bad hno0 hS hs hd hb)).weaken (fun o h1 hp => ?_)
    obtain ⟨rfl, rfl⟩ := hp
    obtain ⟨P, hP, hq, hmd⟩ := jh_mod hj
    exact ⟨1, by omega, rfl, jh_44 hj, (q_feed_bad hP hm hq hb).weaken (fun o h2 hp => ⟨nI 0, v, hp.1, JSc.mk (hmd hp.2) hs hm hr, fun q => by omega⟩)⟩
  · obtain ⟨n, hn1, hn4, rfl⟩ := i32_in (by omega) (by omega) hb
    obtain ⟨w, hw, rfl⟩ := i32_nI y0
    by_cases hf : ni + n ≤ 88
    · refine (w_feed_ok h0 (d_feed hs hd hw ⟨hn1, hn4⟩ hf) (fun o h' hp => ⟨⟨_, hp.1⟩, v, jh_59 (hcl hp.2)⟩)).weaken (fun o h1 hp => ?_)
      obtain ⟨rfl, r, h', ⟨hr0, hd1⟩, rfl⟩ := hp
      cases hr0
      have hj1 := jh_out (hcl hd1) (nI (ni + n)).toInt64
      obtain ⟨P, hP, hq, hmd⟩ := jh_mod hj1
      refine ⟨0, by omega, rfl, jh_44 hj1, (q_feed_ok hP hm hq hw ⟨hn1, hn4⟩ hf).weaken (fun o h2 hp => ⟨nI (ni + n), _, hp.1, JSc.mk (hmd hp.2) ⟨hT, hK1, hK2, fdm_l88 hIN, hOU, hI, hct, hf, hno⟩ ⟨mT, mU, mW, fdm_l88 mI, mO, mS, mB, hf, hno, hct⟩ ⟨r1, r2, fun q hq => ?_, r4, r5⟩, fun _ => rfl⟩)⟩
      rw [gd_fdm (by rw [hIN.1]; omega), gd_fdm (by rw [mI.1]; omega)]
      by_cases hq2 : ni ≤ q ∧ q < ni + n
      · rw [if_pos hq2, if_pos hq2]
      · rw [if_neg hq2, if_neg hq2]
        exact r3 q (by omega)
    · refine (w_feed_2 h0 (t_feed_full hno0 hS hs hd ⟨hn1, hn4⟩ (by omega))).weaken (fun o h1 hp => ?_)
      obtain ⟨rfl, rfl⟩ := hp
      obtain ⟨P, hP, hq, hmd⟩ := jh_mod hj
      exact ⟨2, by omega, rfl, jh_44 hj, (q_feed_full hP hm hq ⟨hn1, hn4⟩ ⟨by omega, hni⟩).weaken (fun o h2 hp => ⟨nI 0, v, hp.1, JSc.mk (hmd hp.2) hs hm hr, fun q => by omega⟩)⟩
theorem o_alter {g : Gp} {FO BA : List Nat} {cd : Nat} {v : Int64} {h : Hp} {y0 y1 : Int32} (hno0 : noTr g) (hJ : JSc g FO BA cd v h) : ConW g M_Law_alter [(0, 6, 9, 13), (0, 6, 12, 19)] 7 (1, 6) [.ref (zA (gz g) 0), .int y0, .int y1] h (fun o h1 => ∃ kk, kk ≤ 2 ∧ o = .returned (some (.int (nI kk))) ∧ (∃ vs, h1[44]? = some (.inr (1, vs))) ∧ Con g M_Model_alter 0 (0, 0) [.ref (zA (gz g) 44), .int y0, .int y1] h1 (fun o h2 => o = .returned none ∧ ∃ v', JSc g FO BA kk v' h2)) := by
  obtain ⟨ct, ni, no, NL, BL, K1, K2, IN, OU, W, INm, OUT, IS, IB, hj, hs, hm, hr⟩ := hJ
  obtain ⟨S, hS, hd, hcl⟩ := jh_cls hj
  obtain ⟨vs, h0⟩ := jh_0 hj
  have hs' := hs
  have hm' := hm
  have hr' := hr
  obtain ⟨hT, hK1, hK2, hIN, hOU, hI, hct, hni, hno⟩ := hs'
  obtain ⟨mT, mU, mW, mI, mO, mS, mB, -, -, -⟩ := hm'
  obtain ⟨r1, r2, r3, r4, r5⟩ := hr'
  rcases i32_lt y0 (b := ni) (by omega) with hb | ⟨k, hk, rfl⟩
  · refine (w_alter_1 h0 (t_alter_bad hno0 hS hs hd hb)).weaken (fun o h1 hp => ?_)
    obtain ⟨rfl, rfl⟩ := hp
    obtain ⟨P, hP, hq, hmd⟩ := jh_mod hj
    exact ⟨1, by omega, rfl, jh_44 hj, (q_alter_bad hP hm hq hb).weaken (fun o h2 hp => ⟨hp.1, v, JSc.mk (hmd hp.2) hs hm hr⟩)⟩
  · rcases i32_up y1 (b := 255) (by omega) with hb | ⟨x, hx, rfl⟩
    · refine (w_alter_2 h0 (t_alter_byte hno0 hS hs hd hk hb)).weaken (fun o h1 hp => ?_)
      obtain ⟨rfl, rfl⟩ := hp
      obtain ⟨P, hP, hq, hmd⟩ := jh_mod hj
      exact ⟨2, by omega, rfl, jh_44 hj, (q_alter_byte hP hm hq hk hb).weaken (fun o h2 hp => ⟨hp.1, v, JSc.mk (hmd hp.2) hs hm hr⟩)⟩
    · refine (w_alter_ok h0 (d_alter hs hd hk (show x < 256 by omega)) (fun o h' hp => hp.1)).weaken (fun o h1 hp => ?_)
      obtain ⟨rfl, -, hd1⟩ := hp
      have hj1 := hcl hd1
      obtain ⟨P, hP, hq, hmd⟩ := jh_mod hj1
      refine ⟨0, by omega, rfl, jh_44 hj1, (q_alter_ok hP hm hq hk (show x < 256 by omega)).weaken (fun o h2 hp => ⟨hp.1, v, JSc.mk (hmd hp.2) ⟨hT, hK1, hK2, ⟨by rw [List.length_set]; exact hIN.1, hIN.2.set (by omega)⟩, hOU, hI, hct, hni, hno⟩ ⟨mT, mU, mW, ⟨by rw [List.length_set]; exact mI.1, mI.2.set (by omega)⟩, mO, mS, mB, hni, hno, hct⟩ ⟨r1, r2, fun q hq => ?_, r4, r5⟩⟩)⟩
      rw [gd_set, gd_set, hIN.1, mI.1, r3 q hq]
theorem o_item {g : Gp} {FO BA : List Nat} {cd : Nat} {v : Int64} {h : Hp} (hno0 : noTr g) (hJ : JSc g FO BA cd v h) : ConW g M_Law_item [(0, 8, 11, 19), (0, 8, 14, 21)] 7 (1, 6) [.ref (zA (gz g) 0), .ref (zA (gz g) 59)] h (fun o h1 => ∃ kk, kk ≤ 2 ∧ o = .returned (some (.int (nI kk))) ∧ (∃ vs, h1[44]? = some (.inr (1, vs))) ∧ Con g M_Model_item 0 (0, 0) [.ref (zA (gz g) 44)] h1 (fun o h2 => ∃ (b : Int32) (v' : Int64), o = .returned (some (.int b)) ∧ JSc g FO BA kk v' h2 ∧ (kk = 0 → v' = b.toInt64))) := by
  obtain ⟨ct, ni, no, NL, BL, K1, K2, IN, OU, W, INm, OUT, IS, IB, hj, hs, hm, hr⟩ := hJ
  obtain ⟨S, hS, hd, hcl⟩ := jh_cls hj
  obtain ⟨vs, h0⟩ := jh_0 hj
  have hs' := hs
  have hm' := hm
  have hr' := hr
  obtain ⟨hT, hK1, hK2, hIN, hOU, hI, hct, hni, hno⟩ := hs'
  obtain ⟨mT, mU, mW, mI, mO, mS, mB, -, -, -⟩ := hm'
  obtain ⟨r1, r2, r3, r4, r5⟩ := hr'
  by_cases hb : 40 < ni
  · refine (w_item_1 h0 (t_item_long hno0 hS hs hd hb)).weaken (fun o h1 hp => ?_)
    obtain ⟨rfl, rfl⟩ := hp
    obtain ⟨P, hP, hq, hmd⟩ := jh_mod hj
    exact ⟨1, by omega, rfl, jh_44 hj, (q_item_long hP hm hq hb).weaken (fun o h2 hp => ⟨nI 0, v, hp.1, JSc.mk (hmd hp.2) hs hm hr, fun q => by omega⟩)⟩
  · by_cases hf : ct = 5
    · refine (w_item_2 h0 (t_item_full hno0 hS hs hd (by omega) hf)).weaken (fun o h1 hp => ?_)
      obtain ⟨rfl, rfl⟩ := hp
      obtain ⟨P, hP, hq, hmd⟩ := jh_mod hj
      exact ⟨2, by omega, rfl, jh_44 hj, (q_item_full hP hm hq (by omega) hf).weaken (fun o h2 hp => ⟨nI 0, v, hp.1, JSc.mk (hmd hp.2) hs hm hr, fun q => by omega⟩)⟩
    · have hl := dok_len hd
      refine (w_item_ok h0 (d_item hs hd (by omega) (by omega)) (fun o h' hp => ⟨⟨_, hp.1⟩, v, jh_59 (hcl hp.2)⟩)).weaken (fun o h1 hp => ?_)
      obtain ⟨rfl, r, h', ⟨hr0, hd1⟩, rfl⟩ := hp
      cases hr0
      have hj1 := jh_out (hcl hd1) (nI (ct + 1)).toInt64
      obtain ⟨P, hP, hq, hmd⟩ := jh_mod hj1
      have hB2 := hI ct (by omega)
      have hcl2 : l88 (cpy IN (BL.getD ct []) 0 0 ni) := cpy_l88 hIN hB2.1 (by omega) (by omega)
      have hib : (it (itp INm ct) 0 ni IB).length = 200 ∧ by8 (it (itp INm ct) 0 ni IB) := ⟨(it_len (itp_len INm ct) ni 0 IB).trans mB.1, it_inv by8 ni 0 IB (fun j T _ _ hT => hT.set (mI.2.at _)) mB.2⟩
      refine ⟨0, by omega, rfl, jh_44 hj1, (q_item_ok hP hm hq (by omega) (by omega)).weaken (fun o h2 hp => ⟨nI (ct + 1), _, hp.1, JSc.mk (hmd hp.2) ⟨hT, hK1, hK2, hIN, hOU, fun i hi => ?_, by omega, by omega, hno⟩ ⟨mT, mU, mW, mI, mO, ⟨by rw [List.length_set]; exact mS.1, fun i => ?_⟩, hib, by omega, hno, by omega⟩ ⟨r1, r2, fun q hq => by omega, r4, item_r hl.1 hl.2 hI hIN mB.1 mS.1 (by omega) (by omega) r3 mI.1 r5⟩, fun _ => rfl⟩)⟩
      · rw [gl_set, gd_set, hl.1, hl.2]
        by_cases hc : ct = i ∧ ct < 5
        · rw [if_pos hc, if_pos hc]
          exact ⟨hcl2, by omega⟩
        · rw [if_neg hc, if_neg hc]
          exact hI i hi
      · rw [gd_set]
        split
        · omega
        · exact mS.2 i
theorem o_cipher {g : Gp} {FO BA : List Nat} {cd : Nat} {v : Int64} {h : Hp} {bk : Nat} (hbk : bk < 2) (hno0 : noTr g) (hJ : JSc g FO BA cd v h) : ConW g M_Law_cipher [(0, 5, 8, 19)] 7 (1, 6) [.ref (zA (gz g) 0), .int (nI bk)] h (fun o h1 => ∃ kk, kk ≤ 2 ∧ o = .returned (some (.int (nI kk))) ∧ (∃ vs, h1[44]? = some (.inr (1, vs))) ∧ Con g M_Model_cipher 3 (0, 0) [.ref (zA (gz g) 44), .int (nI bk)] h1 (fun o h2 => o = .returned none ∧ ∃ v', JSc g FO BA kk v' h2)) := by
  obtain ⟨ct, ni, no, NL, BL, K1, K2, IN, OU, W, INm, OUT, IS, IB, hj, hs, hm, hr⟩ := hJ
  obtain ⟨S, hS, hd, hcl⟩ := jh_cls hj
  obtain ⟨vs, h0⟩ := jh_0 hj
  have hs' := hs
  have hm' := hm
  have hr' := hr
  obtain ⟨hT, hK1, hK2, hIN, hOU, hI, hct, hni, hno⟩ := hs'
  obtain ⟨mT, mU, mW, mI, mO, mS, mB, -, -, -⟩ := hm'
  obtain ⟨r1, r2, r3, r4, r5⟩ := hr'
  by_cases h16 : ni = 16
  · subst h16
    have hin : IN.take 16 = INm.take 16 := tk_of (by rw [hIN.1]; omega) (by rw [mI.1]; omega) r3
    have hb2 : bk = 0 ∨ bk = 1 := by omega
    rcases hb2 with rfl | rfl
    · refine (w_cipher_ok h0 (d_cipher0 hs hd) (fun o h' hp => hp.1)).weaken (fun o h1 hp => ?_)
      obtain ⟨rfl, -, hd1⟩ := hp
      have hj1 := hcl hd1
      obtain ⟨P, hP, hq, hmd⟩ := jh_mod hj1
      refine ⟨0, by omega, rfl, jh_44 hj1, (cq_cipher hP hm hq rfl (show 0 < 2 by omega)).weaken (fun o h2 hp => ?_)⟩
      obtain ⟨ho, O1, hO1, hO2, hk⟩ := hp
      rw [if_pos rfl] at hO2
      exact ⟨ho, v, JSc.mk (hmd hk) ⟨hT, hK1, hK2, hIN, ⟨by rw [trn_len]; exact (cpy_l88 hIN hOU (by omega) (by omega)).1, trn8 hT.1.2 hK1.2 (cpy_l88 hIN hOU (by omega) (by omega)).2⟩, hI, hct, hni, by omega⟩ ⟨mT, mU, mW, mI, hO1, mS, mB, hni, by omega, hct⟩ ⟨r1, r2, r3, fun q hq => tk_gd ((e_cip0 hT.1.2 hK1.2 r1 hIN).trans ((congrArg _ hin).trans hO2.symm)) hq, r5⟩⟩
    · refine (w_cipher_ok h0 (d_cipher1 hs hd) (fun o h' hp => hp.1)).weaken (fun o h1 hp => ?_)
      obtain ⟨rfl, -, hd1⟩ := hp
      have hj1 := hcl hd1
      obtain ⟨P, hP, hq, hmd⟩ := jh_mod hj1
      refine ⟨0, by omega, rfl, jh_44 hj1, (cq_cipher hP hm hq rfl (show 1 < 2 by omega)).weaken (fun o h2 hp => ?_)⟩
      obtain ⟨ho, O1, hO1, hO2, hk⟩ := hp
      rw [if_neg (by omega)] at hO2
      exact ⟨ho, v, JSc.mk (hmd hk) ⟨hT, hK1, hK2, hIN, ⟨by rw [trnB_len]; exact (cpy_l88 hIN hOU (by omega) (by omega)).1, trnB8 hT.2.2 hK1.2 (cpy_l88 hIN hOU (by omega) (by omega)).2⟩, hI, hct, hni, by omega⟩ ⟨mT, mU, mW, mI, hO1, mS, mB, hni, by omega, hct⟩ ⟨r1, r2, r3, fun q hq => tk_gd ((e_cip1 hT.2.2 r1 hIN).trans ((congrArg _ hin).trans hO2.symm)) hq, r5⟩⟩
  · refine (w_cipher_1 h0 (t_cipher hno0 hS hs hd h16)).weaken (fun o h1 hp => ?_)
    obtain ⟨rfl, rfl⟩ := hp
    obtain ⟨P, hP, hq, hmd⟩ := jh_mod hj
    exact ⟨1, by omega, rfl, jh_44 hj, (cq_cipher_bad hP hq h16 hni).weaken (fun o h2 hp => ⟨hp.1, v, JSc.mk (hmd hp.2) hs hm hr⟩)⟩
theorem o_mark {g : Gp} {FO BA : List Nat} {cd : Nat} {v : Int64} {h : Hp} {jt : Nat} (hjt : jt < 2) (hJ : JSc g FO BA cd v h) : Con g M_Desk_mark 6 (0, 0) [.ref (zA (gz g) 0), .int (nI jt)] h (fun o h1 => o = .returned none ∧ (∃ vs, h1[44]? = some (.inr (1, vs))) ∧ Con g M_Model_mark 4 (0, 0) [.ref (zA (gz g) 44), .int (nI jt)] h1 (fun o h2 => o = .returned none ∧ ∃ v', JSc g FO BA 0 v' h2)) := by
  obtain ⟨ct, ni, no, NL, BL, K1, K2, IN, OU, W, INm, OUT, IS, IB, hj, hs, hm, hr⟩ := hJ
  obtain ⟨S, hS, hd, hcl⟩ := jh_cls hj
  obtain ⟨vs, h0⟩ := jh_0 hj
  have hs' := hs
  have hm' := hm
  have hr' := hr
  obtain ⟨hT, hK1, hK2, hIN, hOU, hI, hct, hni, hno⟩ := hs'
  obtain ⟨mT, mU, mW, mI, mO, mS, mB, -, -, -⟩ := hm'
  obtain ⟨r1, r2, r3, r4, r5⟩ := hr'
  have hin : IN.take ni = INm.take ni := tk_of (by rw [hIN.1]; omega) (by rw [mI.1]; omega) r3
  have hb2 : jt = 0 ∨ jt = 1 := by omega
  rcases hb2 with rfl | rfl
  · refine (d_mark0 hs hd).weaken (fun o h1 hp => ?_)
    obtain ⟨rfl, hd1⟩ := hp
    have hj1 := hcl hd1
    obtain ⟨P, hP, hq, hmd⟩ := jh_mod hj1
    refine ⟨rfl, jh_44 hj1, (cq_mark hP hm hq (show 0 < 2 by omega)).weaken (fun o h2 hp => ?_)⟩
    obtain ⟨ho, O1, hO1, hO2, hk⟩ := hp
    rw [if_pos rfl] at hO2
    have hck := cmk_ok hT.1.2 hK1.2 hIN.2 ni hOU.2
    exact ⟨ho, v, JSc.mk (hmd hk) ⟨hT, hK1, hK2, hIN, ⟨hck.1.trans hOU.1, hck.2⟩, hI, hct, hni, by omega⟩ ⟨mT, mU, mW, mI, hO1, mS, mB, hni, by omega, hct⟩ ⟨r1, r2, r3, fun q hq => tk_gd ((cmk_take hT.1.2 hK1.2 r1 hIN.2 (by rw [hIN.1]; exact hni) hni (by rw [hOU.1]; omega)).trans ((congrArg _ hin).trans hO2.symm)) hq, r5⟩⟩
  · refine (d_mark1 hs hd).weaken (fun o h1 hp => ?_)
    obtain ⟨rfl, JB, SM, SG, MB, hJB, hSM, hSG, hMB, hd1⟩ := hp
    have hj1 := hcl hd1
    obtain ⟨P, hP, hq, hmd⟩ := jh_mod hj1
    refine ⟨rfl, jh_44 hj1, (cq_mark hP hm hq (show 1 < 2 by omega)).weaken (fun o h2 hp => ?_)⟩
    obtain ⟨ho, O1, hO1, hO2, hk⟩ := hp
    rw [if_neg (by omega)] at hO2
    have hck := cjo_ok (JB := JB) (SM := SM) (M := OU) (BL := BL) (NL := NL) (ct := ct) (n := ni) (RB := IN) hT.1.2 hK1.2 hJB.2 hSM.2 hOU.2 (fun i hi => (hI i (by omega)).1.2) hIN.2
    exact ⟨ho, v, JSc.mk (hmd hk) ⟨hT, hK1, hK2, hIN, ⟨hck.1.trans hOU.1, hck.2⟩, hI, hct, hni, by omega⟩ ⟨mT, mU, mW, mI, hO1, mS, mB, hni, by omega, hct⟩ ⟨r1, r2, r3, fun q hq => tk_gd ((cjo_mjo hT.1.2 hK1.2 r1 hJB hSM (by rw [hOU.1]; omega) hOU.2 hI hct r5 mB.2 hIN hni).trans ((congrArg _ hin).trans hO2.symm)) hq, r5⟩⟩
theorem o_drop {g : Gp} {FO BA : List Nat} {cd : Nat} {v : Int64} {h : Hp} (hJ : JSc g FO BA cd v h) : Con g M_Desk_drop 6 (0, 0) [.ref (zA (gz g) 0)] h (fun o h1 => o = .returned none ∧ (∃ vs, h1[44]? = some (.inr (1, vs))) ∧ Con g M_Model_drop 0 (0, 0) [.ref (zA (gz g) 44)] h1 (fun o h2 => o = .returned none ∧ ∃ v', JSc g FO BA 0 v' h2)) := by
  obtain ⟨ct, ni, no, NL, BL, K1, K2, IN, OU, W, INm, OUT, IS, IB, hj, hs, hm, hr⟩ := hJ
  obtain ⟨S, hS, hd, hcl⟩ := jh_cls hj
  obtain ⟨vs, h0⟩ := jh_0 hj
  have hs' := hs
  have hm' := hm
  have hr' := hr
  obtain ⟨hT, hK1, hK2, hIN, hOU, hI, hct, hni, hno⟩ := hs'
  obtain ⟨mT, mU, mW, mI, mO, mS, mB, -, -, -⟩ := hm'
  obtain ⟨r1, r2, r3, r4, r5⟩ := hr'
  refine (d_drop hs hd).weaken (fun o h1 hp => ?_)
  obtain ⟨rfl, hd1⟩ := hp
  have hj1 := hcl hd1
  obtain ⟨P, hP, hq, hmd⟩ := jh_mod hj1
  refine ⟨rfl, jh_44 hj1, (q_drop hP hm hq).weaken (fun o h2 hp => ⟨hp.1, v, JSc.mk (hmd hp.2) ⟨hT, hK1, hK2, hIN, hOU, hI, hct, by omega, hno⟩ ⟨mT, mU, mW, mI, mO, mS, mB, by omega, hno, hct⟩ ⟨r1, r2, fun q hq => by omega, r4, r5⟩⟩)⟩
theorem o_forget {g : Gp} {FO BA : List Nat} {cd : Nat} {v : Int64} {h : Hp} (hJ : JSc g FO BA cd v h) : Con g M_Desk_forget 6 (0, 0) [.ref (zA (gz g) 0)] h (fun o h1 => ∃ k : Nat, k ≤ 88 ∧ o = .returned (some (.int (nI k))) ∧ (∃ vs, h1[44]? = some (.inr (1, vs))) ∧ Con g M_Model_forget 0 (0, 0) [.ref (zA (gz g) 44)] h1 (fun o h2 => o = .returned (some (.int (nI k))) ∧ ∃ v', JSc g FO BA 0 v' h2)) := by
  obtain ⟨ct, ni, no, NL, BL, K1, K2, IN, OU, W, INm, OUT, IS, IB, hj, hs, hm, hr⟩ := hJ
  obtain ⟨S, hS, hd, hcl⟩ := jh_cls hj
  obtain ⟨vs, h0⟩ := jh_0 hj
  have hs' := hs
  have hm' := hm
  have hr' := hr
  obtain ⟨hT, hK1, hK2, hIN, hOU, hI, hct, hni, hno⟩ := hs'
  obtain ⟨mT, mU, mW, mI, mO, mS, mB, -, -, -⟩ := hm'
  obtain ⟨r1, r2, r3, r4, r5⟩ := hr'
  refine (d_forget hs hd).weaken (fun o h1 hp => ?_)
  obtain ⟨rfl, hd1⟩ := hp
  have hj1 := hcl hd1
  obtain ⟨P, hP, hq, hmd⟩ := jh_mod hj1
  refine ⟨ct, by omega, rfl, jh_44 hj1, (q_forget hP hm hq).weaken (fun o h2 hp => ⟨hp.1, v, JSc.mk (hmd hp.2) ⟨hT, hK1, hK2, hIN, hOU, hI, by omega, hni, hno⟩ ⟨mT, mU, mW, mI, mO, mS, mB, hni, hno, by omega⟩ ⟨r1, r2, r3, r4, fun i hi => by omega⟩⟩)⟩
theorem o_size {g : Gp} {FO BA : List Nat} {cd : Nat} {v : Int64} {h : Hp} (hJ : JSc g FO BA cd v h) : Con g M_Desk_size 6 (0, 0) [.ref (zA (gz g) 0)] h (fun o h1 => ∃ k : Nat, k ≤ 88 ∧ o = .returned (some (.int (nI k))) ∧ (∃ vs, h1[44]? = some (.inr (1, vs))) ∧ Con g M_Model_size 0 (0, 0) [.ref (zA (gz g) 44)] h1 (fun o h2 => o = .returned (some (.int (nI k))) ∧ ∃ v', JSc g FO BA 0 v' h2)) := by
  obtain ⟨ct, ni, no, NL, BL, K1, K2, IN, OU, W, INm, OUT, IS, IB, hj, hs, hm, hr⟩ := hJ
  obtain ⟨S, hS, hd, hcl⟩ := jh_cls hj
  obtain ⟨vs, h0⟩ := jh_0 hj
  have hs' := hs
  have hm' := hm
  have hr' := hr
  obtain ⟨hT, hK1, hK2, hIN, hOU, hI, hct, hni, hno⟩ := hs'
  obtain ⟨mT, mU, mW, mI, mO, mS, mB, -, -, -⟩ := hm'
  obtain ⟨r1, r2, r3, r4, r5⟩ := hr'
  refine (d_size hs hd).weaken (fun o h1 hp => ?_)
  obtain ⟨rfl, hd1⟩ := hp
  have hj1 := hcl hd1
  obtain ⟨P, hP, hq, hmd⟩ := jh_mod hj1
  refine ⟨no, by omega, rfl, jh_44 hj1, (q_size hP hm hq).weaken (fun o h2 hp => ⟨hp.1, v, JSc.mk (hmd hp.2) hs hm hr⟩)⟩
theorem o_take {g : Gp} {FO BA : List Nat} {cd : Nat} {v : Int64} {h : Hp} (hJ : JSc g FO BA cd v h) : Con g M_Desk_take 6 (0, 0) [.ref (zA (gz g) 0)] h (fun o h1 => ∃ k : Nat, k ≤ 88 ∧ o = .returned (some (.int (nI k))) ∧ (∃ vs, h1[44]? = some (.inr (1, vs))) ∧ Con g M_Model_take 0 (0, 0) [.ref (zA (gz g) 44)] h1 (fun o h2 => o = .returned (some (.int (nI k))) ∧ ∃ v', JSc g FO BA 0 v' h2)) := by
  obtain ⟨ct, ni, no, NL, BL, K1, K2, IN, OU, W, INm, OUT, IS, IB, hj, hs, hm, hr⟩ := hJ
  obtain ⟨S, hS, hd, hcl⟩ := jh_cls hj
  obtain ⟨vs, h0⟩ := jh_0 hj
  have hs' := hs
  have hm' := hm
  have hr' := hr
  obtain ⟨hT, hK1, hK2, hIN, hOU, hI, hct, hni, hno⟩ := hs'
  obtain ⟨mT, mU, mW, mI, mO, mS, mB, -, -, -⟩ := hm'
  obtain ⟨r1, r2, r3, r4, r5⟩ := hr'
  refine (d_take hs hd).weaken (fun o h1 hp => ?_)
  obtain ⟨rfl, hd1⟩ := hp
  have hj1 := hcl hd1
  obtain ⟨P, hP, hq, hmd⟩ := jh_mod hj1
  refine ⟨no, by omega, rfl, jh_44 hj1, (q_take hP hm hq).weaken (fun o h2 hp => ⟨hp.1, v, JSc.mk (hmd hp.2) ⟨hT, hK1, hK2, cpy_l88 hOU hIN (by omega) (by omega), hOU, hI, hct, hno, hno⟩ ⟨mT, mU, mW, ⟨(it_len (cp1_len OUT) no 0 INm).trans mI.1, cp1_8 mO.2 0 no mI.2⟩, mO, mS, mB, hno, hno, hct⟩ ⟨r1, r2, fun q hq => ?_, r4, r5⟩⟩)⟩
  rw [gd_cpy (by rw [hOU.1]; omega) (by rw [hIN.1]; omega), if_pos (show 0 ≤ q ∧ q < 0 + no by omega), gd_cp1 (by rw [mI.1]; omega), if_pos (show 0 ≤ q ∧ q < 0 + no by omega), show 0 + (q - 0) = q by omega]
  exact r4 q hq
theorem o_at {g : Gp} {FO BA : List Nat} {cd : Nat} {v : Int64} {h : Hp} {y0 : Int32} (hno0 : noTr g) (hJ : JSc g FO BA cd v h) : ConW g M_Law_at [(0, 9, 12, 13)] 7 (1, 6) [.ref (zA (gz g) 0), .int y0, .ref (zA (gz g) 59)] h (fun o h1 => ∃ kk, kk ≤ 2 ∧ o = .returned (some (.int (nI kk))) ∧ (∃ vs, h1[44]? = some (.inr (1, vs))) ∧ Con g M_Model_at 0 (0, 0) [.ref (zA (gz g) 44), .int y0] h1 (fun o h2 => ∃ (b : Int32) (v' : Int64), o = .returned (some (.int b)) ∧ JSc g FO BA kk v' h2 ∧ (kk = 0 → v' = b.toInt64))) := by
  obtain ⟨ct, ni, no, NL, BL, K1, K2, IN, OU, W, INm, OUT, IS, IB, hj, hs, hm, hr⟩ := hJ
  obtain ⟨S, hS, hd, hcl⟩ := jh_cls hj
  obtain ⟨vs, h0⟩ := jh_0 hj
  have hs' := hs
  have hm' := hm
  have hr' := hr
  obtain ⟨hT, hK1, hK2, hIN, hOU, hI, hct, hni, hno⟩ := hs'
  obtain ⟨mT, mU, mW, mI, mO, mS, mB, -, -, -⟩ := hm'
  obtain ⟨r1, r2, r3, r4, r5⟩ := hr'
  rcases i32_lt y0 (b := no) (by omega) with hb | ⟨k, hk, rfl⟩
  · refine (w_at_1 h0 (t_at hno0 hS hs hd hb)).weaken (fun o h1 hp => ?_)
    obtain ⟨rfl, rfl⟩ := hp
    obtain ⟨P, hP, hq, hmd⟩ := jh_mod hj
    exact ⟨1, by omega, rfl, jh_44 hj, (q_at_bad hP hm hq hb).weaken (fun o h2 hp => ⟨nI 0, v, hp.1, JSc.mk (hmd hp.2) hs hm hr, fun q => by omega⟩)⟩
  · · refine (w_at_ok h0 (d_at hs hd hk) (fun o h' hp => ⟨⟨_, hp.1⟩, v, jh_59 (hcl hp.2)⟩)).weaken (fun o h1 hp => ?_)
      obtain ⟨rfl, r, h', ⟨hr0, hd1⟩, rfl⟩ := hp
      cases hr0
      have hj1 := jh_out (hcl hd1) (nI (OU.getD k 0)).toInt64
      obtain ⟨P, hP, hq, hmd⟩ := jh_mod hj1
      exact ⟨0, by omega, rfl, jh_44 hj1, (q_at_ok hP hm hq hk).weaken (fun o h2 hp => ⟨nI (OU.getD k 0), _, by rw [r4 k hk]; exact hp.1, JSc.mk (hmd hp.2) hs hm hr, fun _ => rfl⟩)⟩
