/-! The desk's methods where they throw. -/
theorem dh_len {g : Gp} {nj ct n0 n1 n2 n3 n4 ni no np : Nat} {FO BA PW K1 F1 K2 F2 WB TW SM JB B0 B1 B2 B3 B4 SG CT MB IN OU OP : List Nat} {S : Hp} : (dh g nj ct n0 n1 n2 n3 n4 ni no np FO BA PW K1 F1 K2 F2 WB TW SM JB B0 B1 B2 B3 B4 SG CT MB IN OU OP S).length = 44 + S.length := by
  unfold dh
  rw [List.length_append]
  rfl
theorem i_lt {x : Int32} {k : Nat} (hk : k + 1 < 2 ^ 31) : x < nI (k + 1) ↔ x ≤ nI k := by
  rw [Int32.lt_iff_toInt_lt, Int32.le_iff_toInt_le, nI_toInt hk, nI_toInt (by omega)]
  omega

theorem t_key {g : Gp} {S : Hp} {FO BA : List Nat} {ct ni no : Nat} {NL : List Nat} {BL : List (List Nat)} {K1 K2 IN OU : List Nat} {h : Hp} (hno0 : noTr g) (hS : S.length = 16) (hs : dst0 FO BA ct ni no NL BL K1 K2 IN OU) (hd : dok g S FO BA ct ni no NL BL K1 K2 IN OU h) {x y1 y2 y3 y4 : Int32} (hb : x < 0 ∨ ¬ x ≤ nI 1) :
    Thr g M_Desk_key 6 R_IndexOutOfBoundsException [.ref (zA (gz g) 0), .int x, .int y1, .int y2, .int y3, .int y4] h := by
  obtain ⟨hT, hK1, hK2, hIN, hOU, hI, hct, hni, hno⟩ := hs
  obtain ⟨nj, n0, n1, n2, n3, n4, np, PW, F1, F2, WB, TW, SM, JB, B0, B1, B2, B3, B4, SG, CT, MB, OP, rfl, rfl, ⟨hF1, hF2, hWB, hTW, hSM, hJB, hSG, hCT, hMB, hOP, hnj, hnp⟩, rfl⟩ := hd
  have hil := hIN.1
  have hol := hOU.1
  have hpl := hOP.1
  have hlen : 60 ≤ (dh g nj ct n0 n1 n2 n3 n4 ni no np FO BA PW K1 F1 K2 F2 WB TW SM JB B0 B1 B2 B3 B4 SG CT MB IN OU OP S).length := by rw [dh_len, hS]; exact Nat.le_refl _
  refine Thr.of (by decide) rfl rfl (L := [some (.ref (zA (gz g) 0)), some (.int x), some (.int y1), some (.int y2), some (.int y3), some (.int y4)]) rfl (fun f C hT hx he => ?_)
  have thr : X g f M_Desk_key (1, 6) (fun o h' => (∃ x, o = .threw x) ∧ h' = (dh g nj ct n0 n1 n2 n3 n4 ni no np FO BA PW K1 F1 K2 F2 WB TW SM JB B0 B1 B2 B3 B4 SG CT MB IN OU OP S)) (0, 0) 13 [some (.ref (zA (gz g) 0)), some (.int x), some (.int y1), some (.int y2), some (.int y3), some (.int y4)] [] (dh g nj ct n0 n1 n2 n3 n4 ni no np FO BA PW K1 F1 K2 F2 WB TW SM JB B0 B1 B2 B3 B4 SG CT MB IN OU OP S) := (x_throw (pc := 13) C hT hx hno0 he rfl (dq D_Desk_key 7 rfl) (dq D_Desk_key 8 rfl) (dq D_Desk_key 9 rfl) (dq D_Desk_key 10 rfl) (dq D_Desk_key 11 rfl) k_cl_Desk_74 k_it_IndexOutOfBoundsException k_in_IndexOutOfBoundsException (by decide +kernel) (fun w q => List.mem_append_left _ q) (List.mem_of_getElem? (i := 0) rfl) hlen rfl (fun x => ⟨⟨x, rfl⟩, rfl⟩))
  refine x_iload_n (pc := 0) C (dq D_Desk_key 0 rfl) rfl ?_
  refine x_iflt (pc := 1) (tgt := 13) C (dq D_Desk_key 1 rfl) (by decide) (fun hq => ?_) (fun hq => ?_)
  · exact thr
  · refine x_iload_n (pc := 4) C (dq D_Desk_key 2 rfl) rfl ?_
    refine x_aload_n (pc := 5) C (dq D_Desk_key 3 rfl) rfl ?_
    refine x_get (pc := 6) (ci := 0) (j := 0) C (dq D_Desk_key 4 rfl) rfl rfl rfl rfl k_fl_Desk_26 ?_
    refine x_rlenN (pc := 9) (N := 2) C (dq D_Desk_key 5 rfl) rfl rfl rfl ?_
    refine x_lt (pc := 10) (tgt := 23) C (dq D_Desk_key 6 rfl) (by decide) (fun hq => ?_) (fun hq => ?_)
    · rcases hb with hb | hb
      · contradiction
      · rename_i h2 _
        exact absurd ((i_lt (k := 1) (by omega)).mp (by assumption)) hb
    · exact thr

theorem t_feed_bad {g : Gp} {S : Hp} {FO BA : List Nat} {ct ni no : Nat} {NL : List Nat} {BL : List (List Nat)} {K1 K2 IN OU : List Nat} {h : Hp} (hno0 : noTr g) (hS : S.length = 16) (hs : dst0 FO BA ct ni no NL BL K1 K2 IN OU) (hd : dok g S FO BA ct ni no NL BL K1 K2 IN OU h) {x y : Int32} (hb : y < nI 1 ∨ ¬ y ≤ nI 4) :
    Thr g M_Desk_feed 6 R_IllegalArgumentException [.ref (zA (gz g) 0), .int x, .int y] h := by
  obtain ⟨hT, hK1, hK2, hIN, hOU, hI, hct, hni, hno⟩ := hs
  obtain ⟨nj, n0, n1, n2, n3, n4, np, PW, F1, F2, WB, TW, SM, JB, B0, B1, B2, B3, B4, SG, CT, MB, OP, rfl, rfl, ⟨hF1, hF2, hWB, hTW, hSM, hJB, hSG, hCT, hMB, hOP, hnj, hnp⟩, rfl⟩ := hd
  have hil := hIN.1
  have hol := hOU.1
  have hpl := hOP.1
  have hlen : 60 ≤ (dh g nj ct n0 n1 n2 n3 n4 ni no np FO BA PW K1 F1 K2 F2 WB TW SM JB B0 B1 B2 B3 B4 SG CT MB IN OU OP S).length := by rw [dh_len, hS]; exact Nat.le_refl _
  refine Thr.of (by decide) rfl rfl (L := [some (.ref (zA (gz g) 0)), some (.int x), some (.int y), none]) rfl (fun f C hT hx he => ?_)
  have thr : X g f M_Desk_feed (1, 6) (fun o h' => (∃ x, o = .threw x) ∧ h' = (dh g nj ct n0 n1 n2 n3 n4 ni no np FO BA PW K1 F1 K2 F2 WB TW SM JB B0 B1 B2 B3 B4 SG CT MB IN OU OP S)) (0, 0) 10 [some (.ref (zA (gz g) 0)), some (.int x), some (.int y), none] [] (dh g nj ct n0 n1 n2 n3 n4 ni no np FO BA PW K1 F1 K2 F2 WB TW SM JB B0 B1 B2 B3 B4 SG CT MB IN OU OP S) := (x_throw (pc := 10) C hT hx hno0 he rfl (dq D_Desk_feed 6 rfl) (dq D_Desk_feed 7 rfl) (dq D_Desk_feed 8 rfl) (dq D_Desk_feed 9 rfl) (dq D_Desk_feed 10 rfl) k_cl_Desk_85 k_it_IllegalArgumentException k_in_IllegalArgumentException (by decide +kernel) (fun w q => List.mem_append_right _ (List.mem_append_left _ q)) (List.mem_of_getElem? (i := 1) rfl) hlen rfl (fun x => ⟨⟨x, rfl⟩, rfl⟩))
  refine x_iload_n (pc := 0) C (dq D_Desk_feed 0 rfl) rfl ?_
  refine x_iconst (pc := 1) C (dq D_Desk_feed 1 rfl) ci_1 ?_
  refine x_lt (pc := 2) (tgt := 10) C (dq D_Desk_feed 2 rfl) (by decide) (fun hq => ?_) (fun hq => ?_)
  · exact thr
  · refine x_iload_n (pc := 5) C (dq D_Desk_feed 3 rfl) rfl ?_
    refine x_iconst (pc := 6) C (dq D_Desk_feed 4 rfl) ci_4 ?_
    refine x_le (pc := 7) (tgt := 20) C (dq D_Desk_feed 5 rfl) (by decide) (fun hq => ?_) (fun hq => ?_)
    · rcases hb with hb | hb <;> contradiction
    · exact thr

theorem t_feed_full {g : Gp} {S : Hp} {FO BA : List Nat} {ct ni no : Nat} {NL : List Nat} {BL : List (List Nat)} {K1 K2 IN OU : List Nat} {h : Hp} (hno0 : noTr g) (hS : S.length = 16) (hs : dst0 FO BA ct ni no NL BL K1 K2 IN OU) (hd : dok g S FO BA ct ni no NL BL K1 K2 IN OU h) {n : Nat} {x : Int32} (hn : 1 ≤ n ∧ n ≤ 4) (hf : 88 < ni + n) :
    Thr g M_Desk_feed 6 R_IllegalStateException [.ref (zA (gz g) 0), .int x, .int (nI n)] h := by
  obtain ⟨hT, hK1, hK2, hIN, hOU, hI, hct, hni, hno⟩ := hs
  obtain ⟨nj, n0, n1, n2, n3, n4, np, PW, F1, F2, WB, TW, SM, JB, B0, B1, B2, B3, B4, SG, CT, MB, OP, rfl, rfl, ⟨hF1, hF2, hWB, hTW, hSM, hJB, hSG, hCT, hMB, hOP, hnj, hnp⟩, rfl⟩ := hd
  have hil := hIN.1
  have hol := hOU.1
  have hpl := hOP.1
  have hlen : 60 ≤ (dh g nj ct n0 n1 n2 n3 n4 ni no np FO BA PW K1 F1 K2 F2 WB TW SM JB B0 B1 B2 B3 B4 SG CT MB IN OU OP S).length := by rw [dh_len, hS]; exact Nat.le_refl _
  refine Thr.of (by decide) rfl rfl (L := [some (.ref (zA (gz g) 0)), some (.int x), some (.int (nI n)), none]) rfl (fun f C hT hx he => ?_)
  have thr : X g f M_Desk_feed (1, 6) (fun o h' => (∃ x, o = .threw x) ∧ h' = (dh g nj ct n0 n1 n2 n3 n4 ni no np FO BA PW K1 F1 K2 F2 WB TW SM JB B0 B1 B2 B3 B4 SG CT MB IN OU OP S)) (0, 0) 34 [some (.ref (zA (gz g) 0)), some (.int x), some (.int (nI n)), none] [] (dh g nj ct n0 n1 n2 n3 n4 ni no np FO BA PW K1 F1 K2 F2 WB TW SM JB B0 B1 B2 B3 B4 SG CT MB IN OU OP S) := (x_throw (pc := 34) C hT hx hno0 he rfl (dq D_Desk_feed 18 rfl) (dq D_Desk_feed 19 rfl) (dq D_Desk_feed 20 rfl) (dq D_Desk_feed 21 rfl) (dq D_Desk_feed 22 rfl) k_cl_Desk_94 k_it_IllegalStateException k_in_IllegalStateException (by decide +kernel) (fun w q => List.mem_append_right _ (List.mem_append_right _ q)) (List.mem_of_getElem? (i := 2) rfl) hlen rfl (fun x => ⟨⟨x, rfl⟩, rfl⟩))
  refine x_iload_n (pc := 0) C (dq D_Desk_feed 0 rfl) rfl ?_
  refine x_iconst (pc := 1) C (dq D_Desk_feed 1 rfl) ci_1 ?_
  refine n_lt_f (pc := 2) (tgt := 10) C (dq D_Desk_feed 2 rfl) (by decide) (by omega) (by omega) ?_
  refine x_iload_n (pc := 5) C (dq D_Desk_feed 3 rfl) rfl ?_
  refine x_iconst (pc := 6) C (dq D_Desk_feed 4 rfl) ci_4 ?_
  refine n_le_t (pc := 7) (tgt := 20) C (dq D_Desk_feed 5 rfl) (by decide) (by omega) (by omega) ?_
  refine x_aload_n (pc := 20) C (dq D_Desk_feed 11 rfl) rfl ?_
  refine x_get (pc := 21) (ci := 0) (j := 4) C (dq D_Desk_feed 12 rfl) rfl rfl rfl rfl k_fl_Desk_64 ?_
  refine x_get (pc := 24) (ci := 7) (j := 1) C (dq D_Desk_feed 13 rfl) rfl rfl rfl rfl k_fl_Desk_90 ?_
  refine x_iload_n (pc := 27) C (dq D_Desk_feed 14 rfl) rfl ?_
  refine n_iadd (pc := 28) C (dq D_Desk_feed 15 rfl) ?_
  refine x_bipush (pc := 29) C (dq D_Desk_feed 16 rfl) cb_88 ?_
  refine n_le_f (pc := 31) (tgt := 44) C (dq D_Desk_feed 17 rfl) (by decide) (by omega) (by omega) ?_
  exact thr

theorem has0 {x : Int32} {n : Nat} (hx : x < 0 ∨ nI n ≤ x) : (if x < 0 ∨ nI n ≤ x then nI 0 else nI 1) = nI 0 := if_pos hx

theorem t_alter_bad {g : Gp} {S : Hp} {FO BA : List Nat} {ct ni no : Nat} {NL : List Nat} {BL : List (List Nat)} {K1 K2 IN OU : List Nat} {h : Hp} (hno0 : noTr g) (hS : S.length = 16) (hs : dst0 FO BA ct ni no NL BL K1 K2 IN OU) (hd : dok g S FO BA ct ni no NL BL K1 K2 IN OU h) {x y : Int32} (hb : x < 0 ∨ nI ni ≤ x) :
    Thr g M_Desk_alter 6 R_IndexOutOfBoundsException [.ref (zA (gz g) 0), .int x, .int y] h := by
  obtain ⟨hT, hK1, hK2, hIN, hOU, hI, hct, hni, hno⟩ := hs
  obtain ⟨nj, n0, n1, n2, n3, n4, np, PW, F1, F2, WB, TW, SM, JB, B0, B1, B2, B3, B4, SG, CT, MB, OP, rfl, rfl, ⟨hF1, hF2, hWB, hTW, hSM, hJB, hSG, hCT, hMB, hOP, hnj, hnp⟩, rfl⟩ := hd
  have hil := hIN.1
  have hol := hOU.1
  have hpl := hOP.1
  have hlen : 60 ≤ (dh g nj ct n0 n1 n2 n3 n4 ni no np FO BA PW K1 F1 K2 F2 WB TW SM JB B0 B1 B2 B3 B4 SG CT MB IN OU OP S).length := by rw [dh_len, hS]; exact Nat.le_refl _
  refine Thr.of (by decide) rfl rfl (L := [some (.ref (zA (gz g) 0)), some (.int x), some (.int y)]) rfl (fun f C hT hx he => ?_)
  have thr : X g f M_Desk_alter (1, 6) (fun o h' => (∃ x, o = .threw x) ∧ h' = (dh g nj ct n0 n1 n2 n3 n4 ni no np FO BA PW K1 F1 K2 F2 WB TW SM JB B0 B1 B2 B3 B4 SG CT MB IN OU OP S)) (0, 0) 11 [some (.ref (zA (gz g) 0)), some (.int x), some (.int y)] [] (dh g nj ct n0 n1 n2 n3 n4 ni no np FO BA PW K1 F1 K2 F2 WB TW SM JB B0 B1 B2 B3 B4 SG CT MB IN OU OP S) := (x_throw (pc := 11) C hT hx hno0 he rfl (dq D_Desk_alter 5 rfl) (dq D_Desk_alter 6 rfl) (dq D_Desk_alter 7 rfl) (dq D_Desk_alter 8 rfl) (dq D_Desk_alter 9 rfl) k_cl_Desk_74 k_it_IndexOutOfBoundsException k_in_IndexOutOfBoundsException (by decide +kernel) (fun w q => List.mem_append_left _ q) (List.mem_of_getElem? (i := 3) rfl) hlen rfl (fun x => ⟨⟨x, rfl⟩, rfl⟩))
  refine x_aload_n (pc := 0) C (dq D_Desk_alter 0 rfl) rfl ?_
  refine x_get (pc := 1) (ci := 0) (j := 4) C (dq D_Desk_alter 1 rfl) rfl rfl rfl rfl k_fl_Desk_64 ?_
  refine x_iload_n (pc := 4) C (dq D_Desk_alter 2 rfl) rfl ?_
  refine x_cV1 (pc := 5) (ci := 7) (M := M_Row_has) C (dq D_Desk_alter 3 rfl) k_ml_Desk_110 m_Row_has rfl rfl rfl (c_Row_has (r := 38) (b := 39) (n := ni) (x := x) rfl) rfl rfl rfl rfl (by decide) ?_
  rw [has0 hb]
  refine n_ifne_f (pc := 8) (tgt := 21) C (dq D_Desk_alter 4 rfl) (by decide) (by omega) (by omega) ?_
  exact thr

theorem t_alter_byte {g : Gp} {S : Hp} {FO BA : List Nat} {ct ni no : Nat} {NL : List Nat} {BL : List (List Nat)} {K1 K2 IN OU : List Nat} {h : Hp} (hno0 : noTr g) (hS : S.length = 16) (hs : dst0 FO BA ct ni no NL BL K1 K2 IN OU) (hd : dok g S FO BA ct ni no NL BL K1 K2 IN OU h) {k : Nat} {y : Int32} (hk : k < ni) (hb : y < 0 ∨ ¬ y ≤ nI 255) :
    Thr g M_Desk_alter 6 R_IllegalArgumentException [.ref (zA (gz g) 0), .int (nI k), .int y] h := by
  obtain ⟨hT, hK1, hK2, hIN, hOU, hI, hct, hni, hno⟩ := hs
  obtain ⟨nj, n0, n1, n2, n3, n4, np, PW, F1, F2, WB, TW, SM, JB, B0, B1, B2, B3, B4, SG, CT, MB, OP, rfl, rfl, ⟨hF1, hF2, hWB, hTW, hSM, hJB, hSG, hCT, hMB, hOP, hnj, hnp⟩, rfl⟩ := hd
  have hil := hIN.1
  have hol := hOU.1
  have hpl := hOP.1
  have hlen : 60 ≤ (dh g nj ct n0 n1 n2 n3 n4 ni no np FO BA PW K1 F1 K2 F2 WB TW SM JB B0 B1 B2 B3 B4 SG CT MB IN OU OP S).length := by rw [dh_len, hS]; exact Nat.le_refl _
  refine Thr.of (by decide) rfl rfl (L := [some (.ref (zA (gz g) 0)), some (.int (nI k)), some (.int y)]) rfl (fun f C hT hx he => ?_)
  have thr : X g f M_Desk_alter (1, 6) (fun o h' => (∃ x, o = .threw x) ∧ h' = (dh g nj ct n0 n1 n2 n3 n4 ni no np FO BA PW K1 F1 K2 F2 WB TW SM JB B0 B1 B2 B3 B4 SG CT MB IN OU OP S)) (0, 0) 32 [some (.ref (zA (gz g) 0)), some (.int (nI k)), some (.int y)] [] (dh g nj ct n0 n1 n2 n3 n4 ni no np FO BA PW K1 F1 K2 F2 WB TW SM JB B0 B1 B2 B3 B4 SG CT MB IN OU OP S) := (x_throw (pc := 32) C hT hx hno0 he rfl (dq D_Desk_alter 15 rfl) (dq D_Desk_alter 16 rfl) (dq D_Desk_alter 17 rfl) (dq D_Desk_alter 18 rfl) (dq D_Desk_alter 19 rfl) k_cl_Desk_85 k_it_IllegalArgumentException k_in_IllegalArgumentException (by decide +kernel) (fun w q => List.mem_append_right _ (List.mem_append_left _ q)) (List.mem_of_getElem? (i := 4) rfl) hlen rfl (fun x => ⟨⟨x, rfl⟩, rfl⟩))
  refine x_aload_n (pc := 0) C (dq D_Desk_alter 0 rfl) rfl ?_
  refine x_get (pc := 1) (ci := 0) (j := 4) C (dq D_Desk_alter 1 rfl) rfl rfl rfl rfl k_fl_Desk_64 ?_
  refine x_iload_n (pc := 4) C (dq D_Desk_alter 2 rfl) rfl ?_
  refine x_cV1 (pc := 5) (ci := 7) (M := M_Row_has) C (dq D_Desk_alter 3 rfl) k_ml_Desk_110 m_Row_has rfl rfl rfl (c_Row_has (r := 38) (b := 39) (n := ni) (x := nI k) rfl) rfl rfl rfl rfl (by decide) ?_
  rw [has1 hk (by omega)]
  refine n_ifne_t (pc := 8) (tgt := 21) C (dq D_Desk_alter 4 rfl) (by decide) (by omega) (by omega) ?_
  refine x_iload_n (pc := 21) C (dq D_Desk_alter 10 rfl) rfl ?_
  refine x_iflt (pc := 22) (tgt := 32) C (dq D_Desk_alter 11 rfl) (by decide) (fun hq => ?_) (fun hq => ?_)
  · exact thr
  · refine x_iload_n (pc := 25) C (dq D_Desk_alter 12 rfl) rfl ?_
    refine x_sipush (pc := 26) C (dq D_Desk_alter 13 rfl) cs_255 ?_
    refine x_le (pc := 29) (tgt := 42) C (dq D_Desk_alter 14 rfl) (by decide) (fun hq => ?_) (fun hq => ?_)
    · rcases hb with hb | hb <;> contradiction
    · exact thr

theorem t_item_long {g : Gp} {S : Hp} {FO BA : List Nat} {ct ni no : Nat} {NL : List Nat} {BL : List (List Nat)} {K1 K2 IN OU : List Nat} {h : Hp} (hno0 : noTr g) (hS : S.length = 16) (hs : dst0 FO BA ct ni no NL BL K1 K2 IN OU) (hd : dok g S FO BA ct ni no NL BL K1 K2 IN OU h)  (hb : 40 < ni) :
    Thr g M_Desk_item 6 R_IllegalArgumentException [.ref (zA (gz g) 0)] h := by
  obtain ⟨hT, hK1, hK2, hIN, hOU, hI, hct, hni, hno⟩ := hs
  obtain ⟨nj, n0, n1, n2, n3, n4, np, PW, F1, F2, WB, TW, SM, JB, B0, B1, B2, B3, B4, SG, CT, MB, OP, rfl, rfl, ⟨hF1, hF2, hWB, hTW, hSM, hJB, hSG, hCT, hMB, hOP, hnj, hnp⟩, rfl⟩ := hd
  have hil := hIN.1
  have hol := hOU.1
  have hpl := hOP.1
  have hlen : 60 ≤ (dh g nj ct n0 n1 n2 n3 n4 ni no np FO BA PW K1 F1 K2 F2 WB TW SM JB B0 B1 B2 B3 B4 SG CT MB IN OU OP S).length := by rw [dh_len, hS]; exact Nat.le_refl _
  refine Thr.of (by decide) rfl rfl (L := [some (.ref (zA (gz g) 0))]) rfl (fun f C hT hx he => ?_)
  have thr : X g f M_Desk_item (1, 6) (fun o h' => (∃ x, o = .threw x) ∧ h' = (dh g nj ct n0 n1 n2 n3 n4 ni no np FO BA PW K1 F1 K2 F2 WB TW SM JB B0 B1 B2 B3 B4 SG CT MB IN OU OP S)) (0, 0) 12 [some (.ref (zA (gz g) 0))] [] (dh g nj ct n0 n1 n2 n3 n4 ni no np FO BA PW K1 F1 K2 F2 WB TW SM JB B0 B1 B2 B3 B4 SG CT MB IN OU OP S) := (x_throw (pc := 12) C hT hx hno0 he rfl (dq D_Desk_item 5 rfl) (dq D_Desk_item 6 rfl) (dq D_Desk_item 7 rfl) (dq D_Desk_item 8 rfl) (dq D_Desk_item 9 rfl) k_cl_Desk_85 k_it_IllegalArgumentException k_in_IllegalArgumentException (by decide +kernel) (fun w q => List.mem_append_right _ (List.mem_append_left _ q)) (List.mem_of_getElem? (i := 5) rfl) hlen rfl (fun x => ⟨⟨x, rfl⟩, rfl⟩))
  refine x_aload_n (pc := 0) C (dq D_Desk_item 0 rfl) rfl ?_
  refine x_get (pc := 1) (ci := 0) (j := 4) C (dq D_Desk_item 1 rfl) rfl rfl rfl rfl k_fl_Desk_64 ?_
  refine x_get (pc := 4) (ci := 7) (j := 1) C (dq D_Desk_item 2 rfl) rfl rfl rfl rfl k_fl_Desk_90 ?_
  refine x_bipush (pc := 7) C (dq D_Desk_item 3 rfl) cb_40 ?_
  refine n_le_f (pc := 9) (tgt := 22) C (dq D_Desk_item 4 rfl) (by decide) (by omega) (by omega) ?_
  exact thr

theorem t_item_full {g : Gp} {S : Hp} {FO BA : List Nat} {ct ni no : Nat} {NL : List Nat} {BL : List (List Nat)} {K1 K2 IN OU : List Nat} {h : Hp} (hno0 : noTr g) (hS : S.length = 16) (hs : dst0 FO BA ct ni no NL BL K1 K2 IN OU) (hd : dok g S FO BA ct ni no NL BL K1 K2 IN OU h)  (hb : ni ≤ 40) (hf : ct = 5) :
    Thr g M_Desk_item 6 R_IllegalStateException [.ref (zA (gz g) 0)] h := by
  obtain ⟨hT, hK1, hK2, hIN, hOU, hI, hct, hni, hno⟩ := hs
  obtain ⟨nj, n0, n1, n2, n3, n4, np, PW, F1, F2, WB, TW, SM, JB, B0, B1, B2, B3, B4, SG, CT, MB, OP, rfl, rfl, ⟨hF1, hF2, hWB, hTW, hSM, hJB, hSG, hCT, hMB, hOP, hnj, hnp⟩, rfl⟩ := hd
  have hil := hIN.1
  have hol := hOU.1
  have hpl := hOP.1
  have hlen : 60 ≤ (dh g nj ct n0 n1 n2 n3 n4 ni no np FO BA PW K1 F1 K2 F2 WB TW SM JB B0 B1 B2 B3 B4 SG CT MB IN OU OP S).length := by rw [dh_len, hS]; exact Nat.le_refl _
  refine Thr.of (by decide) rfl rfl (L := [some (.ref (zA (gz g) 0))]) rfl (fun f C hT hx he => ?_)
  have thr : X g f M_Desk_item (1, 6) (fun o h' => (∃ x, o = .threw x) ∧ h' = (dh g nj ct n0 n1 n2 n3 n4 ni no np FO BA PW K1 F1 K2 F2 WB TW SM JB B0 B1 B2 B3 B4 SG CT MB IN OU OP S)) (0, 0) 33 [some (.ref (zA (gz g) 0))] [] (dh g nj ct n0 n1 n2 n3 n4 ni no np FO BA PW K1 F1 K2 F2 WB TW SM JB B0 B1 B2 B3 B4 SG CT MB IN OU OP S) := (x_throw (pc := 33) C hT hx hno0 he rfl (dq D_Desk_item 15 rfl) (dq D_Desk_item 16 rfl) (dq D_Desk_item 17 rfl) (dq D_Desk_item 18 rfl) (dq D_Desk_item 19 rfl) k_cl_Desk_94 k_it_IllegalStateException k_in_IllegalStateException (by decide +kernel) (fun w q => List.mem_append_right _ (List.mem_append_right _ q)) (List.mem_of_getElem? (i := 6) rfl) hlen rfl (fun x => ⟨⟨x, rfl⟩, rfl⟩))
  refine x_aload_n (pc := 0) C (dq D_Desk_item 0 rfl) rfl ?_
  refine x_get (pc := 1) (ci := 0) (j := 4) C (dq D_Desk_item 1 rfl) rfl rfl rfl rfl k_fl_Desk_64 ?_
  refine x_get (pc := 4) (ci := 7) (j := 1) C (dq D_Desk_item 2 rfl) rfl rfl rfl rfl k_fl_Desk_90 ?_
  refine x_bipush (pc := 7) C (dq D_Desk_item 3 rfl) cb_40 ?_
  refine n_le_t (pc := 9) (tgt := 22) C (dq D_Desk_item 4 rfl) (by decide) (by omega) (by omega) ?_
  refine x_aload_n (pc := 22) C (dq D_Desk_item 10 rfl) rfl ?_
  refine x_get (pc := 23) (ci := 0) (j := 3) C (dq D_Desk_item 11 rfl) rfl rfl rfl rfl k_fl_Desk_36 ?_
  refine x_get (pc := 26) (ci := 3) (j := 1) C (dq D_Desk_item 12 rfl) rfl rfl rfl rfl k_fl_Desk_124 ?_
  refine x_iconst (pc := 29) C (dq D_Desk_item 13 rfl) ci_5 ?_
  refine n_lt_f (pc := 30) (tgt := 43) C (dq D_Desk_item 14 rfl) (by decide) (by omega) (by omega) ?_
  exact thr

theorem t_cipher {g : Gp} {S : Hp} {FO BA : List Nat} {ct ni no : Nat} {NL : List Nat} {BL : List (List Nat)} {K1 K2 IN OU : List Nat} {h : Hp} (hno0 : noTr g) (hS : S.length = 16) (hs : dst0 FO BA ct ni no NL BL K1 K2 IN OU) (hd : dok g S FO BA ct ni no NL BL K1 K2 IN OU h) {x : Int32} (hb : ni ≠ 16) :
    Thr g M_Desk_cipher 6 R_IllegalArgumentException [.ref (zA (gz g) 0), .int x] h := by
  obtain ⟨hT, hK1, hK2, hIN, hOU, hI, hct, hni, hno⟩ := hs
  obtain ⟨nj, n0, n1, n2, n3, n4, np, PW, F1, F2, WB, TW, SM, JB, B0, B1, B2, B3, B4, SG, CT, MB, OP, rfl, rfl, ⟨hF1, hF2, hWB, hTW, hSM, hJB, hSG, hCT, hMB, hOP, hnj, hnp⟩, rfl⟩ := hd
  have hil := hIN.1
  have hol := hOU.1
  have hpl := hOP.1
  have hlen : 60 ≤ (dh g nj ct n0 n1 n2 n3 n4 ni no np FO BA PW K1 F1 K2 F2 WB TW SM JB B0 B1 B2 B3 B4 SG CT MB IN OU OP S).length := by rw [dh_len, hS]; exact Nat.le_refl _
  refine Thr.of (by decide) rfl rfl (L := [some (.ref (zA (gz g) 0)), some (.int x)]) rfl (fun f C hT hx he => ?_)
  have thr : X g f M_Desk_cipher (1, 6) (fun o h' => (∃ x, o = .threw x) ∧ h' = (dh g nj ct n0 n1 n2 n3 n4 ni no np FO BA PW K1 F1 K2 F2 WB TW SM JB B0 B1 B2 B3 B4 SG CT MB IN OU OP S)) (0, 0) 12 [some (.ref (zA (gz g) 0)), some (.int x)] [] (dh g nj ct n0 n1 n2 n3 n4 ni no np FO BA PW K1 F1 K2 F2 WB TW SM JB B0 B1 B2 B3 B4 SG CT MB IN OU OP S) := (x_throw (pc := 12) C hT hx hno0 he rfl (dq D_Desk_cipher 5 rfl) (dq D_Desk_cipher 6 rfl) (dq D_Desk_cipher 7 rfl) (dq D_Desk_cipher 8 rfl) (dq D_Desk_cipher 9 rfl) k_cl_Desk_85 k_it_IllegalArgumentException k_in_IllegalArgumentException (by decide +kernel) (fun w q => List.mem_append_right _ (List.mem_append_left _ q)) (List.mem_of_getElem? (i := 7) rfl) hlen rfl (fun x => ⟨⟨x, rfl⟩, rfl⟩))
  refine x_aload_n (pc := 0) C (dq D_Desk_cipher 0 rfl) rfl ?_
  refine x_get (pc := 1) (ci := 0) (j := 4) C (dq D_Desk_cipher 1 rfl) rfl rfl rfl rfl k_fl_Desk_64 ?_
  refine x_get (pc := 4) (ci := 7) (j := 1) C (dq D_Desk_cipher 2 rfl) rfl rfl rfl rfl k_fl_Desk_90 ?_
  refine x_bipush (pc := 7) C (dq D_Desk_cipher 3 rfl) cb_16 ?_
  refine n_eq_f (pc := 9) (tgt := 22) C (dq D_Desk_cipher 4 rfl) (by decide) (by omega) (by omega) ?_
  exact thr

theorem t_seal_bad {g : Gp} {S : Hp} {FO BA : List Nat} {ct ni no : Nat} {NL : List Nat} {BL : List (List Nat)} {K1 K2 IN OU : List Nat} {h : Hp} (hno0 : noTr g) (hS : S.length = 16) (hs : dst0 FO BA ct ni no NL BL K1 K2 IN OU) (hd : dok g S FO BA ct ni no NL BL K1 K2 IN OU h) {x : Int32} (hb : x < 0 ∨ ¬ x ≤ nI 2) :
    Thr g M_Desk_seal 6 R_IndexOutOfBoundsException [.ref (zA (gz g) 0), .int x] h := by
  obtain ⟨hT, hK1, hK2, hIN, hOU, hI, hct, hni, hno⟩ := hs
  obtain ⟨nj, n0, n1, n2, n3, n4, np, PW, F1, F2, WB, TW, SM, JB, B0, B1, B2, B3, B4, SG, CT, MB, OP, rfl, rfl, ⟨hF1, hF2, hWB, hTW, hSM, hJB, hSG, hCT, hMB, hOP, hnj, hnp⟩, rfl⟩ := hd
  have hil := hIN.1
  have hol := hOU.1
  have hpl := hOP.1
  have hlen : 60 ≤ (dh g nj ct n0 n1 n2 n3 n4 ni no np FO BA PW K1 F1 K2 F2 WB TW SM JB B0 B1 B2 B3 B4 SG CT MB IN OU OP S).length := by rw [dh_len, hS]; exact Nat.le_refl _
  refine Thr.of (by decide) rfl rfl (L := [some (.ref (zA (gz g) 0)), some (.int x)]) rfl (fun f C hT hx he => ?_)
  have thr : X g f M_Desk_seal (1, 6) (fun o h' => (∃ x, o = .threw x) ∧ h' = (dh g nj ct n0 n1 n2 n3 n4 ni no np FO BA PW K1 F1 K2 F2 WB TW SM JB B0 B1 B2 B3 B4 SG CT MB IN OU OP S)) (0, 0) 13 [some (.ref (zA (gz g) 0)), some (.int x)] [] (dh g nj ct n0 n1 n2 n3 n4 ni no np FO BA PW K1 F1 K2 F2 WB TW SM JB B0 B1 B2 B3 B4 SG CT MB IN OU OP S) := (x_throw (pc := 13) C hT hx hno0 he rfl (dq D_Desk_seal 7 rfl) (dq D_Desk_seal 8 rfl) (dq D_Desk_seal 9 rfl) (dq D_Desk_seal 10 rfl) (dq D_Desk_seal 11 rfl) k_cl_Desk_74 k_it_IndexOutOfBoundsException k_in_IndexOutOfBoundsException (by decide +kernel) (fun w q => List.mem_append_left _ q) (List.mem_of_getElem? (i := 8) rfl) hlen rfl (fun x => ⟨⟨x, rfl⟩, rfl⟩))
  refine x_iload_n (pc := 0) C (dq D_Desk_seal 0 rfl) rfl ?_
  refine x_iflt (pc := 1) (tgt := 13) C (dq D_Desk_seal 1 rfl) (by decide) (fun hq => ?_) (fun hq => ?_)
  · exact thr
  · refine x_iload_n (pc := 4) C (dq D_Desk_seal 2 rfl) rfl ?_
    refine x_aload_n (pc := 5) C (dq D_Desk_seal 3 rfl) rfl ?_
    refine x_get (pc := 6) (ci := 0) (j := 2) C (dq D_Desk_seal 4 rfl) rfl rfl rfl rfl k_fl_Desk_57 ?_
    refine x_rlenN (pc := 9) (N := 3) C (dq D_Desk_seal 5 rfl) rfl rfl rfl ?_
    refine x_lt (pc := 10) (tgt := 23) C (dq D_Desk_seal 6 rfl) (by decide) (fun hq => ?_) (fun hq => ?_)
    · rcases hb with hb | hb
      · contradiction
      · exact absurd ((i_lt (k := 2) (by omega)).mp (by assumption)) hb
    · exact thr

theorem t_open_bad {g : Gp} {S : Hp} {FO BA : List Nat} {ct ni no : Nat} {NL : List Nat} {BL : List (List Nat)} {K1 K2 IN OU : List Nat} {h : Hp} (hno0 : noTr g) (hS : S.length = 16) (hs : dst0 FO BA ct ni no NL BL K1 K2 IN OU) (hd : dok g S FO BA ct ni no NL BL K1 K2 IN OU h) {x : Int32} (hb : x < 0 ∨ ¬ x ≤ nI 2) :
    Thr g M_Desk_open 6 R_IndexOutOfBoundsException [.ref (zA (gz g) 0), .int x] h := by
  obtain ⟨hT, hK1, hK2, hIN, hOU, hI, hct, hni, hno⟩ := hs
  obtain ⟨nj, n0, n1, n2, n3, n4, np, PW, F1, F2, WB, TW, SM, JB, B0, B1, B2, B3, B4, SG, CT, MB, OP, rfl, rfl, ⟨hF1, hF2, hWB, hTW, hSM, hJB, hSG, hCT, hMB, hOP, hnj, hnp⟩, rfl⟩ := hd
  have hil := hIN.1
  have hol := hOU.1
  have hpl := hOP.1
  have hlen : 60 ≤ (dh g nj ct n0 n1 n2 n3 n4 ni no np FO BA PW K1 F1 K2 F2 WB TW SM JB B0 B1 B2 B3 B4 SG CT MB IN OU OP S).length := by rw [dh_len, hS]; exact Nat.le_refl _
  refine Thr.of (by decide) rfl rfl (L := [some (.ref (zA (gz g) 0)), some (.int x)]) rfl (fun f C hT hx he => ?_)
  have thr : X g f M_Desk_open (1, 6) (fun o h' => (∃ x, o = .threw x) ∧ h' = (dh g nj ct n0 n1 n2 n3 n4 ni no np FO BA PW K1 F1 K2 F2 WB TW SM JB B0 B1 B2 B3 B4 SG CT MB IN OU OP S)) (0, 0) 13 [some (.ref (zA (gz g) 0)), some (.int x)] [] (dh g nj ct n0 n1 n2 n3 n4 ni no np FO BA PW K1 F1 K2 F2 WB TW SM JB B0 B1 B2 B3 B4 SG CT MB IN OU OP S) := (x_throw (pc := 13) C hT hx hno0 he rfl (dq D_Desk_open 7 rfl) (dq D_Desk_open 8 rfl) (dq D_Desk_open 9 rfl) (dq D_Desk_open 10 rfl) (dq D_Desk_open 11 rfl) k_cl_Desk_74 k_it_IndexOutOfBoundsException k_in_IndexOutOfBoundsException (by decide +kernel) (fun w q => List.mem_append_left _ q) (List.mem_of_getElem? (i := 8) rfl) hlen rfl (fun x => ⟨⟨x, rfl⟩, rfl⟩))
  refine x_iload_n (pc := 0) C (dq D_Desk_open 0 rfl) rfl ?_
  refine x_iflt (pc := 1) (tgt := 13) C (dq D_Desk_open 1 rfl) (by decide) (fun hq => ?_) (fun hq => ?_)
  · exact thr
  · refine x_iload_n (pc := 4) C (dq D_Desk_open 2 rfl) rfl ?_
    refine x_aload_n (pc := 5) C (dq D_Desk_open 3 rfl) rfl ?_
    refine x_get (pc := 6) (ci := 0) (j := 2) C (dq D_Desk_open 4 rfl) rfl rfl rfl rfl k_fl_Desk_57 ?_
    refine x_rlenN (pc := 9) (N := 3) C (dq D_Desk_open 5 rfl) rfl rfl rfl ?_
    refine x_lt (pc := 10) (tgt := 23) C (dq D_Desk_open 6 rfl) (by decide) (fun hq => ?_) (fun hq => ?_)
    · rcases hb with hb | hb
      · contradiction
      · exact absurd ((i_lt (k := 2) (by omega)).mp (by assumption)) hb
    · exact thr

theorem t_seal_unfit0 {g : Gp} {S : Hp} {FO BA : List Nat} {ct ni no : Nat} {NL : List Nat} {BL : List (List Nat)} {K1 K2 IN OU : List Nat} {h : Hp} (hno0 : noTr g) (hS : S.length = 16) (hs : dst0 FO BA ct ni no NL BL K1 K2 IN OU) (hd : dok g S FO BA ct ni no NL BL K1 K2 IN OU h)  (hf : ¬ (ni ≤ 64)) :
    Thr g M_Desk_seal 6 R_IllegalArgumentException [.ref (zA (gz g) 0), .int (nI 0)] h := by
  obtain ⟨hT, hK1, hK2, hIN, hOU, hI, hct, hni, hno⟩ := hs
  obtain ⟨nj, n0, n1, n2, n3, n4, np, PW, F1, F2, WB, TW, SM, JB, B0, B1, B2, B3, B4, SG, CT, MB, OP, rfl, rfl, ⟨hF1, hF2, hWB, hTW, hSM, hJB, hSG, hCT, hMB, hOP, hnj, hnp⟩, rfl⟩ := hd
  have hil := hIN.1
  have hol := hOU.1
  have hpl := hOP.1
  have hlen : 60 ≤ (dh g nj ct n0 n1 n2 n3 n4 ni no np FO BA PW K1 F1 K2 F2 WB TW SM JB B0 B1 B2 B3 B4 SG CT MB IN OU OP S).length := by rw [dh_len, hS]; exact Nat.le_refl _
  refine Thr.of (by decide) rfl rfl (L := [some (.ref (zA (gz g) 0)), some (.int (nI 0))]) rfl (fun f C hT hx he => ?_)
  have thr : X g f M_Desk_seal (1, 6) (fun o h' => (∃ x, o = .threw x) ∧ h' = (dh g nj ct n0 n1 n2 n3 n4 ni no np FO BA PW K1 F1 K2 F2 WB TW SM JB B0 B1 B2 B3 B4 SG CT MB IN OU OP S)) (0, 0) 42 [some (.ref (zA (gz g) 0)), some (.int (nI 0))] [] (dh g nj ct n0 n1 n2 n3 n4 ni no np FO BA PW K1 F1 K2 F2 WB TW SM JB B0 B1 B2 B3 B4 SG CT MB IN OU OP S) := (x_throw (pc := 42) C hT hx hno0 he rfl (dq D_Desk_seal 21 rfl) (dq D_Desk_seal 22 rfl) (dq D_Desk_seal 23 rfl) (dq D_Desk_seal 24 rfl) (dq D_Desk_seal 25 rfl) k_cl_Desk_85 k_it_IllegalArgumentException k_in_IllegalArgumentException (by decide +kernel) (fun w q => List.mem_append_right _ (List.mem_append_left _ q)) (List.mem_of_getElem? (i := 9) rfl) hlen rfl (fun x => ⟨⟨x, rfl⟩, rfl⟩))
  refine x_iload_n (pc := 0) C (dq D_Desk_seal 0 rfl) rfl ?_
  refine n_iflt_f (pc := 1) (tgt := 13) C (dq D_Desk_seal 1 rfl) (by decide) (by omega) (by omega) ?_
  refine x_iload_n (pc := 4) C (dq D_Desk_seal 2 rfl) rfl ?_
  refine x_aload_n (pc := 5) C (dq D_Desk_seal 3 rfl) rfl ?_
  refine x_get (pc := 6) (ci := 0) (j := 2) C (dq D_Desk_seal 4 rfl) rfl rfl rfl rfl k_fl_Desk_57 ?_
  refine x_rlenN (pc := 9) (N := 3) C (dq D_Desk_seal 5 rfl) rfl rfl rfl ?_
  refine n_lt_t (pc := 10) (tgt := 23) C (dq D_Desk_seal 6 rfl) (by decide) (by omega) (by omega) ?_
  refine x_aload_n (pc := 23) C (dq D_Desk_seal 12 rfl) rfl ?_
  refine x_get (pc := 24) (ci := 0) (j := 2) C (dq D_Desk_seal 13 rfl) rfl rfl rfl rfl k_fl_Desk_57 ?_
  refine x_iload_n (pc := 27) C (dq D_Desk_seal 14 rfl) rfl ?_
  refine x_aald (pc := 28) C (dq D_Desk_seal 15 rfl) rfl rfl rfl (by simp) ?_
  refine x_aload_n (pc := 29) C (dq D_Desk_seal 16 rfl) rfl ?_
  refine x_get (pc := 30) (ci := 0) (j := 4) C (dq D_Desk_seal 17 rfl) rfl rfl rfl rfl k_fl_Desk_64 ?_
  refine x_get (pc := 33) (ci := 7) (j := 1) C (dq D_Desk_seal 18 rfl) rfl rfl rfl rfl k_fl_Desk_90 ?_
  refine x_cU1 (pc := 36) (ci := 4) (M := M_Marked_canLock) (x := ⟨"SealingDesk$Way", "canLock", "(I)Z"⟩) (owner := "SealingDesk$Way") C (dq D_Desk_seal 19 rfl) k_ml_Desk_156 k_sm_Way_canLock k_se_Way_canLock_Marked_canLock (List.mem_of_getElem? (i := 0) rfl) u_Marked_canLock ⟨by decide, by decide, by decide +kernel⟩ rfl rfl (c_Marked_canLock hni) rfl rfl rfl rfl (by decide) ?_
  rw [if_neg hf]
  refine n_ifne_f (pc := 39) (tgt := 52) C (dq D_Desk_seal 20 rfl) (by decide) (by omega) (by omega) ?_
  exact thr

theorem t_seal_unfit1 {g : Gp} {S : Hp} {FO BA : List Nat} {ct ni no : Nat} {NL : List Nat} {BL : List (List Nat)} {K1 K2 IN OU : List Nat} {h : Hp} (hno0 : noTr g) (hS : S.length = 16) (hs : dst0 FO BA ct ni no NL BL K1 K2 IN OU) (hd : dok g S FO BA ct ni no NL BL K1 K2 IN OU h)  (hf : ¬ (ni % 8 = 0 ∧ 16 ≤ ni ∧ ni ≤ 64)) :
    Thr g M_Desk_seal 6 R_IllegalArgumentException [.ref (zA (gz g) 0), .int (nI 1)] h := by
  obtain ⟨hT, hK1, hK2, hIN, hOU, hI, hct, hni, hno⟩ := hs
  obtain ⟨nj, n0, n1, n2, n3, n4, np, PW, F1, F2, WB, TW, SM, JB, B0, B1, B2, B3, B4, SG, CT, MB, OP, rfl, rfl, ⟨hF1, hF2, hWB, hTW, hSM, hJB, hSG, hCT, hMB, hOP, hnj, hnp⟩, rfl⟩ := hd
  have hil := hIN.1
  have hol := hOU.1
  have hpl := hOP.1
  have hlen : 60 ≤ (dh g nj ct n0 n1 n2 n3 n4 ni no np FO BA PW K1 F1 K2 F2 WB TW SM JB B0 B1 B2 B3 B4 SG CT MB IN OU OP S).length := by rw [dh_len, hS]; exact Nat.le_refl _
  refine Thr.of (by decide) rfl rfl (L := [some (.ref (zA (gz g) 0)), some (.int (nI 1))]) rfl (fun f C hT hx he => ?_)
  have thr : X g f M_Desk_seal (1, 6) (fun o h' => (∃ x, o = .threw x) ∧ h' = (dh g nj ct n0 n1 n2 n3 n4 ni no np FO BA PW K1 F1 K2 F2 WB TW SM JB B0 B1 B2 B3 B4 SG CT MB IN OU OP S)) (0, 0) 42 [some (.ref (zA (gz g) 0)), some (.int (nI 1))] [] (dh g nj ct n0 n1 n2 n3 n4 ni no np FO BA PW K1 F1 K2 F2 WB TW SM JB B0 B1 B2 B3 B4 SG CT MB IN OU OP S) := (x_throw (pc := 42) C hT hx hno0 he rfl (dq D_Desk_seal 21 rfl) (dq D_Desk_seal 22 rfl) (dq D_Desk_seal 23 rfl) (dq D_Desk_seal 24 rfl) (dq D_Desk_seal 25 rfl) k_cl_Desk_85 k_it_IllegalArgumentException k_in_IllegalArgumentException (by decide +kernel) (fun w q => List.mem_append_right _ (List.mem_append_left _ q)) (List.mem_of_getElem? (i := 9) rfl) hlen rfl (fun x => ⟨⟨x, rfl⟩, rfl⟩))
  refine x_iload_n (pc := 0) C (dq D_Desk_seal 0 rfl) rfl ?_
  refine n_iflt_f (pc := 1) (tgt := 13) C (dq D_Desk_seal 1 rfl) (by decide) (by omega) (by omega) ?_
  refine x_iload_n (pc := 4) C (dq D_Desk_seal 2 rfl) rfl ?_
  refine x_aload_n (pc := 5) C (dq D_Desk_seal 3 rfl) rfl ?_
  refine x_get (pc := 6) (ci := 0) (j := 2) C (dq D_Desk_seal 4 rfl) rfl rfl rfl rfl k_fl_Desk_57 ?_
  refine x_rlenN (pc := 9) (N := 3) C (dq D_Desk_seal 5 rfl) rfl rfl rfl ?_
  refine n_lt_t (pc := 10) (tgt := 23) C (dq D_Desk_seal 6 rfl) (by decide) (by omega) (by omega) ?_
  refine x_aload_n (pc := 23) C (dq D_Desk_seal 12 rfl) rfl ?_
  refine x_get (pc := 24) (ci := 0) (j := 2) C (dq D_Desk_seal 13 rfl) rfl rfl rfl rfl k_fl_Desk_57 ?_
  refine x_iload_n (pc := 27) C (dq D_Desk_seal 14 rfl) rfl ?_
  refine x_aald (pc := 28) C (dq D_Desk_seal 15 rfl) rfl rfl rfl (by simp) ?_
  refine x_aload_n (pc := 29) C (dq D_Desk_seal 16 rfl) rfl ?_
  refine x_get (pc := 30) (ci := 0) (j := 4) C (dq D_Desk_seal 17 rfl) rfl rfl rfl rfl k_fl_Desk_64 ?_
  refine x_get (pc := 33) (ci := 7) (j := 1) C (dq D_Desk_seal 18 rfl) rfl rfl rfl rfl k_fl_Desk_90 ?_
  refine x_cU1 (pc := 36) (ci := 9) (M := M_Wrapped_canLock) (x := ⟨"SealingDesk$Way", "canLock", "(I)Z"⟩) (owner := "SealingDesk$Way") C (dq D_Desk_seal 19 rfl) k_ml_Desk_156 k_sm_Way_canLock k_se_Way_canLock_Wrapped_canLock (List.mem_of_getElem? (i := 0) rfl) u_Wrapped_canLock ⟨by decide, by decide, by decide +kernel⟩ rfl rfl (c_Wrapped_canLock hni) rfl rfl rfl rfl (by decide) ?_
  rw [if_neg hf]
  refine n_ifne_f (pc := 39) (tgt := 52) C (dq D_Desk_seal 20 rfl) (by decide) (by omega) (by omega) ?_
  exact thr

theorem t_seal_unfit2 {g : Gp} {S : Hp} {FO BA : List Nat} {ct ni no : Nat} {NL : List Nat} {BL : List (List Nat)} {K1 K2 IN OU : List Nat} {h : Hp} (hno0 : noTr g) (hS : S.length = 16) (hs : dst0 FO BA ct ni no NL BL K1 K2 IN OU) (hd : dok g S FO BA ct ni no NL BL K1 K2 IN OU h)  (hf : ¬ (1 ≤ ni ∧ ni ≤ 64)) :
    Thr g M_Desk_seal 6 R_IllegalArgumentException [.ref (zA (gz g) 0), .int (nI 2)] h := by
  obtain ⟨hT, hK1, hK2, hIN, hOU, hI, hct, hni, hno⟩ := hs
  obtain ⟨nj, n0, n1, n2, n3, n4, np, PW, F1, F2, WB, TW, SM, JB, B0, B1, B2, B3, B4, SG, CT, MB, OP, rfl, rfl, ⟨hF1, hF2, hWB, hTW, hSM, hJB, hSG, hCT, hMB, hOP, hnj, hnp⟩, rfl⟩ := hd
  have hil := hIN.1
  have hol := hOU.1
  have hpl := hOP.1
  have hlen : 60 ≤ (dh g nj ct n0 n1 n2 n3 n4 ni no np FO BA PW K1 F1 K2 F2 WB TW SM JB B0 B1 B2 B3 B4 SG CT MB IN OU OP S).length := by rw [dh_len, hS]; exact Nat.le_refl _
  refine Thr.of (by decide) rfl rfl (L := [some (.ref (zA (gz g) 0)), some (.int (nI 2))]) rfl (fun f C hT hx he => ?_)
  have thr : X g f M_Desk_seal (1, 6) (fun o h' => (∃ x, o = .threw x) ∧ h' = (dh g nj ct n0 n1 n2 n3 n4 ni no np FO BA PW K1 F1 K2 F2 WB TW SM JB B0 B1 B2 B3 B4 SG CT MB IN OU OP S)) (0, 0) 42 [some (.ref (zA (gz g) 0)), some (.int (nI 2))] [] (dh g nj ct n0 n1 n2 n3 n4 ni no np FO BA PW K1 F1 K2 F2 WB TW SM JB B0 B1 B2 B3 B4 SG CT MB IN OU OP S) := (x_throw (pc := 42) C hT hx hno0 he rfl (dq D_Desk_seal 21 rfl) (dq D_Desk_seal 22 rfl) (dq D_Desk_seal 23 rfl) (dq D_Desk_seal 24 rfl) (dq D_Desk_seal 25 rfl) k_cl_Desk_85 k_it_IllegalArgumentException k_in_IllegalArgumentException (by decide +kernel) (fun w q => List.mem_append_right _ (List.mem_append_left _ q)) (List.mem_of_getElem? (i := 9) rfl) hlen rfl (fun x => ⟨⟨x, rfl⟩, rfl⟩))
  refine x_iload_n (pc := 0) C (dq D_Desk_seal 0 rfl) rfl ?_
  refine n_iflt_f (pc := 1) (tgt := 13) C (dq D_Desk_seal 1 rfl) (by decide) (by omega) (by omega) ?_
  refine x_iload_n (pc := 4) C (dq D_Desk_seal 2 rfl) rfl ?_
  refine x_aload_n (pc := 5) C (dq D_Desk_seal 3 rfl) rfl ?_
  refine x_get (pc := 6) (ci := 0) (j := 2) C (dq D_Desk_seal 4 rfl) rfl rfl rfl rfl k_fl_Desk_57 ?_
  refine x_rlenN (pc := 9) (N := 3) C (dq D_Desk_seal 5 rfl) rfl rfl rfl ?_
  refine n_lt_t (pc := 10) (tgt := 23) C (dq D_Desk_seal 6 rfl) (by decide) (by omega) (by omega) ?_
  refine x_aload_n (pc := 23) C (dq D_Desk_seal 12 rfl) rfl ?_
  refine x_get (pc := 24) (ci := 0) (j := 2) C (dq D_Desk_seal 13 rfl) rfl rfl rfl rfl k_fl_Desk_57 ?_
  refine x_iload_n (pc := 27) C (dq D_Desk_seal 14 rfl) rfl ?_
  refine x_aald (pc := 28) C (dq D_Desk_seal 15 rfl) rfl rfl rfl (by simp) ?_
  refine x_aload_n (pc := 29) C (dq D_Desk_seal 16 rfl) rfl ?_
  refine x_get (pc := 30) (ci := 0) (j := 4) C (dq D_Desk_seal 17 rfl) rfl rfl rfl rfl k_fl_Desk_64 ?_
  refine x_get (pc := 33) (ci := 7) (j := 1) C (dq D_Desk_seal 18 rfl) rfl rfl rfl rfl k_fl_Desk_90 ?_
  refine x_cU1 (pc := 36) (ci := 6) (M := M_Padded_canLock) (x := ⟨"SealingDesk$Way", "canLock", "(I)Z"⟩) (owner := "SealingDesk$Way") C (dq D_Desk_seal 19 rfl) k_ml_Desk_156 k_sm_Way_canLock k_se_Way_canLock_Padded_canLock (List.mem_of_getElem? (i := 0) rfl) u_Padded_canLock ⟨by decide, by decide, by decide +kernel⟩ rfl rfl (c_Padded_canLock hni) rfl rfl rfl rfl (by decide) ?_
  rw [if_neg hf]
  refine n_ifne_f (pc := 39) (tgt := 52) C (dq D_Desk_seal 20 rfl) (by decide) (by omega) (by omega) ?_
  exact thr

theorem t_open_unfit0 {g : Gp} {S : Hp} {FO BA : List Nat} {ct ni no : Nat} {NL : List Nat} {BL : List (List Nat)} {K1 K2 IN OU : List Nat} {h : Hp} (hno0 : noTr g) (hS : S.length = 16) (hs : dst0 FO BA ct ni no NL BL K1 K2 IN OU) (hd : dok g S FO BA ct ni no NL BL K1 K2 IN OU h)  (hf : ¬ (16 ≤ ni ∧ ni ≤ 80)) :
    Thr g M_Desk_open 6 R_IllegalArgumentException [.ref (zA (gz g) 0), .int (nI 0)] h := by
  obtain ⟨hT, hK1, hK2, hIN, hOU, hI, hct, hni, hno⟩ := hs
  obtain ⟨nj, n0, n1, n2, n3, n4, np, PW, F1, F2, WB, TW, SM, JB, B0, B1, B2, B3, B4, SG, CT, MB, OP, rfl, rfl, ⟨hF1, hF2, hWB, hTW, hSM, hJB, hSG, hCT, hMB, hOP, hnj, hnp⟩, rfl⟩ := hd
  have hil := hIN.1
  have hol := hOU.1
  have hpl := hOP.1
  have hlen : 60 ≤ (dh g nj ct n0 n1 n2 n3 n4 ni no np FO BA PW K1 F1 K2 F2 WB TW SM JB B0 B1 B2 B3 B4 SG CT MB IN OU OP S).length := by rw [dh_len, hS]; exact Nat.le_refl _
  refine Thr.of (by decide) rfl rfl (L := [some (.ref (zA (gz g) 0)), some (.int (nI 0))]) rfl (fun f C hT hx he => ?_)
  have thr : X g f M_Desk_open (1, 6) (fun o h' => (∃ x, o = .threw x) ∧ h' = (dh g nj ct n0 n1 n2 n3 n4 ni no np FO BA PW K1 F1 K2 F2 WB TW SM JB B0 B1 B2 B3 B4 SG CT MB IN OU OP S)) (0, 0) 42 [some (.ref (zA (gz g) 0)), some (.int (nI 0))] [] (dh g nj ct n0 n1 n2 n3 n4 ni no np FO BA PW K1 F1 K2 F2 WB TW SM JB B0 B1 B2 B3 B4 SG CT MB IN OU OP S) := (x_throw (pc := 42) C hT hx hno0 he rfl (dq D_Desk_open 21 rfl) (dq D_Desk_open 22 rfl) (dq D_Desk_open 23 rfl) (dq D_Desk_open 24 rfl) (dq D_Desk_open 25 rfl) k_cl_Desk_85 k_it_IllegalArgumentException k_in_IllegalArgumentException (by decide +kernel) (fun w q => List.mem_append_right _ (List.mem_append_left _ q)) (List.mem_of_getElem? (i := 10) rfl) hlen rfl (fun x => ⟨⟨x, rfl⟩, rfl⟩))
  refine x_iload_n (pc := 0) C (dq D_Desk_open 0 rfl) rfl ?_
  refine n_iflt_f (pc := 1) (tgt := 13) C (dq D_Desk_open 1 rfl) (by decide) (by omega) (by omega) ?_
  refine x_iload_n (pc := 4) C (dq D_Desk_open 2 rfl) rfl ?_
  refine x_aload_n (pc := 5) C (dq D_Desk_open 3 rfl) rfl ?_
  refine x_get (pc := 6) (ci := 0) (j := 2) C (dq D_Desk_open 4 rfl) rfl rfl rfl rfl k_fl_Desk_57 ?_
  refine x_rlenN (pc := 9) (N := 3) C (dq D_Desk_open 5 rfl) rfl rfl rfl ?_
  refine n_lt_t (pc := 10) (tgt := 23) C (dq D_Desk_open 6 rfl) (by decide) (by omega) (by omega) ?_
  refine x_aload_n (pc := 23) C (dq D_Desk_open 12 rfl) rfl ?_
  refine x_get (pc := 24) (ci := 0) (j := 2) C (dq D_Desk_open 13 rfl) rfl rfl rfl rfl k_fl_Desk_57 ?_
  refine x_iload_n (pc := 27) C (dq D_Desk_open 14 rfl) rfl ?_
  refine x_aald (pc := 28) C (dq D_Desk_open 15 rfl) rfl rfl rfl (by simp) ?_
  refine x_aload_n (pc := 29) C (dq D_Desk_open 16 rfl) rfl ?_
  refine x_get (pc := 30) (ci := 0) (j := 4) C (dq D_Desk_open 17 rfl) rfl rfl rfl rfl k_fl_Desk_64 ?_
  refine x_get (pc := 33) (ci := 7) (j := 1) C (dq D_Desk_open 18 rfl) rfl rfl rfl rfl k_fl_Desk_90 ?_
  refine x_cU1 (pc := 36) (ci := 4) (M := M_Marked_canUnlock) (x := ⟨"SealingDesk$Way", "canUnlock", "(I)Z"⟩) (owner := "SealingDesk$Way") C (dq D_Desk_open 19 rfl) k_ml_Desk_165 k_sm_Way_canUnlock k_se_Way_canUnlock_Marked_canUnlock (List.mem_of_getElem? (i := 2) rfl) u_Marked_canUnlock ⟨by decide, by decide, by decide +kernel⟩ rfl rfl (c_Marked_canUnlock hni) rfl rfl rfl rfl (by decide) ?_
  rw [if_neg hf]
  refine n_ifne_f (pc := 39) (tgt := 52) C (dq D_Desk_open 20 rfl) (by decide) (by omega) (by omega) ?_
  exact thr

theorem t_open_unfit1 {g : Gp} {S : Hp} {FO BA : List Nat} {ct ni no : Nat} {NL : List Nat} {BL : List (List Nat)} {K1 K2 IN OU : List Nat} {h : Hp} (hno0 : noTr g) (hS : S.length = 16) (hs : dst0 FO BA ct ni no NL BL K1 K2 IN OU) (hd : dok g S FO BA ct ni no NL BL K1 K2 IN OU h)  (hf : ¬ (ni % 8 = 0 ∧ 24 ≤ ni ∧ ni ≤ 72)) :
    Thr g M_Desk_open 6 R_IllegalArgumentException [.ref (zA (gz g) 0), .int (nI 1)] h := by
  obtain ⟨hT, hK1, hK2, hIN, hOU, hI, hct, hni, hno⟩ := hs
  obtain ⟨nj, n0, n1, n2, n3, n4, np, PW, F1, F2, WB, TW, SM, JB, B0, B1, B2, B3, B4, SG, CT, MB, OP, rfl, rfl, ⟨hF1, hF2, hWB, hTW, hSM, hJB, hSG, hCT, hMB, hOP, hnj, hnp⟩, rfl⟩ := hd
  have hil := hIN.1
  have hol := hOU.1
  have hpl := hOP.1
  have hlen : 60 ≤ (dh g nj ct n0 n1 n2 n3 n4 ni no np FO BA PW K1 F1 K2 F2 WB TW SM JB B0 B1 B2 B3 B4 SG CT MB IN OU OP S).length := by rw [dh_len, hS]; exact Nat.le_refl _
  refine Thr.of (by decide) rfl rfl (L := [some (.ref (zA (gz g) 0)), some (.int (nI 1))]) rfl (fun f C hT hx he => ?_)
  have thr : X g f M_Desk_open (1, 6) (fun o h' => (∃ x, o = .threw x) ∧ h' = (dh g nj ct n0 n1 n2 n3 n4 ni no np FO BA PW K1 F1 K2 F2 WB TW SM JB B0 B1 B2 B3 B4 SG CT MB IN OU OP S)) (0, 0) 42 [some (.ref (zA (gz g) 0)), some (.int (nI 1))] [] (dh g nj ct n0 n1 n2 n3 n4 ni no np FO BA PW K1 F1 K2 F2 WB TW SM JB B0 B1 B2 B3 B4 SG CT MB IN OU OP S) := (x_throw (pc := 42) C hT hx hno0 he rfl (dq D_Desk_open 21 rfl) (dq D_Desk_open 22 rfl) (dq D_Desk_open 23 rfl) (dq D_Desk_open 24 rfl) (dq D_Desk_open 25 rfl) k_cl_Desk_85 k_it_IllegalArgumentException k_in_IllegalArgumentException (by decide +kernel) (fun w q => List.mem_append_right _ (List.mem_append_left _ q)) (List.mem_of_getElem? (i := 10) rfl) hlen rfl (fun x => ⟨⟨x, rfl⟩, rfl⟩))
  refine x_iload_n (pc := 0) C (dq D_Desk_open 0 rfl) rfl ?_
  refine n_iflt_f (pc := 1) (tgt := 13) C (dq D_Desk_open 1 rfl) (by decide) (by omega) (by omega) ?_
  refine x_iload_n (pc := 4) C (dq D_Desk_open 2 rfl) rfl ?_
  refine x_aload_n (pc := 5) C (dq D_Desk_open 3 rfl) rfl ?_
  refine x_get (pc := 6) (ci := 0) (j := 2) C (dq D_Desk_open 4 rfl) rfl rfl rfl rfl k_fl_Desk_57 ?_
  refine x_rlenN (pc := 9) (N := 3) C (dq D_Desk_open 5 rfl) rfl rfl rfl ?_
  refine n_lt_t (pc := 10) (tgt := 23) C (dq D_Desk_open 6 rfl) (by decide) (by omega) (by omega) ?_
  refine x_aload_n (pc := 23) C (dq D_Desk_open 12 rfl) rfl ?_
  refine x_get (pc := 24) (ci := 0) (j := 2) C (dq D_Desk_open 13 rfl) rfl rfl rfl rfl k_fl_Desk_57 ?_
  refine x_iload_n (pc := 27) C (dq D_Desk_open 14 rfl) rfl ?_
  refine x_aald (pc := 28) C (dq D_Desk_open 15 rfl) rfl rfl rfl (by simp) ?_
  refine x_aload_n (pc := 29) C (dq D_Desk_open 16 rfl) rfl ?_
  refine x_get (pc := 30) (ci := 0) (j := 4) C (dq D_Desk_open 17 rfl) rfl rfl rfl rfl k_fl_Desk_64 ?_
  refine x_get (pc := 33) (ci := 7) (j := 1) C (dq D_Desk_open 18 rfl) rfl rfl rfl rfl k_fl_Desk_90 ?_
  refine x_cU1 (pc := 36) (ci := 9) (M := M_Wrapped_canUnlock) (x := ⟨"SealingDesk$Way", "canUnlock", "(I)Z"⟩) (owner := "SealingDesk$Way") C (dq D_Desk_open 19 rfl) k_ml_Desk_165 k_sm_Way_canUnlock k_se_Way_canUnlock_Wrapped_canUnlock (List.mem_of_getElem? (i := 2) rfl) u_Wrapped_canUnlock ⟨by decide, by decide, by decide +kernel⟩ rfl rfl (c_Wrapped_canUnlock hni) rfl rfl rfl rfl (by decide) ?_
  rw [if_neg hf]
  refine n_ifne_f (pc := 39) (tgt := 52) C (dq D_Desk_open 20 rfl) (by decide) (by omega) (by omega) ?_
  exact thr

theorem t_open_unfit2 {g : Gp} {S : Hp} {FO BA : List Nat} {ct ni no : Nat} {NL : List Nat} {BL : List (List Nat)} {K1 K2 IN OU : List Nat} {h : Hp} (hno0 : noTr g) (hS : S.length = 16) (hs : dst0 FO BA ct ni no NL BL K1 K2 IN OU) (hd : dok g S FO BA ct ni no NL BL K1 K2 IN OU h)  (hf : ¬ (ni % 8 = 0 ∧ 16 ≤ ni ∧ ni ≤ 72)) :
    Thr g M_Desk_open 6 R_IllegalArgumentException [.ref (zA (gz g) 0), .int (nI 2)] h := by
  obtain ⟨hT, hK1, hK2, hIN, hOU, hI, hct, hni, hno⟩ := hs
  obtain ⟨nj, n0, n1, n2, n3, n4, np, PW, F1, F2, WB, TW, SM, JB, B0, B1, B2, B3, B4, SG, CT, MB, OP, rfl, rfl, ⟨hF1, hF2, hWB, hTW, hSM, hJB, hSG, hCT, hMB, hOP, hnj, hnp⟩, rfl⟩ := hd
  have hil := hIN.1
  have hol := hOU.1
  have hpl := hOP.1
  have hlen : 60 ≤ (dh g nj ct n0 n1 n2 n3 n4 ni no np FO BA PW K1 F1 K2 F2 WB TW SM JB B0 B1 B2 B3 B4 SG CT MB IN OU OP S).length := by rw [dh_len, hS]; exact Nat.le_refl _
  refine Thr.of (by decide) rfl rfl (L := [some (.ref (zA (gz g) 0)), some (.int (nI 2))]) rfl (fun f C hT hx he => ?_)
  have thr : X g f M_Desk_open (1, 6) (fun o h' => (∃ x, o = .threw x) ∧ h' = (dh g nj ct n0 n1 n2 n3 n4 ni no np FO BA PW K1 F1 K2 F2 WB TW SM JB B0 B1 B2 B3 B4 SG CT MB IN OU OP S)) (0, 0) 42 [some (.ref (zA (gz g) 0)), some (.int (nI 2))] [] (dh g nj ct n0 n1 n2 n3 n4 ni no np FO BA PW K1 F1 K2 F2 WB TW SM JB B0 B1 B2 B3 B4 SG CT MB IN OU OP S) := (x_throw (pc := 42) C hT hx hno0 he rfl (dq D_Desk_open 21 rfl) (dq D_Desk_open 22 rfl) (dq D_Desk_open 23 rfl) (dq D_Desk_open 24 rfl) (dq D_Desk_open 25 rfl) k_cl_Desk_85 k_it_IllegalArgumentException k_in_IllegalArgumentException (by decide +kernel) (fun w q => List.mem_append_right _ (List.mem_append_left _ q)) (List.mem_of_getElem? (i := 10) rfl) hlen rfl (fun x => ⟨⟨x, rfl⟩, rfl⟩))
  refine x_iload_n (pc := 0) C (dq D_Desk_open 0 rfl) rfl ?_
  refine n_iflt_f (pc := 1) (tgt := 13) C (dq D_Desk_open 1 rfl) (by decide) (by omega) (by omega) ?_
  refine x_iload_n (pc := 4) C (dq D_Desk_open 2 rfl) rfl ?_
  refine x_aload_n (pc := 5) C (dq D_Desk_open 3 rfl) rfl ?_
  refine x_get (pc := 6) (ci := 0) (j := 2) C (dq D_Desk_open 4 rfl) rfl rfl rfl rfl k_fl_Desk_57 ?_
  refine x_rlenN (pc := 9) (N := 3) C (dq D_Desk_open 5 rfl) rfl rfl rfl ?_
  refine n_lt_t (pc := 10) (tgt := 23) C (dq D_Desk_open 6 rfl) (by decide) (by omega) (by omega) ?_
  refine x_aload_n (pc := 23) C (dq D_Desk_open 12 rfl) rfl ?_
  refine x_get (pc := 24) (ci := 0) (j := 2) C (dq D_Desk_open 13 rfl) rfl rfl rfl rfl k_fl_Desk_57 ?_
  refine x_iload_n (pc := 27) C (dq D_Desk_open 14 rfl) rfl ?_
  refine x_aald (pc := 28) C (dq D_Desk_open 15 rfl) rfl rfl rfl (by simp) ?_
  refine x_aload_n (pc := 29) C (dq D_Desk_open 16 rfl) rfl ?_
  refine x_get (pc := 30) (ci := 0) (j := 4) C (dq D_Desk_open 17 rfl) rfl rfl rfl rfl k_fl_Desk_64 ?_
  refine x_get (pc := 33) (ci := 7) (j := 1) C (dq D_Desk_open 18 rfl) rfl rfl rfl rfl k_fl_Desk_90 ?_
  refine x_cU1 (pc := 36) (ci := 6) (M := M_Padded_canUnlock) (x := ⟨"SealingDesk$Way", "canUnlock", "(I)Z"⟩) (owner := "SealingDesk$Way") C (dq D_Desk_open 19 rfl) k_ml_Desk_165 k_sm_Way_canUnlock k_se_Way_canUnlock_Padded_canUnlock (List.mem_of_getElem? (i := 2) rfl) u_Padded_canUnlock ⟨by decide, by decide, by decide +kernel⟩ rfl rfl (c_Padded_canUnlock hni) rfl rfl rfl rfl (by decide) ?_
  rw [if_neg hf]
  refine n_ifne_f (pc := 39) (tgt := 52) C (dq D_Desk_open 20 rfl) (by decide) (by omega) (by omega) ?_
  exact thr

theorem t_at {g : Gp} {S : Hp} {FO BA : List Nat} {ct ni no : Nat} {NL : List Nat} {BL : List (List Nat)} {K1 K2 IN OU : List Nat} {h : Hp} (hno0 : noTr g) (hS : S.length = 16) (hs : dst0 FO BA ct ni no NL BL K1 K2 IN OU) (hd : dok g S FO BA ct ni no NL BL K1 K2 IN OU h) {x : Int32} (hb : x < 0 ∨ nI no ≤ x) :
    Thr g M_Desk_at 6 R_IndexOutOfBoundsException [.ref (zA (gz g) 0), .int x] h := by
  obtain ⟨hT, hK1, hK2, hIN, hOU, hI, hct, hni, hno⟩ := hs
  obtain ⟨nj, n0, n1, n2, n3, n4, np, PW, F1, F2, WB, TW, SM, JB, B0, B1, B2, B3, B4, SG, CT, MB, OP, rfl, rfl, ⟨hF1, hF2, hWB, hTW, hSM, hJB, hSG, hCT, hMB, hOP, hnj, hnp⟩, rfl⟩ := hd
  have hil := hIN.1
  have hol := hOU.1
  have hpl := hOP.1
  have hlen : 60 ≤ (dh g nj ct n0 n1 n2 n3 n4 ni no np FO BA PW K1 F1 K2 F2 WB TW SM JB B0 B1 B2 B3 B4 SG CT MB IN OU OP S).length := by rw [dh_len, hS]; exact Nat.le_refl _
  refine Thr.of (by decide) rfl rfl (L := [some (.ref (zA (gz g) 0)), some (.int x)]) rfl (fun f C hT hx he => ?_)
  have thr : X g f M_Desk_at (1, 6) (fun o h' => (∃ x, o = .threw x) ∧ h' = (dh g nj ct n0 n1 n2 n3 n4 ni no np FO BA PW K1 F1 K2 F2 WB TW SM JB B0 B1 B2 B3 B4 SG CT MB IN OU OP S)) (0, 0) 11 [some (.ref (zA (gz g) 0)), some (.int x)] [] (dh g nj ct n0 n1 n2 n3 n4 ni no np FO BA PW K1 F1 K2 F2 WB TW SM JB B0 B1 B2 B3 B4 SG CT MB IN OU OP S) := (x_throw (pc := 11) C hT hx hno0 he rfl (dq D_Desk_at 5 rfl) (dq D_Desk_at 6 rfl) (dq D_Desk_at 7 rfl) (dq D_Desk_at 8 rfl) (dq D_Desk_at 9 rfl) k_cl_Desk_74 k_it_IndexOutOfBoundsException k_in_IndexOutOfBoundsException (by decide +kernel) (fun w q => List.mem_append_left _ q) (List.mem_of_getElem? (i := 11) rfl) hlen rfl (fun x => ⟨⟨x, rfl⟩, rfl⟩))
  refine x_aload_n (pc := 0) C (dq D_Desk_at 0 rfl) rfl ?_
  refine x_get (pc := 1) (ci := 0) (j := 5) C (dq D_Desk_at 1 rfl) rfl rfl rfl rfl k_fl_Desk_68 ?_
  refine x_iload_n (pc := 4) C (dq D_Desk_at 2 rfl) rfl ?_
  refine x_cV1 (pc := 5) (ci := 7) (M := M_Row_has) C (dq D_Desk_at 3 rfl) k_ml_Desk_110 m_Row_has rfl rfl rfl (c_Row_has (r := 40) (b := 41) (n := no) (x := x) rfl) rfl rfl rfl rfl (by decide) ?_
  rw [has0 hb]
  refine n_ifne_f (pc := 8) (tgt := 21) C (dq D_Desk_at 4 rfl) (by decide) (by omega) (by omega) ?_
  exact thr
