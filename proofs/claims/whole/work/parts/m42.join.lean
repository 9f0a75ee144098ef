set_option maxHeartbeats 8000000 in
theorem c_joinA {g : Gp} {nj ct n0 n1 n2 n3 n4 ni no np : Nat} {FO BA PW K1 F1 K2 F2 WB TW SM JB B0 B1 B2 B3 B4 SG CT MB IN OU OP : List Nat} {S : Hp} (hT : tok FO BA) (hK : kok K1) (hF : F1.length = 16) (hTW : l16 TW) (hSM : l16 SM) (hJB : l88 JB) (hM : (OU.length = 88 ∧ by8 OU)) (hR : l88 IN) (hn : ni ≤ 88) (hI : ∀ i, i < 5 → l88 ([B0, B1, B2, B3, B4].getD i []) ∧ [n0, n1, n2, n3, n4].getD i 0 ≤ 40) (hct : ct ≤ 5) :
    Con g M_Marker_join 4 (0, 0) [.ref (zA (gz g) 13), .ref (zA (gz g) 18), .ref (zA (gz g) 38), .ref (zA (gz g) 41)] (dh g nj ct n0 n1 n2 n3 n4 ni no np FO BA PW K1 F1 K2 F2 WB TW SM JB B0 B1 B2 B3 B4 SG CT MB IN OU OP S) (fun o h' => o = .returned none ∧ ∃ (j : Nat) (F T J Q : List Nat), F.length = 16 ∧ l16 T ∧ l88 J ∧ l16 Q ∧ j ≤ 88 ∧ h' = (dh g j ct n0 n1 n2 n3 n4 ni no np FO BA PW K1 F K2 F2 WB T Q J B0 B1 B2 B3 B4 SG CT MB IN (cjo FO K1 JB SM OU [B0, B1, B2, B3, B4] [n0, n1, n2, n3, n4] ct IN ni) OP S)) := by
  have z1 : l88 (it zr 0 16 JB) := ⟨by rw [it_len zr_len]; exact hJB.1, it_inv by8 16 0 JB (fun j S _ _ hS => hS.set (by omega)) hJB.2⟩
  have hRl := hR.1
  refine Con.of (by decide) rfl rfl (L := [some (.ref (zA (gz g) 13)), some (.ref (zA (gz g) 18)), some (.ref (zA (gz g) 38)), some (.ref (zA (gz g) 41)), none]) rfl (fun f C => ?_)
  have last : ∀ (n i : Nat) (F T J Q A : List Nat), 16 ≤ n → n ≤ 88 → F.length = 16 → l16 T → l88 J → l16 Q → (A.length = 88 ∧ by8 A) → cmk FO K1 (it (ate Q (n - 16)) 0 16 J) n A = (cjo FO K1 JB SM OU [B0, B1, B2, B3, B4] [n0, n1, n2, n3, n4] ct IN ni) → X g f M_Marker_join (0, 0) (fun o h' => o = .returned none ∧ ∃ (j : Nat) (F T J Q : List Nat), F.length = 16 ∧ l16 T ∧ l88 J ∧ l16 Q ∧ j ≤ 88 ∧ h' = (dh g j ct n0 n1 n2 n3 n4 ni no np FO BA PW K1 F K2 F2 WB T Q J B0 B1 B2 B3 B4 SG CT MB IN (cjo FO K1 JB SM OU [B0, B1, B2, B3, B4] [n0, n1, n2, n3, n4] ct IN ni) OP S)) (0, 0) 122 [some (.ref (zA (gz g) 13)), some (.ref (zA (gz g) 18)), some (.ref (zA (gz g) 38)), some (.ref (zA (gz g) 41)), some (.int (nI i))] [] (dh g n ct n0 n1 n2 n3 n4 ni no np FO BA PW K1 F K2 F2 WB T Q J B0 B1 B2 B3 B4 SG CT MB IN A OP S) := by
    intro n i F T J Q A h1 h2 hF hT2 hJ hQ hA he
    have a1 : l88 (it (ate Q (n - 16)) 0 16 J) := ⟨by rw [it_len (ate_len Q (n - 16))]; exact hJ.1, ate8 hQ.2 _ 0 16 hJ.2⟩
    have hJl := hJ.1
    have hQl := hQ.1
    refine x_aload_n (pc := 122) C (dq D_Marker_join 57 rfl) rfl ?_
    refine x_get (pc := 123) (ci := 5) (j := 3) C (dq D_Marker_join 58 rfl) rfl rfl rfl rfl k_fl_Marker_21 ?_
    refine x_aload_n (pc := 126) C (dq D_Marker_join 59 rfl) rfl ?_
    refine x_get (pc := 127) (ci := 5) (j := 2) C (dq D_Marker_join 60 rfl) rfl rfl rfl rfl k_fl_Marker_15 ?_
    refine x_cS0 (pc := 130) (M := M_Marker_addToEnd) C (dq D_Marker_join 61 rfl) k_ml_Marker_85 m_Marker_addToEnd (c_addToEnd (r := 16) (b := 17) (n := n) rfl rfl rfl (by decide) (by omega) (by omega)) rfl rfl rfl rfl (by decide) ?_
    rw [dh_s17]
    refine x_aload_n (pc := 133) C (dq D_Marker_join 62 rfl) rfl ?_
    refine x_aload_n (pc := 134) C (dq D_Marker_join 63 rfl) rfl ?_
    refine x_get (pc := 135) (ci := 5) (j := 3) C (dq D_Marker_join 64 rfl) rfl rfl rfl rfl k_fl_Marker_21 ?_
    refine x_aload_n (pc := 138) C (dq D_Marker_join 65 rfl) rfl ?_
    refine x_cV (pc := 139) (ci := 5) (M := M_Marker_markRow) C (dq D_Marker_join 66 rfl) k_ml_Marker_65 m_Marker_markRow rfl rfl rfl (c_markRow (m := 13) (c := 5) (tz := 14) (sm := 15) (jn := 16) (r := 16) (b := 17) (n := n) rfl (cip1 hT hK hF) rfl rfl rfl rfl ⟨by decide, by decide, by decide, by decide⟩ ⟨by decide, by decide, by decide, by decide⟩ ⟨by decide, by decide, by decide, by decide⟩ hT2.1 hT2.2 a1 h2 (by have := hA.1; omega) hA.2) rfl rfl rfl rfl (by decide) (fun o h2 hp => ?_)
    obtain ⟨rfl, Fx, Tx, q1, q2, q3, rfl⟩ := hp
    refine ⟨none, rfl, ?_⟩
    rw [he, dh_s7, dh_s14, dh_s41]
    show X g f M_Marker_join (0, 0) (fun o h' => o = .returned none ∧ ∃ (j : Nat) (F T J Q : List Nat), F.length = 16 ∧ l16 T ∧ l88 J ∧ l16 Q ∧ j ≤ 88 ∧ h' = (dh g j ct n0 n1 n2 n3 n4 ni no np FO BA PW K1 F K2 F2 WB T Q J B0 B1 B2 B3 B4 SG CT MB IN (cjo FO K1 JB SM OU [B0, B1, B2, B3, B4] [n0, n1, n2, n3, n4] ct IN ni) OP S)) (0, 0) 142 [some (.ref (zA (gz g) 13)), some (.ref (zA (gz g) 18)), some (.ref (zA (gz g) 38)), some (.ref (zA (gz g) 41)), some (.int (nI i))] [] (dh g n ct n0 n1 n2 n3 n4 ni no np FO BA PW K1 Fx K2 F2 WB Tx Q (it (ate Q (n - 16)) 0 16 J) B0 B1 B2 B3 B4 SG CT MB IN (cjo FO K1 JB SM OU [B0, B1, B2, B3, B4] [n0, n1, n2, n3, n4] ct IN ni) OP S)
    exact x_vret (pc := 142) C (dq D_Marker_join 67 rfl) rfl (by decide) ⟨rfl, n, Fx, Tx, _, Q, q1, ⟨q2, q3⟩, a1, hQ, h2, rfl⟩
  have body : ∀ (i j : Nat) (F T Q A : List Nat), F.length = 16 → l16 T → l16 Q → (A.length = 88 ∧ by8 A) → it (cjs FO K1 [B0, B1, B2, B3, B4] [n0, n1, n2, n3, n4]) 0 ct (OU, cj0 FO K1 JB SM) = (A, Q) → X g f M_Marker_join (0, 0) (fun o h' => o = .returned none ∧ ∃ (j : Nat) (F T J Q : List Nat), F.length = 16 ∧ l16 T ∧ l88 J ∧ l16 Q ∧ j ≤ 88 ∧ h' = (dh g j ct n0 n1 n2 n3 n4 ni no np FO BA PW K1 F K2 F2 WB T Q J B0 B1 B2 B3 B4 SG CT MB IN (cjo FO K1 JB SM OU [B0, B1, B2, B3, B4] [n0, n1, n2, n3, n4] ct IN ni) OP S)) (0, 0) 76 [some (.ref (zA (gz g) 13)), some (.ref (zA (gz g) 18)), some (.ref (zA (gz g) 38)), some (.ref (zA (gz g) 41)), some (.int (nI i))] [] (dh g j ct n0 n1 n2 n3 n4 ni no np FO BA PW K1 F K2 F2 WB T Q (it zr 0 16 JB) B0 B1 B2 B3 B4 SG CT MB IN A OP S) := by
    intro i j F T Q A hF hT2 hQ hA he
    have hzl := z1.1
    have c1 : l88 (cpy IN (it zr 0 16 JB) 0 0 ni) := ⟨by rw [cpy_length (by omega) (by omega)]; exact z1.1, cpy8 hR.2 z1.2⟩
    have c1l := c1.1
    refine x_aload_n (pc := 76) C (dq D_Marker_join 37 rfl) rfl ?_
    refine x_get (pc := 77) (ci := 5) (j := 3) C (dq D_Marker_join 38 rfl) rfl rfl rfl rfl k_fl_Marker_21 ?_
    refine x_aload_n (pc := 80) C (dq D_Marker_join 39 rfl) rfl ?_
    refine x_cV0 (pc := 81) (ci := 7) (M := M_Row_become) C (dq D_Marker_join 40 rfl) k_ml_Marker_78 m_Row_become rfl rfl rfl (c_Row_become (r := 16) (b := 17) (n := j) (o := 38) (q := 39) (m := ni) rfl rfl rfl rfl (by omega) (by omega)) rfl rfl rfl rfl (by decide) ?_
    rw [dh_s16, dh_s17]
    by_cases h16 : ni < 16
    · have d1 : l16 (dbl Q) := ⟨by rw [dbl_len]; exact hQ.1, dbl8 hQ.2⟩
      have c2 : l88 ((cpy IN (it zr 0 16 JB) 0 0 ni).set ni 128) := ⟨by rw [List.length_set]; exact c1.1, c1.2.set (by omega)⟩
      have c2l := c2.1
      have c3 : l88 (it zr (ni + 1) (16 - (ni + 1)) ((cpy IN (it zr 0 16 JB) 0 0 ni).set ni 128)) := ⟨by rw [it_len zr_len]; exact c2.1, it_inv by8 _ _ _ (fun j S _ _ hS => hS.set (by omega)) c2.2⟩
      refine x_aload_n (pc := 84) C (dq D_Marker_join 41 rfl) rfl ?_
      refine x_get (pc := 85) (ci := 5) (j := 3) C (dq D_Marker_join 42 rfl) rfl rfl rfl rfl k_fl_Marker_21 ?_
      refine x_get (pc := 88) (ci := 7) (j := 1) C (dq D_Marker_join 43 rfl) rfl rfl rfl rfl k_fl_Marker_29 ?_
      refine x_bipush (pc := 91) C (dq D_Marker_join 44 rfl) cb_16 ?_
      refine n_ge_f (pc := 93) (tgt := 122) C (dq D_Marker_join 45 rfl) (by decide) (by omega) (by omega) ?_
      refine x_aload_n (pc := 96) C (dq D_Marker_join 46 rfl) rfl ?_
      refine x_get (pc := 97) (ci := 5) (j := 2) C (dq D_Marker_join 47 rfl) rfl rfl rfl rfl k_fl_Marker_15 ?_
      refine x_cS0 (pc := 100) (M := M_Marker_doubleBlock) C (dq D_Marker_join 48 rfl) k_ml_Marker_55 m_Marker_doubleBlock (c_doubleBlock (blk := 15) rfl (by have := hQ.1; omega) hQ.2) rfl rfl rfl rfl (by decide) ?_
      rw [dh_s15]
      refine x_aload_n (pc := 103) C (dq D_Marker_join 49 rfl) rfl ?_
      refine x_get (pc := 104) (ci := 5) (j := 3) C (dq D_Marker_join 50 rfl) rfl rfl rfl rfl k_fl_Marker_21 ?_
      refine x_sipush (pc := 107) C (dq D_Marker_join 51 rfl) cs_128 ?_
      refine x_cV0 (pc := 110) (ci := 7) (M := M_Row_add) C (dq D_Marker_join 52 rfl) k_ml_Marker_82 m_Row_add rfl rfl rfl (c_Row_add (r := 16) (b := 17) (n := ni) (v := 128) rfl rfl (by omega)) rfl rfl rfl rfl (by decide) ?_
      rw [dh_s17, dh_s16]
      refine x_aload_n (pc := 113) C (dq D_Marker_join 53 rfl) rfl ?_
      refine x_get (pc := 114) (ci := 5) (j := 3) C (dq D_Marker_join 54 rfl) rfl rfl rfl rfl k_fl_Marker_21 ?_
      refine x_bipush (pc := 117) C (dq D_Marker_join 55 rfl) cb_16 ?_
      refine x_cV0 (pc := 119) (ci := 7) (M := M_Row_addZeros) C (dq D_Marker_join 56 rfl) k_ml_Marker_61 m_Row_addZeros rfl rfl rfl (c_Row_addZeros (r := 16) (b := 17) (n := ni + 1) (m := 16) rfl rfl (by omega)) rfl rfl rfl rfl (by decide) ?_
      rw [dh_s17, dh_s16]
      refine last 16 i F T _ (dbl Q) A (by omega) (by omega) hF hT2 c3 d1 hA ?_
      unfold cjo
      rw [he, if_pos h16]
    · refine x_aload_n (pc := 84) C (dq D_Marker_join 41 rfl) rfl ?_
      refine x_get (pc := 85) (ci := 5) (j := 3) C (dq D_Marker_join 42 rfl) rfl rfl rfl rfl k_fl_Marker_21 ?_
      refine x_get (pc := 88) (ci := 7) (j := 1) C (dq D_Marker_join 43 rfl) rfl rfl rfl rfl k_fl_Marker_29 ?_
      refine x_bipush (pc := 91) C (dq D_Marker_join 44 rfl) cb_16 ?_
      refine n_ge_t (pc := 93) (tgt := 122) C (dq D_Marker_join 45 rfl) (by decide) (by omega) (by omega) ?_
      refine last ni i F T _ Q A (by omega) hn hF hT2 c1 hQ hA ?_
      unfold cjo
      rw [he, if_neg h16]
  have items : ∀ (d i j : Nat) (F T Q A : List Nat), i + d = ct → F.length = 16 → l16 T → l16 Q → (A.length = 88 ∧ by8 A) → it (cjs FO K1 [B0, B1, B2, B3, B4] [n0, n1, n2, n3, n4]) i d (A, Q) = it (cjs FO K1 [B0, B1, B2, B3, B4] [n0, n1, n2, n3, n4]) 0 ct (OU, cj0 FO K1 JB SM) → X g f M_Marker_join (0, 0) (fun o h' => o = .returned none ∧ ∃ (j : Nat) (F T J Q : List Nat), F.length = 16 ∧ l16 T ∧ l88 J ∧ l16 Q ∧ j ≤ 88 ∧ h' = (dh g j ct n0 n1 n2 n3 n4 ni no np FO BA PW K1 F K2 F2 WB T Q J B0 B1 B2 B3 B4 SG CT MB IN (cjo FO K1 JB SM OU [B0, B1, B2, B3, B4] [n0, n1, n2, n3, n4] ct IN ni) OP S)) (0, 0) 31 [some (.ref (zA (gz g) 13)), some (.ref (zA (gz g) 18)), some (.ref (zA (gz g) 38)), some (.ref (zA (gz g) 41)), some (.int (nI i))] [] (dh g j ct n0 n1 n2 n3 n4 ni no np FO BA PW K1 F K2 F2 WB T Q (it zr 0 16 JB) B0 B1 B2 B3 B4 SG CT MB IN A OP S) := by
    intro d
    induction d with
    | zero =>
      intro i j F T Q A hid hF hT2 hQ hA he
      rw [it_zero] at he
      refine x_iload (pc := 31) C (dq D_Marker_join 15 rfl) rfl ?_
      refine x_aload_n (pc := 33) C (dq D_Marker_join 16 rfl) rfl ?_
      refine x_get (pc := 34) (ci := 3) (j := 1) C (dq D_Marker_join 17 rfl) rfl rfl rfl rfl k_fl_Marker_69 ?_
      refine n_ge_t (pc := 37) (tgt := 76) C (dq D_Marker_join 18 rfl) (by decide) (by omega) (by omega) ?_
      exact body i j F T Q A hF hT2 hQ hA he.symm
    | succ d ih =>
      intro i j F T Q A hid hF hT2 hQ hA he
      obtain ⟨i1, i2⟩ := hI i (by omega)
      have d1 : l16 (dbl Q) := ⟨by rw [dbl_len]; exact hQ.1, dbl8 hQ.2⟩
      have d1l := d1.1
      have hAl := hA.1
      obtain ⟨m1, m2⟩ := cmk_ok hT.1.2 hK.2 i1.2 ([n0, n1, n2, n3, n4].getD i 0) hA.2
      have m1l : (cmk FO K1 ([B0, B1, B2, B3, B4].getD i []) ([n0, n1, n2, n3, n4].getD i 0) A).length = 88 := m1.trans hA.1
      have s1 : l16 (it (adt (cmk FO K1 ([B0, B1, B2, B3, B4].getD i []) ([n0, n1, n2, n3, n4].getD i 0) A) 0) 0 16 (dbl Q)) := ⟨by rw [adts_len]; exact d1.1, adt8 m2 0 0 16 d1.2⟩
      refine x_iload (pc := 31) C (dq D_Marker_join 15 rfl) rfl ?_
      refine x_aload_n (pc := 33) C (dq D_Marker_join 16 rfl) rfl ?_
      refine x_get (pc := 34) (ci := 3) (j := 1) C (dq D_Marker_join 17 rfl) rfl rfl rfl rfl k_fl_Marker_69 ?_
      refine n_ge_f (pc := 37) (tgt := 76) C (dq D_Marker_join 18 rfl) (by decide) (by omega) (by omega) ?_
      refine x_aload_n (pc := 40) C (dq D_Marker_join 19 rfl) rfl ?_
      refine x_get (pc := 41) (ci := 5) (j := 2) C (dq D_Marker_join 20 rfl) rfl rfl rfl rfl k_fl_Marker_15 ?_
      refine x_cS0 (pc := 44) (M := M_Marker_doubleBlock) C (dq D_Marker_join 21 rfl) k_ml_Marker_55 m_Marker_doubleBlock (c_doubleBlock (blk := 15) rfl (by have := hQ.1; omega) hQ.2) rfl rfl rfl rfl (by decide) ?_
      rw [dh_s15]
      have next : ∀ (F T : List Nat), F.length = 16 → l16 T → X g f M_Marker_join (0, 0) (fun o h' => o = .returned none ∧ ∃ (j : Nat) (F T J Q : List Nat), F.length = 16 ∧ l16 T ∧ l88 J ∧ l16 Q ∧ j ≤ 88 ∧ h' = (dh g j ct n0 n1 n2 n3 n4 ni no np FO BA PW K1 F K2 F2 WB T Q J B0 B1 B2 B3 B4 SG CT MB IN (cjo FO K1 JB SM OU [B0, B1, B2, B3, B4] [n0, n1, n2, n3, n4] ct IN ni) OP S)) (0, 0) 59 [some (.ref (zA (gz g) 13)), some (.ref (zA (gz g) 18)), some (.ref (zA (gz g) 38)), some (.ref (zA (gz g) 41)), some (.int (nI i))] [] (dh g j ct n0 n1 n2 n3 n4 ni no np FO BA PW K1 F K2 F2 WB T (dbl Q) (it zr 0 16 JB) B0 B1 B2 B3 B4 SG CT MB IN (cmk FO K1 ([B0, B1, B2, B3, B4].getD i []) ([n0, n1, n2, n3, n4].getD i 0) A) OP S) := by
        intro F T hF hT2
        refine x_aload_n (pc := 59) C (dq D_Marker_join 29 rfl) rfl ?_
        refine x_get (pc := 60) (ci := 5) (j := 2) C (dq D_Marker_join 30 rfl) rfl rfl rfl rfl k_fl_Marker_15 ?_
        refine x_aload_n (pc := 63) C (dq D_Marker_join 31 rfl) rfl ?_
        refine x_iconst (pc := 64) C (dq D_Marker_join 32 rfl) ci_0 ?_
        refine x_bipush (pc := 65) C (dq D_Marker_join 33 rfl) cb_16 ?_
        refine x_cS0 (pc := 67) (M := M_Marker_addTo) C (dq D_Marker_join 34 rfl) k_ml_Marker_42 m_Marker_addTo (c_addTo (blk := 15) (fr := 41) (s := 0) (m := 16) rfl rfl (by decide) (by omega) (by omega)) rfl rfl rfl rfl (by decide) ?_
        rw [dh_s15]
        refine x_iinc (pc := 70) C (dq D_Marker_join 35 rfl) rfl (ii_1 _) rfl rfl ?_
        simp only [List.set_cons_zero, List.set_cons_succ]
        refine x_goto (pc := 73) (tgt := 31) C (dq D_Marker_join 36 rfl) (by decide) ?_
        exact ih (i + 1) j F T _ _ (by omega) hF hT2 s1 ⟨m1l, m2⟩ he
      rcases (show i = 0 ∨ i = 1 ∨ i = 2 ∨ i = 3 ∨ i = 4 by omega) with rfl | rfl | rfl | rfl | rfl
      · refine x_aload_n (pc := 47) C (dq D_Marker_join 22 rfl) rfl ?_
        refine x_aload_n (pc := 48) C (dq D_Marker_join 23 rfl) rfl ?_
        refine x_get (pc := 49) (ci := 3) (j := 0) C (dq D_Marker_join 24 rfl) rfl rfl rfl rfl k_fl_Marker_74 ?_
        refine x_iload (pc := 52) C (dq D_Marker_join 25 rfl) rfl ?_
        refine x_aald (pc := 54) (t := 2) (v := zA (gz g) 20) C (dq D_Marker_join 26 rfl) rfl rfl rfl (show 5 < 2 ^ 31 by decide) ?_
        refine x_aload_n (pc := 55) C (dq D_Marker_join 27 rfl) rfl ?_
        refine x_cV (pc := 56) (ci := 5) (M := M_Marker_markRow) C (dq D_Marker_join 28 rfl) k_ml_Marker_65 m_Marker_markRow rfl rfl rfl (c_markRow (m := 13) (c := 5) (tz := 14) (sm := 15) (jn := 16) (r := 20) (b := 21) (n := n0) rfl (cip1 hT hK hF) rfl rfl rfl rfl ⟨by decide, by decide, by decide, by decide⟩ ⟨by decide, by decide, by decide, by decide⟩ ⟨by decide, by decide, by decide, by decide⟩ hT2.1 hT2.2 i1 (Nat.le_trans i2 (by decide)) (by omega) hA.2) rfl rfl rfl rfl (by decide) (fun o h2 hp => ?_)
        obtain ⟨rfl, Fx, Tx, q1, q2, q3, rfl⟩ := hp
        refine ⟨none, rfl, ?_⟩
        rw [dh_s7, dh_s14, dh_s41]
        exact next Fx Tx q1 ⟨q2, q3⟩
      · refine x_aload_n (pc := 47) C (dq D_Marker_join 22 rfl) rfl ?_
        refine x_aload_n (pc := 48) C (dq D_Marker_join 23 rfl) rfl ?_
        refine x_get (pc := 49) (ci := 3) (j := 0) C (dq D_Marker_join 24 rfl) rfl rfl rfl rfl k_fl_Marker_74 ?_
        refine x_iload (pc := 52) C (dq D_Marker_join 25 rfl) rfl ?_
        refine x_aald (pc := 54) (t := 2) (v := zA (gz g) 22) C (dq D_Marker_join 26 rfl) rfl rfl rfl (show 5 < 2 ^ 31 by decide) ?_
        refine x_aload_n (pc := 55) C (dq D_Marker_join 27 rfl) rfl ?_
        refine x_cV (pc := 56) (ci := 5) (M := M_Marker_markRow) C (dq D_Marker_join 28 rfl) k_ml_Marker_65 m_Marker_markRow rfl rfl rfl (c_markRow (m := 13) (c := 5) (tz := 14) (sm := 15) (jn := 16) (r := 22) (b := 23) (n := n1) rfl (cip1 hT hK hF) rfl rfl rfl rfl ⟨by decide, by decide, by decide, by decide⟩ ⟨by decide, by decide, by decide, by decide⟩ ⟨by decide, by decide, by decide, by decide⟩ hT2.1 hT2.2 i1 (Nat.le_trans i2 (by decide)) (by omega) hA.2) rfl rfl rfl rfl (by decide) (fun o h2 hp => ?_)
        obtain ⟨rfl, Fx, Tx, q1, q2, q3, rfl⟩ := hp
        refine ⟨none, rfl, ?_⟩
        rw [dh_s7, dh_s14, dh_s41]
        exact next Fx Tx q1 ⟨q2, q3⟩
      · refine x_aload_n (pc := 47) C (dq D_Marker_join 22 rfl) rfl ?_
        refine x_aload_n (pc := 48) C (dq D_Marker_join 23 rfl) rfl ?_
        refine x_get (pc := 49) (ci := 3) (j := 0) C (dq D_Marker_join 24 rfl) rfl rfl rfl rfl k_fl_Marker_74 ?_
        refine x_iload (pc := 52) C (dq D_Marker_join 25 rfl) rfl ?_
        refine x_aald (pc := 54) (t := 2) (v := zA (gz g) 24) C (dq D_Marker_join 26 rfl) rfl rfl rfl (show 5 < 2 ^ 31 by decide) ?_
        refine x_aload_n (pc := 55) C (dq D_Marker_join 27 rfl) rfl ?_
        refine x_cV (pc := 56) (ci := 5) (M := M_Marker_markRow) C (dq D_Marker_join 28 rfl) k_ml_Marker_65 m_Marker_markRow rfl rfl rfl (c_markRow (m := 13) (c := 5) (tz := 14) (sm := 15) (jn := 16) (r := 24) (b := 25) (n := n2) rfl (cip1 hT hK hF) rfl rfl rfl rfl ⟨by decide, by decide, by decide, by decide⟩ ⟨by decide, by decide, by decide, by decide⟩ ⟨by decide, by decide, by decide, by decide⟩ hT2.1 hT2.2 i1 (Nat.le_trans i2 (by decide)) (by omega) hA.2) rfl rfl rfl rfl (by decide) (fun o h2 hp => ?_)
        obtain ⟨rfl, Fx, Tx, q1, q2, q3, rfl⟩ := hp
        refine ⟨none, rfl, ?_⟩
        rw [dh_s7, dh_s14, dh_s41]
        exact next Fx Tx q1 ⟨q2, q3⟩
      · refine x_aload_n (pc := 47) C (dq D_Marker_join 22 rfl) rfl ?_
        refine x_aload_n (pc := 48) C (dq D_Marker_join 23 rfl) rfl ?_
        refine x_get (pc := 49) (ci := 3) (j := 0) C (dq D_Marker_join 24 rfl) rfl rfl rfl rfl k_fl_Marker_74 ?_
        refine x_iload (pc := 52) C (dq D_Marker_join 25 rfl) rfl ?_
        refine x_aald (pc := 54) (t := 2) (v := zA (gz g) 26) C (dq D_Marker_join 26 rfl) rfl rfl rfl (show 5 < 2 ^ 31 by decide) ?_
        refine x_aload_n (pc := 55) C (dq D_Marker_join 27 rfl) rfl ?_
        refine x_cV (pc := 56) (ci := 5) (M := M_Marker_markRow) C (dq D_Marker_join 28 rfl) k_ml_Marker_65 m_Marker_markRow rfl rfl rfl (c_markRow (m := 13) (c := 5) (tz := 14) (sm := 15) (jn := 16) (r := 26) (b := 27) (n := n3) rfl (cip1 hT hK hF) rfl rfl rfl rfl ⟨by decide, by decide, by decide, by decide⟩ ⟨by decide, by decide, by decide, by decide⟩ ⟨by decide, by decide, by decide, by decide⟩ hT2.1 hT2.2 i1 (Nat.le_trans i2 (by decide)) (by omega) hA.2) rfl rfl rfl rfl (by decide) (fun o h2 hp => ?_)
        obtain ⟨rfl, Fx, Tx, q1, q2, q3, rfl⟩ := hp
        refine ⟨none, rfl, ?_⟩
        rw [dh_s7, dh_s14, dh_s41]
        exact next Fx Tx q1 ⟨q2, q3⟩
      · refine x_aload_n (pc := 47) C (dq D_Marker_join 22 rfl) rfl ?_
        refine x_aload_n (pc := 48) C (dq D_Marker_join 23 rfl) rfl ?_
        refine x_get (pc := 49) (ci := 3) (j := 0) C (dq D_Marker_join 24 rfl) rfl rfl rfl rfl k_fl_Marker_74 ?_
        refine x_iload (pc := 52) C (dq D_Marker_join 25 rfl) rfl ?_
        refine x_aald (pc := 54) (t := 2) (v := zA (gz g) 28) C (dq D_Marker_join 26 rfl) rfl rfl rfl (show 5 < 2 ^ 31 by decide) ?_
        refine x_aload_n (pc := 55) C (dq D_Marker_join 27 rfl) rfl ?_
        refine x_cV (pc := 56) (ci := 5) (M := M_Marker_markRow) C (dq D_Marker_join 28 rfl) k_ml_Marker_65 m_Marker_markRow rfl rfl rfl (c_markRow (m := 13) (c := 5) (tz := 14) (sm := 15) (jn := 16) (r := 28) (b := 29) (n := n4) rfl (cip1 hT hK hF) rfl rfl rfl rfl ⟨by decide, by decide, by decide, by decide⟩ ⟨by decide, by decide, by decide, by decide⟩ ⟨by decide, by decide, by decide, by decide⟩ hT2.1 hT2.2 i1 (Nat.le_trans i2 (by decide)) (by omega) hA.2) rfl rfl rfl rfl (by decide) (fun o h2 hp => ?_)
        obtain ⟨rfl, Fx, Tx, q1, q2, q3, rfl⟩ := hp
        refine ⟨none, rfl, ?_⟩
        rw [dh_s7, dh_s14, dh_s41]
        exact next Fx Tx q1 ⟨q2, q3⟩
  refine x_aload_n (pc := 0) C (dq D_Marker_join 0 rfl) rfl ?_
  refine x_get (pc := 1) (ci := 5) (j := 3) C (dq D_Marker_join 1 rfl) rfl rfl rfl rfl k_fl_Marker_21 ?_
  refine x_cV0 (pc := 4) (ci := 7) (M := M_Row_clear) C (dq D_Marker_join 2 rfl) k_ml_Marker_58 m_Row_clear rfl rfl rfl (c_Row_clear (r := 16) (b := 17) (n := nj) rfl) rfl rfl rfl rfl (by decide) ?_
  rw [dh_s16]
  refine x_aload_n (pc := 7) C (dq D_Marker_join 3 rfl) rfl ?_
  refine x_get (pc := 8) (ci := 5) (j := 3) C (dq D_Marker_join 4 rfl) rfl rfl rfl rfl k_fl_Marker_21 ?_
  refine x_bipush (pc := 11) C (dq D_Marker_join 5 rfl) cb_16 ?_
  refine x_cV0 (pc := 13) (ci := 7) (M := M_Row_addZeros) C (dq D_Marker_join 6 rfl) k_ml_Marker_61 m_Row_addZeros rfl rfl rfl (c_Row_addZeros (r := 16) (b := 17) (n := 0) (m := 16) rfl rfl (by have := hJB.1; omega)) rfl rfl rfl rfl (by decide) ?_
  rw [dh_s17, dh_s16]
  refine x_aload_n (pc := 16) C (dq D_Marker_join 7 rfl) rfl ?_
  refine x_aload_n (pc := 17) C (dq D_Marker_join 8 rfl) rfl ?_
  refine x_get (pc := 18) (ci := 5) (j := 3) C (dq D_Marker_join 9 rfl) rfl rfl rfl rfl k_fl_Marker_21 ?_
  refine x_aload_n (pc := 21) C (dq D_Marker_join 10 rfl) rfl ?_
  refine x_get (pc := 22) (ci := 5) (j := 2) C (dq D_Marker_join 11 rfl) rfl rfl rfl rfl k_fl_Marker_15 ?_
  refine x_cV (pc := 25) (ci := 5) (M := M_Marker_markRow) C (dq D_Marker_join 12 rfl) k_ml_Marker_65 m_Marker_markRow rfl rfl rfl (c_markRow (m := 13) (c := 5) (tz := 14) (sm := 15) (jn := 16) (r := 16) (b := 17) (n := 16) rfl (cip1 hT hK hF) rfl rfl rfl rfl ⟨by decide, by decide, by decide, by decide⟩ ⟨by decide, by decide, by decide, by decide⟩ ⟨by decide, by decide, by decide, by decide⟩ hTW.1 hTW.2 z1 (by omega) (by have := hSM.1; omega) hSM.2) rfl rfl rfl rfl (by decide) (fun o h2 hp => ?_)
  obtain ⟨rfl, Fx, Tx, q1, q2, q3, rfl⟩ := hp
  refine ⟨none, rfl, ?_⟩
  rw [dh_s7, dh_s14, dh_s15]
  obtain ⟨s1, s2⟩ := cmk_ok hT.1.2 hK.2 z1.2 16 hSM.2
  show X g f M_Marker_join (0, 0) (fun o h' => o = .returned none ∧ ∃ (j : Nat) (F T J Q : List Nat), F.length = 16 ∧ l16 T ∧ l88 J ∧ l16 Q ∧ j ≤ 88 ∧ h' = (dh g j ct n0 n1 n2 n3 n4 ni no np FO BA PW K1 F K2 F2 WB T Q J B0 B1 B2 B3 B4 SG CT MB IN (cjo FO K1 JB SM OU [B0, B1, B2, B3, B4] [n0, n1, n2, n3, n4] ct IN ni) OP S)) (0, 0) 28 [some (.ref (zA (gz g) 13)), some (.ref (zA (gz g) 18)), some (.ref (zA (gz g) 38)), some (.ref (zA (gz g) 41)), none] [] (dh g 16 ct n0 n1 n2 n3 n4 ni no np FO BA PW K1 Fx K2 F2 WB Tx (cmk FO K1 (it zr 0 16 JB) 16 SM) (it zr 0 16 JB) B0 B1 B2 B3 B4 SG CT MB IN OU OP S)
  refine x_iconst (pc := 28) C (dq D_Marker_join 13 rfl) ci_0 ?_
  refine x_istore (i := 4) (pc := 29) C (dq D_Marker_join 14 rfl) rfl rfl rfl ?_
  simp only [List.set_cons_zero, List.set_cons_succ]
  exact items ct 0 16 Fx Tx _ OU (by omega) q1 ⟨q2, q3⟩ ⟨s1.trans hSM.1, s2⟩ hM (by rw [cj0])
set_option maxHeartbeats 8000000 in
theorem c_joinB {g : Gp} {nj ct n0 n1 n2 n3 n4 ni no np : Nat} {FO BA PW K1 F1 K2 F2 WB TW SM JB B0 B1 B2 B3 B4 SG CT MB IN OU OP : List Nat} {S : Hp} (hT : tok FO BA) (hK : kok K1) (hF : F1.length = 16) (hTW : l16 TW) (hSM : l16 SM) (hJB : l88 JB) (hM : (SG.length = 16 ∧ by8 SG)) (hR : l88 IN) (hn : ni ≤ 88) (hI : ∀ i, i < 5 → l88 ([B0, B1, B2, B3, B4].getD i []) ∧ [n0, n1, n2, n3, n4].getD i 0 ≤ 40) (hct : ct ≤ 5) :
    Con g M_Marker_join 4 (0, 0) [.ref (zA (gz g) 13), .ref (zA (gz g) 18), .ref (zA (gz g) 38), .ref (zA (gz g) 33)] (dh g nj ct n0 n1 n2 n3 n4 ni no np FO BA PW K1 F1 K2 F2 WB TW SM JB B0 B1 B2 B3 B4 SG CT MB IN OU OP S) (fun o h' => o = .returned none ∧ ∃ (j : Nat) (F T J Q : List Nat), F.length = 16 ∧ l16 T ∧ l88 J ∧ l16 Q ∧ j ≤ 88 ∧ h' = (dh g j ct n0 n1 n2 n3 n4 ni no np FO BA PW K1 F K2 F2 WB T Q J B0 B1 B2 B3 B4 (cjo FO K1 JB SM SG [B0, B1, B2, B3, B4] [n0, n1, n2, n3, n4] ct IN ni) CT MB IN OU OP S)) := by
  have z1 : l88 (it zr 0 16 JB) := ⟨by rw [it_len zr_len]; exact hJB.1, it_inv by8 16 0 JB (fun j S _ _ hS => hS.set (by omega)) hJB.2⟩
  have hRl := hR.1
  refine Con.of (by decide) rfl rfl (L := [some (.ref (zA (gz g) 13)), some (.ref (zA (gz g) 18)), some (.ref (zA (gz g) 38)), some (.ref (zA (gz g) 33)), none]) rfl (fun f C => ?_)
  have last : ∀ (n i : Nat) (F T J Q A : List Nat), 16 ≤ n → n ≤ 88 → F.length = 16 → l16 T → l88 J → l16 Q → (A.length = 16 ∧ by8 A) → cmk FO K1 (it (ate Q (n - 16)) 0 16 J) n A = (cjo FO K1 JB SM SG [B0, B1, B2, B3, B4] [n0, n1, n2, n3, n4] ct IN ni) → X g f M_Marker_join (0, 0) (fun o h' => o = .returned none ∧ ∃ (j : Nat) (F T J Q : List Nat), F.length = 16 ∧ l16 T ∧ l88 J ∧ l16 Q ∧ j ≤ 88 ∧ h' = (dh g j ct n0 n1 n2 n3 n4 ni no np FO BA PW K1 F K2 F2 WB T Q J B0 B1 B2 B3 B4 (cjo FO K1 JB SM SG [B0, B1, B2, B3, B4] [n0, n1, n2, n3, n4] ct IN ni) CT MB IN OU OP S)) (0, 0) 122 [some (.ref (zA (gz g) 13)), some (.ref (zA (gz g) 18)), some (.ref (zA (gz g) 38)), some (.ref (zA (gz g) 33)), some (.int (nI i))] [] (dh g n ct n0 n1 n2 n3 n4 ni no np FO BA PW K1 F K2 F2 WB T Q J B0 B1 B2 B3 B4 A CT MB IN OU OP S) := by
    intro n i F T J Q A h1 h2 hF hT2 hJ hQ hA he
    have a1 : l88 (it (ate Q (n - 16)) 0 16 J) := ⟨by rw [it_len (ate_len Q (n - 16))]; exact hJ.1, ate8 hQ.2 _ 0 16 hJ.2⟩
    have hJl := hJ.1
    have hQl := hQ.1
    refine x_aload_n (pc := 122) C (dq D_Marker_join 57 rfl) rfl ?_
    refine x_get (pc := 123) (ci := 5) (j := 3) C (dq D_Marker_join 58 rfl) rfl rfl rfl rfl k_fl_Marker_21 ?_
    refine x_aload_n (pc := 126) C (dq D_Marker_join 59 rfl) rfl ?_
    refine x_get (pc := 127) (ci := 5) (j := 2) C (dq D_Marker_join 60 rfl) rfl rfl rfl rfl k_fl_Marker_15 ?_
    refine x_cS0 (pc := 130) (M := M_Marker_addToEnd) C (dq D_Marker_join 61 rfl) k_ml_Marker_85 m_Marker_addToEnd (c_addToEnd (r := 16) (b := 17) (n := n) rfl rfl rfl (by decide) (by omega) (by omega)) rfl rfl rfl rfl (by decide) ?_
    rw [dh_s17]
    refine x_aload_n (pc := 133) C (dq D_Marker_join 62 rfl) rfl ?_
    refine x_aload_n (pc := 134) C (dq D_Marker_join 63 rfl) rfl ?_
    refine x_get (pc := 135) (ci := 5) (j := 3) C (dq D_Marker_join 64 rfl) rfl rfl rfl rfl k_fl_Marker_21 ?_
    refine x_aload_n (pc := 138) C (dq D_Marker_join 65 rfl) rfl ?_
    refine x_cV (pc := 139) (ci := 5) (M := M_Marker_markRow) C (dq D_Marker_join 66 rfl) k_ml_Marker_65 m_Marker_markRow rfl rfl rfl (c_markRow (m := 13) (c := 5) (tz := 14) (sm := 15) (jn := 16) (r := 16) (b := 17) (n := n) rfl (cip1 hT hK hF) rfl rfl rfl rfl ⟨by decide, by decide, by decide, by decide⟩ ⟨by decide, by decide, by decide, by decide⟩ ⟨by decide, by decide, by decide, by decide⟩ hT2.1 hT2.2 a1 h2 (by have := hA.1; omega) hA.2) rfl rfl rfl rfl (by decide) (fun o h2 hp => ?_)
    obtain ⟨rfl, Fx, Tx, q1, q2, q3, rfl⟩ := hp
    refine ⟨none, rfl, ?_⟩
    rw [he, dh_s7, dh_s14, dh_s33]
    show X g f M_Marker_join (0, 0) (fun o h' => o = .returned none ∧ ∃ (j : Nat) (F T J Q : List Nat), F.length = 16 ∧ l16 T ∧ l88 J ∧ l16 Q ∧ j ≤ 88 ∧ h' = (dh g j ct n0 n1 n2 n3 n4 ni no np FO BA PW K1 F K2 F2 WB T Q J B0 B1 B2 B3 B4 (cjo FO K1 JB SM SG [B0, B1, B2, B3, B4] [n0, n1, n2, n3, n4] ct IN ni) CT MB IN OU OP S)) (0, 0) 142 [some (.ref (zA (gz g) 13)), some (.ref (zA (gz g) 18)), some (.ref (zA (gz g) 38)), some (.ref (zA (gz g) 33)), some (.int (nI i))] [] (dh g n ct n0 n1 n2 n3 n4 ni no np FO BA PW K1 Fx K2 F2 WB Tx Q (it (ate Q (n - 16)) 0 16 J) B0 B1 B2 B3 B4 (cjo FO K1 JB SM SG [B0, B1, B2, B3, B4] [n0, n1, n2, n3, n4] ct IN ni) CT MB IN OU OP S)
    exact x_vret (pc := 142) C (dq D_Marker_join 67 rfl) rfl (by decide) ⟨rfl, n, Fx, Tx, _, Q, q1, ⟨q2, q3⟩, a1, hQ, h2, rfl⟩
  have body : ∀ (i j : Nat) (F T Q A : List Nat), F.length = 16 → l16 T → l16 Q → (A.length = 16 ∧ by8 A) → it (cjs FO K1 [B0, B1, B2, B3, B4] [n0, n1, n2, n3, n4]) 0 ct (SG, cj0 FO K1 JB SM) = (A, Q) → X g f M_Marker_join (0, 0) (fun o h' => o = .returned none ∧ ∃ (j : Nat) (F T J Q : List Nat), F.length = 16 ∧ l16 T ∧ l88 J ∧ l16 Q ∧ j ≤ 88 ∧ h' = (dh g j ct n0 n1 n2 n3 n4 ni no np FO BA PW K1 F K2 F2 WB T Q J B0 B1 B2 B3 B4 (cjo FO K1 JB SM SG [B0, B1, B2, B3, B4] [n0, n1, n2, n3, n4] ct IN ni) CT MB IN OU OP S)) (0, 0) 76 [some (.ref (zA (gz g) 13)), some (.ref (zA (gz g) 18)), some (.ref (zA (gz g) 38)), some (.ref (zA (gz g) 33)), some (.int (nI i))] [] (dh g j ct n0 n1 n2 n3 n4 ni no np FO BA PW K1 F K2 F2 WB T Q (it zr 0 16 JB) B0 B1 B2 B3 B4 A CT MB IN OU OP S) := by
    intro i j F T Q A hF hT2 hQ hA he
    have hzl := z1.1
    have c1 : l88 (cpy IN (it zr 0 16 JB) 0 0 ni) := ⟨by rw [cpy_length (by omega) (by omega)]; exact z1.1, cpy8 hR.2 z1.2⟩
    have c1l := c1.1
    refine x_aload_n (pc := 76) C (dq D_Marker_join 37 rfl) rfl ?_
    refine x_get (pc := 77) (ci := 5) (j := 3) C (dq D_Marker_join 38 rfl) rfl rfl rfl rfl k_fl_Marker_21 ?_
    refine x_aload_n (pc := 80) C (dq D_Marker_join 39 rfl) rfl ?_
    refine x_cV0 (pc := 81) (ci := 7) (M := M_Row_become) C (dq D_Marker_join 40 rfl) k_ml_Marker_78 m_Row_become rfl rfl rfl (c_Row_become (r := 16) (b := 17) (n := j) (o := 38) (q := 39) (m := ni) rfl rfl rfl rfl (by omega) (by omega)) rfl rfl rfl rfl (by decide) ?_
    rw [dh_s16, dh_s17]
    by_cases h16 : ni < 16
    · have d1 : l16 (dbl Q) := ⟨by rw [dbl_len]; exact hQ.1, dbl8 hQ.2⟩
      have c2 : l88 ((cpy IN (it zr 0 16 JB) 0 0 ni).set ni 128) := ⟨by rw [List.length_set]; exact c1.1, c1.2.set (by omega)⟩
      have c2l := c2.1
      have c3 : l88 (it zr (ni + 1) (16 - (ni + 1)) ((cpy IN (it zr 0 16 JB) 0 0 ni).set ni 128)) := ⟨by rw [it_len zr_len]; exact c2.1, it_inv by8 _ _ _ (fun j S _ _ hS => hS.set (by omega)) c2.2⟩
      refine x_aload_n (pc := 84) C (dq D_Marker_join 41 rfl) rfl ?_
      refine x_get (pc := 85) (ci := 5) (j := 3) C (dq D_Marker_join 42 rfl) rfl rfl rfl rfl k_fl_Marker_21 ?_
      refine x_get (pc := 88) (ci := 7) (j := 1) C (dq D_Marker_join 43 rfl) rfl rfl rfl rfl k_fl_Marker_29 ?_
      refine x_bipush (pc := 91) C (dq D_Marker_join 44 rfl) cb_16 ?_
      refine n_ge_f (pc := 93) (tgt := 122) C (dq D_Marker_join 45 rfl) (by decide) (by omega) (by omega) ?_
      refine x_aload_n (pc := 96) C (dq D_Marker_join 46 rfl) rfl ?_
      refine x_get (pc := 97) (ci := 5) (j := 2) C (dq D_Marker_join 47 rfl) rfl rfl rfl rfl k_fl_Marker_15 ?_
      refine x_cS0 (pc := 100) (M := M_Marker_doubleBlock) C (dq D_Marker_join 48 rfl) k_ml_Marker_55 m_Marker_doubleBlock (c_doubleBlock (blk := 15) rfl (by have := hQ.1; omega) hQ.2) rfl rfl rfl rfl (by decide) ?_
      rw [dh_s15]
      refine x_aload_n (pc := 103) C (dq D_Marker_join 49 rfl) rfl ?_
      refine x_get (pc := 104) (ci := 5) (j := 3) C (dq D_Marker_join 50 rfl) rfl rfl rfl rfl k_fl_Marker_21 ?_
      refine x_sipush (pc := 107) C (dq D_Marker_join 51 rfl) cs_128 ?_
      refine x_cV0 (pc := 110) (ci := 7) (M := M_Row_add) C (dq D_Marker_join 52 rfl) k_ml_Marker_82 m_Row_add rfl rfl rfl (c_Row_add (r := 16) (b := 17) (n := ni) (v := 128) rfl rfl (by omega)) rfl rfl rfl rfl (by decide) ?_
      rw [dh_s17, dh_s16]
      refine x_aload_n (pc := 113) C (dq D_Marker_join 53 rfl) rfl ?_
      refine x_get (pc := 114) (ci := 5) (j := 3) C (dq D_Marker_join 54 rfl) rfl rfl rfl rfl k_fl_Marker_21 ?_
      refine x_bipush (pc := 117) C (dq D_Marker_join 55 rfl) cb_16 ?_
      refine x_cV0 (pc := 119) (ci := 7) (M := M_Row_addZeros) C (dq D_Marker_join 56 rfl) k_ml_Marker_61 m_Row_addZeros rfl rfl rfl (c_Row_addZeros (r := 16) (b := 17) (n := ni + 1) (m := 16) rfl rfl (by omega)) rfl rfl rfl rfl (by decide) ?_
      rw [dh_s17, dh_s16]
      refine last 16 i F T _ (dbl Q) A (by omega) (by omega) hF hT2 c3 d1 hA ?_
      unfold cjo
      rw [he, if_pos h16]
    · refine x_aload_n (pc := 84) C (dq D_Marker_join 41 rfl) rfl ?_
      refine x_get (pc := 85) (ci := 5) (j := 3) C (dq D_Marker_join 42 rfl) rfl rfl rfl rfl k_fl_Marker_21 ?_
      refine x_get (pc := 88) (ci := 7) (j := 1) C (dq D_Marker_join 43 rfl) rfl rfl rfl rfl k_fl_Marker_29 ?_
      refine x_bipush (pc := 91) C (dq D_Marker_join 44 rfl) cb_16 ?_
      refine n_ge_t (pc := 93) (tgt := 122) C (dq D_Marker_join 45 rfl) (by decide) (by omega) (by omega) ?_
      refine last ni i F T _ Q A (by omega) hn hF hT2 c1 hQ hA ?_
      unfold cjo
      rw [he, if_neg h16]
  have items : ∀ (d i j : Nat) (F T Q A : List Nat), i + d = ct → F.length = 16 → l16 T → l16 Q → (A.length = 16 ∧ by8 A) → it (cjs FO K1 [B0, B1, B2, B3, B4] [n0, n1, n2, n3, n4]) i d (A, Q) = it (cjs FO K1 [B0, B1, B2, B3, B4] [n0, n1, n2, n3, n4]) 0 ct (SG, cj0 FO K1 JB SM) → X g f M_Marker_join (0, 0) (fun o h' => o = .returned none ∧ ∃ (j : Nat) (F T J Q : List Nat), F.length = 16 ∧ l16 T ∧ l88 J ∧ l16 Q ∧ j ≤ 88 ∧ h' = (dh g j ct n0 n1 n2 n3 n4 ni no np FO BA PW K1 F K2 F2 WB T Q J B0 B1 B2 B3 B4 (cjo FO K1 JB SM SG [B0, B1, B2, B3, B4] [n0, n1, n2, n3, n4] ct IN ni) CT MB IN OU OP S)) (0, 0) 31 [some (.ref (zA (gz g) 13)), some (.ref (zA (gz g) 18)), some (.ref (zA (gz g) 38)), some (.ref (zA (gz g) 33)), some (.int (nI i))] [] (dh g j ct n0 n1 n2 n3 n4 ni no np FO BA PW K1 F K2 F2 WB T Q (it zr 0 16 JB) B0 B1 B2 B3 B4 A CT MB IN OU OP S) := by
    intro d
    induction d with
    | zero =>
      intro i j F T Q A hid hF hT2 hQ hA he
      rw [it_zero] at he
      refine x_iload (pc := 31) C (dq D_Marker_join 15 rfl) rfl ?_
      refine x_aload_n (pc := 33) C (dq D_Marker_join 16 rfl) rfl ?_
      refine x_get (pc := 34) (ci := 3) (j := 1) C (dq D_Marker_join 17 rfl) rfl rfl rfl rfl k_fl_Marker_69 ?_
      refine n_ge_t (pc := 37) (tgt := 76) C (dq D_Marker_join 18 rfl) (by decide) (by omega) (by omega) ?_
      exact body i j F T Q A hF hT2 hQ hA he.symm
    | succ d ih =>
      intro i j F T Q A hid hF hT2 hQ hA he
      obtain ⟨i1, i2⟩ := hI i (by omega)
      have d1 : l16 (dbl Q) := ⟨by rw [dbl_len]; exact hQ.1, dbl8 hQ.2⟩
      have d1l := d1.1
      have hAl := hA.1
      obtain ⟨m1, m2⟩ := cmk_ok hT.1.2 hK.2 i1.2 ([n0, n1, n2, n3, n4].getD i 0) hA.2
      have m1l : (cmk FO K1 ([B0, B1, B2, B3, B4].getD i []) ([n0, n1, n2, n3, n4].getD i 0) A).length = 16 := m1.trans hA.1
      have s1 : l16 (it (adt (cmk FO K1 ([B0, B1, B2, B3, B4].getD i []) ([n0, n1, n2, n3, n4].getD i 0) A) 0) 0 16 (dbl Q)) := ⟨by rw [adts_len]; exact d1.1, adt8 m2 0 0 16 d1.2⟩
      refine x_iload (pc := 31) C (dq D_Marker_join 15 rfl) rfl ?_
      refine x_aload_n (pc := 33) C (dq D_Marker_join 16 rfl) rfl ?_
      refine x_get (pc := 34) (ci := 3) (j := 1) C (dq D_Marker_join 17 rfl) rfl rfl rfl rfl k_fl_Marker_69 ?_
      refine n_ge_f (pc := 37) (tgt := 76) C (dq D_Marker_join 18 rfl) (by decide) (by omega) (by omega) ?_
      refine x_aload_n (pc := 40) C (dq D_Marker_join 19 rfl) rfl ?_
      refine x_get (pc := 41) (ci := 5) (j := 2) C (dq D_Marker_join 20 rfl) rfl rfl rfl rfl k_fl_Marker_15 ?_
      refine x_cS0 (pc := 44) (M := M_Marker_doubleBlock) C (dq D_Marker_join 21 rfl) k_ml_Marker_55 m_Marker_doubleBlock (c_doubleBlock (blk := 15) rfl (by have := hQ.1; omega) hQ.2) rfl rfl rfl rfl (by decide) ?_
      rw [dh_s15]
      have next : ∀ (F T : List Nat), F.length = 16 → l16 T → X g f M_Marker_join (0, 0) (fun o h' => o = .returned none ∧ ∃ (j : Nat) (F T J Q : List Nat), F.length = 16 ∧ l16 T ∧ l88 J ∧ l16 Q ∧ j ≤ 88 ∧ h' = (dh g j ct n0 n1 n2 n3 n4 ni no np FO BA PW K1 F K2 F2 WB T Q J B0 B1 B2 B3 B4 (cjo FO K1 JB SM SG [B0, B1, B2, B3, B4] [n0, n1, n2, n3, n4] ct IN ni) CT MB IN OU OP S)) (0, 0) 59 [some (.ref (zA (gz g) 13)), some (.ref (zA (gz g) 18)), some (.ref (zA (gz g) 38)), some (.ref (zA (gz g) 33)), some (.int (nI i))] [] (dh g j ct n0 n1 n2 n3 n4 ni no np FO BA PW K1 F K2 F2 WB T (dbl Q) (it zr 0 16 JB) B0 B1 B2 B3 B4 (cmk FO K1 ([B0, B1, B2, B3, B4].getD i []) ([n0, n1, n2, n3, n4].getD i 0) A) CT MB IN OU OP S) := by
        intro F T hF hT2
        refine x_aload_n (pc := 59) C (dq D_Marker_join 29 rfl) rfl ?_
        refine x_get (pc := 60) (ci := 5) (j := 2) C (dq D_Marker_join 30 rfl) rfl rfl rfl rfl k_fl_Marker_15 ?_
        refine x_aload_n (pc := 63) C (dq D_Marker_join 31 rfl) rfl ?_
        refine x_iconst (pc := 64) C (dq D_Marker_join 32 rfl) ci_0 ?_
        refine x_bipush (pc := 65) C (dq D_Marker_join 33 rfl) cb_16 ?_
        refine x_cS0 (pc := 67) (M := M_Marker_addTo) C (dq D_Marker_join 34 rfl) k_ml_Marker_42 m_Marker_addTo (c_addTo (blk := 15) (fr := 33) (s := 0) (m := 16) rfl rfl (by decide) (by omega) (by omega)) rfl rfl rfl rfl (by decide) ?_
        rw [dh_s15]
        refine x_iinc (pc := 70) C (dq D_Marker_join 35 rfl) rfl (ii_1 _) rfl rfl ?_
        simp only [List.set_cons_zero, List.set_cons_succ]
        refine x_goto (pc := 73) (tgt := 31) C (dq D_Marker_join 36 rfl) (by decide) ?_
        exact ih (i + 1) j F T _ _ (by omega) hF hT2 s1 ⟨m1l, m2⟩ he
      rcases (show i = 0 ∨ i = 1 ∨ i = 2 ∨ i = 3 ∨ i = 4 by omega) with rfl | rfl | rfl | rfl | rfl
      · refine x_aload_n (pc := 47) C (dq D_Marker_join 22 rfl) rfl ?_
        refine x_aload_n (pc := 48) C (dq D_Marker_join 23 rfl) rfl ?_
        refine x_get (pc := 49) (ci := 3) (j := 0) C (dq D_Marker_join 24 rfl) rfl rfl rfl rfl k_fl_Marker_74 ?_
        refine x_iload (pc := 52) C (dq D_Marker_join 25 rfl) rfl ?_
        refine x_aald (pc := 54) (t := 2) (v := zA (gz g) 20) C (dq D_Marker_join 26 rfl) rfl rfl rfl (show 5 < 2 ^ 31 by decide) ?_
        refine x_aload_n (pc := 55) C (dq D_Marker_join 27 rfl) rfl ?_
        refine x_cV (pc := 56) (ci := 5) (M := M_Marker_markRow) C (dq D_Marker_join 28 rfl) k_ml_Marker_65 m_Marker_markRow rfl rfl rfl (c_markRow (m := 13) (c := 5) (tz := 14) (sm := 15) (jn := 16) (r := 20) (b := 21) (n := n0) rfl (cip1 hT hK hF) rfl rfl rfl rfl ⟨by decide, by decide, by decide, by decide⟩ ⟨by decide, by decide, by decide, by decide⟩ ⟨by decide, by decide, by decide, by decide⟩ hT2.1 hT2.2 i1 (Nat.le_trans i2 (by decide)) (by omega) hA.2) rfl rfl rfl rfl (by decide) (fun o h2 hp => ?_)
        obtain ⟨rfl, Fx, Tx, q1, q2, q3, rfl⟩ := hp
        refine ⟨none, rfl, ?_⟩
        rw [dh_s7, dh_s14, dh_s33]
        exact next Fx Tx q1 ⟨q2, q3⟩
      · refine x_aload_n (pc := 47) C (dq D_Marker_join 22 rfl) rfl ?_
        refine x_aload_n (pc := 48) C (dq D_Marker_join 23 rfl) rfl ?_
        refine x_get (pc := 49) (ci := 3) (j := 0) C (dq D_Marker_join 24 rfl) rfl rfl rfl rfl k_fl_Marker_74 ?_
        refine x_iload (pc := 52) C (dq D_Marker_join 25 rfl) rfl ?_
        refine x_aald (pc := 54) (t := 2) (v := zA (gz g) 22) C (dq D_Marker_join 26 rfl) rfl rfl rfl (show 5 < 2 ^ 31 by decide) ?_
        refine x_aload_n (pc := 55) C (dq D_Marker_join 27 rfl) rfl ?_
        refine x_cV (pc := 56) (ci := 5) (M := M_Marker_markRow) C (dq D_Marker_join 28 rfl) k_ml_Marker_65 m_Marker_markRow rfl rfl rfl (c_markRow (m := 13) (c := 5) (tz := 14) (sm := 15) (jn := 16) (r := 22) (b := 23) (n := n1) rfl (cip1 hT hK hF) rfl rfl rfl rfl ⟨by decide, by decide, by decide, by decide⟩ ⟨by decide, by decide, by decide, by decide⟩ ⟨by decide, by decide, by decide, by decide⟩ hT2.1 hT2.2 i1 (Nat.le_trans i2 (by decide)) (by omega) hA.2) rfl rfl rfl rfl (by decide) (fun o h2 hp => ?_)
        obtain ⟨rfl, Fx, Tx, q1, q2, q3, rfl⟩ := hp
        refine ⟨none, rfl, ?_⟩
        rw [dh_s7, dh_s14, dh_s33]
        exact next Fx Tx q1 ⟨q2, q3⟩
      · refine x_aload_n (pc := 47) C (dq D_Marker_join 22 rfl) rfl ?_
        refine x_aload_n (pc := 48) C (dq D_Marker_join 23 rfl) rfl ?_
        refine x_get (pc := 49) (ci := 3) (j := 0) C (dq D_Marker_join 24 rfl) rfl rfl rfl rfl k_fl_Marker_74 ?_
        refine x_iload (pc := 52) C (dq D_Marker_join 25 rfl) rfl ?_
        refine x_aald (pc := 54) (t := 2) (v := zA (gz g) 24) C (dq D_Marker_join 26 rfl) rfl rfl rfl (show 5 < 2 ^ 31 by decide) ?_
        refine x_aload_n (pc := 55) C (dq D_Marker_join 27 rfl) rfl ?_
        refine x_cV (pc := 56) (ci := 5) (M := M_Marker_markRow) C (dq D_Marker_join 28 rfl) k_ml_Marker_65 m_Marker_markRow rfl rfl rfl (c_markRow (m := 13) (c := 5) (tz := 14) (sm := 15) (jn := 16) (r := 24) (b := 25) (n := n2) rfl (cip1 hT hK hF) rfl rfl rfl rfl ⟨by decide, by decide, by decide, by decide⟩ ⟨by decide, by decide, by decide, by decide⟩ ⟨by decide, by decide, by decide, by decide⟩ hT2.1 hT2.2 i1 (Nat.le_trans i2 (by decide)) (by omega) hA.2) rfl rfl rfl rfl (by decide) (fun o h2 hp => ?_)
        obtain ⟨rfl, Fx, Tx, q1, q2, q3, rfl⟩ := hp
        refine ⟨none, rfl, ?_⟩
        rw [dh_s7, dh_s14, dh_s33]
        exact next Fx Tx q1 ⟨q2, q3⟩
      · refine x_aload_n (pc := 47) C (dq D_Marker_join 22 rfl) rfl ?_
        refine x_aload_n (pc := 48) C (dq D_Marker_join 23 rfl) rfl ?_
        refine x_get (pc := 49) (ci := 3) (j := 0) C (dq D_Marker_join 24 rfl) rfl rfl rfl rfl k_fl_Marker_74 ?_
        refine x_iload (pc := 52) C (dq D_Marker_join 25 rfl) rfl ?_
        refine x_aald (pc := 54) (t := 2) (v := zA (gz g) 26) C (dq D_Marker_join 26 rfl) rfl rfl rfl (show 5 < 2 ^ 31 by decide) ?_
        refine x_aload_n (pc := 55) C (dq D_Marker_join 27 rfl) rfl ?_
        refine x_cV (pc := 56) (ci := 5) (M := M_Marker_markRow) C (dq D_Marker_join 28 rfl) k_ml_Marker_65 m_Marker_markRow rfl rfl rfl (c_markRow (m := 13) (c := 5) (tz := 14) (sm := 15) (jn := 16) (r := 26) (b := 27) (n := n3) rfl (cip1 hT hK hF) rfl rfl rfl rfl ⟨by decide, by decide, by decide, by decide⟩ ⟨by decide, by decide, by decide, by decide⟩ ⟨by decide, by decide, by decide, by decide⟩ hT2.1 hT2.2 i1 (Nat.le_trans i2 (by decide)) (by omega) hA.2) rfl rfl rfl rfl (by decide) (fun o h2 hp => ?_)
        obtain ⟨rfl, Fx, Tx, q1, q2, q3, rfl⟩ := hp
        refine ⟨none, rfl, ?_⟩
        rw [dh_s7, dh_s14, dh_s33]
        exact next Fx Tx q1 ⟨q2, q3⟩
      · refine x_aload_n (pc := 47) C (dq D_Marker_join 22 rfl) rfl ?_
        refine x_aload_n (pc := 48) C (dq D_Marker_join 23 rfl) rfl ?_
        refine x_get (pc := 49) (ci := 3) (j := 0) C (dq D_Marker_join 24 rfl) rfl rfl rfl rfl k_fl_Marker_74 ?_
        refine x_iload (pc := 52) C (dq D_Marker_join 25 rfl) rfl ?_
        refine x_aald (pc := 54) (t := 2) (v := zA (gz g) 28) C (dq D_Marker_join 26 rfl) rfl rfl rfl (show 5 < 2 ^ 31 by decide) ?_
        refine x_aload_n (pc := 55) C (dq D_Marker_join 27 rfl) rfl ?_
        refine x_cV (pc := 56) (ci := 5) (M := M_Marker_markRow) C (dq D_Marker_join 28 rfl) k_ml_Marker_65 m_Marker_markRow rfl rfl rfl (c_markRow (m := 13) (c := 5) (tz := 14) (sm := 15) (jn := 16) (r := 28) (b := 29) (n := n4) rfl (cip1 hT hK hF) rfl rfl rfl rfl ⟨by decide, by decide, by decide, by decide⟩ ⟨by decide, by decide, by decide, by decide⟩ ⟨by decide, by decide, by decide, by decide⟩ hT2.1 hT2.2 i1 (Nat.le_trans i2 (by decide)) (by omega) hA.2) rfl rfl rfl rfl (by decide) (fun o h2 hp => ?_)
        obtain ⟨rfl, Fx, Tx, q1, q2, q3, rfl⟩ := hp
        refine ⟨none, rfl, ?_⟩
        rw [dh_s7, dh_s14, dh_s33]
        exact next Fx Tx q1 ⟨q2, q3⟩
  refine x_aload_n (pc := 0) C (dq D_Marker_join 0 rfl) rfl ?_
  refine x_get (pc := 1) (ci := 5) (j := 3) C (dq D_Marker_join 1 rfl) rfl rfl rfl rfl k_fl_Marker_21 ?_
  refine x_cV0 (pc := 4) (ci := 7) (M := M_Row_clear) C (dq D_Marker_join 2 rfl) k_ml_Marker_58 m_Row_clear rfl rfl rfl (c_Row_clear (r := 16) (b := 17) (n := nj) rfl) rfl rfl rfl rfl (by decide) ?_
  rw [dh_s16]
  refine x_aload_n (pc := 7) C (dq D_Marker_join 3 rfl) rfl ?_
  refine x_get (pc := 8) (ci := 5) (j := 3) C (dq D_Marker_join 4 rfl) rfl rfl rfl rfl k_fl_Marker_21 ?_
  refine x_bipush (pc := 11) C (dq D_Marker_join 5 rfl) cb_16 ?_
  refine x_cV0 (pc := 13) (ci := 7) (M := M_Row_addZeros) C (dq D_Marker_join 6 rfl) k_ml_Marker_61 m_Row_addZeros rfl rfl rfl (c_Row_addZeros (r := 16) (b := 17) (n := 0) (m := 16) rfl rfl (by have := hJB.1; omega)) rfl rfl rfl rfl (by decide) ?_
  rw [dh_s17, dh_s16]
  refine x_aload_n (pc := 16) C (dq D_Marker_join 7 rfl) rfl ?_
  refine x_aload_n (pc := 17) C (dq D_Marker_join 8 rfl) rfl ?_
  refine x_get (pc := 18) (ci := 5) (j := 3) C (dq D_Marker_join 9 rfl) rfl rfl rfl rfl k_fl_Marker_21 ?_
  refine x_aload_n (pc := 21) C (dq D_Marker_join 10 rfl) rfl ?_
  refine x_get (pc := 22) (ci := 5) (j := 2) C (dq D_Marker_join 11 rfl) rfl rfl rfl rfl k_fl_Marker_15 ?_
  refine x_cV (pc := 25) (ci := 5) (M := M_Marker_markRow) C (dq D_Marker_join 12 rfl) k_ml_Marker_65 m_Marker_markRow rfl rfl rfl (c_markRow (m := 13) (c := 5) (tz := 14) (sm := 15) (jn := 16) (r := 16) (b := 17) (n := 16) rfl (cip1 hT hK hF) rfl rfl rfl rfl ⟨by decide, by decide, by decide, by decide⟩ ⟨by decide, by decide, by decide, by decide⟩ ⟨by decide, by decide, by decide, by decide⟩ hTW.1 hTW.2 z1 (by omega) (by have := hSM.1; omega) hSM.2) rfl rfl rfl rfl (by decide) (fun o h2 hp => ?_)
  obtain ⟨rfl, Fx, Tx, q1, q2, q3, rfl⟩ := hp
  refine ⟨none, rfl, ?_⟩
  rw [dh_s7, dh_s14, dh_s15]
  obtain ⟨s1, s2⟩ := cmk_ok hT.1.2 hK.2 z1.2 16 hSM.2
  show X g f M_Marker_join (0, 0) (fun o h' => o = .returned none ∧ ∃ (j : Nat) (F T J Q : List Nat), F.length = 16 ∧ l16 T ∧ l88 J ∧ l16 Q ∧ j ≤ 88 ∧ h' = (dh g j ct n0 n1 n2 n3 n4 ni no np FO BA PW K1 F K2 F2 WB T Q J B0 B1 B2 B3 B4 (cjo FO K1 JB SM SG [B0, B1, B2, B3, B4] [n0, n1, n2, n3, n4] ct IN ni) CT MB IN OU OP S)) (0, 0) 28 [some (.ref (zA (gz g) 13)), some (.ref (zA (gz g) 18)), some (.ref (zA (gz g) 38)), some (.ref (zA (gz g) 33)), none] [] (dh g 16 ct n0 n1 n2 n3 n4 ni no np FO BA PW K1 Fx K2 F2 WB Tx (cmk FO K1 (it zr 0 16 JB) 16 SM) (it zr 0 16 JB) B0 B1 B2 B3 B4 SG CT MB IN OU OP S)
  refine x_iconst (pc := 28) C (dq D_Marker_join 13 rfl) ci_0 ?_
  refine x_istore (i := 4) (pc := 29) C (dq D_Marker_join 14 rfl) rfl rfl rfl ?_
  simp only [List.set_cons_zero, List.set_cons_succ]
  exact items ct 0 16 Fx Tx _ SG (by omega) q1 ⟨q2, q3⟩ ⟨s1.trans hSM.1, s2⟩ hM (by rw [cj0])
set_option maxHeartbeats 8000000 in
theorem c_joinC {g : Gp} {nj ct n0 n1 n2 n3 n4 ni no np : Nat} {FO BA PW K1 F1 K2 F2 WB TW SM JB B0 B1 B2 B3 B4 SG CT MB IN OU OP : List Nat} {S : Hp} (hT : tok FO BA) (hK : kok K1) (hF : F1.length = 16) (hTW : l16 TW) (hSM : l16 SM) (hJB : l88 JB) (hM : (SG.length = 16 ∧ by8 SG)) (hR : l88 OP) (hn : np ≤ 88) (hI : ∀ i, i < 5 → l88 ([B0, B1, B2, B3, B4].getD i []) ∧ [n0, n1, n2, n3, n4].getD i 0 ≤ 40) (hct : ct ≤ 5) :
    Con g M_Marker_join 4 (0, 0) [.ref (zA (gz g) 13), .ref (zA (gz g) 18), .ref (zA (gz g) 42), .ref (zA (gz g) 33)] (dh g nj ct n0 n1 n2 n3 n4 ni no np FO BA PW K1 F1 K2 F2 WB TW SM JB B0 B1 B2 B3 B4 SG CT MB IN OU OP S) (fun o h' => o = .returned none ∧ ∃ (j : Nat) (F T J Q : List Nat), F.length = 16 ∧ l16 T ∧ l88 J ∧ l16 Q ∧ j ≤ 88 ∧ h' = (dh g j ct n0 n1 n2 n3 n4 ni no np FO BA PW K1 F K2 F2 WB T Q J B0 B1 B2 B3 B4 (cjo FO K1 JB SM SG [B0, B1, B2, B3, B4] [n0, n1, n2, n3, n4] ct OP np) CT MB IN OU OP S)) := by
  have z1 : l88 (it zr 0 16 JB) := ⟨by rw [it_len zr_len]; exact hJB.1, it_inv by8 16 0 JB (fun j S _ _ hS => hS.set (by omega)) hJB.2⟩
  have hRl := hR.1
  refine Con.of (by decide) rfl rfl (L := [some (.ref (zA (gz g) 13)), some (.ref (zA (gz g) 18)), some (.ref (zA (gz g) 42)), some (.ref (zA (gz g) 33)), none]) rfl (fun f C => ?_)
  have last : ∀ (n i : Nat) (F T J Q A : List Nat), 16 ≤ n → n ≤ 88 → F.length = 16 → l16 T → l88 J → l16 Q → (A.length = 16 ∧ by8 A) → cmk FO K1 (it (ate Q (n - 16)) 0 16 J) n A = (cjo FO K1 JB SM SG [B0, B1, B2, B3, B4] [n0, n1, n2, n3, n4] ct OP np) → X g f M_Marker_join (0, 0) (fun o h' => o = .returned none ∧ ∃ (j : Nat) (F T J Q : List Nat), F.length = 16 ∧ l16 T ∧ l88 J ∧ l16 Q ∧ j ≤ 88 ∧ h' = (dh g j ct n0 n1 n2 n3 n4 ni no np FO BA PW K1 F K2 F2 WB T Q J B0 B1 B2 B3 B4 (cjo FO K1 JB SM SG [B0, B1, B2, B3, B4] [n0, n1, n2, n3, n4] ct OP np) CT MB IN OU OP S)) (0, 0) 122 [some (.ref (zA (gz g) 13)), some (.ref (zA (gz g) 18)), some (.ref (zA (gz g) 42)), some (.ref (zA (gz g) 33)), some (.int (nI i))] [] (dh g n ct n0 n1 n2 n3 n4 ni no np FO BA PW K1 F K2 F2 WB T Q J B0 B1 B2 B3 B4 A CT MB IN OU OP S) := by
    intro n i F T J Q A h1 h2 hF hT2 hJ hQ hA he
    have a1 : l88 (it (ate Q (n - 16)) 0 16 J) := ⟨by rw [it_len (ate_len Q (n - 16))]; exact hJ.1, ate8 hQ.2 _ 0 16 hJ.2⟩
    have hJl := hJ.1
    have hQl := hQ.1
    refine x_aload_n (pc := 122) C (dq D_Marker_join 57 rfl) rfl ?_
    refine x_get (pc := 123) (ci := 5) (j := 3) C (dq D_Marker_join 58 rfl) rfl rfl rfl rfl k_fl_Marker_21 ?_
    refine x_aload_n (pc := 126) C (dq D_Marker_join 59 rfl) rfl ?_
    refine x_get (pc := 127) (ci := 5) (j := 2) C (dq D_Marker_join 60 rfl) rfl rfl rfl rfl k_fl_Marker_15 ?_
    refine x_cS0 (pc := 130) (M := M_Marker_addToEnd) C (dq D_Marker_join 61 rfl) k_ml_Marker_85 m_Marker_addToEnd (c_addToEnd (r := 16) (b := 17) (n := n) rfl rfl rfl (by decide) (by omega) (by omega)) rfl rfl rfl rfl (by decide) ?_
    rw [dh_s17]
    refine x_aload_n (pc := 133) C (dq D_Marker_join 62 rfl) rfl ?_
    refine x_aload_n (pc := 134) C (dq D_Marker_join 63 rfl) rfl ?_
    refine x_get (pc := 135) (ci := 5) (j := 3) C (dq D_Marker_join 64 rfl) rfl rfl rfl rfl k_fl_Marker_21 ?_
    refine x_aload_n (pc := 138) C (dq D_Marker_join 65 rfl) rfl ?_
    refine x_cV (pc := 139) (ci := 5) (M := M_Marker_markRow) C (dq D_Marker_join 66 rfl) k_ml_Marker_65 m_Marker_markRow rfl rfl rfl (c_markRow (m := 13) (c := 5) (tz := 14) (sm := 15) (jn := 16) (r := 16) (b := 17) (n := n) rfl (cip1 hT hK hF) rfl rfl rfl rfl ⟨by decide, by decide, by decide, by decide⟩ ⟨by decide, by decide, by decide, by decide⟩ ⟨by decide, by decide, by decide, by decide⟩ hT2.1 hT2.2 a1 h2 (by have := hA.1; omega) hA.2) rfl rfl rfl rfl (by decide) (fun o h2 hp => ?_)
    obtain ⟨rfl, Fx, Tx, q1, q2, q3, rfl⟩ := hp
    refine ⟨none, rfl, ?_⟩
    rw [he, dh_s7, dh_s14, dh_s33]
    show X g f M_Marker_join (0, 0) (fun o h' => o = .returned none ∧ ∃ (j : Nat) (F T J Q : List Nat), F.length = 16 ∧ l16 T ∧ l88 J ∧ l16 Q ∧ j ≤ 88 ∧ h' = (dh g j ct n0 n1 n2 n3 n4 ni no np FO BA PW K1 F K2 F2 WB T Q J B0 B1 B2 B3 B4 (cjo FO K1 JB SM SG [B0, B1, B2, B3, B4] [n0, n1, n2, n3, n4] ct OP np) CT MB IN OU OP S)) (0, 0) 142 [some (.ref (zA (gz g) 13)), some (.ref (zA (gz g) 18)), some (.ref (zA (gz g) 42)), some (.ref (zA (gz g) 33)), some (.int (nI i))] [] (dh g n ct n0 n1 n2 n3 n4 ni no np FO BA PW K1 Fx K2 F2 WB Tx Q (it (ate Q (n - 16)) 0 16 J) B0 B1 B2 B3 B4 (cjo FO K1 JB SM SG [B0, B1, B2, B3, B4] [n0, n1, n2, n3, n4] ct OP np) CT MB IN OU OP S)
    exact x_vret (pc := 142) C (dq D_Marker_join 67 rfl) rfl (by decide) ⟨rfl, n, Fx, Tx, _, Q, q1, ⟨q2, q3⟩, a1, hQ, h2, rfl⟩
  have body : ∀ (i j : Nat) (F T Q A : List Nat), F.length = 16 → l16 T → l16 Q → (A.length = 16 ∧ by8 A) → it (cjs FO K1 [B0, B1, B2, B3, B4] [n0, n1, n2, n3, n4]) 0 ct (SG, cj0 FO K1 JB SM) = (A, Q) → X g f M_Marker_join (0, 0) (fun o h' => o = .returned none ∧ ∃ (j : Nat) (F T J Q : List Nat), F.length = 16 ∧ l16 T ∧ l88 J ∧ l16 Q ∧ j ≤ 88 ∧ h' = (dh g j ct n0 n1 n2 n3 n4 ni no np FO BA PW K1 F K2 F2 WB T Q J B0 B1 B2 B3 B4 (cjo FO K1 JB SM SG [B0, B1, B2, B3, B4] [n0, n1, n2, n3, n4] ct OP np) CT MB IN OU OP S)) (0, 0) 76 [some (.ref (zA (gz g) 13)), some (.ref (zA (gz g) 18)), some (.ref (zA (gz g) 42)), some (.ref (zA (gz g) 33)), some (.int (nI i))] [] (dh g j ct n0 n1 n2 n3 n4 ni no np FO BA PW K1 F K2 F2 WB T Q (it zr 0 16 JB) B0 B1 B2 B3 B4 A CT MB IN OU OP S) := by
    intro i j F T Q A hF hT2 hQ hA he
    have hzl := z1.1
    have c1 : l88 (cpy OP (it zr 0 16 JB) 0 0 np) := ⟨by rw [cpy_length (by omega) (by omega)]; exact z1.1, cpy8 hR.2 z1.2⟩
    have c1l := c1.1
    refine x_aload_n (pc := 76) C (dq D_Marker_join 37 rfl) rfl ?_
    refine x_get (pc := 77) (ci := 5) (j := 3) C (dq D_Marker_join 38 rfl) rfl rfl rfl rfl k_fl_Marker_21 ?_
    refine x_aload_n (pc := 80) C (dq D_Marker_join 39 rfl) rfl ?_
    refine x_cV0 (pc := 81) (ci := 7) (M := M_Row_become) C (dq D_Marker_join 40 rfl) k_ml_Marker_78 m_Row_become rfl rfl rfl (c_Row_become (r := 16) (b := 17) (n := j) (o := 42) (q := 43) (m := np) rfl rfl rfl rfl (by omega) (by omega)) rfl rfl rfl rfl (by decide) ?_
    rw [dh_s16, dh_s17]
    by_cases h16 : np < 16
    · have d1 : l16 (dbl Q) := ⟨by rw [dbl_len]; exact hQ.1, dbl8 hQ.2⟩
      have c2 : l88 ((cpy OP (it zr 0 16 JB) 0 0 np).set np 128) := ⟨by rw [List.length_set]; exact c1.1, c1.2.set (by omega)⟩
      have c2l := c2.1
      have c3 : l88 (it zr (np + 1) (16 - (np + 1)) ((cpy OP (it zr 0 16 JB) 0 0 np).set np 128)) := ⟨by rw [it_len zr_len]; exact c2.1, it_inv by8 _ _ _ (fun j S _ _ hS => hS.set (by omega)) c2.2⟩
      refine x_aload_n (pc := 84) C (dq D_Marker_join 41 rfl) rfl ?_
      refine x_get (pc := 85) (ci := 5) (j := 3) C (dq D_Marker_join 42 rfl) rfl rfl rfl rfl k_fl_Marker_21 ?_
      refine x_get (pc := 88) (ci := 7) (j := 1) C (dq D_Marker_join 43 rfl) rfl rfl rfl rfl k_fl_Marker_29 ?_
      refine x_bipush (pc := 91) C (dq D_Marker_join 44 rfl) cb_16 ?_
      refine n_ge_f (pc := 93) (tgt := 122) C (dq D_Marker_join 45 rfl) (by decide) (by omega) (by omega) ?_
      refine x_aload_n (pc := 96) C (dq D_Marker_join 46 rfl) rfl ?_
      refine x_get (pc := 97) (ci := 5) (j := 2) C (dq D_Marker_join 47 rfl) rfl rfl rfl rfl k_fl_Marker_15 ?_
      refine x_cS0 (pc := 100) (M := M_Marker_doubleBlock) C (dq D_Marker_join 48 rfl) k_ml_Marker_55 m_Marker_doubleBlock (c_doubleBlock (blk := 15) rfl (by have := hQ.1; omega) hQ.2) rfl rfl rfl rfl (by decide) ?_
      rw [dh_s15]
      refine x_aload_n (pc := 103) C (dq D_Marker_join 49 rfl) rfl ?_
      refine x_get (pc := 104) (ci := 5) (j := 3) C (dq D_Marker_join 50 rfl) rfl rfl rfl rfl k_fl_Marker_21 ?_
      refine x_sipush (pc := 107) C (dq D_Marker_join 51 rfl) cs_128 ?_
      refine x_cV0 (pc := 110) (ci := 7) (M := M_Row_add) C (dq D_Marker_join 52 rfl) k_ml_Marker_82 m_Row_add rfl rfl rfl (c_Row_add (r := 16) (b := 17) (n := np) (v := 128) rfl rfl (by omega)) rfl rfl rfl rfl (by decide) ?_
      rw [dh_s17, dh_s16]
      refine x_aload_n (pc := 113) C (dq D_Marker_join 53 rfl) rfl ?_
      refine x_get (pc := 114) (ci := 5) (j := 3) C (dq D_Marker_join 54 rfl) rfl rfl rfl rfl k_fl_Marker_21 ?_
      refine x_bipush (pc := 117) C (dq D_Marker_join 55 rfl) cb_16 ?_
      refine x_cV0 (pc := 119) (ci := 7) (M := M_Row_addZeros) C (dq D_Marker_join 56 rfl) k_ml_Marker_61 m_Row_addZeros rfl rfl rfl (c_Row_addZeros (r := 16) (b := 17) (n := np + 1) (m := 16) rfl rfl (by omega)) rfl rfl rfl rfl (by decide) ?_
      rw [dh_s17, dh_s16]
      refine last 16 i F T _ (dbl Q) A (by omega) (by omega) hF hT2 c3 d1 hA ?_
      unfold cjo
      rw [he, if_pos h16]
    · refine x_aload_n (pc := 84) C (dq D_Marker_join 41 rfl) rfl ?_
      refine x_get (pc := 85) (ci := 5) (j := 3) C (dq D_Marker_join 42 rfl) rfl rfl rfl rfl k_fl_Marker_21 ?_
      refine x_get (pc := 88) (ci := 7) (j := 1) C (dq D_Marker_join 43 rfl) rfl rfl rfl rfl k_fl_Marker_29 ?_
      refine x_bipush (pc := 91) C (dq D_Marker_join 44 rfl) cb_16 ?_
      refine n_ge_t (pc := 93) (tgt := 122) C (dq D_Marker_join 45 rfl) (by decide) (by omega) (by omega) ?_
      refine last np i F T _ Q A (by omega) hn hF hT2 c1 hQ hA ?_
      unfold cjo
      rw [he, if_neg h16]
  have items : ∀ (d i j : Nat) (F T Q A : List Nat), i + d = ct → F.length = 16 → l16 T → l16 Q → (A.length = 16 ∧ by8 A) → it (cjs FO K1 [B0, B1, B2, B3, B4] [n0, n1, n2, n3, n4]) i d (A, Q) = it (cjs FO K1 [B0, B1, B2, B3, B4] [n0, n1, n2, n3, n4]) 0 ct (SG, cj0 FO K1 JB SM) → X g f M_Marker_join (0, 0) (fun o h' => o = .returned none ∧ ∃ (j : Nat) (F T J Q : List Nat), F.length = 16 ∧ l16 T ∧ l88 J ∧ l16 Q ∧ j ≤ 88 ∧ h' = (dh g j ct n0 n1 n2 n3 n4 ni no np FO BA PW K1 F K2 F2 WB T Q J B0 B1 B2 B3 B4 (cjo FO K1 JB SM SG [B0, B1, B2, B3, B4] [n0, n1, n2, n3, n4] ct OP np) CT MB IN OU OP S)) (0, 0) 31 [some (.ref (zA (gz g) 13)), some (.ref (zA (gz g) 18)), some (.ref (zA (gz g) 42)), some (.ref (zA (gz g) 33)), some (.int (nI i))] [] (dh g j ct n0 n1 n2 n3 n4 ni no np FO BA PW K1 F K2 F2 WB T Q (it zr 0 16 JB) B0 B1 B2 B3 B4 A CT MB IN OU OP S) := by
    intro d
    induction d with
    | zero =>
      intro i j F T Q A hid hF hT2 hQ hA he
      rw [it_zero] at he
      refine x_iload (pc := 31) C (dq D_Marker_join 15 rfl) rfl ?_
      refine x_aload_n (pc := 33) C (dq D_Marker_join 16 rfl) rfl ?_
      refine x_get (pc := 34) (ci := 3) (j := 1) C (dq D_Marker_join 17 rfl) rfl rfl rfl rfl k_fl_Marker_69 ?_
      refine n_ge_t (pc := 37) (tgt := 76) C (dq D_Marker_join 18 rfl) (by decide) (by omega) (by omega) ?_
      exact body i j F T Q A hF hT2 hQ hA he.symm
    | succ d ih =>
      intro i j F T Q A hid hF hT2 hQ hA he
      obtain ⟨i1, i2⟩ := hI i (by omega)
      have d1 : l16 (dbl Q) := ⟨by rw [dbl_len]; exact hQ.1, dbl8 hQ.2⟩
      have d1l := d1.1
      have hAl := hA.1
      obtain ⟨m1, m2⟩ := cmk_ok hT.1.2 hK.2 i1.2 ([n0, n1, n2, n3, n4].getD i 0) hA.2
      have m1l : (cmk FO K1 ([B0, B1, B2, B3, B4].getD i []) ([n0, n1, n2, n3, n4].getD i 0) A).length = 16 := m1.trans hA.1
      have s1 : l16 (it (adt (cmk FO K1 ([B0, B1, B2, B3, B4].getD i []) ([n0, n1, n2, n3, n4].getD i 0) A) 0) 0 16 (dbl Q)) := ⟨by rw [adts_len]; exact d1.1, adt8 m2 0 0 16 d1.2⟩
      refine x_iload (pc := 31) C (dq D_Marker_join 15 rfl) rfl ?_
      refine x_aload_n (pc := 33) C (dq D_Marker_join 16 rfl) rfl ?_
      refine x_get (pc := 34) (ci := 3) (j := 1) C (dq D_Marker_join 17 rfl) rfl rfl rfl rfl k_fl_Marker_69 ?_
      refine n_ge_f (pc := 37) (tgt := 76) C (dq D_Marker_join 18 rfl) (by decide) (by omega) (by omega) ?_
      refine x_aload_n (pc := 40) C (dq D_Marker_join 19 rfl) rfl ?_
      refine x_get (pc := 41) (ci := 5) (j := 2) C (dq D_Marker_join 20 rfl) rfl rfl rfl rfl k_fl_Marker_15 ?_
      refine x_cS0 (pc := 44) (M := M_Marker_doubleBlock) C (dq D_Marker_join 21 rfl) k_ml_Marker_55 m_Marker_doubleBlock (c_doubleBlock (blk := 15) rfl (by have := hQ.1; omega) hQ.2) rfl rfl rfl rfl (by decide) ?_
      rw [dh_s15]
      have next : ∀ (F T : List Nat), F.length = 16 → l16 T → X g f M_Marker_join (0, 0) (fun o h' => o = .returned none ∧ ∃ (j : Nat) (F T J Q : List Nat), F.length = 16 ∧ l16 T ∧ l88 J ∧ l16 Q ∧ j ≤ 88 ∧ h' = (dh g j ct n0 n1 n2 n3 n4 ni no np FO BA PW K1 F K2 F2 WB T Q J B0 B1 B2 B3 B4 (cjo FO K1 JB SM SG [B0, B1, B2, B3, B4] [n0, n1, n2, n3, n4] ct OP np) CT MB IN OU OP S)) (0, 0) 59 [some (.ref (zA (gz g) 13)), some (.ref (zA (gz g) 18)), some (.ref (zA (gz g) 42)), some (.ref (zA (gz g) 33)), some (.int (nI i))] [] (dh g j ct n0 n1 n2 n3 n4 ni no np FO BA PW K1 F K2 F2 WB T (dbl Q) (it zr 0 16 JB) B0 B1 B2 B3 B4 (cmk FO K1 ([B0, B1, B2, B3, B4].getD i []) ([n0, n1, n2, n3, n4].getD i 0) A) CT MB IN OU OP S) := by
        intro F T hF hT2
        refine x_aload_n (pc := 59) C (dq D_Marker_join 29 rfl) rfl ?_
        refine x_get (pc := 60) (ci := 5) (j := 2) C (dq D_Marker_join 30 rfl) rfl rfl rfl rfl k_fl_Marker_15 ?_
        refine x_aload_n (pc := 63) C (dq D_Marker_join 31 rfl) rfl ?_
        refine x_iconst (pc := 64) C (dq D_Marker_join 32 rfl) ci_0 ?_
        refine x_bipush (pc := 65) C (dq D_Marker_join 33 rfl) cb_16 ?_
        refine x_cS0 (pc := 67) (M := M_Marker_addTo) C (dq D_Marker_join 34 rfl) k_ml_Marker_42 m_Marker_addTo (c_addTo (blk := 15) (fr := 33) (s := 0) (m := 16) rfl rfl (by decide) (by omega) (by omega)) rfl rfl rfl rfl (by decide) ?_
        rw [dh_s15]
        refine x_iinc (pc := 70) C (dq D_Marker_join 35 rfl) rfl (ii_1 _) rfl rfl ?_
        simp only [List.set_cons_zero, List.set_cons_succ]
        refine x_goto (pc := 73) (tgt := 31) C (dq D_Marker_join 36 rfl) (by decide) ?_
        exact ih (i + 1) j F T _ _ (by omega) hF hT2 s1 ⟨m1l, m2⟩ he
      rcases (show i = 0 ∨ i = 1 ∨ i = 2 ∨ i = 3 ∨ i = 4 by omega) with rfl | rfl | rfl | rfl | rfl
      · refine x_aload_n (pc := 47) C (dq D_Marker_join 22 rfl) rfl ?_
        refine x_aload_n (pc := 48) C (dq D_Marker_join 23 rfl) rfl ?_
        refine x_get (pc := 49) (ci := 3) (j := 0) C (dq D_Marker_join 24 rfl) rfl rfl rfl rfl k_fl_Marker_74 ?_
        refine x_iload (pc := 52) C (dq D_Marker_join 25 rfl) rfl ?_
        refine x_aald (pc := 54) (t := 2) (v := zA (gz g) 20) C (dq D_Marker_join 26 rfl) rfl rfl rfl (show 5 < 2 ^ 31 by decide) ?_
        refine x_aload_n (pc := 55) C (dq D_Marker_join 27 rfl) rfl ?_
        refine x_cV (pc := 56) (ci := 5) (M := M_Marker_markRow) C (dq D_Marker_join 28 rfl) k_ml_Marker_65 m_Marker_markRow rfl rfl rfl (c_markRow (m := 13) (c := 5) (tz := 14) (sm := 15) (jn := 16) (r := 20) (b := 21) (n := n0) rfl (cip1 hT hK hF) rfl rfl rfl rfl ⟨by decide, by decide, by decide, by decide⟩ ⟨by decide, by decide, by decide, by decide⟩ ⟨by decide, by decide, by decide, by decide⟩ hT2.1 hT2.2 i1 (Nat.le_trans i2 (by decide)) (by omega) hA.2) rfl rfl rfl rfl (by decide) (fun o h2 hp => ?_)
        obtain ⟨rfl, Fx, Tx, q1, q2, q3, rfl⟩ := hp
        refine ⟨none, rfl, ?_⟩
        rw [dh_s7, dh_s14, dh_s33]
        exact next Fx Tx q1 ⟨q2, q3⟩
      · refine x_aload_n (pc := 47) C (dq D_Marker_join 22 rfl) rfl ?_
        refine x_aload_n (pc := 48) C (dq D_Marker_join 23 rfl) rfl ?_
        refine x_get (pc := 49) (ci := 3) (j := 0) C (dq D_Marker_join 24 rfl) rfl rfl rfl rfl k_fl_Marker_74 ?_
        refine x_iload (pc := 52) C (dq D_Marker_join 25 rfl) rfl ?_
        refine x_aald (pc := 54) (t := 2) (v := zA (gz g) 22) C (dq D_Marker_join 26 rfl) rfl rfl rfl (show 5 < 2 ^ 31 by decide) ?_
        refine x_aload_n (pc := 55) C (dq D_Marker_join 27 rfl) rfl ?_
        refine x_cV (pc := 56) (ci := 5) (M := M_Marker_markRow) C (dq D_Marker_join 28 rfl) k_ml_Marker_65 m_Marker_markRow rfl rfl rfl (c_markRow (m := 13) (c := 5) (tz := 14) (sm := 15) (jn := 16) (r := 22) (b := 23) (n := n1) rfl (cip1 hT hK hF) rfl rfl rfl rfl ⟨by decide, by decide, by decide, by decide⟩ ⟨by decide, by decide, by decide, by decide⟩ ⟨by decide, by decide, by decide, by decide⟩ hT2.1 hT2.2 i1 (Nat.le_trans i2 (by decide)) (by omega) hA.2) rfl rfl rfl rfl (by decide) (fun o h2 hp => ?_)
        obtain ⟨rfl, Fx, Tx, q1, q2, q3, rfl⟩ := hp
        refine ⟨none, rfl, ?_⟩
        rw [dh_s7, dh_s14, dh_s33]
        exact next Fx Tx q1 ⟨q2, q3⟩
      · refine x_aload_n (pc := 47) C (dq D_Marker_join 22 rfl) rfl ?_
        refine x_aload_n (pc := 48) C (dq D_Marker_join 23 rfl) rfl ?_
        refine x_get (pc := 49) (ci := 3) (j := 0) C (dq D_Marker_join 24 rfl) rfl rfl rfl rfl k_fl_Marker_74 ?_
        refine x_iload (pc := 52) C (dq D_Marker_join 25 rfl) rfl ?_
        refine x_aald (pc := 54) (t := 2) (v := zA (gz g) 24) C (dq D_Marker_join 26 rfl) rfl rfl rfl (show 5 < 2 ^ 31 by decide) ?_
        refine x_aload_n (pc := 55) C (dq D_Marker_join 27 rfl) rfl ?_
        refine x_cV (pc := 56) (ci := 5) (M := M_Marker_markRow) C (dq D_Marker_join 28 rfl) k_ml_Marker_65 m_Marker_markRow rfl rfl rfl (c_markRow (m := 13) (c := 5) (tz := 14) (sm := 15) (jn := 16) (r := 24) (b := 25) (n := n2) rfl (cip1 hT hK hF) rfl rfl rfl rfl ⟨by decide, by decide, by decide, by decide⟩ ⟨by decide, by decide, by decide, by decide⟩ ⟨by decide, by decide, by decide, by decide⟩ hT2.1 hT2.2 i1 (Nat.le_trans i2 (by decide)) (by omega) hA.2) rfl rfl rfl rfl (by decide) (fun o h2 hp => ?_)
        obtain ⟨rfl, Fx, Tx, q1, q2, q3, rfl⟩ := hp
        refine ⟨none, rfl, ?_⟩
        rw [dh_s7, dh_s14, dh_s33]
        exact next Fx Tx q1 ⟨q2, q3⟩
      · refine x_aload_n (pc := 47) C (dq D_Marker_join 22 rfl) rfl ?_
        refine x_aload_n (pc := 48) C (dq D_Marker_join 23 rfl) rfl ?_
        refine x_get (pc := 49) (ci := 3) (j := 0) C (dq D_Marker_join 24 rfl) rfl rfl rfl rfl k_fl_Marker_74 ?_
        refine x_iload (pc := 52) C (dq D_Marker_join 25 rfl) rfl ?_
        refine x_aald (pc := 54) (t := 2) (v := zA (gz g) 26) C (dq D_Marker_join 26 rfl) rfl rfl rfl (show 5 < 2 ^ 31 by decide) ?_
        refine x_aload_n (pc := 55) C (dq D_Marker_join 27 rfl) rfl ?_
        refine x_cV (pc := 56) (ci := 5) (M := M_Marker_markRow) C (dq D_Marker_join 28 rfl) k_ml_Marker_65 m_Marker_markRow rfl rfl rfl (c_markRow (m := 13) (c := 5) (tz := 14) (sm := 15) (jn := 16) (r := 26) (b := 27) (n := n3) rfl (cip1 hT hK hF) rfl rfl rfl rfl ⟨by decide, by decide, by decide, by decide⟩ ⟨by decide, by decide, by decide, by decide⟩ ⟨by decide, by decide, by decide, by decide⟩ hT2.1 hT2.2 i1 (Nat.le_trans i2 (by decide)) (by omega) hA.2) rfl rfl rfl rfl (by decide) (fun o h2 hp => ?_)
        obtain ⟨rfl, Fx, Tx, q1, q2, q3, rfl⟩ := hp
        refine ⟨none, rfl, ?_⟩
        rw [dh_s7, dh_s14, dh_s33]
        exact next Fx Tx q1 ⟨q2, q3⟩
      · refine x_aload_n (pc := 47) C (dq D_Marker_join 22 rfl) rfl ?_
        refine x_aload_n (pc := 48) C (dq D_Marker_join 23 rfl) rfl ?_
        refine x_get (pc := 49) (ci := 3) (j := 0) C (dq D_Marker_join 24 rfl) rfl rfl rfl rfl k_fl_Marker_74 ?_
        refine x_iload (pc := 52) C (dq D_Marker_join 25 rfl) rfl ?_
        refine x_aald (pc := 54) (t := 2) (v := zA (gz g) 28) C (dq D_Marker_join 26 rfl) rfl rfl rfl (show 5 < 2 ^ 31 by decide) ?_
        refine x_aload_n (pc := 55) C (dq D_Marker_join 27 rfl) rfl ?_
        refine x_cV (pc := 56) (ci := 5) (M := M_Marker_markRow) C (dq D_Marker_join 28 rfl) k_ml_Marker_65 m_Marker_markRow rfl rfl rfl (c_markRow (m := 13) (c := 5) (tz := 14) (sm := 15) (jn := 16) (r := 28) (b := 29) (n := n4) rfl (cip1 hT hK hF) rfl rfl rfl rfl ⟨by decide, by decide, by decide, by decide⟩ ⟨by decide, by decide, by decide, by decide⟩ ⟨by decide, by decide, by decide, by decide⟩ hT2.1 hT2.2 i1 (Nat.le_trans i2 (by decide)) (by omega) hA.2) rfl rfl rfl rfl (by decide) (fun o h2 hp => ?_)
        obtain ⟨rfl, Fx, Tx, q1, q2, q3, rfl⟩ := hp
        refine ⟨none, rfl, ?_⟩
        rw [dh_s7, dh_s14, dh_s33]
        exact next Fx Tx q1 ⟨q2, q3⟩
  refine x_aload_n (pc := 0) C (dq D_Marker_join 0 rfl) rfl ?_
  refine x_get (pc := 1) (ci := 5) (j := 3) C (dq D_Marker_join 1 rfl) rfl rfl rfl rfl k_fl_Marker_21 ?_
  refine x_cV0 (pc := 4) (ci := 7) (M := M_Row_clear) C (dq D_Marker_join 2 rfl) k_ml_Marker_58 m_Row_clear rfl rfl rfl (c_Row_clear (r := 16) (b := 17) (n := nj) rfl) rfl rfl rfl rfl (by decide) ?_
  rw [dh_s16]
  refine x_aload_n (pc := 7) C (dq D_Marker_join 3 rfl) rfl ?_
  refine x_get (pc := 8) (ci := 5) (j := 3) C (dq D_Marker_join 4 rfl) rfl rfl rfl rfl k_fl_Marker_21 ?_
  refine x_bipush (pc := 11) C (dq D_Marker_join 5 rfl) cb_16 ?_
  refine x_cV0 (pc := 13) (ci := 7) (M := M_Row_addZeros) C (dq D_Marker_join 6 rfl) k_ml_Marker_61 m_Row_addZeros rfl rfl rfl (c_Row_addZeros (r := 16) (b := 17) (n := 0) (m := 16) rfl rfl (by have := hJB.1; omega)) rfl rfl rfl rfl (by decide) ?_
  rw [dh_s17, dh_s16]
  refine x_aload_n (pc := 16) C (dq D_Marker_join 7 rfl) rfl ?_
  refine x_aload_n (pc := 17) C (dq D_Marker_join 8 rfl) rfl ?_
  refine x_get (pc := 18) (ci := 5) (j := 3) C (dq D_Marker_join 9 rfl) rfl rfl rfl rfl k_fl_Marker_21 ?_
  refine x_aload_n (pc := 21) C (dq D_Marker_join 10 rfl) rfl ?_
  refine x_get (pc := 22) (ci := 5) (j := 2) C (dq D_Marker_join 11 rfl) rfl rfl rfl rfl k_fl_Marker_15 ?_
  refine x_cV (pc := 25) (ci := 5) (M := M_Marker_markRow) C (dq D_Marker_join 12 rfl) k_ml_Marker_65 m_Marker_markRow rfl rfl rfl (c_markRow (m := 13) (c := 5) (tz := 14) (sm := 15) (jn := 16) (r := 16) (b := 17) (n := 16) rfl (cip1 hT hK hF) rfl rfl rfl rfl ⟨by decide, by decide, by decide, by decide⟩ ⟨by decide, by decide, by decide, by decide⟩ ⟨by decide, by decide, by decide, by decide⟩ hTW.1 hTW.2 z1 (by omega) (by have := hSM.1; omega) hSM.2) rfl rfl rfl rfl (by decide) (fun o h2 hp => ?_)
  obtain ⟨rfl, Fx, Tx, q1, q2, q3, rfl⟩ := hp
  refine ⟨none, rfl, ?_⟩
  rw [dh_s7, dh_s14, dh_s15]
  obtain ⟨s1, s2⟩ := cmk_ok hT.1.2 hK.2 z1.2 16 hSM.2
  show X g f M_Marker_join (0, 0) (fun o h' => o = .returned none ∧ ∃ (j : Nat) (F T J Q : List Nat), F.length = 16 ∧ l16 T ∧ l88 J ∧ l16 Q ∧ j ≤ 88 ∧ h' = (dh g j ct n0 n1 n2 n3 n4 ni no np FO BA PW K1 F K2 F2 WB T Q J B0 B1 B2 B3 B4 (cjo FO K1 JB SM SG [B0, B1, B2, B3, B4] [n0, n1, n2, n3, n4] ct OP np) CT MB IN OU OP S)) (0, 0) 28 [some (.ref (zA (gz g) 13)), some (.ref (zA (gz g) 18)), some (.ref (zA (gz g) 42)), some (.ref (zA (gz g) 33)), none] [] (dh g 16 ct n0 n1 n2 n3 n4 ni no np FO BA PW K1 Fx K2 F2 WB Tx (cmk FO K1 (it zr 0 16 JB) 16 SM) (it zr 0 16 JB) B0 B1 B2 B3 B4 SG CT MB IN OU OP S)
  refine x_iconst (pc := 28) C (dq D_Marker_join 13 rfl) ci_0 ?_
  refine x_istore (i := 4) (pc := 29) C (dq D_Marker_join 14 rfl) rfl rfl rfl ?_
  simp only [List.set_cons_zero, List.set_cons_succ]
  exact items ct 0 16 Fx Tx _ SG (by omega) q1 ⟨q2, q3⟩ ⟨s1.trans hSM.1, s2⟩ hM (by rw [cj0])
