set_option maxHeartbeats 4000000 in
theorem cm_unwrap {g : Gp} {P S : Hp} {cd ni no nt nr nl : Nat} {W T U IN OUT IS IB BL MV ROW TX MA SM KP : List Nat} (hP : P.length = 44) (hW : W.length = 88 ∧ by32 W) (hT : T.length = 256 ∧ by8 T) (hU : U.length = 256 ∧ by8 U) (hb : bm16 (BL, MV)) (hR : ROW.length = 112 ∧ by8 ROW) (hnr : 16 ≤ nr ∧ nr ≤ 88) :
    Con g M_Model_unwrap 2 (0, 0) [.ref (zA (gz g) 44)] (mh g P cd ni no nt nr nl [W, T, U, IN, OUT, IS, IB, BL, MV, ROW, TX, MA, SM, KP] S) (fun o h' => o = .returned none ∧ ∃ B' M' : List Nat, bm16 (B', M') ∧ h' = mh g P cd ni no nt nr nl [W, T, U, IN, OUT, IS, IB, B', M', (mud U W (nr / 8 - 1) ROW), TX, MA, SM, KP] S) := by
  refine Con.of (by decide) rfl rfl (L := [some (.ref (zA (gz g) 44)), none, none, none, none]) rfl (fun f C => ?_)
  have rows : ∀ (d i j : Nat) (B V R : List Nat) (l4 : Option Value), i + d = nr / 8 - 1 → j < 6 → bm16 (B, V) → R.length = 112 ∧ by8 R →
      (∀ (B V : List Nat) (l4 : Option Value), bm16 (B, V) → X g f M_Model_unwrap (0, 0) (fun o h' => o = .returned none ∧ ∃ B' M' : List Nat, bm16 (B', M') ∧ h' = mh g P cd ni no nt nr nl [W, T, U, IN, OUT, IS, IB, B', M', (mud U W (nr / 8 - 1) ROW), TX, MA, SM, KP] S) (0, 0) 147 [some (.ref (zA (gz g) 44)), some (.int (nI (nr / 8 - 1))), some (.int (nI j)), some (.int (nI 0)), l4] [] (mh g P cd ni no nt nr nl [W, T, U, IN, OUT, IS, IB, B, V, (it (fun i => mus U W (nr / 8 - 1) j (nr / 8 - 1 - i)) i d R), TX, MA, SM, KP] S)) →
      X g f M_Model_unwrap (0, 0) (fun o h' => o = .returned none ∧ ∃ B' M' : List Nat, bm16 (B', M') ∧ h' = mh g P cd ni no nt nr nl [W, T, U, IN, OUT, IS, IB, B', M', (mud U W (nr / 8 - 1) ROW), TX, MA, SM, KP] S) (0, 0) 18 [some (.ref (zA (gz g) 44)), some (.int (nI (nr / 8 - 1))), some (.int (nI j)), some (.int (nI d)), l4] [] (mh g P cd ni no nt nr nl [W, T, U, IN, OUT, IS, IB, B, V, R, TX, MA, SM, KP] S) := by
    intro d
    induction d with
    | zero =>
      intro i j B V R l4 hid hj hB hR go
      refine x_iload_n (pc := 18) C (dq D_Model_unwrap 13 rfl) rfl ?_
      refine x_iconst (pc := 19) C (dq D_Model_unwrap 14 rfl) ci_1 ?_
      refine n_lt_t (pc := 20) (tgt := 147) C (dq D_Model_unwrap 15 rfl) (by decide) (by omega) (by omega) ?_
      exact go B V l4 hB
    | succ d ih =>
      intro i j B V R l4 hid hj hB hR go
      have hx := num_lt (n := nr / 8 - 1) (j := j) (i := d + 1) (by omega) hj (by omega)
      obtain ⟨a1, a2⟩ := mlf_ok hR.2 (d + 1)
      have n1 : (nm (mlf R (d + 1)) ((nr / 8 - 1) * j + (d + 1))).length = 16 := by rw [nm_len]; exact a1
      have n2 := nm8 a2 hx
      obtain ⟨k1, k2⟩ := dec_ok hU.2 W 0 n1 n2
      have e0 : nr / 8 - 1 - i = d + 1 := by omega
      have store : ∀ (e k : Nat) (V Y : List Nat), k + e = 8 → bm16 ((dec U W 0 (nm (mlf R (d + 1)) ((nr / 8 - 1) * j + (d + 1)))), V) → Y.length = 112 → it (mst (dec U W 0 (nm (mlf R (d + 1)) ((nr / 8 - 1) * j + (d + 1)))) (d + 1)) k e Y = mus U W (nr / 8 - 1) j (d + 1) R → X g f M_Model_unwrap (0, 0) (fun o h' => o = .returned none ∧ ∃ B' M' : List Nat, bm16 (B', M') ∧ h' = mh g P cd ni no nt nr nl [W, T, U, IN, OUT, IS, IB, B', M', (mud U W (nr / 8 - 1) ROW), TX, MA, SM, KP] S) (0, 0) 92 [some (.ref (zA (gz g) 44)), some (.int (nI (nr / 8 - 1))), some (.int (nI j)), some (.int (nI (d + 1))), some (.int (nI k))] [] (mh g P cd ni no nt nr nl [W, T, U, IN, OUT, IS, IB, (dec U W 0 (nm (mlf R (d + 1)) ((nr / 8 - 1) * j + (d + 1)))), V, Y, TX, MA, SM, KP] S) := by
        intro e
        induction e with
        | zero =>
          intro k V Y hke hV hY he
          rw [it_zero] at he
          rw [he]
          refine x_iload (pc := 92) C (dq D_Model_unwrap 57 rfl) rfl ?_
          refine x_bipush (pc := 94) C (dq D_Model_unwrap 58 rfl) cb_8 ?_
          refine n_ge_t (pc := 96) (tgt := 141) C (dq D_Model_unwrap 59 rfl) (by decide) (by omega) (by omega) ?_
          refine x_iinc (pc := 141) C (dq D_Model_unwrap 84 rfl) rfl (iim (by omega)) rfl rfl ?_
          simp only [List.set_cons_zero, List.set_cons_succ]
          refine x_goto (pc := 144) (tgt := 18) C (dq D_Model_unwrap 85 rfl) (by decide) ?_
          refine ih (i + 1) j _ V _ _ (by omega) hj hV (mus_ok hU.2 W hx hR) (fun B2 V2 l4 q => ?_)
          have := go B2 V2 l4 q
          rw [it_succ, e0] at this
          exact this
        | succ e ih2 =>
          intro k V Y hke hV hY he
          refine x_iload (pc := 92) C (dq D_Model_unwrap 57 rfl) rfl ?_
          refine x_bipush (pc := 94) C (dq D_Model_unwrap 58 rfl) cb_8 ?_
          refine n_ge_f (pc := 96) (tgt := 141) C (dq D_Model_unwrap 59 rfl) (by decide) (by omega) (by omega) ?_
          refine x_aload_n (pc := 99) C (dq D_Model_unwrap 60 rfl) rfl ?_
          refine x_get (pc := 100) (ci := 1) (j := 14) C (dq D_Model_unwrap 61 rfl) rfl rfl (by first | exact mo hP | exact ma hP rfl rfl) rfl k_fl_Model_37 ?_
          refine x_iload (pc := 103) C (dq D_Model_unwrap 62 rfl) rfl ?_
          refine x_aload_n (pc := 105) C (dq D_Model_unwrap 63 rfl) rfl ?_
          refine x_get (pc := 106) (ci := 1) (j := 11) C (dq D_Model_unwrap 64 rfl) rfl rfl (by first | exact mo hP | exact ma hP rfl rfl) rfl k_fl_Model_31 ?_
          refine x_iload (pc := 109) C (dq D_Model_unwrap 65 rfl) rfl ?_
          refine x_iald (pc := 111) C (dq D_Model_unwrap 66 rfl) (by first | exact mo hP | exact ma hP rfl rfl) (by (try simp only [List.length_set]); omega) ?_
          refine x_iast (pc := 112) C (dq D_Model_unwrap 67 rfl) (by first | exact mo hP | exact ma hP rfl rfl) (by (try simp only [List.length_set]); omega) ?_
          try rw [List.set_set]
          rw [mh_s hP rfl rfl]
          simp only [Nat.reduceSub, List.set_cons_zero, List.set_cons_succ]
          refine x_aload_n (pc := 113) C (dq D_Model_unwrap 68 rfl) rfl ?_
          refine x_get (pc := 114) (ci := 1) (j := 14) C (dq D_Model_unwrap 69 rfl) rfl rfl (by first | exact mo hP | exact ma hP rfl rfl) rfl k_fl_Model_37 ?_
          refine x_bipush (pc := 117) C (dq D_Model_unwrap 70 rfl) cb_8 ?_
          refine x_iload_n (pc := 119) C (dq D_Model_unwrap 71 rfl) rfl ?_
          refine n_imul (pc := 120) C (dq D_Model_unwrap 72 rfl) ?_
          refine x_iload (pc := 121) C (dq D_Model_unwrap 73 rfl) rfl ?_
          refine n_iadd (pc := 123) C (dq D_Model_unwrap 74 rfl) ?_
          refine x_aload_n (pc := 124) C (dq D_Model_unwrap 75 rfl) rfl ?_
          refine x_get (pc := 125) (ci := 1) (j := 11) C (dq D_Model_unwrap 76 rfl) rfl rfl (by first | exact mo hP | exact ma hP rfl rfl) rfl k_fl_Model_31 ?_
          refine x_bipush (pc := 128) C (dq D_Model_unwrap 77 rfl) cb_8 ?_
          refine x_iload (pc := 130) C (dq D_Model_unwrap 78 rfl) rfl ?_
          refine n_iadd (pc := 132) C (dq D_Model_unwrap 79 rfl) ?_
          refine x_iald (pc := 133) C (dq D_Model_unwrap 80 rfl) (by first | exact mo hP | exact ma hP rfl rfl) (by (try simp only [List.length_set]); omega) ?_
          refine x_iast (pc := 134) C (dq D_Model_unwrap 81 rfl) (by first | exact mo hP | exact ma hP rfl rfl) (by (try simp only [List.length_set]); omega) ?_
          try rw [List.set_set]
          rw [mh_s hP rfl rfl]
          simp only [Nat.reduceSub, List.set_cons_zero, List.set_cons_succ]
          refine x_iinc (pc := 135) C (dq D_Model_unwrap 82 rfl) rfl (ii_1 _) rfl rfl ?_
          simp only [List.set_cons_zero, List.set_cons_succ]
          refine x_goto (pc := 138) (tgt := 92) C (dq D_Model_unwrap 83 rfl) (by decide) ?_
          exact ih2 (k + 1) V (mst (dec U W 0 (nm (mlf R (d + 1)) ((nr / 8 - 1) * j + (d + 1)))) (d + 1) k Y) (by omega) hV (by rw [mst_len]; exact hY) he
      have load : ∀ (e k : Nat) (B : List Nat), k + e = 8 → B.length = 16 → it (mld R (d + 1)) k e B = mlf R (d + 1) → X g f M_Model_unwrap (0, 0) (fun o h' => o = .returned none ∧ ∃ B' M' : List Nat, bm16 (B', M') ∧ h' = mh g P cd ni no nt nr nl [W, T, U, IN, OUT, IS, IB, B', M', (mud U W (nr / 8 - 1) ROW), TX, MA, SM, KP] S) (0, 0) 26 [some (.ref (zA (gz g) 44)), some (.int (nI (nr / 8 - 1))), some (.int (nI j)), some (.int (nI (d + 1))), some (.int (nI k))] [] (mh g P cd ni no nt nr nl [W, T, U, IN, OUT, IS, IB, B, V, R, TX, MA, SM, KP] S) := by
        intro e
        induction e with
        | zero =>
          intro k B hke hBl he
          rw [it_zero] at he
          rw [he]
          refine x_iload (pc := 26) C (dq D_Model_unwrap 18 rfl) rfl ?_
          refine x_bipush (pc := 28) C (dq D_Model_unwrap 19 rfl) cb_8 ?_
          refine n_ge_t (pc := 30) (tgt := 75) C (dq D_Model_unwrap 20 rfl) (by decide) (by omega) (by omega) ?_
          refine x_aload_n (pc := 75) C (dq D_Model_unwrap 45 rfl) rfl ?_
          refine x_iload_n (pc := 76) C (dq D_Model_unwrap 46 rfl) rfl ?_
          refine x_iload_n (pc := 77) C (dq D_Model_unwrap 47 rfl) rfl ?_
          refine n_imul (pc := 78) C (dq D_Model_unwrap 48 rfl) ?_
          refine x_iload_n (pc := 79) C (dq D_Model_unwrap 49 rfl) rfl ?_
          refine n_iadd (pc := 80) C (dq D_Model_unwrap 50 rfl) ?_
          refine x_cV0 (pc := 81) (ci := 1) (M := M_Model_number) C (dq D_Model_unwrap 51 rfl) k_ml_Model_111 m_Model_number rfl rfl (mo hP) (cm_number (mo hP) (ma hP rfl rfl) a1) rfl rfl rfl rfl (by decide) ?_
          rw [mh_s hP rfl rfl]
          simp only [Nat.reduceSub, List.set_cons_zero, List.set_cons_succ]
          refine x_aload_n (pc := 84) C (dq D_Model_unwrap 52 rfl) rfl ?_
          refine x_iconst (pc := 85) C (dq D_Model_unwrap 53 rfl) ci_0 ?_
          refine x_cV (pc := 86) (ci := 1) (M := M_Model_decipher) C (dq D_Model_unwrap 54 rfl) k_ml_Model_114 m_Model_decipher rfl rfl (mo hP) (c_dec hP hW hT hU (bm_mk n1 n2 (bm_r hB).1 (bm_r hB).2) (by omega)) rfl rfl rfl rfl (by decide) (fun o h2 hp => ?_)
          obtain ⟨rfl, V2, hV2, rfl⟩ := hp
          refine ⟨none, rfl, ?_⟩
          show X g f M_Model_unwrap (0, 0) (fun o h' => o = .returned none ∧ ∃ B' M' : List Nat, bm16 (B', M') ∧ h' = mh g P cd ni no nt nr nl [W, T, U, IN, OUT, IS, IB, B', M', (mud U W (nr / 8 - 1) ROW), TX, MA, SM, KP] S) (0, 0) 89 [some (.ref (zA (gz g) 44)), some (.int (nI (nr / 8 - 1))), some (.int (nI j)), some (.int (nI (d + 1))), some (.int (nI k))] [] (mh g P cd ni no nt nr nl [W, T, U, IN, OUT, IS, IB, (dec U W 0 (nm (mlf R (d + 1)) ((nr / 8 - 1) * j + (d + 1)))), V2, R, TX, MA, SM, KP] S)
          refine x_iconst (pc := 89) C (dq D_Model_unwrap 55 rfl) ci_0 ?_
          refine x_istore (i := 4) (pc := 90) C (dq D_Model_unwrap 56 rfl) rfl rfl rfl ?_
          simp only [List.set_cons_zero, List.set_cons_succ]
          exact store 8 0 V2 R rfl hV2 hR.1 (by rw [mus])
        | succ e ih2 =>
          intro k B hke hBl he
          have hR1 := hR.1
          refine x_iload (pc := 26) C (dq D_Model_unwrap 18 rfl) rfl ?_
          refine x_bipush (pc := 28) C (dq D_Model_unwrap 19 rfl) cb_8 ?_
          refine n_ge_f (pc := 30) (tgt := 75) C (dq D_Model_unwrap 20 rfl) (by decide) (by omega) (by omega) ?_
          refine x_aload_n (pc := 33) C (dq D_Model_unwrap 21 rfl) rfl ?_
          refine x_get (pc := 34) (ci := 1) (j := 11) C (dq D_Model_unwrap 22 rfl) rfl rfl (by first | exact mo hP | exact ma hP rfl rfl) rfl k_fl_Model_31 ?_
          refine x_iload (pc := 37) C (dq D_Model_unwrap 23 rfl) rfl ?_
          refine x_aload_n (pc := 39) C (dq D_Model_unwrap 24 rfl) rfl ?_
          refine x_get (pc := 40) (ci := 1) (j := 14) C (dq D_Model_unwrap 25 rfl) rfl rfl (by first | exact mo hP | exact ma hP rfl rfl) rfl k_fl_Model_37 ?_
          refine x_iload (pc := 43) C (dq D_Model_unwrap 26 rfl) rfl ?_
          refine x_iald (pc := 45) C (dq D_Model_unwrap 27 rfl) (by first | exact mo hP | exact ma hP rfl rfl) (by (try simp only [List.length_set]); omega) ?_
          refine x_iast (pc := 46) C (dq D_Model_unwrap 28 rfl) (by first | exact mo hP | exact ma hP rfl rfl) (by (try simp only [List.length_set]); omega) ?_
          try rw [List.set_set]
          rw [mh_s hP rfl rfl]
          simp only [Nat.reduceSub, List.set_cons_zero, List.set_cons_succ]
          refine x_aload_n (pc := 47) C (dq D_Model_unwrap 29 rfl) rfl ?_
          refine x_get (pc := 48) (ci := 1) (j := 11) C (dq D_Model_unwrap 30 rfl) rfl rfl (by first | exact mo hP | exact ma hP rfl rfl) rfl k_fl_Model_31 ?_
          refine x_bipush (pc := 51) C (dq D_Model_unwrap 31 rfl) cb_8 ?_
          refine x_iload (pc := 53) C (dq D_Model_unwrap 32 rfl) rfl ?_
          refine n_iadd (pc := 55) C (dq D_Model_unwrap 33 rfl) ?_
          refine x_aload_n (pc := 56) C (dq D_Model_unwrap 34 rfl) rfl ?_
          refine x_get (pc := 57) (ci := 1) (j := 14) C (dq D_Model_unwrap 35 rfl) rfl rfl (by first | exact mo hP | exact ma hP rfl rfl) rfl k_fl_Model_37 ?_
          refine x_bipush (pc := 60) C (dq D_Model_unwrap 36 rfl) cb_8 ?_
          refine x_iload_n (pc := 62) C (dq D_Model_unwrap 37 rfl) rfl ?_
          refine n_imul (pc := 63) C (dq D_Model_unwrap 38 rfl) ?_
          refine x_iload (pc := 64) C (dq D_Model_unwrap 39 rfl) rfl ?_
          refine n_iadd (pc := 66) C (dq D_Model_unwrap 40 rfl) ?_
          refine x_iald (pc := 67) C (dq D_Model_unwrap 41 rfl) (by first | exact mo hP | exact ma hP rfl rfl) (by (try simp only [List.length_set]); omega) ?_
          refine x_iast (pc := 68) C (dq D_Model_unwrap 42 rfl) (by first | exact mo hP | exact ma hP rfl rfl) (by (try simp only [List.length_set]); omega) ?_
          try rw [List.set_set]
          rw [mh_s hP rfl rfl]
          simp only [Nat.reduceSub, List.set_cons_zero, List.set_cons_succ]
          refine x_iinc (pc := 69) C (dq D_Model_unwrap 43 rfl) rfl (ii_1 _) rfl rfl ?_
          simp only [List.set_cons_zero, List.set_cons_succ]
          refine x_goto (pc := 72) (tgt := 26) C (dq D_Model_unwrap 44 rfl) (by decide) ?_
          exact ih2 (k + 1) (mld R (d + 1) k B) (by omega) (by rw [mld_len]; exact hBl) he
      refine x_iload_n (pc := 18) C (dq D_Model_unwrap 13 rfl) rfl ?_
      refine x_iconst (pc := 19) C (dq D_Model_unwrap 14 rfl) ci_1 ?_
      refine n_lt_f (pc := 20) (tgt := 147) C (dq D_Model_unwrap 15 rfl) (by decide) (by omega) (by omega) ?_
      refine x_iconst (pc := 23) C (dq D_Model_unwrap 16 rfl) ci_0 ?_
      refine x_istore (i := 4) (pc := 24) C (dq D_Model_unwrap 17 rfl) rfl rfl rfl ?_
      simp only [List.set_cons_zero, List.set_cons_succ]
      exact load 8 0 B rfl hB.1 (mld_ind hB.1)
  have turns : ∀ (d j : Nat) (x : Int32) (B V R : List Nat) (l3 l4 : Option Value), j + d = 6 → (d = 0 → x = -1) → (∀ e, d = e + 1 → x = nI e) → bm16 (B, V) → R.length = 112 ∧ by8 R → it (fun j => mur U W (nr / 8 - 1) (5 - j)) j d R = mud U W (nr / 8 - 1) ROW → X g f M_Model_unwrap (0, 0) (fun o h' => o = .returned none ∧ ∃ B' M' : List Nat, bm16 (B', M') ∧ h' = mh g P cd ni no nt nr nl [W, T, U, IN, OUT, IS, IB, B', M', (mud U W (nr / 8 - 1) ROW), TX, MA, SM, KP] S) (0, 0) 12 [some (.ref (zA (gz g) 44)), some (.int (nI (nr / 8 - 1))), some (.int x), l3, l4] [] (mh g P cd ni no nt nr nl [W, T, U, IN, OUT, IS, IB, B, V, R, TX, MA, SM, KP] S) := by
    intro d
    induction d with
    | zero =>
      intro j x B V R l3 l4 hjd hx0 hx1 hB hR he
      rw [it_zero] at he
      obtain rfl := hx0 rfl
      refine x_iload_n (pc := 12) C (dq D_Model_unwrap 9 rfl) rfl ?_
      refine x_iflt (pc := 13) (tgt := 153) C (dq D_Model_unwrap 10 rfl) (by decide) (fun _ => ?_) (fun q => absurd (by decide) q)
      exact x_vret (pc := 153) C (dq D_Model_unwrap 88 rfl) rfl (by decide) ⟨rfl, B, V, hB, by rw [he]⟩
    | succ d ih =>
      intro j x B V R l3 l4 hjd hx0 hx1 hB hR he
      obtain rfl := hx1 d rfl
      have e0 : 5 - j = d := by omega
      refine x_iload_n (pc := 12) C (dq D_Model_unwrap 9 rfl) rfl ?_
      refine n_iflt_f (pc := 13) (tgt := 153) C (dq D_Model_unwrap 10 rfl) (by decide) (by omega) (by omega) ?_
      refine x_iload_n (pc := 16) C (dq D_Model_unwrap 11 rfl) rfl ?_
      refine x_istore_n (i := 3) (pc := 17) C (dq D_Model_unwrap 12 rfl) rfl rfl rfl ?_
      simp only [List.set_cons_zero, List.set_cons_succ]
      refine rows (nr / 8 - 1) 0 d B V R l4 (by omega) (by omega) hB hR (fun B2 V2 l4 hB2 => ?_)
      refine x_iinc (pc := 147) C (dq D_Model_unwrap 86 rfl) rfl rfl rfl rfl ?_
      simp only [List.set_cons_zero, List.set_cons_succ]
      refine x_goto (pc := 150) (tgt := 12) C (dq D_Model_unwrap 87 rfl) (by decide) ?_
      refine ih (j + 1) _ B2 V2 (mur U W (nr / 8 - 1) d R) _ _ (by omega) (fun z => by subst z; decide +kernel) (fun e z => by subst z; exact iim (by omega)) hB2 (mur_ok hU.2 W (by omega) (by omega) hR) ?_
      rw [it_succ, e0] at he
      exact he
  refine x_aload_n (pc := 0) C (dq D_Model_unwrap 0 rfl) rfl ?_
  refine x_get (pc := 1) (ci := 1) (j := 13) C (dq D_Model_unwrap 1 rfl) rfl rfl (mo hP) rfl k_fl_Model_100 ?_
  refine x_bipush (pc := 4) C (dq D_Model_unwrap 2 rfl) cb_8 ?_
  refine n_idiv (pc := 6) C (dq D_Model_unwrap 3 rfl) (by omega) (by omega) (by omega) ?_
  refine x_iconst (pc := 7) C (dq D_Model_unwrap 4 rfl) ci_1 ?_
  refine n_isub (pc := 8) C (dq D_Model_unwrap 5 rfl) (by omega) ?_
  refine x_istore_n (i := 1) (pc := 9) C (dq D_Model_unwrap 6 rfl) rfl rfl rfl ?_
  simp only [List.set_cons_zero, List.set_cons_succ]
  refine x_iconst (pc := 10) C (dq D_Model_unwrap 7 rfl) ci_5 ?_
  refine x_istore_n (i := 2) (pc := 11) C (dq D_Model_unwrap 8 rfl) rfl rfl rfl ?_
  simp only [List.set_cons_zero, List.set_cons_succ]
  exact turns 6 0 (nI 5) BL MV ROW none none rfl (fun z => by cases z) (fun e z => by rw [show e = 5 by omega]) hb hR (by rw [mud])
