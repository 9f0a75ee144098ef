/-! The reference's wrapping. -/
theorem bm_mk {B V : List Nat} (h1 : B.length = 16) (h2 : by8 B) (h3 : V.length = 16) (h4 : by8 V) : bm16 (B, V) := ⟨h1, h2, h3, h4⟩
theorem bm_l {B V : List Nat} (h : bm16 (B, V)) : B.length = 16 ∧ by8 B := ⟨h.1, h.2.1⟩
theorem bm_r {B V : List Nat} (h : bm16 (B, V)) : V.length = 16 ∧ by8 V := h.2.2
def mld (R : List Nat) (i k : Nat) (B : List Nat) : List Nat := (B.set k (R.getD k 0)).set (8 + k) (R.getD (8 * i + k) 0)
def mlf (R : List Nat) (i : Nat) : List Nat := it (mld R i) 0 8 z16
def mst (K : List Nat) (i k : Nat) (R : List Nat) : List Nat := (R.set k (K.getD k 0)).set (8 * i + k) (K.getD (8 + k) 0)
theorem mld_len (R : List Nat) (i k : Nat) (B : List Nat) : (mld R i k B).length = B.length := by simp [mld]
theorem mst_len (K : List Nat) (i k : Nat) (R : List Nat) : (mst K i k R).length = R.length := by simp [mst]
theorem mld_ind {R : List Nat} {i : Nat} {B : List Nat} (h : B.length = 16) : it (mld R i) 0 8 B = mlf R i := by
  obtain ⟨a0, a1, a2, a3, a4, a5, a6, a7, a8, a9, b0, b1, b2, b3, b4, b5, rfl⟩ := len16 h
  rfl
theorem mlf_ok {R : List Nat} (hR : by8 R) (i : Nat) : (mlf R i).length = 16 ∧ by8 (mlf R i) :=
  ⟨it_len (mld_len R i) 8 0 z16, it_inv by8 8 0 z16 (fun j T _ _ hT => (hT.set (hR.at _)).set (hR.at _)) z16_8⟩
theorem mst8 {K : List Nat} (hK : by8 K) (i k d : Nat) {R : List Nat} (h : by8 R) : by8 (it (mst K i) k d R) := it_inv by8 d k R (fun j T _ _ hT => (hT.set (hK.at _)).set (hK.at _)) h
theorem cm_number {g : Gp} {h : Hp} {cd ni no nt nr nl x : Nat} {K : List Nat} (hm : h[44]? = some (moc g cd ni no nt nr nl)) (hk : h[52]? = some (ia g K)) (hK : K.length = 16) :
    Con g M_Model_number 0 (0, 0) [.ref (zA (gz g) 44), .int (nI x)] h (Ret none (h.set 52 (ia g (nm K x)))) := by
  refine Con.of (by decide) rfl rfl (L := [some (.ref (zA (gz g) 44)), some (.int (nI x))]) rfl (fun f C => ?_)
  refine x_aload_n (pc := 0) C (dq D_Model_number 0 rfl) rfl ?_
  refine x_get (pc := 1) (ci := 1) (j := 11) C (dq D_Model_number 1 rfl) rfl rfl (by first | exact hm | exact hk) rfl k_fl_Model_31 ?_
  refine x_bipush (pc := 4) C (dq D_Model_number 2 rfl) cb_7 ?_
  refine x_aload_n (pc := 6) C (dq D_Model_number 3 rfl) rfl ?_
  refine x_get (pc := 7) (ci := 1) (j := 11) C (dq D_Model_number 4 rfl) rfl rfl (by first | exact hm | exact hk) rfl k_fl_Model_31 ?_
  refine x_bipush (pc := 10) C (dq D_Model_number 5 rfl) cb_7 ?_
  refine x_iald (pc := 12) C (dq D_Model_number 6 rfl) (by first | exact hm | exact hk) (by (try simp only [List.length_set]); omega) ?_
  refine x_iload_n (pc := 13) C (dq D_Model_number 7 rfl) rfl ?_
  refine n_ixor (pc := 14) C (dq D_Model_number 8 rfl) ?_
  refine x_iast (pc := 15) C (dq D_Model_number 9 rfl) (by first | exact hm | exact hk) (by (try simp only [List.length_set]); omega) ?_
  try rw [List.set_set]
  exact x_vret (pc := 16) C (dq D_Model_number 10 rfl) rfl (by decide) ⟨rfl, rfl⟩
def mws (T W : List Nat) (n j i : Nat) (R : List Nat) : List Nat := it (mst (nm (enc T W 0 (mlf R i)) (n * j + i)) i) 0 8 R
def mwr (T W : List Nat) (n j : Nat) (R : List Nat) : List Nat := it (fun i => mws T W n j (i + 1)) 0 n R
def mwd (T W : List Nat) (n : Nat) (R : List Nat) : List Nat := it (mwr T W n) 0 6 R
def mus (U W : List Nat) (n j i : Nat) (R : List Nat) : List Nat := it (mst (dec U W 0 (nm (mlf R i) (n * j + i))) i) 0 8 R
def mur (U W : List Nat) (n j : Nat) (R : List Nat) : List Nat := it (fun i => mus U W n j (n - i)) 0 n R
def mud (U W : List Nat) (n : Nat) (R : List Nat) : List Nat := it (fun j => mur U W n (5 - j)) 0 6 R
theorem mws_ok {T : List Nat} (hT : by8 T) (W : List Nat) {n j i m : Nat} {R : List Nat} (hx : n * j + i < 256) (h : R.length = m ∧ by8 R) : (mws T W n j i R).length = m ∧ by8 (mws T W n j i R) := by
  obtain ⟨a, b⟩ := mlf_ok h.2 i
  obtain ⟨c, d⟩ := enc_ok hT W 0 a b
  unfold mws
  exact ⟨by rw [it_len (mst_len _ i)]; exact h.1, mst8 (nm8 d hx) i 0 8 h.2⟩
theorem mwr_ok {T : List Nat} (hT : by8 T) (W : List Nat) {n j m : Nat} (hn : n ≤ 10) (hj : j < 6) {R : List Nat} (h : R.length = m ∧ by8 R) : (mwr T W n j R).length = m ∧ by8 (mwr T W n j R) :=
  it_inv (fun R : List Nat => R.length = m ∧ by8 R) n 0 R (fun i S _ hi hS => mws_ok hT W (num_lt hn hj (by omega)) hS) h
theorem mwd_ok {T : List Nat} (hT : by8 T) (W : List Nat) {n m : Nat} (hn : n ≤ 10) {R : List Nat} (h : R.length = m ∧ by8 R) : (mwd T W n R).length = m ∧ by8 (mwd T W n R) :=
  it_inv (fun R : List Nat => R.length = m ∧ by8 R) 6 0 R (fun j S _ hj hS => mwr_ok hT W hn (by omega) hS) h
theorem mus_ok {U : List Nat} (hU : by8 U) (W : List Nat) {n j i m : Nat} {R : List Nat} (hx : n * j + i < 256) (h : R.length = m ∧ by8 R) : (mus U W n j i R).length = m ∧ by8 (mus U W n j i R) := by
  obtain ⟨a, b⟩ := mlf_ok h.2 i
  obtain ⟨c, d⟩ := dec_ok hU W 0 (B := nm (mlf R i) (n * j + i)) (by rw [nm_len]; exact a) (nm8 b hx)
  unfold mus
  exact ⟨by rw [it_len (mst_len _ i)]; exact h.1, mst8 d i 0 8 h.2⟩
theorem mur_ok {U : List Nat} (hU : by8 U) (W : List Nat) {n j m : Nat} (hn : n ≤ 10) (hj : j < 6) {R : List Nat} (h : R.length = m ∧ by8 R) : (mur U W n j R).length = m ∧ by8 (mur U W n j R) :=
  it_inv (fun R : List Nat => R.length = m ∧ by8 R) n 0 R (fun i S _ hi hS => mus_ok hU W (num_lt hn hj (by omega)) hS) h
theorem mud_ok {U : List Nat} (hU : by8 U) (W : List Nat) {n m : Nat} (hn : n ≤ 10) {R : List Nat} (h : R.length = m ∧ by8 R) : (mud U W n R).length = m ∧ by8 (mud U W n R) :=
  it_inv (fun R : List Nat => R.length = m ∧ by8 R) 6 0 R (fun j S _ hj hS => mur_ok hU W hn (by omega) hS) h
set_option maxHeartbeats 4000000 in
theorem cm_wrap {g : Gp} {P S : Hp} {cd ni no nt nr nl : Nat} {W T U IN OUT IS IB BL MV ROW TX MA SM KP : List Nat} (hP : P.length = 44) (hW : W.length = 88 ∧ by32 W) (hT : T.length = 256 ∧ by8 T) (hU : U.length = 256 ∧ by8 U) (hb : bm16 (BL, MV)) (hR : ROW.length = 112 ∧ by8 ROW) (hnr : 16 ≤ nr ∧ nr ≤ 88) :
    Con g M_Model_wrap 2 (0, 0) [.ref (zA (gz g) 44)] (mh g P cd ni no nt nr nl [W, T, U, IN, OUT, IS, IB, BL, MV, ROW, TX, MA, SM, KP] S) (fun o h' => o = .returned none ∧ ∃ B' M' : List Nat, bm16 (B', M') ∧ h' = mh g P cd ni no nt nr nl [W, T, U, IN, OUT, IS, IB, B', M', (mwd T W (nr / 8 - 1) ROW), TX, MA, SM, KP] S) := by
  refine Con.of (by decide) rfl rfl (L := [some (.ref (zA (gz g) 44)), none, none, none, none]) rfl (fun f C => ?_)
  have rows : ∀ (d i j : Nat) (B V R : List Nat) (l4 : Option Value), i + d = nr / 8 - 1 → j < 6 → bm16 (B, V) → R.length = 112 ∧ by8 R →
      (∀ (B V : List Nat) (l4 : Option Value), bm16 (B, V) → X g f M_Model_wrap (0, 0) (fun o h' => o = .returned none ∧ ∃ B' M' : List Nat, bm16 (B', M') ∧ h' = mh g P cd ni no nt nr nl [W, T, U, IN, OUT, IS, IB, B', M', (mwd T W (nr / 8 - 1) ROW), TX, MA, SM, KP] S) (0, 0) 149 [some (.ref (zA (gz g) 44)), some (.int (nI (nr / 8 - 1))), some (.int (nI j)), some (.int (nI (nr / 8 - 1 + 1))), l4] [] (mh g P cd ni no nt nr nl [W, T, U, IN, OUT, IS, IB, B, V, (it (fun i => mws T W (nr / 8 - 1) j (i + 1)) i d R), TX, MA, SM, KP] S)) →
      X g f M_Model_wrap (0, 0) (fun o h' => o = .returned none ∧ ∃ B' M' : List Nat, bm16 (B', M') ∧ h' = mh g P cd ni no nt nr nl [W, T, U, IN, OUT, IS, IB, B', M', (mwd T W (nr / 8 - 1) ROW), TX, MA, SM, KP] S) (0, 0) 20 [some (.ref (zA (gz g) 44)), some (.int (nI (nr / 8 - 1))), some (.int (nI j)), some (.int (nI (i + 1))), l4] [] (mh g P cd ni no nt nr nl [W, T, U, IN, OUT, IS, IB, B, V, R, TX, MA, SM, KP] S) := by
    intro d
    induction d with
    | zero =>
      intro i j B V R l4 hid hj hB hR go
      obtain rfl : i = nr / 8 - 1 := by omega
      refine x_iload_n (pc := 20) C (dq D_Model_wrap 14 rfl) rfl ?_
      refine x_iload_n (pc := 21) C (dq D_Model_wrap 15 rfl) rfl ?_
      refine n_gt_t (pc := 22) (tgt := 149) C (dq D_Model_wrap 16 rfl) (by decide) (by omega) (by omega) ?_
      exact go B V l4 hB
    | succ d ih =>
      intro i j B V R l4 hid hj hB hR go
      have hx := num_lt (n := nr / 8 - 1) (j := j) (i := i + 1) (by omega) hj (by omega)
      obtain ⟨a1, a2⟩ := mlf_ok hR.2 (i + 1)
      obtain ⟨k1, k2⟩ := enc_ok hT.2 W 0 a1 a2
      have n1 : (nm (enc T W 0 (mlf R (i + 1))) ((nr / 8 - 1) * j + (i + 1))).length = 16 := by rw [nm_len]; exact k1
      have n2 := nm8 k2 hx
      have store : ∀ (e k : Nat) (V Y : List Nat), k + e = 8 → bm16 (nm (enc T W 0 (mlf R (i + 1))) ((nr / 8 - 1) * j + (i + 1)), V) → Y.length = 112 → it (mst (nm (enc T W 0 (mlf R (i + 1))) ((nr / 8 - 1) * j + (i + 1))) (i + 1)) k e Y = mws T W (nr / 8 - 1) j (i + 1) R → X g f M_Model_wrap (0, 0) (fun o h' => o = .returned none ∧ ∃ B' M' : List Nat, bm16 (B', M') ∧ h' = mh g P cd ni no nt nr nl [W, T, U, IN, OUT, IS, IB, B', M', (mwd T W (nr / 8 - 1) ROW), TX, MA, SM, KP] S) (0, 0) 94 [some (.ref (zA (gz g) 44)), some (.int (nI (nr / 8 - 1))), some (.int (nI j)), some (.int (nI (i + 1))), some (.int (nI k))] [] (mh g P cd ni no nt nr nl [W, T, U, IN, OUT, IS, IB, (nm (enc T W 0 (mlf R (i + 1))) ((nr / 8 - 1) * j + (i + 1))), V, Y, TX, MA, SM, KP] S) := by
        intro e
        induction e with
        | zero =>
          intro k V Y hke hV hY he
          rw [it_zero] at he
          rw [he]
          refine x_iload (pc := 94) C (dq D_Model_wrap 58 rfl) rfl ?_
          refine x_bipush (pc := 96) C (dq D_Model_wrap 59 rfl) cb_8 ?_
          refine n_ge_t (pc := 98) (tgt := 143) C (dq D_Model_wrap 60 rfl) (by decide) (by omega) (by omega) ?_
          refine x_iinc (pc := 143) C (dq D_Model_wrap 85 rfl) rfl (ii_1 _) rfl rfl ?_
          simp only [List.set_cons_zero, List.set_cons_succ]
          refine x_goto (pc := 146) (tgt := 20) C (dq D_Model_wrap 86 rfl) (by decide) ?_
          exact ih (i + 1) j _ V _ _ (by omega) hj hV (mws_ok hT.2 W hx hR) go
        | succ e ih2 =>
          intro k V Y hke hV hY he
          refine x_iload (pc := 94) C (dq D_Model_wrap 58 rfl) rfl ?_
          refine x_bipush (pc := 96) C (dq D_Model_wrap 59 rfl) cb_8 ?_
          refine n_ge_f (pc := 98) (tgt := 143) C (dq D_Model_wrap 60 rfl) (by decide) (by omega) (by omega) ?_
          refine x_aload_n (pc := 101) C (dq D_Model_wrap 61 rfl) rfl ?_
          refine x_get (pc := 102) (ci := 1) (j := 14) C (dq D_Model_wrap 62 rfl) rfl rfl (by first | exact mo hP | exact ma hP rfl rfl) rfl k_fl_Model_37 ?_
          refine x_iload (pc := 105) C (dq D_Model_wrap 63 rfl) rfl ?_
          refine x_aload_n (pc := 107) C (dq D_Model_wrap 64 rfl) rfl ?_
          refine x_get (pc := 108) (ci := 1) (j := 11) C (dq D_Model_wrap 65 rfl) rfl rfl (by first | exact mo hP | exact ma hP rfl rfl) rfl k_fl_Model_31 ?_
          refine x_iload (pc := 111) C (dq D_Model_wrap 66 rfl) rfl ?_
          refine x_iald (pc := 113) C (dq D_Model_wrap 67 rfl) (by first | exact mo hP | exact ma hP rfl rfl) (by (try simp only [List.length_set]); omega) ?_
          refine x_iast (pc := 114) C (dq D_Model_wrap 68 rfl) (by first | exact mo hP | exact ma hP rfl rfl) (by (try simp only [List.length_set]); omega) ?_
          try rw [List.set_set]
          rw [mh_s hP rfl rfl]
          simp only [Nat.reduceSub, List.set_cons_zero, List.set_cons_succ]
          refine x_aload_n (pc := 115) C (dq D_Model_wrap 69 rfl) rfl ?_
          refine x_get (pc := 116) (ci := 1) (j := 14) C (dq D_Model_wrap 70 rfl) rfl rfl (by first | exact mo hP | exact ma hP rfl rfl) rfl k_fl_Model_37 ?_
          refine x_bipush (pc := 119) C (dq D_Model_wrap 71 rfl) cb_8 ?_
          refine x_iload_n (pc := 121) C (dq D_Model_wrap 72 rfl) rfl ?_
          refine n_imul (pc := 122) C (dq D_Model_wrap 73 rfl) ?_
          refine x_iload (pc := 123) C (dq D_Model_wrap 74 rfl) rfl ?_
          refine n_iadd (pc := 125) C (dq D_Model_wrap 75 rfl) ?_
          refine x_aload_n (pc := 126) C (dq D_Model_wrap 76 rfl) rfl ?_
          refine x_get (pc := 127) (ci := 1) (j := 11) C (dq D_Model_wrap 77 rfl) rfl rfl (by first | exact mo hP | exact ma hP rfl rfl) rfl k_fl_Model_31 ?_
          refine x_bipush (pc := 130) C (dq D_Model_wrap 78 rfl) cb_8 ?_
          refine x_iload (pc := 132) C (dq D_Model_wrap 79 rfl) rfl ?_
          refine n_iadd (pc := 134) C (dq D_Model_wrap 80 rfl) ?_
          refine x_iald (pc := 135) C (dq D_Model_wrap 81 rfl) (by first | exact mo hP | exact ma hP rfl rfl) (by (try simp only [List.length_set]); omega) ?_
          refine x_iast (pc := 136) C (dq D_Model_wrap 82 rfl) (by first | exact mo hP | exact ma hP rfl rfl) (by (try simp only [List.length_set]); omega) ?_
          try rw [List.set_set]
          rw [mh_s hP rfl rfl]
          simp only [Nat.reduceSub, List.set_cons_zero, List.set_cons_succ]
          refine x_iinc (pc := 137) C (dq D_Model_wrap 83 rfl) rfl (ii_1 _) rfl rfl ?_
          simp only [List.set_cons_zero, List.set_cons_succ]
          refine x_goto (pc := 140) (tgt := 94) C (dq D_Model_wrap 84 rfl) (by decide) ?_
          exact ih2 (k + 1) V (mst (nm (enc T W 0 (mlf R (i + 1))) ((nr / 8 - 1) * j + (i + 1))) (i + 1) k Y) (by omega) hV (by rw [mst_len]; exact hY) he
      have load : ∀ (e k : Nat) (B : List Nat), k + e = 8 → B.length = 16 → it (mld R (i + 1)) k e B = mlf R (i + 1) → X g f M_Model_wrap (0, 0) (fun o h' => o = .returned none ∧ ∃ B' M' : List Nat, bm16 (B', M') ∧ h' = mh g P cd ni no nt nr nl [W, T, U, IN, OUT, IS, IB, B', M', (mwd T W (nr / 8 - 1) ROW), TX, MA, SM, KP] S) (0, 0) 28 [some (.ref (zA (gz g) 44)), some (.int (nI (nr / 8 - 1))), some (.int (nI j)), some (.int (nI (i + 1))), some (.int (nI k))] [] (mh g P cd ni no nt nr nl [W, T, U, IN, OUT, IS, IB, B, V, R, TX, MA, SM, KP] S) := by
        intro e
        induction e with
        | zero =>
          intro k B hke hBl he
          rw [it_zero] at he
          rw [he]
          refine x_iload (pc := 28) C (dq D_Model_wrap 19 rfl) rfl ?_
          refine x_bipush (pc := 30) C (dq D_Model_wrap 20 rfl) cb_8 ?_
          refine n_ge_t (pc := 32) (tgt := 77) C (dq D_Model_wrap 21 rfl) (by decide) (by omega) (by omega) ?_
          refine x_aload_n (pc := 77) C (dq D_Model_wrap 46 rfl) rfl ?_
          refine x_iconst (pc := 78) C (dq D_Model_wrap 47 rfl) ci_0 ?_
          refine x_cV (pc := 79) (ci := 1) (M := M_Model_encipher) C (dq D_Model_wrap 48 rfl) k_ml_Model_84 m_Model_encipher rfl rfl (mo hP) (c_enc hP hW hT hU (bm_mk a1 a2 (bm_r hB).1 (bm_r hB).2) (by omega)) rfl rfl rfl rfl (by decide) (fun o h2 hp => ?_)
          obtain ⟨rfl, V2, hV2, rfl⟩ := hp
          refine ⟨none, rfl, ?_⟩
          show X g f M_Model_wrap (0, 0) (fun o h' => o = .returned none ∧ ∃ B' M' : List Nat, bm16 (B', M') ∧ h' = mh g P cd ni no nt nr nl [W, T, U, IN, OUT, IS, IB, B', M', (mwd T W (nr / 8 - 1) ROW), TX, MA, SM, KP] S) (0, 0) 82 [some (.ref (zA (gz g) 44)), some (.int (nI (nr / 8 - 1))), some (.int (nI j)), some (.int (nI (i + 1))), some (.int (nI k))] [] (mh g P cd ni no nt nr nl [W, T, U, IN, OUT, IS, IB, (enc T W 0 (mlf R (i + 1))), V2, R, TX, MA, SM, KP] S)
          refine x_aload_n (pc := 82) C (dq D_Model_wrap 49 rfl) rfl ?_
          refine x_iload_n (pc := 83) C (dq D_Model_wrap 50 rfl) rfl ?_
          refine x_iload_n (pc := 84) C (dq D_Model_wrap 51 rfl) rfl ?_
          refine n_imul (pc := 85) C (dq D_Model_wrap 52 rfl) ?_
          refine x_iload_n (pc := 86) C (dq D_Model_wrap 53 rfl) rfl ?_
          refine n_iadd (pc := 87) C (dq D_Model_wrap 54 rfl) ?_
          refine x_cV0 (pc := 88) (ci := 1) (M := M_Model_number) C (dq D_Model_wrap 55 rfl) k_ml_Model_111 m_Model_number rfl rfl (mo hP) (cm_number (mo hP) (ma hP rfl rfl) k1) rfl rfl rfl rfl (by decide) ?_
          rw [mh_s hP rfl rfl]
          simp only [Nat.reduceSub, List.set_cons_zero, List.set_cons_succ]
          refine x_iconst (pc := 91) C (dq D_Model_wrap 56 rfl) ci_0 ?_
          refine x_istore (i := 4) (pc := 92) C (dq D_Model_wrap 57 rfl) rfl rfl rfl ?_
          simp only [List.set_cons_zero, List.set_cons_succ]
          have hv3 := bm_r hV2
          exact store 8 0 V2 R rfl (bm_mk n1 n2 hv3.1 hv3.2) hR.1 (by rw [mws])
        | succ e ih2 =>
          intro k B hke hBl he
          have hR1 := hR.1
          refine x_iload (pc := 28) C (dq D_Model_wrap 19 rfl) rfl ?_
          refine x_bipush (pc := 30) C (dq D_Model_wrap 20 rfl) cb_8 ?_
          refine n_ge_f (pc := 32) (tgt := 77) C (dq D_Model_wrap 21 rfl) (by decide) (by omega) (by omega) ?_
          refine x_aload_n (pc := 35) C (dq D_Model_wrap 22 rfl) rfl ?_
          refine x_get (pc := 36) (ci := 1) (j := 11) C (dq D_Model_wrap 23 rfl) rfl rfl (by first | exact mo hP | exact ma hP rfl rfl) rfl k_fl_Model_31 ?_
          refine x_iload (pc := 39) C (dq D_Model_wrap 24 rfl) rfl ?_
          refine x_aload_n (pc := 41) C (dq D_Model_wrap 25 rfl) rfl ?_
          refine x_get (pc := 42) (ci := 1) (j := 14) C (dq D_Model_wrap 26 rfl) rfl rfl (by first | exact mo hP | exact ma hP rfl rfl) rfl k_fl_Model_37 ?_
          refine x_iload (pc := 45) C (dq D_Model_wrap 27 rfl) rfl ?_
          refine x_iald (pc := 47) C (dq D_Model_wrap 28 rfl) (by first | exact mo hP | exact ma hP rfl rfl) (by (try simp only [List.length_set]); omega) ?_
          refine x_iast (pc := 48) C (dq D_Model_wrap 29 rfl) (by first | exact mo hP | exact ma hP rfl rfl) (by (try simp only [List.length_set]); omega) ?_
          try rw [List.set_set]
          rw [mh_s hP rfl rfl]
          simp only [Nat.reduceSub, List.set_cons_zero, List.set_cons_succ]
          refine x_aload_n (pc := 49) C (dq D_Model_wrap 30 rfl) rfl ?_
          refine x_get (pc := 50) (ci := 1) (j := 11) C (dq D_Model_wrap 31 rfl) rfl rfl (by first | exact mo hP | exact ma hP rfl rfl) rfl k_fl_Model_31 ?_
          refine x_bipush (pc := 53) C (dq D_Model_wrap 32 rfl) cb_8 ?_
          refine x_iload (pc := 55) C (dq D_Model_wrap 33 rfl) rfl ?_
          refine n_iadd (pc := 57) C (dq D_Model_wrap 34 rfl) ?_
          refine x_aload_n (pc := 58) C (dq D_Model_wrap 35 rfl) rfl ?_
          refine x_get (pc := 59) (ci := 1) (j := 14) C (dq D_Model_wrap 36 rfl) rfl rfl (by first | exact mo hP | exact ma hP rfl rfl) rfl k_fl_Model_37 ?_
          refine x_bipush (pc := 62) C (dq D_Model_wrap 37 rfl) cb_8 ?_
          refine x_iload_n (pc := 64) C (dq D_Model_wrap 38 rfl) rfl ?_
          refine n_imul (pc := 65) C (dq D_Model_wrap 39 rfl) ?_
          refine x_iload (pc := 66) C (dq D_Model_wrap 40 rfl) rfl ?_
          refine n_iadd (pc := 68) C (dq D_Model_wrap 41 rfl) ?_
          refine x_iald (pc := 69) C (dq D_Model_wrap 42 rfl) (by first | exact mo hP | exact ma hP rfl rfl) (by (try simp only [List.length_set]); omega) ?_
          refine x_iast (pc := 70) C (dq D_Model_wrap 43 rfl) (by first | exact mo hP | exact ma hP rfl rfl) (by (try simp only [List.length_set]); omega) ?_
          try rw [List.set_set]
          rw [mh_s hP rfl rfl]
          simp only [Nat.reduceSub, List.set_cons_zero, List.set_cons_succ]
          refine x_iinc (pc := 71) C (dq D_Model_wrap 44 rfl) rfl (ii_1 _) rfl rfl ?_
          simp only [List.set_cons_zero, List.set_cons_succ]
          refine x_goto (pc := 74) (tgt := 28) C (dq D_Model_wrap 45 rfl) (by decide) ?_
          exact ih2 (k + 1) (mld R (i + 1) k B) (by omega) (by rw [mld_len]; exact hBl) he
      refine x_iload_n (pc := 20) C (dq D_Model_wrap 14 rfl) rfl ?_
      refine x_iload_n (pc := 21) C (dq D_Model_wrap 15 rfl) rfl ?_
      refine n_gt_f (pc := 22) (tgt := 149) C (dq D_Model_wrap 16 rfl) (by decide) (by omega) (by omega) ?_
      refine x_iconst (pc := 25) C (dq D_Model_wrap 17 rfl) ci_0 ?_
      refine x_istore (i := 4) (pc := 26) C (dq D_Model_wrap 18 rfl) rfl rfl rfl ?_
      simp only [List.set_cons_zero, List.set_cons_succ]
      exact load 8 0 B rfl hB.1 (mld_ind hB.1)
  have turns : ∀ (d j : Nat) (B V R : List Nat) (l3 l4 : Option Value), j + d = 6 → bm16 (B, V) → R.length = 112 ∧ by8 R → it (mwr T W (nr / 8 - 1)) j d R = mwd T W (nr / 8 - 1) ROW → X g f M_Model_wrap (0, 0) (fun o h' => o = .returned none ∧ ∃ B' M' : List Nat, bm16 (B', M') ∧ h' = mh g P cd ni no nt nr nl [W, T, U, IN, OUT, IS, IB, B', M', (mwd T W (nr / 8 - 1) ROW), TX, MA, SM, KP] S) (0, 0) 12 [some (.ref (zA (gz g) 44)), some (.int (nI (nr / 8 - 1))), some (.int (nI j)), l3, l4] [] (mh g P cd ni no nt nr nl [W, T, U, IN, OUT, IS, IB, B, V, R, TX, MA, SM, KP] S) := by
    intro d
    induction d with
    | zero =>
      intro j B V R l3 l4 hjd hB hR he
      rw [it_zero] at he
      refine x_iload_n (pc := 12) C (dq D_Model_wrap 9 rfl) rfl ?_
      refine x_bipush (pc := 13) C (dq D_Model_wrap 10 rfl) cb_6 ?_
      refine n_ge_t (pc := 15) (tgt := 155) C (dq D_Model_wrap 11 rfl) (by decide) (by omega) (by omega) ?_
      exact x_vret (pc := 155) C (dq D_Model_wrap 89 rfl) rfl (by decide) ⟨rfl, B, V, hB, by rw [he]⟩
    | succ d ih =>
      intro j B V R l3 l4 hjd hB hR he
      refine x_iload_n (pc := 12) C (dq D_Model_wrap 9 rfl) rfl ?_
      refine x_bipush (pc := 13) C (dq D_Model_wrap 10 rfl) cb_6 ?_
      refine n_ge_f (pc := 15) (tgt := 155) C (dq D_Model_wrap 11 rfl) (by decide) (by omega) (by omega) ?_
      refine x_iconst (pc := 18) C (dq D_Model_wrap 12 rfl) ci_1 ?_
      refine x_istore_n (i := 3) (pc := 19) C (dq D_Model_wrap 13 rfl) rfl rfl rfl ?_
      simp only [List.set_cons_zero, List.set_cons_succ]
      refine rows (nr / 8 - 1) 0 j B V R l4 (by omega) (by omega) hB hR (fun B2 V2 l4 hB2 => ?_)
      refine x_iinc (pc := 149) C (dq D_Model_wrap 87 rfl) rfl (ii_1 _) rfl rfl ?_
      simp only [List.set_cons_zero, List.set_cons_succ]
      refine x_goto (pc := 152) (tgt := 12) C (dq D_Model_wrap 88 rfl) (by decide) ?_
      exact ih (j + 1) B2 V2 (mwr T W (nr / 8 - 1) j R) _ _ (by omega) hB2 (mwr_ok hT.2 W (by omega) (by omega) hR) he
  refine x_aload_n (pc := 0) C (dq D_Model_wrap 0 rfl) rfl ?_
  refine x_get (pc := 1) (ci := 1) (j := 13) C (dq D_Model_wrap 1 rfl) rfl rfl (mo hP) rfl k_fl_Model_100 ?_
  refine x_bipush (pc := 4) C (dq D_Model_wrap 2 rfl) cb_8 ?_
  refine n_idiv (pc := 6) C (dq D_Model_wrap 3 rfl) (by omega) (by omega) (by omega) ?_
  refine x_iconst (pc := 7) C (dq D_Model_wrap 4 rfl) ci_1 ?_
  refine n_isub (pc := 8) C (dq D_Model_wrap 5 rfl) (by omega) ?_
  refine x_istore_n (i := 1) (pc := 9) C (dq D_Model_wrap 6 rfl) rfl rfl rfl ?_
  simp only [List.set_cons_zero, List.set_cons_succ]
  refine x_iconst (pc := 10) C (dq D_Model_wrap 7 rfl) ci_0 ?_
  refine x_istore_n (i := 2) (pc := 11) C (dq D_Model_wrap 8 rfl) rfl rfl rfl ?_
  simp only [List.set_cons_zero, List.set_cons_succ]
  exact turns 6 0 BL MV ROW none none rfl hb hR (by rw [mwd])
