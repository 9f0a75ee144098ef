/-! The reference's calls: key, feed, drop, alter, item, forget, size, at, take, thrown. -/
def rot (t : Nat) : Nat := (t * 2 ^ 8 % 2 ^ 32) ||| (t / 2 ^ 24)
def exw (T : List Nat) (f i : Nat) (q : Nat × List Nat) : Nat × List Nat := if i % 4 = 0 then (prd q.1 2, q.2.set (f + i) (q.2.getD (f + i - 4) 0 ^^^ (chg T (rot (q.2.getD (f + i - 1) 0)) ^^^ (q.1 * 2 ^ 24)))) else (q.1, q.2.set (f + i) (q.2.getD (f + i - 4) 0 ^^^ q.2.getD (f + i - 1) 0))
def mk4 (f a b c d : Nat) (W : List Nat) : List Nat := (((W.set f a).set (f + 1) b).set (f + 2) c).set (f + 3) d
def mky (T : List Nat) (f a b c d : Nat) (W : List Nat) : List Nat := (it (exw T f) 4 40 (1, mk4 f a b c d W)).2
theorem xor32 {a b : Nat} (ha : a < 2 ^ 32) (hb : b < 2 ^ 32) : a ^^^ b < 2 ^ 32 := Nat.xor_lt_two_pow (n := 32) ha hb
theorem rot32 {t : Nat} (ht : t < 2 ^ 32) : rot t < 2 ^ 32 := Nat.or_lt_two_pow (n := 32) (Nat.mod_lt _ (by omega)) (by omega)
theorem exw_ok {T : List Nat} (hT : by8 T) (f i : Nat) {q : Nat × List Nat} (h : q.1 < 256 ∧ q.2.length = 88 ∧ by32 q.2) : (exw T f i q).1 < 256 ∧ (exw T f i q).2.length = 88 ∧ by32 (exw T f i q).2 := by
  obtain ⟨a, b, c⟩ := h
  unfold exw
  split
  · dsimp only
    refine ⟨prd8 a, by rw [List.length_set]; exact b, c.set (xor32 (c.at _) (xor32 (chg32 hT _) ?_))⟩
    omega
  · dsimp only
    exact ⟨a, by rw [List.length_set]; exact b, c.set (xor32 (c.at _) (c.at _))⟩
theorem mk4_ok (f : Nat) {a b c d : Nat} (ha : a < 2 ^ 32) (hb : b < 2 ^ 32) (hc : c < 2 ^ 32) (hd : d < 2 ^ 32) {W : List Nat} (h : W.length = 88 ∧ by32 W) : (mk4 f a b c d W).length = 88 ∧ by32 (mk4 f a b c d W) := by
  unfold mk4
  exact ⟨by simp only [List.length_set]; exact h.1, (((h.2.set ha).set hb).set hc).set hd⟩
theorem mky_ok {T : List Nat} (hT : by8 T) (f : Nat) {a b c d : Nat} (ha : a < 2 ^ 32) (hb : b < 2 ^ 32) (hc : c < 2 ^ 32) (hd : d < 2 ^ 32) {W : List Nat} (h : W.length = 88 ∧ by32 W) : (mky T f a b c d W).length = 88 ∧ by32 (mky T f a b c d W) := by
  have h0 := mk4_ok f ha hb hc hd h
  have h1 := it_inv (fun q : Nat × List Nat => q.1 < 256 ∧ q.2.length = 88 ∧ by32 q.2) 40 4 (1, mk4 f a b c d W) (fun j q _ _ hq => exw_ok hT f j hq) ⟨show 1 < 256 by omega, h0.1, h0.2⟩
  unfold mky
  exact h1.2
set_option maxHeartbeats 4000000 in
theorem cm_expand {g : Gp} {P S : Hp} {cd ni no nt nr nl : Nat} {W T U IN OUT IS IB BL MV ROW TX MA SM KP : List Nat} {f0 a b c d : Nat} (hP : P.length = 44) (hW : W.length = 88 ∧ by32 W) (hT : T.length = 256 ∧ by8 T) (hf : f0 ≤ 44) (ha : a < 2 ^ 32) (hb : b < 2 ^ 32) (hc : c < 2 ^ 32) (hd : d < 2 ^ 32) :
    Con g M_Model_expand 1 (0, 0) [.ref (zA (gz g) 44), .int (nI f0), .int (nI a), .int (nI b), .int (nI c), .int (nI d)] (mh g P cd ni no nt nr nl [W, T, U, IN, OUT, IS, IB, BL, MV, ROW, TX, MA, SM, KP] S) (Ret none (mh g P cd ni no nt nr nl [(mky T f0 a b c d W), T, U, IN, OUT, IS, IB, BL, MV, ROW, TX, MA, SM, KP] S)) := by
  have hW1 := hW.1
  have hm4 := mk4_ok f0 ha hb hc hd hW
  refine Con.of (by decide) rfl rfl (L := [some (.ref (zA (gz g) 44)), some (.int (nI f0)), some (.int (nI a)), some (.int (nI b)), some (.int (nI c)), some (.int (nI d)), none, none, none]) rfl (fun f C => ?_)
  have loop : ∀ (n i : Nat) (q : Nat × List Nat) (l8 : Option Value), i + n = 44 → 4 ≤ i → q.1 < 256 ∧ q.2.length = 88 ∧ by32 q.2 → (it (exw T f0) i n q).2 = mky T f0 a b c d W → X g f M_Model_expand (0, 0) (Ret none (mh g P cd ni no nt nr nl [(mky T f0 a b c d W), T, U, IN, OUT, IS, IB, BL, MV, ROW, TX, MA, SM, KP] S)) (0, 0) 42 [some (.ref (zA (gz g) 44)), some (.int (nI f0)), some (.int (nI a)), some (.int (nI b)), some (.int (nI c)), some (.int (nI d)), some (.int (nI q.1)), some (.int (nI i)), l8] [] (mh g P cd ni no nt nr nl [q.2, T, U, IN, OUT, IS, IB, BL, MV, ROW, TX, MA, SM, KP] S) := by
    intro n
    induction n with
    | zero =>
      intro i q l8 hin hi hq he
      rw [it_zero] at he
      rw [he]
      refine x_iload (pc := 42) C (dq D_Model_expand 30 rfl) rfl ?_
      refine x_bipush (pc := 44) C (dq D_Model_expand 31 rfl) cb_44 ?_
      refine n_ge_t (pc := 46) (tgt := 129) C (dq D_Model_expand 32 rfl) (by decide) (by omega) (by omega) ?_
      exact x_vret (pc := 129) C (dq D_Model_expand 82 rfl) rfl (by decide) ⟨rfl, rfl⟩
    | succ n ih =>
      intro i q l8 hin hi hq he
      obtain ⟨q1, q2, q3⟩ := hq
      have ht := q3.at (f0 + i - 1)
      have hok := exw_ok hT.2 f0 i ⟨q1, q2, q3⟩
      have fin : ∀ (two t : Nat), (two, q.2.set (f0 + i) (q.2.getD (f0 + i - 4) 0 ^^^ t)) = exw T f0 i q → X g f M_Model_expand (0, 0) (Ret none (mh g P cd ni no nt nr nl [(mky T f0 a b c d W), T, U, IN, OUT, IS, IB, BL, MV, ROW, TX, MA, SM, KP] S)) (0, 0) 100 [some (.ref (zA (gz g) 44)), some (.int (nI f0)), some (.int (nI a)), some (.int (nI b)), some (.int (nI c)), some (.int (nI d)), some (.int (nI two)), some (.int (nI i)), some (.int (nI t))] [] (mh g P cd ni no nt nr nl [q.2, T, U, IN, OUT, IS, IB, BL, MV, ROW, TX, MA, SM, KP] S) := by
        intro two t heq
        refine x_aload_n (pc := 100) C (dq D_Model_expand 64 rfl) rfl ?_
        refine x_get (pc := 101) (ci := 1) (j := 1) C (dq D_Model_expand 65 rfl) rfl rfl (by first | exact mo hP | exact ma hP rfl rfl) rfl k_fl_Model_7 ?_
        refine x_iload_n (pc := 104) C (dq D_Model_expand 66 rfl) rfl ?_
        refine x_iload (pc := 105) C (dq D_Model_expand 67 rfl) rfl ?_
        refine n_iadd (pc := 107) C (dq D_Model_expand 68 rfl) ?_
        refine x_aload_n (pc := 108) C (dq D_Model_expand 69 rfl) rfl ?_
        refine x_get (pc := 109) (ci := 1) (j := 1) C (dq D_Model_expand 70 rfl) rfl rfl (by first | exact mo hP | exact ma hP rfl rfl) rfl k_fl_Model_7 ?_
        refine x_iload_n (pc := 112) C (dq D_Model_expand 71 rfl) rfl ?_
        refine x_iload (pc := 113) C (dq D_Model_expand 72 rfl) rfl ?_
        refine n_iadd (pc := 115) C (dq D_Model_expand 73 rfl) ?_
        refine x_iconst (pc := 116) C (dq D_Model_expand 74 rfl) ci_4 ?_
        refine n_isub (pc := 117) C (dq D_Model_expand 75 rfl) (by omega) ?_
        refine x_iald (pc := 118) C (dq D_Model_expand 76 rfl) (by first | exact mo hP | exact ma hP rfl rfl) (by (try simp only [List.length_set]); omega) ?_
        refine x_iload (pc := 119) C (dq D_Model_expand 77 rfl) rfl ?_
        refine n_ixor (pc := 121) C (dq D_Model_expand 78 rfl) ?_
        refine x_iast (pc := 122) C (dq D_Model_expand 79 rfl) (by first | exact mo hP | exact ma hP rfl rfl) (by (try simp only [List.length_set]); omega) ?_
        try rw [List.set_set]
        rw [mh_s hP rfl rfl]
        simp only [Nat.reduceSub, List.set_cons_zero, List.set_cons_succ]
        refine x_iinc (pc := 123) C (dq D_Model_expand 80 rfl) rfl (ii_1 _) rfl rfl ?_
        simp only [List.set_cons_zero, List.set_cons_succ]
        refine x_goto (pc := 126) (tgt := 42) C (dq D_Model_expand 81 rfl) (by decide) ?_
        have h1 := ih (i + 1) (two, q.2.set (f0 + i) (q.2.getD (f0 + i - 4) 0 ^^^ t)) (some (.int (nI t))) (by omega) (by omega) (by rw [heq]; exact hok) (by rw [heq]; exact he)
        exact h1
      refine x_iload (pc := 42) C (dq D_Model_expand 30 rfl) rfl ?_
      refine x_bipush (pc := 44) C (dq D_Model_expand 31 rfl) cb_44 ?_
      refine n_ge_f (pc := 46) (tgt := 129) C (dq D_Model_expand 32 rfl) (by decide) (by omega) (by omega) ?_
      refine x_aload_n (pc := 49) C (dq D_Model_expand 33 rfl) rfl ?_
      refine x_get (pc := 50) (ci := 1) (j := 1) C (dq D_Model_expand 34 rfl) rfl rfl (by first | exact mo hP | exact ma hP rfl rfl) rfl k_fl_Model_7 ?_
      refine x_iload_n (pc := 53) C (dq D_Model_expand 35 rfl) rfl ?_
      refine x_iload (pc := 54) C (dq D_Model_expand 36 rfl) rfl ?_
      refine n_iadd (pc := 56) C (dq D_Model_expand 37 rfl) ?_
      refine x_iconst (pc := 57) C (dq D_Model_expand 38 rfl) ci_1 ?_
      refine n_isub (pc := 58) C (dq D_Model_expand 39 rfl) (by omega) ?_
      refine x_iald (pc := 59) C (dq D_Model_expand 40 rfl) (by first | exact mo hP | exact ma hP rfl rfl) (by (try simp only [List.length_set]); omega) ?_
      refine x_istore (i := 8) (pc := 60) C (dq D_Model_expand 41 rfl) rfl rfl rfl ?_
      simp only [List.set_cons_zero, List.set_cons_succ]
      refine x_iload (pc := 62) C (dq D_Model_expand 42 rfl) rfl ?_
      refine x_iconst (pc := 64) C (dq D_Model_expand 43 rfl) ci_4 ?_
      refine n_irem (pc := 65) C (dq D_Model_expand 44 rfl) (by omega) (by omega) (by omega) ?_
      refine n_ifne (pc := 66) (tgt := 100) C (dq D_Model_expand 45 rfl) (by decide) (by omega) (fun hq => ?_) (fun hq => ?_)
      · have heq : (q.1, q.2.set (f0 + i) (q.2.getD (f0 + i - 4) 0 ^^^ q.2.getD (f0 + i - 1) 0)) = exw T f0 i q := by
          unfold exw
          rw [if_neg hq]
        exact fin q.1 _ heq
      · have heq : (prd q.1 2, q.2.set (f0 + i) (q.2.getD (f0 + i - 4) 0 ^^^ (chg T (rot (q.2.getD (f0 + i - 1) 0)) ^^^ (q.1 * 2 ^ 24)))) = exw T f0 i q := by
          unfold exw
          rw [if_pos hq]
        refine x_aload_n (pc := 69) C (dq D_Model_expand 46 rfl) rfl ?_
        refine x_iload (pc := 70) C (dq D_Model_expand 47 rfl) rfl ?_
        refine x_bipush (pc := 72) C (dq D_Model_expand 48 rfl) cb_8 ?_
        refine n_ishlM (pc := 74) C (dq D_Model_expand 49 rfl) ht (by omega) ?_
        refine x_iload (pc := 75) C (dq D_Model_expand 50 rfl) rfl ?_
        refine x_bipush (pc := 77) C (dq D_Model_expand 51 rfl) cb_24 ?_
        refine n_iushr (pc := 79) C (dq D_Model_expand 52 rfl) (by omega) ht ?_
        refine n_ior (pc := 80) C (dq D_Model_expand 53 rfl) ?_
        refine x_cV1 (pc := 81) (ci := 1) (M := M_Model_changed) C (dq D_Model_expand 54 rfl) k_ml_Model_71 m_Model_changed rfl rfl (mo hP) (c_changed (mo hP) (ma hP rfl rfl) hT.1 hT.2 (rot32 ht)) rfl rfl rfl rfl (by decide) ?_
        refine x_iload (pc := 84) C (dq D_Model_expand 55 rfl) rfl ?_
        refine x_bipush (pc := 86) C (dq D_Model_expand 56 rfl) cb_24 ?_
        refine n_ishl (pc := 88) C (dq D_Model_expand 57 rfl) (by omega) (by omega) ?_
        refine n_ixor (pc := 89) C (dq D_Model_expand 58 rfl) ?_
        refine x_istore (i := 8) (pc := 90) C (dq D_Model_expand 59 rfl) rfl rfl rfl ?_
        simp only [List.set_cons_zero, List.set_cons_succ]
        refine x_iload (pc := 92) C (dq D_Model_expand 60 rfl) rfl ?_
        refine x_iconst (pc := 94) C (dq D_Model_expand 61 rfl) ci_2 ?_
        refine x_cS1 (pc := 95) (M := M_Model_product) C (dq D_Model_expand 62 rfl) k_ml_Model_68 m_Model_product (c_product q1 (by omega)) rfl rfl rfl rfl (by decide) ?_
        refine x_istore (i := 6) (pc := 98) C (dq D_Model_expand 63 rfl) rfl rfl rfl ?_
        simp only [List.set_cons_zero, List.set_cons_succ]
        exact fin _ _ heq
  refine x_aload_n (pc := 0) C (dq D_Model_expand 0 rfl) rfl ?_
  refine x_get (pc := 1) (ci := 1) (j := 1) C (dq D_Model_expand 1 rfl) rfl rfl (by first | exact mo hP | exact ma hP rfl rfl) rfl k_fl_Model_7 ?_
  refine x_iload_n (pc := 4) C (dq D_Model_expand 2 rfl) rfl ?_
  refine x_iload_n (pc := 5) C (dq D_Model_expand 3 rfl) rfl ?_
  refine x_iast (pc := 6) C (dq D_Model_expand 4 rfl) (by first | exact mo hP | exact ma hP rfl rfl) (by (try simp only [List.length_set]); omega) ?_
  try rw [List.set_set]
  rw [mh_s hP rfl rfl]
  simp only [Nat.reduceSub, List.set_cons_zero, List.set_cons_succ]
  refine x_aload_n (pc := 7) C (dq D_Model_expand 5 rfl) rfl ?_
  refine x_get (pc := 8) (ci := 1) (j := 1) C (dq D_Model_expand 6 rfl) rfl rfl (by first | exact mo hP | exact ma hP rfl rfl) rfl k_fl_Model_7 ?_
  refine x_iload_n (pc := 11) C (dq D_Model_expand 7 rfl) rfl ?_
  refine x_iconst (pc := 12) C (dq D_Model_expand 8 rfl) ci_1 ?_
  refine n_iadd (pc := 13) C (dq D_Model_expand 9 rfl) ?_
  refine x_iload_n (pc := 14) C (dq D_Model_expand 10 rfl) rfl ?_
  refine x_iast (pc := 15) C (dq D_Model_expand 11 rfl) (by first | exact mo hP | exact ma hP rfl rfl) (by (try simp only [List.length_set]); omega) ?_
  try rw [List.set_set]
  rw [mh_s hP rfl rfl]
  simp only [Nat.reduceSub, List.set_cons_zero, List.set_cons_succ]
  refine x_aload_n (pc := 16) C (dq D_Model_expand 12 rfl) rfl ?_
  refine x_get (pc := 17) (ci := 1) (j := 1) C (dq D_Model_expand 13 rfl) rfl rfl (by first | exact mo hP | exact ma hP rfl rfl) rfl k_fl_Model_7 ?_
  refine x_iload_n (pc := 20) C (dq D_Model_expand 14 rfl) rfl ?_
  refine x_iconst (pc := 21) C (dq D_Model_expand 15 rfl) ci_2 ?_
  refine n_iadd (pc := 22) C (dq D_Model_expand 16 rfl) ?_
  refine x_iload (pc := 23) C (dq D_Model_expand 17 rfl) rfl ?_
  refine x_iast (pc := 25) C (dq D_Model_expand 18 rfl) (by first | exact mo hP | exact ma hP rfl rfl) (by (try simp only [List.length_set]); omega) ?_
  try rw [List.set_set]
  rw [mh_s hP rfl rfl]
  simp only [Nat.reduceSub, List.set_cons_zero, List.set_cons_succ]
  refine x_aload_n (pc := 26) C (dq D_Model_expand 19 rfl) rfl ?_
  refine x_get (pc := 27) (ci := 1) (j := 1) C (dq D_Model_expand 20 rfl) rfl rfl (by first | exact mo hP | exact ma hP rfl rfl) rfl k_fl_Model_7 ?_
  refine x_iload_n (pc := 30) C (dq D_Model_expand 21 rfl) rfl ?_
  refine x_iconst (pc := 31) C (dq D_Model_expand 22 rfl) ci_3 ?_
  refine n_iadd (pc := 32) C (dq D_Model_expand 23 rfl) ?_
  refine x_iload (pc := 33) C (dq D_Model_expand 24 rfl) rfl ?_
  refine x_iast (pc := 35) C (dq D_Model_expand 25 rfl) (by first | exact mo hP | exact ma hP rfl rfl) (by (try simp only [List.length_set]); omega) ?_
  try rw [List.set_set]
  rw [mh_s hP rfl rfl]
  simp only [Nat.reduceSub, List.set_cons_zero, List.set_cons_succ]
  refine x_iconst (pc := 36) C (dq D_Model_expand 26 rfl) ci_1 ?_
  refine x_istore (i := 6) (pc := 37) C (dq D_Model_expand 27 rfl) rfl rfl rfl ?_
  simp only [List.set_cons_zero, List.set_cons_succ]
  refine x_iconst (pc := 39) C (dq D_Model_expand 28 rfl) ci_4 ?_
  refine x_istore (i := 7) (pc := 40) C (dq D_Model_expand 29 rfl) rfl rfl rfl ?_
  simp only [List.set_cons_zero, List.set_cons_succ]
  exact loop 40 4 (1, mk4 f0 a b c d W) none rfl (by omega) ⟨show 1 < 256 by omega, hm4.1, hm4.2⟩ (by rw [mky])
theorem cm_thrown {g : Gp} {P S : Hp} {cd ni no nt nr nl : Nat} {W T U IN OUT IS IB BL MV ROW TX MA SM KP : List Nat} (hP : P.length = 44) : Con g M_Model_thrown 0 (0, 0) [.ref (zA (gz g) 44)] (mh g P cd ni no nt nr nl [W, T, U, IN, OUT, IS, IB, BL, MV, ROW, TX, MA, SM, KP] S) (Ret (some (.int (nI cd))) (mh g P cd ni no nt nr nl [W, T, U, IN, OUT, IS, IB, BL, MV, ROW, TX, MA, SM, KP] S)) := by
  refine Con.of (by decide) rfl rfl (L := [some (.ref (zA (gz g) 44))]) rfl (fun f C => ?_)
  refine x_aload_n (pc := 0) C (dq D_Model_thrown 0 rfl) rfl ?_
  refine x_get (pc := 1) (ci := 1) (j := 0) C (dq D_Model_thrown 1 rfl) rfl rfl (mo hP) rfl k_fl_Model_64 ?_
  exact x_iret (pc := 4) C (dq D_Model_thrown 2 rfl) rfl (by decide) ⟨rfl, rfl⟩
theorem cm_size {g : Gp} {P S : Hp} {cd ni no nt nr nl : Nat} {W T U IN OUT IS IB BL MV ROW TX MA SM KP : List Nat} (hP : P.length = 44) : Con g M_Model_size 0 (0, 0) [.ref (zA (gz g) 44)] (mh g P cd ni no nt nr nl [W, T, U, IN, OUT, IS, IB, BL, MV, ROW, TX, MA, SM, KP] S) (Ret (some (.int (nI no))) (mh g P 0 ni no nt nr nl [W, T, U, IN, OUT, IS, IB, BL, MV, ROW, TX, MA, SM, KP] S)) := by
  refine Con.of (by decide) rfl rfl (L := [some (.ref (zA (gz g) 44))]) rfl (fun f C => ?_)
  refine x_aload_n (pc := 0) C (dq D_Model_size 0 rfl) rfl ?_
  refine x_iconst (pc := 1) C (dq D_Model_size 1 rfl) ci_0 ?_
  refine x_put (pc := 2) (ci := 1) (j := 0) (ty := .int) C (dq D_Model_size 2 rfl) rfl rfl (mo hP) rfl k_fl_Model_64 (Or.inl rfl) (by decide +kernel) rfl rfl ?_
  simp only [List.set_cons_zero, List.set_cons_succ]
  rw [mh_p hP]
  refine x_aload_n (pc := 5) C (dq D_Model_size 3 rfl) rfl ?_
  refine x_get (pc := 6) (ci := 1) (j := 6) C (dq D_Model_size 4 rfl) rfl rfl (mo hP) rfl k_fl_Model_136 ?_
  exact x_iret (pc := 9) C (dq D_Model_size 5 rfl) rfl (by decide) ⟨rfl, rfl⟩
theorem cm_drop {g : Gp} {P S : Hp} {cd ni no nt nr nl : Nat} {W T U IN OUT IS IB BL MV ROW TX MA SM KP : List Nat} (hP : P.length = 44) : Con g M_Model_drop 0 (0, 0) [.ref (zA (gz g) 44)] (mh g P cd ni no nt nr nl [W, T, U, IN, OUT, IS, IB, BL, MV, ROW, TX, MA, SM, KP] S) (Ret none (mh g P 0 0 no nt nr nl [W, T, U, IN, OUT, IS, IB, BL, MV, ROW, TX, MA, SM, KP] S)) := by
  refine Con.of (by decide) rfl rfl (L := [some (.ref (zA (gz g) 44))]) rfl (fun f C => ?_)
  refine x_aload_n (pc := 0) C (dq D_Model_drop 0 rfl) rfl ?_
  refine x_iconst (pc := 1) C (dq D_Model_drop 1 rfl) ci_0 ?_
  refine x_put (pc := 2) (ci := 1) (j := 0) (ty := .int) C (dq D_Model_drop 2 rfl) rfl rfl (mo hP) rfl k_fl_Model_64 (Or.inl rfl) (by decide +kernel) rfl rfl ?_
  simp only [List.set_cons_zero, List.set_cons_succ]
  rw [mh_p hP]
  refine x_aload_n (pc := 5) C (dq D_Model_drop 3 rfl) rfl ?_
  refine x_iconst (pc := 6) C (dq D_Model_drop 4 rfl) ci_0 ?_
  refine x_put (pc := 7) (ci := 1) (j := 4) (ty := .int) C (dq D_Model_drop 5 rfl) rfl rfl (mo hP) rfl k_fl_Model_133 (Or.inl rfl) (by decide +kernel) rfl rfl ?_
  simp only [List.set_cons_zero, List.set_cons_succ]
  rw [mh_p hP]
  exact x_vret (pc := 10) C (dq D_Model_drop 6 rfl) rfl (by decide) ⟨rfl, rfl⟩
theorem cm_forget {g : Gp} {P S : Hp} {cd ni no nt nr nl : Nat} {W T U IN OUT IS IB BL MV ROW TX MA SM KP : List Nat} (hP : P.length = 44) : Con g M_Model_forget 0 (0, 0) [.ref (zA (gz g) 44)] (mh g P cd ni no nt nr nl [W, T, U, IN, OUT, IS, IB, BL, MV, ROW, TX, MA, SM, KP] S) (Ret (some (.int (nI nt))) (mh g P 0 ni no 0 nr nl [W, T, U, IN, OUT, IS, IB, BL, MV, ROW, TX, MA, SM, KP] S)) := by
  refine Con.of (by decide) rfl rfl (L := [some (.ref (zA (gz g) 44)), none]) rfl (fun f C => ?_)
  refine x_aload_n (pc := 0) C (dq D_Model_forget 0 rfl) rfl ?_
  refine x_iconst (pc := 1) C (dq D_Model_forget 1 rfl) ci_0 ?_
  refine x_put (pc := 2) (ci := 1) (j := 0) (ty := .int) C (dq D_Model_forget 2 rfl) rfl rfl (mo hP) rfl k_fl_Model_64 (Or.inl rfl) (by decide +kernel) rfl rfl ?_
  simp only [List.set_cons_zero, List.set_cons_succ]
  rw [mh_p hP]
  refine x_aload_n (pc := 5) C (dq D_Model_forget 3 rfl) rfl ?_
  refine x_get (pc := 6) (ci := 1) (j := 8) C (dq D_Model_forget 4 rfl) rfl rfl (mo hP) rfl k_fl_Model_94 ?_
  refine x_istore_n (i := 1) (pc := 9) C (dq D_Model_forget 5 rfl) rfl rfl rfl ?_
  simp only [List.set_cons_zero, List.set_cons_succ]
  refine x_aload_n (pc := 10) C (dq D_Model_forget 6 rfl) rfl ?_
  refine x_iconst (pc := 11) C (dq D_Model_forget 7 rfl) ci_0 ?_
  refine x_put (pc := 12) (ci := 1) (j := 8) (ty := .int) C (dq D_Model_forget 8 rfl) rfl rfl (mo hP) rfl k_fl_Model_94 (Or.inl rfl) (by decide +kernel) rfl rfl ?_
  simp only [List.set_cons_zero, List.set_cons_succ]
  rw [mh_p hP]
  refine x_iload_n (pc := 15) C (dq D_Model_forget 9 rfl) rfl ?_
  exact x_iret (pc := 16) C (dq D_Model_forget 10 rfl) rfl (by decide) ⟨rfl, rfl⟩
theorem cm_take {g : Gp} {P S : Hp} {cd ni no nt nr nl : Nat} {W T U IN OUT IS IB BL MV ROW TX MA SM KP : List Nat} (hP : P.length = 44) (hI : IN.length = 88) (hO : OUT.length = 112) (hn : no ≤ 88) : Con g M_Model_take 0 (0, 0) [.ref (zA (gz g) 44)] (mh g P cd ni no nt nr nl [W, T, U, IN, OUT, IS, IB, BL, MV, ROW, TX, MA, SM, KP] S) (Ret (some (.int (nI no))) (mh g P 0 no no nt nr nl [W, T, U, (it (cp1 OUT) 0 no IN), OUT, IS, IB, BL, MV, ROW, TX, MA, SM, KP] S)) := by
  refine Con.of (by decide) rfl rfl (L := [some (.ref (zA (gz g) 44)), none]) rfl (fun f C => ?_)
  have loop : ∀ (d k : Nat) (R : List Nat), k + d = no → R.length = 88 → X g f M_Model_take (0, 0) (Ret (some (.int (nI no))) (mh g P 0 no no nt nr nl [W, T, U, (it (cp1 OUT) k d R), OUT, IS, IB, BL, MV, ROW, TX, MA, SM, KP] S)) (0, 0) 15 [some (.ref (zA (gz g) 44)), some (.int (nI k))] [] (mh g P 0 no no nt nr nl [W, T, U, R, OUT, IS, IB, BL, MV, ROW, TX, MA, SM, KP] S) := by
    intro d
    induction d with
    | zero =>
      intro k R hkd hR
      refine x_iload_n (pc := 15) C (dq D_Model_take 9 rfl) rfl ?_
      refine x_aload_n (pc := 16) C (dq D_Model_take 10 rfl) rfl ?_
      refine x_get (pc := 17) (ci := 1) (j := 6) C (dq D_Model_take 11 rfl) rfl rfl (mo hP) rfl k_fl_Model_136 ?_
      refine n_ge_t (pc := 20) (tgt := 41) C (dq D_Model_take 12 rfl) (by decide) (by omega) (by omega) ?_
      refine x_aload_n (pc := 41) C (dq D_Model_take 23 rfl) rfl ?_
      refine x_get (pc := 42) (ci := 1) (j := 4) C (dq D_Model_take 24 rfl) rfl rfl (mo hP) rfl k_fl_Model_133 ?_
      exact x_iret (pc := 45) C (dq D_Model_take 25 rfl) rfl (by decide) ⟨rfl, rfl⟩
    | succ d ih =>
      intro k R hkd hR
      refine x_iload_n (pc := 15) C (dq D_Model_take 9 rfl) rfl ?_
      refine x_aload_n (pc := 16) C (dq D_Model_take 10 rfl) rfl ?_
      refine x_get (pc := 17) (ci := 1) (j := 6) C (dq D_Model_take 11 rfl) rfl rfl (by first | exact mo hP | exact ma hP rfl rfl) rfl k_fl_Model_136 ?_
      refine n_ge_f (pc := 20) (tgt := 41) C (dq D_Model_take 12 rfl) (by decide) (by omega) (by omega) ?_
      refine x_aload_n (pc := 23) C (dq D_Model_take 13 rfl) rfl ?_
      refine x_get (pc := 24) (ci := 1) (j := 5) C (dq D_Model_take 14 rfl) rfl rfl (by first | exact mo hP | exact ma hP rfl rfl) rfl k_fl_Model_19 ?_
      refine x_iload_n (pc := 27) C (dq D_Model_take 15 rfl) rfl ?_
      refine x_aload_n (pc := 28) C (dq D_Model_take 16 rfl) rfl ?_
      refine x_get (pc := 29) (ci := 1) (j := 7) C (dq D_Model_take 17 rfl) rfl rfl (by first | exact mo hP | exact ma hP rfl rfl) rfl k_fl_Model_22 ?_
      refine x_iload_n (pc := 32) C (dq D_Model_take 18 rfl) rfl ?_
      refine x_iald (pc := 33) C (dq D_Model_take 19 rfl) (by first | exact mo hP | exact ma hP rfl rfl) (by (try simp only [List.length_set]); omega) ?_
      refine x_iast (pc := 34) C (dq D_Model_take 20 rfl) (by first | exact mo hP | exact ma hP rfl rfl) (by (try simp only [List.length_set]); omega) ?_
      try rw [List.set_set]
      refine x_iinc (pc := 35) C (dq D_Model_take 21 rfl) rfl (ii_1 _) rfl rfl ?_
      simp only [List.set_cons_zero, List.set_cons_succ]
      rw [mh_s hP rfl rfl]
      simp only [Nat.reduceSub, List.set_cons_zero, List.set_cons_succ]
      refine x_goto (pc := 38) (tgt := 15) C (dq D_Model_take 22 rfl) (by decide) ?_
      exact ih (k + 1) (cp1 OUT k R) (by omega) (by rw [cp1_len]; exact hR)
  refine x_aload_n (pc := 0) C (dq D_Model_take 0 rfl) rfl ?_
  refine x_iconst (pc := 1) C (dq D_Model_take 1 rfl) ci_0 ?_
  refine x_put (pc := 2) (ci := 1) (j := 0) (ty := .int) C (dq D_Model_take 2 rfl) rfl rfl (mo hP) rfl k_fl_Model_64 (Or.inl rfl) (by decide +kernel) rfl rfl ?_
  simp only [List.set_cons_zero, List.set_cons_succ]
  rw [mh_p hP]
  refine x_aload_n (pc := 5) C (dq D_Model_take 3 rfl) rfl ?_
  refine x_aload_n (pc := 6) C (dq D_Model_take 4 rfl) rfl ?_
  refine x_get (pc := 7) (ci := 1) (j := 6) C (dq D_Model_take 5 rfl) rfl rfl (mo hP) rfl k_fl_Model_136 ?_
  refine x_put (pc := 10) (ci := 1) (j := 4) (ty := .int) C (dq D_Model_take 6 rfl) rfl rfl (mo hP) rfl k_fl_Model_133 (Or.inl rfl) (by decide +kernel) rfl rfl ?_
  simp only [List.set_cons_zero, List.set_cons_succ]
  rw [mh_p hP]
  refine x_iconst (pc := 13) C (dq D_Model_take 7 rfl) ci_0 ?_
  refine x_istore_n (i := 1) (pc := 14) C (dq D_Model_take 8 rfl) rfl rfl rfl ?_
  simp only [List.set_cons_zero, List.set_cons_succ]
  exact loop no 0 IN (by omega) hI
theorem cm_at_ok {g : Gp} {P S : Hp} {cd ni no nt nr nl : Nat} {W T U IN OUT IS IB BL MV ROW TX MA SM KP : List Nat} {k : Nat} (hP : P.length = 44) (hO : OUT.length = 112) (hk : k < no) (hn : no ≤ 88) : Con g M_Model_at 0 (0, 0) [.ref (zA (gz g) 44), .int (nI k)] (mh g P cd ni no nt nr nl [W, T, U, IN, OUT, IS, IB, BL, MV, ROW, TX, MA, SM, KP] S) (Ret (some (.int (nI (OUT.getD k 0)))) (mh g P 0 ni no nt nr nl [W, T, U, IN, OUT, IS, IB, BL, MV, ROW, TX, MA, SM, KP] S)) := by
  refine Con.of (by decide) rfl rfl (L := [some (.ref (zA (gz g) 44)), some (.int (nI k))]) rfl (fun f C => ?_)
  refine x_aload_n (pc := 0) C (dq D_Model_at 0 rfl) rfl ?_
  refine x_iload_n (pc := 1) C (dq D_Model_at 1 rfl) rfl ?_
  refine n_iflt_f (pc := 2) (tgt := 13) C (dq D_Model_at 2 rfl) (by decide) (by omega) (by omega) ?_
  refine x_iload_n (pc := 5) C (dq D_Model_at 3 rfl) rfl ?_
  refine x_aload_n (pc := 6) C (dq D_Model_at 4 rfl) rfl ?_
  refine x_get (pc := 7) (ci := 1) (j := 6) C (dq D_Model_at 5 rfl) rfl rfl (mo hP) rfl k_fl_Model_136 ?_
  refine n_lt_t (pc := 10) (tgt := 17) C (dq D_Model_at 6 rfl) (by decide) (by omega) (by omega) ?_
  refine x_iconst (pc := 17) C (dq D_Model_at 9 rfl) ci_0 ?_
  refine x_put (pc := 18) (ci := 1) (j := 0) (ty := .int) C (dq D_Model_at 10 rfl) rfl rfl (mo hP) rfl k_fl_Model_64 (Or.inl rfl) (by decide +kernel) rfl rfl ?_
  simp only [List.set_cons_zero, List.set_cons_succ]
  rw [mh_p hP]
  refine x_aload_n (pc := 21) C (dq D_Model_at 11 rfl) rfl ?_
  refine x_get (pc := 22) (ci := 1) (j := 0) C (dq D_Model_at 12 rfl) rfl rfl (by first | exact mo hP | exact ma hP rfl rfl) rfl k_fl_Model_64 ?_
  refine n_ifle_t (pc := 25) (tgt := 32) C (dq D_Model_at 13 rfl) (by decide) (by omega) (by omega) ?_
  refine x_aload_n (pc := 32) C (dq D_Model_at 16 rfl) rfl ?_
  refine x_get (pc := 33) (ci := 1) (j := 7) C (dq D_Model_at 17 rfl) rfl rfl (by first | exact mo hP | exact ma hP rfl rfl) rfl k_fl_Model_22 ?_
  refine x_iload_n (pc := 36) C (dq D_Model_at 18 rfl) rfl ?_
  refine x_iald (pc := 37) C (dq D_Model_at 19 rfl) (by first | exact mo hP | exact ma hP rfl rfl) (by (try simp only [List.length_set]); omega) ?_
  exact x_iret (pc := 38) C (dq D_Model_at 20 rfl) rfl (by decide) ⟨rfl, rfl⟩
theorem cm_at_bad {g : Gp} {P S : Hp} {cd ni no nt nr nl : Nat} {W T U IN OUT IS IB BL MV ROW TX MA SM KP : List Nat} {x : Int32} (hP : P.length = 44) (hx : x < 0 ∨ nI no ≤ x) : Con g M_Model_at 0 (0, 0) [.ref (zA (gz g) 44), .int x] (mh g P cd ni no nt nr nl [W, T, U, IN, OUT, IS, IB, BL, MV, ROW, TX, MA, SM, KP] S) (Ret (some (.int (nI 0))) (mh g P 1 ni no nt nr nl [W, T, U, IN, OUT, IS, IB, BL, MV, ROW, TX, MA, SM, KP] S)) := by
  refine Con.of (by decide) rfl rfl (L := [some (.ref (zA (gz g) 44)), some (.int x)]) rfl (fun f C => ?_)
  have bad : X g f M_Model_at (0, 0) (Ret (some (.int (nI 0))) (mh g P 1 ni no nt nr nl [W, T, U, IN, OUT, IS, IB, BL, MV, ROW, TX, MA, SM, KP] S)) (0, 0) 13 [some (.ref (zA (gz g) 44)), some (.int x)] [.ref (zA (gz g) 44)] (mh g P cd ni no nt nr nl [W, T, U, IN, OUT, IS, IB, BL, MV, ROW, TX, MA, SM, KP] S) := by
    refine x_iconst (pc := 13) C (dq D_Model_at 7 rfl) ci_1 ?_
    refine x_goto (pc := 14) (tgt := 18) C (dq D_Model_at 8 rfl) (by decide) ?_
    refine x_put (pc := 18) (ci := 1) (j := 0) (ty := .int) C (dq D_Model_at 10 rfl) rfl rfl (mo hP) rfl k_fl_Model_64 (Or.inl rfl) (by decide +kernel) rfl rfl ?_
    simp only [List.set_cons_zero, List.set_cons_succ]
    rw [mh_p hP]
    refine x_aload_n (pc := 21) C (dq D_Model_at 11 rfl) rfl ?_
    refine x_get (pc := 22) (ci := 1) (j := 0) C (dq D_Model_at 12 rfl) rfl rfl (mo hP) rfl k_fl_Model_64 ?_
    refine n_ifle_f (pc := 25) (tgt := 32) C (dq D_Model_at 13 rfl) (by decide) (by omega) (by omega) ?_
    refine x_iconst (pc := 28) C (dq D_Model_at 14 rfl) ci_0 ?_
    refine x_goto (pc := 29) (tgt := 38) C (dq D_Model_at 15 rfl) (by decide) ?_
    exact x_iret (pc := 38) C (dq D_Model_at 20 rfl) rfl (by decide) ⟨rfl, rfl⟩
  refine x_aload_n (pc := 0) C (dq D_Model_at 0 rfl) rfl ?_
  refine x_iload_n (pc := 1) C (dq D_Model_at 1 rfl) rfl ?_
  refine x_iflt (pc := 2) (tgt := 13) C (dq D_Model_at 2 rfl) (by decide) (fun hq => ?_) (fun hq => ?_)
  · exact bad
  · have hq0 := hq
    refine x_iload_n (pc := 5) C (dq D_Model_at 3 rfl) rfl ?_
    refine x_aload_n (pc := 6) C (dq D_Model_at 4 rfl) rfl ?_
    refine x_get (pc := 7) (ci := 1) (j := 6) C (dq D_Model_at 5 rfl) rfl rfl (mo hP) rfl k_fl_Model_136 ?_
    refine x_lt (pc := 10) (tgt := 17) C (dq D_Model_at 6 rfl) (by decide) (fun hq => ?_) (fun hq => ?_)
    · exact absurd hx (fun z => z.elim hq0 (fun y => Int32.not_lt.mpr y hq))
    · exact bad
