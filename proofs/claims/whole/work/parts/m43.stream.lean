/-! The class's marked way. -/
def incs (k : Nat) (q : Nat × List Nat) : Nat × List Nat := ((q.2.getD k 0 + q.1) / 2 ^ 8, q.2.set k ((q.2.getD k 0 + q.1) &&& 255))
/-- one more, on sixteen bytes -/
def inc (A : List Nat) : List Nat := (it (fun i => incs (15 - i)) 0 16 (1, A)).2
theorem incs_ok (k : Nat) {q : Nat × List Nat} (h : q.1 ≤ 1 ∧ l16 q.2) : (incs k q).1 ≤ 1 ∧ l16 (incs k q).2 := by
  have h1 := h.2.2.at k
  have h0 := h.1
  unfold incs
  dsimp only
  exact ⟨by omega, by rw [List.length_set]; exact h.2.1, h.2.2.set (and8 _)⟩
theorem inc_ok {A : List Nat} (h : l16 A) : l16 (inc A) := by
  have h1 := it_inv (fun q : Nat × List Nat => q.1 ≤ 1 ∧ l16 q.2) 16 0 (1, A) (fun j q _ _ hq => incs_ok (15 - j) hq) ⟨show 1 ≤ 1 by omega, h⟩
  unfold inc
  exact h1.2
def ct0 (M : List Nat) : List Nat := ((M.take 16).set 8 ((M.take 16).getD 8 0 &&& 127)).set 12 (((M.take 16).set 8 ((M.take 16).getD 8 0 &&& 127)).getD 12 0 &&& 127)
def ast (FO K : List Nat) (s k : Nat) (q : List Nat × List Nat × List Nat) : List Nat × List Nat × List Nat :=
  if (k - s) % 16 = 0 then (q.1.set k (q.1.getD k 0 ^^^ (trn FO K q.2.1).getD ((k - s) % 16) 0), inc q.2.1, trn FO K q.2.1) else (q.1.set k (q.1.getD k 0 ^^^ q.2.2.getD ((k - s) % 16) 0), q.2)
theorem and127 (a : Nat) : a &&& 127 < 256 := Nat.lt_of_le_of_lt Nat.and_le_right (by omega)
theorem ct0_ok {M : List Nat} (hl : 16 ≤ M.length) (h : by8 M) : l16 (ct0 M) := by
  unfold ct0
  exact ⟨by rw [List.length_set, List.length_set, List.length_take]; omega, ((h.take 16).set (and127 _)).set (and127 _)⟩
theorem ast_ok {FO K : List Nat} (hF : by8 FO) (hK : by8 K) (s k : Nat) {q : List Nat × List Nat × List Nat} (h : l88 q.1 ∧ l16 q.2.1 ∧ l16 q.2.2) : l88 (ast FO K s k q).1 ∧ l16 (ast FO K s k q).2.1 ∧ l16 (ast FO K s k q).2.2 := by
  obtain ⟨a, b, c⟩ := h
  have t : l16 (trn FO K q.2.1) := ⟨by rw [trn_len]; exact b.1, trn8 hF hK b.2⟩
  unfold ast
  split
  · dsimp only
    exact ⟨⟨by rw [List.length_set]; exact a.1, a.2.set (xor8 (a.2.at _) (t.2.at _))⟩, inc_ok b, t⟩
  · dsimp only
    exact ⟨⟨by rw [List.length_set]; exact a.1, a.2.set (xor8 (a.2.at _) (c.2.at _))⟩, b, c⟩
set_option maxHeartbeats 4000000 in
theorem c_nextBlock {g : Gp} {nj ct n0 n1 n2 n3 n4 ni no np : Nat} {FO BA PW K1 F1 K2 F2 WB TW SM JB B0 B1 B2 B3 B4 SG CT MB IN OU OP : List Nat} {S : Hp} (hT : tok FO BA) (hK : kok K2) (hF : F2.length = 16) (hCT : l16 CT) (hMB : l16 MB) :
    Con g M_Marked_nextBlock 3 (0, 0) [.ref (zA (gz g) 32)] (dh g nj ct n0 n1 n2 n3 n4 ni no np FO BA PW K1 F1 K2 F2 WB TW SM JB B0 B1 B2 B3 B4 SG CT MB IN OU OP S) (fun o h' => o = .returned none ∧ ∃ F : List Nat, F.length = 16 ∧ h' = (dh g nj ct n0 n1 n2 n3 n4 ni no np FO BA PW K1 F1 K2 F WB TW SM JB B0 B1 B2 B3 B4 SG (inc CT) (trn FO K2 CT) IN OU OP S)) := by
  have hl := hCT.1
  have hm := hMB.1
  refine Con.of (by decide) rfl rfl (L := [some (.ref (zA (gz g) 32)), none, none, none]) rfl (fun f C => ?_)
  have loop : ∀ (d i : Nat) (x : Int32) (q : Nat × List Nat) (F : List Nat) (l3 : Option Value), i + d = 16 → (d = 0 → x = -1) → (∀ e, d = e + 1 → x = nI e) → F.length = 16 → q.1 ≤ 1 ∧ l16 q.2 → (it (fun i => incs (15 - i)) i d q).2 = inc CT → X g f M_Marked_nextBlock (0, 0) (fun o h' => o = .returned none ∧ ∃ F : List Nat, F.length = 16 ∧ h' = (dh g nj ct n0 n1 n2 n3 n4 ni no np FO BA PW K1 F1 K2 F WB TW SM JB B0 B1 B2 B3 B4 SG (inc CT) (trn FO K2 CT) IN OU OP S)) (0, 0) 31 [some (.ref (zA (gz g) 32)), some (.int (nI q.1)), some (.int x), l3] [] (dh g nj ct n0 n1 n2 n3 n4 ni no np FO BA PW K1 F1 K2 F WB TW SM JB B0 B1 B2 B3 B4 SG q.2 (trn FO K2 CT) IN OU OP S) := by
    intro d
    induction d with
    | zero =>
      intro i x q F l3 hid hx0 hx1 hF hq he
      rw [it_zero] at he
      rw [he]
      obtain rfl := hx0 rfl
      refine x_iload_n (pc := 31) C (dq D_Marked_nextBlock 17 rfl) rfl ?_
      refine x_iflt (pc := 32) (tgt := 66) C (dq D_Marked_nextBlock 18 rfl) (by decide) (fun _ => ?_) (fun q => absurd (by decide) q)
      exact x_vret (pc := 66) C (dq D_Marked_nextBlock 39 rfl) rfl (by decide) ⟨rfl, F, hF, rfl⟩
    | succ d ih =>
      intro i x q F l3 hid hx0 hx1 hF hq he
      obtain rfl := hx1 d rfl
      have e0 : 15 - i = d := by omega
      have hv := hq.2.2.at d
      have hq1 := hq.1
      have hql := hq.2.1
      refine x_iload_n (pc := 31) C (dq D_Marked_nextBlock 17 rfl) rfl ?_
      refine n_iflt_f (pc := 32) (tgt := 66) C (dq D_Marked_nextBlock 18 rfl) (by decide) (by omega) (by omega) ?_
      refine x_aload_n (pc := 35) C (dq D_Marked_nextBlock 19 rfl) rfl ?_
      refine x_get (pc := 36) (ci := 4) (j := 4) C (dq D_Marked_nextBlock 20 rfl) rfl rfl rfl rfl k_fl_Marked_15 ?_
      refine x_iload_n (pc := 39) C (dq D_Marked_nextBlock 21 rfl) rfl ?_
      refine x_iald (pc := 40) C (dq D_Marked_nextBlock 22 rfl) rfl (by (try simp only [List.length_set]); omega) ?_
      refine x_iload_n (pc := 41) C (dq D_Marked_nextBlock 23 rfl) rfl ?_
      refine n_iadd (pc := 42) C (dq D_Marked_nextBlock 24 rfl) ?_
      refine x_istore_n (i := 3) (pc := 43) C (dq D_Marked_nextBlock 25 rfl) rfl rfl rfl ?_
      simp only [List.set_cons_zero, List.set_cons_succ]
      refine x_aload_n (pc := 44) C (dq D_Marked_nextBlock 26 rfl) rfl ?_
      refine x_get (pc := 45) (ci := 4) (j := 4) C (dq D_Marked_nextBlock 27 rfl) rfl rfl rfl rfl k_fl_Marked_15 ?_
      refine x_iload_n (pc := 48) C (dq D_Marked_nextBlock 28 rfl) rfl ?_
      refine x_iload_n (pc := 49) C (dq D_Marked_nextBlock 29 rfl) rfl ?_
      refine x_sipush (pc := 50) C (dq D_Marked_nextBlock 30 rfl) cs_255 ?_
      refine n_iand (pc := 53) C (dq D_Marked_nextBlock 31 rfl) ?_
      refine x_iast (pc := 54) C (dq D_Marked_nextBlock 32 rfl) rfl (by (try simp only [List.length_set]); omega) ?_
      try rw [List.set_set]
      rw [dh_s34]
      refine x_iload_n (pc := 55) C (dq D_Marked_nextBlock 33 rfl) rfl ?_
      refine x_bipush (pc := 56) C (dq D_Marked_nextBlock 34 rfl) cb_8 ?_
      refine n_ishr (pc := 58) C (dq D_Marked_nextBlock 35 rfl) (by omega) (by omega) ?_
      refine x_istore_n (i := 1) (pc := 59) C (dq D_Marked_nextBlock 36 rfl) rfl rfl rfl ?_
      simp only [List.set_cons_zero, List.set_cons_succ]
      refine x_iinc (pc := 60) C (dq D_Marked_nextBlock 37 rfl) rfl rfl rfl rfl ?_
      simp only [List.set_cons_zero, List.set_cons_succ]
      refine x_goto (pc := 63) (tgt := 31) C (dq D_Marked_nextBlock 38 rfl) (by decide) ?_
      refine ih (i + 1) _ (incs d q) F _ (by omega) (fun z => by subst z; decide +kernel) (fun e z => by subst z; exact iim (by omega)) hF (incs_ok d hq) ?_
      rw [it_succ, e0] at he
      exact he
  refine x_aload_n (pc := 0) C (dq D_Marked_nextBlock 0 rfl) rfl ?_
  refine x_get (pc := 1) (ci := 4) (j := 4) C (dq D_Marked_nextBlock 1 rfl) rfl rfl rfl rfl k_fl_Marked_15 ?_
  refine x_iconst (pc := 4) C (dq D_Marked_nextBlock 2 rfl) ci_0 ?_
  refine x_aload_n (pc := 5) C (dq D_Marked_nextBlock 3 rfl) rfl ?_
  refine x_get (pc := 6) (ci := 4) (j := 5) C (dq D_Marked_nextBlock 4 rfl) rfl rfl rfl rfl k_fl_Marked_18 ?_
  refine x_iconst (pc := 9) C (dq D_Marked_nextBlock 5 rfl) ci_0 ?_
  refine x_bipush (pc := 10) C (dq D_Marked_nextBlock 6 rfl) cb_16 ?_
  refine x_copy (pc := 12) (a := 34) (b := 35) C (dq D_Marked_nextBlock 7 rfl) k_ml_Marked_63 rfl rfl (by omega) (by omega) (by omega) (by decide) rfl rfl ?_
  rw [cpyT (by omega) hMB.1, List.take_of_length_le (by omega), dh_s35]
  refine x_aload_n (pc := 15) C (dq D_Marked_nextBlock 8 rfl) rfl ?_
  refine x_get (pc := 16) (ci := 4) (j := 2) C (dq D_Marked_nextBlock 9 rfl) rfl rfl rfl rfl k_fl_Marked_29 ?_
  refine x_aload_n (pc := 19) C (dq D_Marked_nextBlock 10 rfl) rfl ?_
  refine x_get (pc := 20) (ci := 4) (j := 5) C (dq D_Marked_nextBlock 11 rfl) rfl rfl rfl rfl k_fl_Marked_18 ?_
  refine x_cV (pc := 23) (ci := 2) (M := M_Cipher_turn) C (dq D_Marked_nextBlock 12 rfl) k_ml_Marked_72 m_Cipher_turn rfl rfl rfl (c_turn (c := 8) (blk := 35) (cip2 hT hK hF) rfl (by decide) (by omega) hCT.2) rfl rfl rfl rfl (by decide) (fun o h2 hp => ?_)
  obtain ⟨rfl, Fx, q1, rfl⟩ := hp
  refine ⟨none, rfl, ?_⟩
  rw [dh_s10, dh_s35]
  show X g f M_Marked_nextBlock (0, 0) (fun o h' => o = .returned none ∧ ∃ F : List Nat, F.length = 16 ∧ h' = (dh g nj ct n0 n1 n2 n3 n4 ni no np FO BA PW K1 F1 K2 F WB TW SM JB B0 B1 B2 B3 B4 SG (inc CT) (trn FO K2 CT) IN OU OP S)) (0, 0) 26 [some (.ref (zA (gz g) 32)), none, none, none] [] (dh g nj ct n0 n1 n2 n3 n4 ni no np FO BA PW K1 F1 K2 Fx WB TW SM JB B0 B1 B2 B3 B4 SG CT (trn FO K2 CT) IN OU OP S)
  refine x_iconst (pc := 26) C (dq D_Marked_nextBlock 13 rfl) ci_1 ?_
  refine x_istore_n (i := 1) (pc := 27) C (dq D_Marked_nextBlock 14 rfl) rfl rfl rfl ?_
  simp only [List.set_cons_zero, List.set_cons_succ]
  refine x_bipush (pc := 28) C (dq D_Marked_nextBlock 15 rfl) cb_15 ?_
  refine x_istore_n (i := 2) (pc := 30) C (dq D_Marked_nextBlock 16 rfl) rfl rfl rfl ?_
  simp only [List.set_cons_zero, List.set_cons_succ]
  exact loop 16 0 (nI 15) (1, CT) Fx none rfl (fun z => by cases z) (fun e z => by rw [show e = 15 by omega]) q1 ⟨show 1 ≤ 1 by omega, hCT⟩ (by rw [inc])
set_option maxHeartbeats 4000000 in
theorem c_addStreamA {g : Gp} {nj ct n0 n1 n2 n3 n4 ni no np : Nat} {FO BA PW K1 F1 K2 F2 WB TW SM JB B0 B1 B2 B3 B4 SG CT MB IN OU OP : List Nat} {S : Hp} (hT : tok FO BA) (hK : kok K2) (hF : F2.length = 16) (hCT : l16 CT) (hMB : l16 MB) (hO : l88 OU) (hM : l88 OU) (hn : 16 ≤ no ∧ no ≤ 88) :
    Con g M_Marked_addStream 4 (0, 0) [.ref (zA (gz g) 32), .ref (zA (gz g) 40), .int (nI 16), .ref (zA (gz g) 41)] (dh g nj ct n0 n1 n2 n3 n4 ni no np FO BA PW K1 F1 K2 F2 WB TW SM JB B0 B1 B2 B3 B4 SG CT MB IN OU OP S) (fun o h' => o = .returned none ∧ ∃ F C2 M2 : List Nat, F.length = 16 ∧ l16 C2 ∧ l16 M2 ∧ h' = (dh g nj ct n0 n1 n2 n3 n4 ni no np FO BA PW K1 F1 K2 F WB TW SM JB B0 B1 B2 B3 B4 SG C2 M2 IN (it (ast FO K2 16) 16 (no - 16) (OU, ct0 OU, MB)).1 OP S)) := by
  have hc0 := ct0_ok (M := OU) (by rw [hM.1]; decide) hM.2
  have hcl := hCT.1
  have hml := hM.1
  refine Con.of (by decide) rfl rfl (L := [some (.ref (zA (gz g) 32)), some (.ref (zA (gz g) 40)), some (.int (nI 16)), some (.ref (zA (gz g) 41)), none, none]) rfl (fun f C => ?_)
  have loop : ∀ (d k : Nat) (q : List Nat × List Nat × List Nat) (F : List Nat) (l5 : Option Value), k + d = no → 16 ≤ k → F.length = 16 → l88 q.1 ∧ l16 q.2.1 ∧ l16 q.2.2 → it (ast FO K2 16) k d q = (it (ast FO K2 16) 16 (no - 16) (OU, ct0 OU, MB)) → X g f M_Marked_addStream (0, 0) (fun o h' => o = .returned none ∧ ∃ F C2 M2 : List Nat, F.length = 16 ∧ l16 C2 ∧ l16 M2 ∧ h' = (dh g nj ct n0 n1 n2 n3 n4 ni no np FO BA PW K1 F1 K2 F WB TW SM JB B0 B1 B2 B3 B4 SG C2 M2 IN (it (ast FO K2 16) 16 (no - 16) (OU, ct0 OU, MB)).1 OP S)) (0, 0) 39 [some (.ref (zA (gz g) 32)), some (.ref (zA (gz g) 40)), some (.int (nI 16)), some (.ref (zA (gz g) 41)), some (.int (nI k)), l5] [] (dh g nj ct n0 n1 n2 n3 n4 ni no np FO BA PW K1 F1 K2 F WB TW SM JB B0 B1 B2 B3 B4 SG q.2.1 q.2.2 IN q.1 OP S) := by
    intro d
    induction d with
    | zero =>
      intro k q F l5 hkd hk hF hq he
      rw [it_zero] at he
      refine x_iload (pc := 39) C (dq D_Marked_addStream 25 rfl) rfl ?_
      refine x_aload_n (pc := 41) C (dq D_Marked_addStream 26 rfl) rfl ?_
      refine x_get (pc := 42) (ci := 7) (j := 1) C (dq D_Marked_addStream 27 rfl) rfl rfl rfl rfl k_fl_Marked_51 ?_
      refine n_ge_t (pc := 45) (tgt := 89) C (dq D_Marked_addStream 28 rfl) (by decide) (by omega) (by omega) ?_
      exact x_vret (pc := 89) C (dq D_Marked_addStream 52 rfl) rfl (by decide) ⟨rfl, F, q.2.1, q.2.2, hF, hq.2.1, hq.2.2, by rw [← he]⟩
    | succ d ih =>
      intro k q F l5 hkd hk hF hq he
      have hok := ast_ok hT.1.2 hK.2 16 k hq
      have hql := hq.1.1
      have hp16 : (k - 16) % 16 < 16 := Nat.mod_lt _ (by omega)
      have fin : ∀ (F C2 M2 : List Nat), F.length = 16 → M2.length = 16 → (q.1.set k (q.1.getD k 0 ^^^ M2.getD ((k - 16) % 16) 0), C2, M2) = ast FO K2 16 k q → X g f M_Marked_addStream (0, 0) (fun o h' => o = .returned none ∧ ∃ F C2 M2 : List Nat, F.length = 16 ∧ l16 C2 ∧ l16 M2 ∧ h' = (dh g nj ct n0 n1 n2 n3 n4 ni no np FO BA PW K1 F1 K2 F WB TW SM JB B0 B1 B2 B3 B4 SG C2 M2 IN (it (ast FO K2 16) 16 (no - 16) (OU, ct0 OU, MB)).1 OP S)) (0, 0) 66 [some (.ref (zA (gz g) 32)), some (.ref (zA (gz g) 40)), some (.int (nI 16)), some (.ref (zA (gz g) 41)), some (.int (nI k)), some (.int (nI ((k - 16) % 16)))] [] (dh g nj ct n0 n1 n2 n3 n4 ni no np FO BA PW K1 F1 K2 F WB TW SM JB B0 B1 B2 B3 B4 SG C2 M2 IN q.1 OP S) := by
        intro F C2 M2 hF hM2 heq
        refine x_aload_n (pc := 66) C (dq D_Marked_addStream 39 rfl) rfl ?_
        refine x_get (pc := 67) (ci := 7) (j := 0) C (dq D_Marked_addStream 40 rfl) rfl rfl rfl rfl k_fl_Marked_48 ?_
        refine x_iload (pc := 70) C (dq D_Marked_addStream 41 rfl) rfl ?_
        refine x_dup2 (pc := 72) C (dq D_Marked_addStream 42 rfl) rfl rfl ?_
        refine x_iald (pc := 73) C (dq D_Marked_addStream 43 rfl) rfl (by (try simp only [List.length_set]); omega) ?_
        refine x_aload_n (pc := 74) C (dq D_Marked_addStream 44 rfl) rfl ?_
        refine x_get (pc := 75) (ci := 4) (j := 5) C (dq D_Marked_addStream 45 rfl) rfl rfl rfl rfl k_fl_Marked_18 ?_
        refine x_iload (pc := 78) C (dq D_Marked_addStream 46 rfl) rfl ?_
        refine x_iald (pc := 80) C (dq D_Marked_addStream 47 rfl) rfl (by (try simp only [List.length_set]); omega) ?_
        refine n_ixor (pc := 81) C (dq D_Marked_addStream 48 rfl) ?_
        refine x_iast (pc := 82) C (dq D_Marked_addStream 49 rfl) rfl (by (try simp only [List.length_set]); omega) ?_
        try rw [List.set_set]
        rw [dh_s41]
        refine x_iinc (pc := 83) C (dq D_Marked_addStream 50 rfl) rfl (ii_1 _) rfl rfl ?_
        simp only [List.set_cons_zero, List.set_cons_succ]
        refine x_goto (pc := 86) (tgt := 39) C (dq D_Marked_addStream 51 rfl) (by decide) ?_
        have h1 := ih (k + 1) (q.1.set k (q.1.getD k 0 ^^^ M2.getD ((k - 16) % 16) 0), C2, M2) F (some (.int (nI ((k - 16) % 16)))) (by omega) (by omega) hF (by rw [heq]; exact hok) (by rw [heq]; exact he)
        exact h1
      by_cases hz : (k - 16) % 16 = 0
      · have heq : (q.1.set k (q.1.getD k 0 ^^^ (trn FO K2 q.2.1).getD ((k - 16) % 16) 0), inc q.2.1, trn FO K2 q.2.1) = ast FO K2 16 k q := by
          unfold ast
          rw [if_pos hz]
        refine x_iload (pc := 39) C (dq D_Marked_addStream 25 rfl) rfl ?_
        refine x_aload_n (pc := 41) C (dq D_Marked_addStream 26 rfl) rfl ?_
        refine x_get (pc := 42) (ci := 7) (j := 1) C (dq D_Marked_addStream 27 rfl) rfl rfl rfl rfl k_fl_Marked_51 ?_
        refine n_ge_f (pc := 45) (tgt := 89) C (dq D_Marked_addStream 28 rfl) (by decide) (by omega) (by omega) ?_
        refine x_iload (pc := 48) C (dq D_Marked_addStream 29 rfl) rfl ?_
        refine x_iload_n (pc := 50) C (dq D_Marked_addStream 30 rfl) rfl ?_
        refine n_isub (pc := 51) C (dq D_Marked_addStream 31 rfl) (by omega) ?_
        refine x_bipush (pc := 52) C (dq D_Marked_addStream 32 rfl) cb_16 ?_
        refine n_irem (pc := 54) C (dq D_Marked_addStream 33 rfl) (by omega) (by omega) (by omega) ?_
        refine x_istore (i := 5) (pc := 55) C (dq D_Marked_addStream 34 rfl) rfl rfl rfl ?_
        simp only [List.set_cons_zero, List.set_cons_succ]
        refine x_iload (pc := 57) C (dq D_Marked_addStream 35 rfl) rfl ?_
        refine n_ifne_f (pc := 59) (tgt := 66) C (dq D_Marked_addStream 36 rfl) (by decide) (by omega) (by omega) ?_
        refine x_aload_n (pc := 62) C (dq D_Marked_addStream 37 rfl) rfl ?_
        refine x_cV (pc := 63) (ci := 4) (M := M_Marked_nextBlock) C (dq D_Marked_addStream 38 rfl) k_ml_Marked_69 m_Marked_nextBlock rfl rfl rfl (c_nextBlock hT hK hF hq.2.1 hq.2.2) rfl rfl rfl rfl (by decide) (fun o h2 hp => ?_)
        obtain ⟨rfl, Fx, q1, rfl⟩ := hp
        refine ⟨none, rfl, ?_⟩
        exact fin Fx _ _ q1 (by rw [trn_len]; exact hq.2.1.1) heq
      · have heq : (q.1.set k (q.1.getD k 0 ^^^ q.2.2.getD ((k - 16) % 16) 0), q.2.1, q.2.2) = ast FO K2 16 k q := by
          unfold ast
          rw [if_neg hz]
        refine x_iload (pc := 39) C (dq D_Marked_addStream 25 rfl) rfl ?_
        refine x_aload_n (pc := 41) C (dq D_Marked_addStream 26 rfl) rfl ?_
        refine x_get (pc := 42) (ci := 7) (j := 1) C (dq D_Marked_addStream 27 rfl) rfl rfl rfl rfl k_fl_Marked_51 ?_
        refine n_ge_f (pc := 45) (tgt := 89) C (dq D_Marked_addStream 28 rfl) (by decide) (by omega) (by omega) ?_
        refine x_iload (pc := 48) C (dq D_Marked_addStream 29 rfl) rfl ?_
        refine x_iload_n (pc := 50) C (dq D_Marked_addStream 30 rfl) rfl ?_
        refine n_isub (pc := 51) C (dq D_Marked_addStream 31 rfl) (by omega) ?_
        refine x_bipush (pc := 52) C (dq D_Marked_addStream 32 rfl) cb_16 ?_
        refine n_irem (pc := 54) C (dq D_Marked_addStream 33 rfl) (by omega) (by omega) (by omega) ?_
        refine x_istore (i := 5) (pc := 55) C (dq D_Marked_addStream 34 rfl) rfl rfl rfl ?_
        simp only [List.set_cons_zero, List.set_cons_succ]
        refine x_iload (pc := 57) C (dq D_Marked_addStream 35 rfl) rfl ?_
        refine n_ifne_t (pc := 59) (tgt := 66) C (dq D_Marked_addStream 36 rfl) (by decide) (by omega) (by omega) ?_
        exact fin F _ _ hF hq.2.2.1 heq
  have ht16 : (OU.take 16).length = 16 := by rw [List.length_take, hml]; rfl
  refine x_aload_n (pc := 0) C (dq D_Marked_addStream 0 rfl) rfl ?_
  refine x_iconst (pc := 1) C (dq D_Marked_addStream 1 rfl) ci_0 ?_
  refine x_aload_n (pc := 2) C (dq D_Marked_addStream 2 rfl) rfl ?_
  refine x_get (pc := 3) (ci := 4) (j := 4) C (dq D_Marked_addStream 3 rfl) rfl rfl rfl rfl k_fl_Marked_15 ?_
  refine x_iconst (pc := 6) C (dq D_Marked_addStream 4 rfl) ci_0 ?_
  refine x_bipush (pc := 7) C (dq D_Marked_addStream 5 rfl) cb_16 ?_
  refine x_copy (pc := 9) (a := 41) (b := 34) C (dq D_Marked_addStream 6 rfl) k_ml_Marked_63 rfl rfl (by omega) (by omega) (by omega) (by decide) rfl rfl ?_
  rw [cpyT (by omega) hCT.1, dh_s34]
  refine x_aload_n (pc := 12) C (dq D_Marked_addStream 7 rfl) rfl ?_
  refine x_get (pc := 13) (ci := 4) (j := 4) C (dq D_Marked_addStream 8 rfl) rfl rfl rfl rfl k_fl_Marked_15 ?_
  refine x_bipush (pc := 16) C (dq D_Marked_addStream 9 rfl) cb_8 ?_
  refine x_dup2 (pc := 18) C (dq D_Marked_addStream 10 rfl) rfl rfl ?_
  refine x_iald (pc := 19) C (dq D_Marked_addStream 11 rfl) rfl (by (try simp only [List.length_set]); omega) ?_
  refine x_bipush (pc := 20) C (dq D_Marked_addStream 12 rfl) cb_127 ?_
  refine n_iand (pc := 22) C (dq D_Marked_addStream 13 rfl) ?_
  refine x_iast (pc := 23) C (dq D_Marked_addStream 14 rfl) rfl (by (try simp only [List.length_set]); omega) ?_
  try rw [List.set_set]
  rw [dh_s34]
  refine x_aload_n (pc := 24) C (dq D_Marked_addStream 15 rfl) rfl ?_
  refine x_get (pc := 25) (ci := 4) (j := 4) C (dq D_Marked_addStream 16 rfl) rfl rfl rfl rfl k_fl_Marked_15 ?_
  refine x_bipush (pc := 28) C (dq D_Marked_addStream 17 rfl) cb_12 ?_
  refine x_dup2 (pc := 30) C (dq D_Marked_addStream 18 rfl) rfl rfl ?_
  refine x_iald (pc := 31) C (dq D_Marked_addStream 19 rfl) rfl (by (try simp only [List.length_set]); omega) ?_
  refine x_bipush (pc := 32) C (dq D_Marked_addStream 20 rfl) cb_127 ?_
  refine n_iand (pc := 34) C (dq D_Marked_addStream 21 rfl) ?_
  refine x_iast (pc := 35) C (dq D_Marked_addStream 22 rfl) rfl (by (try simp only [List.length_set]); omega) ?_
  try rw [List.set_set]
  rw [dh_s34]
  refine x_iload_n (pc := 36) C (dq D_Marked_addStream 23 rfl) rfl ?_
  refine x_istore (i := 4) (pc := 37) C (dq D_Marked_addStream 24 rfl) rfl rfl rfl ?_
  simp only [List.set_cons_zero, List.set_cons_succ]
  exact loop (no - 16) 16 (OU, ct0 OU, MB) F2 none (by omega) (by omega) hF ⟨hO, hc0, hMB⟩ rfl
set_option maxHeartbeats 4000000 in
theorem c_addStreamB {g : Gp} {nj ct n0 n1 n2 n3 n4 ni no np : Nat} {FO BA PW K1 F1 K2 F2 WB TW SM JB B0 B1 B2 B3 B4 SG CT MB IN OU OP : List Nat} {S : Hp} (hT : tok FO BA) (hK : kok K2) (hF : F2.length = 16) (hCT : l16 CT) (hMB : l16 MB) (hO : l88 OP) (hM : l88 IN) (hn : 0 ≤ np ∧ np ≤ 88) :
    Con g M_Marked_addStream 4 (0, 0) [.ref (zA (gz g) 32), .ref (zA (gz g) 42), .int (nI 0), .ref (zA (gz g) 39)] (dh g nj ct n0 n1 n2 n3 n4 ni no np FO BA PW K1 F1 K2 F2 WB TW SM JB B0 B1 B2 B3 B4 SG CT MB IN OU OP S) (fun o h' => o = .returned none ∧ ∃ F C2 M2 : List Nat, F.length = 16 ∧ l16 C2 ∧ l16 M2 ∧ h' = (dh g nj ct n0 n1 n2 n3 n4 ni no np FO BA PW K1 F1 K2 F WB TW SM JB B0 B1 B2 B3 B4 SG C2 M2 IN OU (it (ast FO K2 0) 0 (np - 0) (OP, ct0 IN, MB)).1 S)) := by
  have hc0 := ct0_ok (M := IN) (by rw [hM.1]; decide) hM.2
  have hcl := hCT.1
  have hml := hM.1
  refine Con.of (by decide) rfl rfl (L := [some (.ref (zA (gz g) 32)), some (.ref (zA (gz g) 42)), some (.int (nI 0)), some (.ref (zA (gz g) 39)), none, none]) rfl (fun f C => ?_)
  have loop : ∀ (d k : Nat) (q : List Nat × List Nat × List Nat) (F : List Nat) (l5 : Option Value), k + d = np → 0 ≤ k → F.length = 16 → l88 q.1 ∧ l16 q.2.1 ∧ l16 q.2.2 → it (ast FO K2 0) k d q = (it (ast FO K2 0) 0 (np - 0) (OP, ct0 IN, MB)) → X g f M_Marked_addStream (0, 0) (fun o h' => o = .returned none ∧ ∃ F C2 M2 : List Nat, F.length = 16 ∧ l16 C2 ∧ l16 M2 ∧ h' = (dh g nj ct n0 n1 n2 n3 n4 ni no np FO BA PW K1 F1 K2 F WB TW SM JB B0 B1 B2 B3 B4 SG C2 M2 IN OU (it (ast FO K2 0) 0 (np - 0) (OP, ct0 IN, MB)).1 S)) (0, 0) 39 [some (.ref (zA (gz g) 32)), some (.ref (zA (gz g) 42)), some (.int (nI 0)), some (.ref (zA (gz g) 39)), some (.int (nI k)), l5] [] (dh g nj ct n0 n1 n2 n3 n4 ni no np FO BA PW K1 F1 K2 F WB TW SM JB B0 B1 B2 B3 B4 SG q.2.1 q.2.2 IN OU q.1 S) := by
    intro d
    induction d with
    | zero =>
      intro k q F l5 hkd hk hF hq he
      rw [it_zero] at he
      refine x_iload (pc := 39) C (dq D_Marked_addStream 25 rfl) rfl ?_
      refine x_aload_n (pc := 41) C (dq D_Marked_addStream 26 rfl) rfl ?_
      refine x_get (pc := 42) (ci := 7) (j := 1) C (dq D_Marked_addStream 27 rfl) rfl rfl rfl rfl k_fl_Marked_51 ?_
      refine n_ge_t (pc := 45) (tgt := 89) C (dq D_Marked_addStream 28 rfl) (by decide) (by omega) (by omega) ?_
      exact x_vret (pc := 89) C (dq D_Marked_addStream 52 rfl) rfl (by decide) ⟨rfl, F, q.2.1, q.2.2, hF, hq.2.1, hq.2.2, by rw [← he]⟩
    | succ d ih =>
      intro k q F l5 hkd hk hF hq he
      have hok := ast_ok hT.1.2 hK.2 0 k hq
      have hql := hq.1.1
      have hp16 : (k - 0) % 16 < 16 := Nat.mod_lt _ (by omega)
      have fin : ∀ (F C2 M2 : List Nat), F.length = 16 → M2.length = 16 → (q.1.set k (q.1.getD k 0 ^^^ M2.getD ((k - 0) % 16) 0), C2, M2) = ast FO K2 0 k q → X g f M_Marked_addStream (0, 0) (fun o h' => o = .returned none ∧ ∃ F C2 M2 : List Nat, F.length = 16 ∧ l16 C2 ∧ l16 M2 ∧ h' = (dh g nj ct n0 n1 n2 n3 n4 ni no np FO BA PW K1 F1 K2 F WB TW SM JB B0 B1 B2 B3 B4 SG C2 M2 IN OU (it (ast FO K2 0) 0 (np - 0) (OP, ct0 IN, MB)).1 S)) (0, 0) 66 [some (.ref (zA (gz g) 32)), some (.ref (zA (gz g) 42)), some (.int (nI 0)), some (.ref (zA (gz g) 39)), some (.int (nI k)), some (.int (nI ((k - 0) % 16)))] [] (dh g nj ct n0 n1 n2 n3 n4 ni no np FO BA PW K1 F1 K2 F WB TW SM JB B0 B1 B2 B3 B4 SG C2 M2 IN OU q.1 S) := by
        intro F C2 M2 hF hM2 heq
        refine x_aload_n (pc := 66) C (dq D_Marked_addStream 39 rfl) rfl ?_
        refine x_get (pc := 67) (ci := 7) (j := 0) C (dq D_Marked_addStream 40 rfl) rfl rfl rfl rfl k_fl_Marked_48 ?_
        refine x_iload (pc := 70) C (dq D_Marked_addStream 41 rfl) rfl ?_
        refine x_dup2 (pc := 72) C (dq D_Marked_addStream 42 rfl) rfl rfl ?_
        refine x_iald (pc := 73) C (dq D_Marked_addStream 43 rfl) rfl (by (try simp only [List.length_set]); omega) ?_
        refine x_aload_n (pc := 74) C (dq D_Marked_addStream 44 rfl) rfl ?_
        refine x_get (pc := 75) (ci := 4) (j := 5) C (dq D_Marked_addStream 45 rfl) rfl rfl rfl rfl k_fl_Marked_18 ?_
        refine x_iload (pc := 78) C (dq D_Marked_addStream 46 rfl) rfl ?_
        refine x_iald (pc := 80) C (dq D_Marked_addStream 47 rfl) rfl (by (try simp only [List.length_set]); omega) ?_
        refine n_ixor (pc := 81) C (dq D_Marked_addStream 48 rfl) ?_
        refine x_iast (pc := 82) C (dq D_Marked_addStream 49 rfl) rfl (by (try simp only [List.length_set]); omega) ?_
        try rw [List.set_set]
        rw [dh_s43]
        refine x_iinc (pc := 83) C (dq D_Marked_addStream 50 rfl) rfl (ii_1 _) rfl rfl ?_
        simp only [List.set_cons_zero, List.set_cons_succ]
        refine x_goto (pc := 86) (tgt := 39) C (dq D_Marked_addStream 51 rfl) (by decide) ?_
        have h1 := ih (k + 1) (q.1.set k (q.1.getD k 0 ^^^ M2.getD ((k - 0) % 16) 0), C2, M2) F (some (.int (nI ((k - 0) % 16)))) (by omega) (by omega) hF (by rw [heq]; exact hok) (by rw [heq]; exact he)
        exact h1
      by_cases hz : (k - 0) % 16 = 0
      · have heq : (q.1.set k (q.1.getD k 0 ^^^ (trn FO K2 q.2.1).getD ((k - 0) % 16) 0), inc q.2.1, trn FO K2 q.2.1) = ast FO K2 0 k q := by
          unfold ast
          rw [if_pos hz]
        refine x_iload (pc := 39) C (dq D_Marked_addStream 25 rfl) rfl ?_
        refine x_aload_n (pc := 41) C (dq D_Marked_addStream 26 rfl) rfl ?_
        refine x_get (pc := 42) (ci := 7) (j := 1) C (dq D_Marked_addStream 27 rfl) rfl rfl rfl rfl k_fl_Marked_51 ?_
        refine n_ge_f (pc := 45) (tgt := 89) C (dq D_Marked_addStream 28 rfl) (by decide) (by omega) (by omega) ?_
        refine x_iload (pc := 48) C (dq D_Marked_addStream 29 rfl) rfl ?_
        refine x_iload_n (pc := 50) C (dq D_Marked_addStream 30 rfl) rfl ?_
        refine n_isub (pc := 51) C (dq D_Marked_addStream 31 rfl) (by omega) ?_
        refine x_bipush (pc := 52) C (dq D_Marked_addStream 32 rfl) cb_16 ?_
        refine n_irem (pc := 54) C (dq D_Marked_addStream 33 rfl) (by omega) (by omega) (by omega) ?_
        refine x_istore (i := 5) (pc := 55) C (dq D_Marked_addStream 34 rfl) rfl rfl rfl ?_
        simp only [List.set_cons_zero, List.set_cons_succ]
        refine x_iload (pc := 57) C (dq D_Marked_addStream 35 rfl) rfl ?_
        refine n_ifne_f (pc := 59) (tgt := 66) C (dq D_Marked_addStream 36 rfl) (by decide) (by omega) (by omega) ?_
        refine x_aload_n (pc := 62) C (dq D_Marked_addStream 37 rfl) rfl ?_
        refine x_cV (pc := 63) (ci := 4) (M := M_Marked_nextBlock) C (dq D_Marked_addStream 38 rfl) k_ml_Marked_69 m_Marked_nextBlock rfl rfl rfl (c_nextBlock hT hK hF hq.2.1 hq.2.2) rfl rfl rfl rfl (by decide) (fun o h2 hp => ?_)
        obtain ⟨rfl, Fx, q1, rfl⟩ := hp
        refine ⟨none, rfl, ?_⟩
        exact fin Fx _ _ q1 (by rw [trn_len]; exact hq.2.1.1) heq
      · have heq : (q.1.set k (q.1.getD k 0 ^^^ q.2.2.getD ((k - 0) % 16) 0), q.2.1, q.2.2) = ast FO K2 0 k q := by
          unfold ast
          rw [if_neg hz]
        refine x_iload (pc := 39) C (dq D_Marked_addStream 25 rfl) rfl ?_
        refine x_aload_n (pc := 41) C (dq D_Marked_addStream 26 rfl) rfl ?_
        refine x_get (pc := 42) (ci := 7) (j := 1) C (dq D_Marked_addStream 27 rfl) rfl rfl rfl rfl k_fl_Marked_51 ?_
        refine n_ge_f (pc := 45) (tgt := 89) C (dq D_Marked_addStream 28 rfl) (by decide) (by omega) (by omega) ?_
        refine x_iload (pc := 48) C (dq D_Marked_addStream 29 rfl) rfl ?_
        refine x_iload_n (pc := 50) C (dq D_Marked_addStream 30 rfl) rfl ?_
        refine n_isub (pc := 51) C (dq D_Marked_addStream 31 rfl) (by omega) ?_
        refine x_bipush (pc := 52) C (dq D_Marked_addStream 32 rfl) cb_16 ?_
        refine n_irem (pc := 54) C (dq D_Marked_addStream 33 rfl) (by omega) (by omega) (by omega) ?_
        refine x_istore (i := 5) (pc := 55) C (dq D_Marked_addStream 34 rfl) rfl rfl rfl ?_
        simp only [List.set_cons_zero, List.set_cons_succ]
        refine x_iload (pc := 57) C (dq D_Marked_addStream 35 rfl) rfl ?_
        refine n_ifne_t (pc := 59) (tgt := 66) C (dq D_Marked_addStream 36 rfl) (by decide) (by omega) (by omega) ?_
        exact fin F _ _ hF hq.2.2.1 heq
  have ht16 : (IN.take 16).length = 16 := by rw [List.length_take, hml]; rfl
  refine x_aload_n (pc := 0) C (dq D_Marked_addStream 0 rfl) rfl ?_
  refine x_iconst (pc := 1) C (dq D_Marked_addStream 1 rfl) ci_0 ?_
  refine x_aload_n (pc := 2) C (dq D_Marked_addStream 2 rfl) rfl ?_
  refine x_get (pc := 3) (ci := 4) (j := 4) C (dq D_Marked_addStream 3 rfl) rfl rfl rfl rfl k_fl_Marked_15 ?_
  refine x_iconst (pc := 6) C (dq D_Marked_addStream 4 rfl) ci_0 ?_
  refine x_bipush (pc := 7) C (dq D_Marked_addStream 5 rfl) cb_16 ?_
  refine x_copy (pc := 9) (a := 39) (b := 34) C (dq D_Marked_addStream 6 rfl) k_ml_Marked_63 rfl rfl (by omega) (by omega) (by omega) (by decide) rfl rfl ?_
  rw [cpyT (by omega) hCT.1, dh_s34]
  refine x_aload_n (pc := 12) C (dq D_Marked_addStream 7 rfl) rfl ?_
  refine x_get (pc := 13) (ci := 4) (j := 4) C (dq D_Marked_addStream 8 rfl) rfl rfl rfl rfl k_fl_Marked_15 ?_
  refine x_bipush (pc := 16) C (dq D_Marked_addStream 9 rfl) cb_8 ?_
  refine x_dup2 (pc := 18) C (dq D_Marked_addStream 10 rfl) rfl rfl ?_
  refine x_iald (pc := 19) C (dq D_Marked_addStream 11 rfl) rfl (by (try simp only [List.length_set]); omega) ?_
  refine x_bipush (pc := 20) C (dq D_Marked_addStream 12 rfl) cb_127 ?_
  refine n_iand (pc := 22) C (dq D_Marked_addStream 13 rfl) ?_
  refine x_iast (pc := 23) C (dq D_Marked_addStream 14 rfl) rfl (by (try simp only [List.length_set]); omega) ?_
  try rw [List.set_set]
  rw [dh_s34]
  refine x_aload_n (pc := 24) C (dq D_Marked_addStream 15 rfl) rfl ?_
  refine x_get (pc := 25) (ci := 4) (j := 4) C (dq D_Marked_addStream 16 rfl) rfl rfl rfl rfl k_fl_Marked_15 ?_
  refine x_bipush (pc := 28) C (dq D_Marked_addStream 17 rfl) cb_12 ?_
  refine x_dup2 (pc := 30) C (dq D_Marked_addStream 18 rfl) rfl rfl ?_
  refine x_iald (pc := 31) C (dq D_Marked_addStream 19 rfl) rfl (by (try simp only [List.length_set]); omega) ?_
  refine x_bipush (pc := 32) C (dq D_Marked_addStream 20 rfl) cb_127 ?_
  refine n_iand (pc := 34) C (dq D_Marked_addStream 21 rfl) ?_
  refine x_iast (pc := 35) C (dq D_Marked_addStream 22 rfl) rfl (by (try simp only [List.length_set]); omega) ?_
  try rw [List.set_set]
  rw [dh_s34]
  refine x_iload_n (pc := 36) C (dq D_Marked_addStream 23 rfl) rfl ?_
  refine x_istore (i := 4) (pc := 37) C (dq D_Marked_addStream 24 rfl) rfl rfl rfl ?_
  simp only [List.set_cons_zero, List.set_cons_succ]
  exact loop (np - 0) 0 (OP, ct0 IN, MB) F2 none (by omega) (by omega) hF ⟨hO, hc0, hMB⟩ rfl
