/-- the reference opens what is padded -/
def opr (U W : List Nat) (n : Nat) (R : List Nat) : List Nat := if n = 16 then sgl (dec U W 0 (R.take 16)) R else mud U W (n / 8 - 1) R
def sgn (R : List Nat) : Bool := decide (R.getD 0 0 = 166 ∧ R.getD 1 0 = 89 ∧ R.getD 2 0 = 89 ∧ R.getD 3 0 = 166 ∧ R.getD 4 0 = 0 ∧ R.getD 5 0 = 0 ∧ R.getD 6 0 = 0)
def eqz (n : Nat) (R : List Nat) (k : Nat) (b : Bool) : Bool := b && decide (k < n ∨ R.getD k 0 = 0)
def opk (m : Nat) (R : List Nat) : Bool := it (eqz (R.getD 7 0) (drp m R)) 0 m (sgn R && decide (m - 8 < R.getD 7 0 ∧ R.getD 7 0 ≤ m))
theorem sgl_ok {K : List Nat} (hK : by8 K) {R : List Nat} (h : by8 R) : (sgl K R).length = R.length ∧ by8 (sgl K R) := by
  unfold sgl
  exact ⟨it_len (cp1_len K) 16 0 R, cp1_8 hK 0 16 h⟩
set_option maxHeartbeats 4000000 in
theorem cm_openPadded {g : Gp} {P S : Hp} {cd ni no nt nr nl : Nat} {W T U IN OUT IS IB BL MV ROW TX MA SM KP : List Nat} (hP : P.length = 44) (hW : W.length = 88 ∧ by32 W) (hT : T.length = 256 ∧ by8 T) (hU : U.length = 256 ∧ by8 U) (hb : bm16 (BL, MV)) (hR : ROW.length = 112 ∧ by8 ROW) (hnr : 16 ≤ nr ∧ nr ≤ 72) :
    Con g M_Model_openPadded 3 (0, 0) [.ref (zA (gz g) 44)] (mh g P cd ni no nt nr nl [W, T, U, IN, OUT, IS, IB, BL, MV, ROW, TX, MA, SM, KP] S) (fun o h' => o = .returned (some (.int (nI (if (opk (nr - 8) (opr U W nr ROW)) then 1 else 0)))) ∧ ∃ B' M' : List Nat, bm16 (B', M') ∧ h' = mh g P cd ni no nt (if (opk (nr - 8) (opr U W nr ROW)) then (opr U W nr ROW).getD 7 0 else nr - 8) nl [W, T, U, IN, OUT, IS, IB, B', M', (drp (nr - 8) (opr U W nr ROW)), TX, MA, SM, KP] S) := by
  have hRl := hR.1
  have ht : (ROW.take 16).length = 16 := by rw [List.length_take]; omega
  have r1 : ((opr U W nr ROW)).length = 112 ∧ by8 (opr U W nr ROW) := by
    unfold opr
    split
    · obtain ⟨a, b⟩ := sgl_ok (dec_ok hU.2 W 0 ht (hR.2.take 16)).2 hR.2
      exact ⟨a.trans hR.1, b⟩
    · exact mud_ok hU.2 W (by omega) hR
  obtain ⟨d1, d2⟩ := drp_ok (nr - 8) r1.2
  have hn7 := r1.2.at 7
  have hrl := r1.1
  refine Con.of (by decide) rfl rfl (L := [some (.ref (zA (gz g) 44)), none, none, none]) rfl (fun f C => ?_)
  have cmp : ∀ (d k : Nat) (b : Bool) (B V : List Nat), k + d = nr - 8 → bm16 (B, V) → it (eqz ((opr U W nr ROW).getD 7 0) (drp (nr - 8) (opr U W nr ROW))) k d b = (opk (nr - 8) (opr U W nr ROW)) → X g f M_Model_openPadded (0, 0) (fun o h' => o = .returned (some (.int (nI (if (opk (nr - 8) (opr U W nr ROW)) then 1 else 0)))) ∧ ∃ B' M' : List Nat, bm16 (B', M') ∧ h' = mh g P cd ni no nt (if (opk (nr - 8) (opr U W nr ROW)) then (opr U W nr ROW).getD 7 0 else nr - 8) nl [W, T, U, IN, OUT, IS, IB, B', M', (drp (nr - 8) (opr U W nr ROW)), TX, MA, SM, KP] S) (0, 0) 144 [some (.ref (zA (gz g) 44)), some (.int (nI (if b then 1 else 0))), some (.int (nI ((opr U W nr ROW).getD 7 0))), some (.int (nI k))] [] (mh g P cd ni no nt (nr - 8) nl [W, T, U, IN, OUT, IS, IB, B, V, (drp (nr - 8) (opr U W nr ROW)), TX, MA, SM, KP] S) := by
    intro d
    induction d with
    | zero =>
      intro k b B V hkd hB he
      rw [it_zero] at he
      rw [he]
      have hz : narrow .boolean (.int (nI (if (opk (nr - 8) (opr U W nr ROW)) then 1 else 0))) = .int (nI (if (opk (nr - 8) (opr U W nr ROW)) then 1 else 0)) := by
        split <;> decide +kernel
      by_cases hok : (opk (nr - 8) (opr U W nr ROW)) = true
      · rw [hok] at hz
        rw [hok]
        have e1 : (nI (if true = true then 1 else 0)) = nI 1 := rfl
        rw [e1] at hz ⊢
        refine x_iload_n (pc := 144) C (dq D_Model_openPadded 78 rfl) rfl ?_
        refine x_aload_n (pc := 145) C (dq D_Model_openPadded 79 rfl) rfl ?_
        refine x_get (pc := 146) (ci := 1) (j := 13) C (dq D_Model_openPadded 80 rfl) rfl rfl (mo hP) rfl k_fl_Model_100 ?_
        refine n_ge_t (pc := 149) (tgt := 182) C (dq D_Model_openPadded 81 rfl) (by decide) (by omega) (by omega) ?_
        refine x_aload_n (pc := 182) C (dq D_Model_openPadded 98 rfl) rfl ?_
        refine x_iload_n (pc := 183) C (dq D_Model_openPadded 99 rfl) rfl ?_
        refine n_ifeq_f (pc := 184) (tgt := 191) C (dq D_Model_openPadded 100 rfl) (by decide) (by omega) (by omega) ?_
        refine x_iload_n (pc := 187) C (dq D_Model_openPadded 101 rfl) rfl ?_
        refine x_goto (pc := 188) (tgt := 195) C (dq D_Model_openPadded 102 rfl) (by decide) ?_
        refine x_put (pc := 195) (ci := 1) (j := 13) (ty := .int) C (dq D_Model_openPadded 105 rfl) rfl rfl (mo hP) rfl k_fl_Model_100 (Or.inl rfl) (by decide +kernel) rfl rfl ?_
        simp only [List.set_cons_zero, List.set_cons_succ]
        rw [mh_p hP]
        refine x_iload_n (pc := 198) C (dq D_Model_openPadded 106 rfl) rfl ?_
        exact x_zret (pc := 199) C (dq D_Model_openPadded 107 rfl) rfl hz (by decide) ⟨rfl, B, V, hB, rfl⟩
      · have hok : (opk (nr - 8) (opr U W nr ROW)) = false := by simpa using hok
        rw [hok] at hz
        rw [hok]
        have e1 : (nI (if false = true then 1 else 0)) = nI 0 := rfl
        rw [e1] at hz ⊢
        refine x_iload_n (pc := 144) C (dq D_Model_openPadded 78 rfl) rfl ?_
        refine x_aload_n (pc := 145) C (dq D_Model_openPadded 79 rfl) rfl ?_
        refine x_get (pc := 146) (ci := 1) (j := 13) C (dq D_Model_openPadded 80 rfl) rfl rfl (mo hP) rfl k_fl_Model_100 ?_
        refine n_ge_t (pc := 149) (tgt := 182) C (dq D_Model_openPadded 81 rfl) (by decide) (by omega) (by omega) ?_
        refine x_aload_n (pc := 182) C (dq D_Model_openPadded 98 rfl) rfl ?_
        refine x_iload_n (pc := 183) C (dq D_Model_openPadded 99 rfl) rfl ?_
        refine n_ifeq_t (pc := 184) (tgt := 191) C (dq D_Model_openPadded 100 rfl) (by decide) (by omega) (by omega) ?_
        refine x_aload_n (pc := 191) C (dq D_Model_openPadded 103 rfl) rfl ?_
        refine x_get (pc := 192) (ci := 1) (j := 13) C (dq D_Model_openPadded 104 rfl) rfl rfl (mo hP) rfl k_fl_Model_100 ?_
        refine x_put (pc := 195) (ci := 1) (j := 13) (ty := .int) C (dq D_Model_openPadded 105 rfl) rfl rfl (mo hP) rfl k_fl_Model_100 (Or.inl rfl) (by decide +kernel) rfl rfl ?_
        simp only [List.set_cons_zero, List.set_cons_succ]
        rw [mh_p hP]
        refine x_iload_n (pc := 198) C (dq D_Model_openPadded 106 rfl) rfl ?_
        exact x_zret (pc := 199) C (dq D_Model_openPadded 107 rfl) rfl hz (by decide) ⟨rfl, B, V, hB, rfl⟩
    | succ d ih =>
      intro k b B V hkd hB he
      have v1 := d2.at k
      have hdl : (drp (nr - 8) (opr U W nr ROW)).length = 112 := d1.trans hrl
      have fin : ∀ b' : Bool, b' = eqz ((opr U W nr ROW).getD 7 0) (drp (nr - 8) (opr U W nr ROW)) k b → X g f M_Model_openPadded (0, 0) (fun o h' => o = .returned (some (.int (nI (if (opk (nr - 8) (opr U W nr ROW)) then 1 else 0)))) ∧ ∃ B' M' : List Nat, bm16 (B', M') ∧ h' = mh g P cd ni no nt (if (opk (nr - 8) (opr U W nr ROW)) then (opr U W nr ROW).getD 7 0 else nr - 8) nl [W, T, U, IN, OUT, IS, IB, B', M', (drp (nr - 8) (opr U W nr ROW)), TX, MA, SM, KP] S) (0, 0) 175 [some (.ref (zA (gz g) 44)), some (.int (nI (if b then 1 else 0))), some (.int (nI ((opr U W nr ROW).getD 7 0))), some (.int (nI k))] [.int (nI (if b' then 1 else 0))] (mh g P cd ni no nt (nr - 8) nl [W, T, U, IN, OUT, IS, IB, B, V, (drp (nr - 8) (opr U W nr ROW)), TX, MA, SM, KP] S) := by
        intro b' hb'
        refine x_istore_n (i := 1) (pc := 175) C (dq D_Model_openPadded 95 rfl) rfl rfl rfl ?_
        simp only [List.set_cons_zero, List.set_cons_succ]
        refine x_iinc (pc := 176) C (dq D_Model_openPadded 96 rfl) rfl (ii_1 _) rfl rfl ?_
        simp only [List.set_cons_zero, List.set_cons_succ]
        refine x_goto (pc := 179) (tgt := 144) C (dq D_Model_openPadded 97 rfl) (by decide) ?_
        refine ih (k + 1) b' B V (by omega) hB ?_
        rw [hb']
        exact he
      cases b with
      | false =>
        have e1 : (nI (if false = true then 1 else 0)) = nI 0 := rfl
        rw [e1] at fin ⊢
        refine x_iload_n (pc := 144) C (dq D_Model_openPadded 78 rfl) rfl ?_
        refine x_aload_n (pc := 145) C (dq D_Model_openPadded 79 rfl) rfl ?_
        refine x_get (pc := 146) (ci := 1) (j := 13) C (dq D_Model_openPadded 80 rfl) rfl rfl (mo hP) rfl k_fl_Model_100 ?_
        refine n_ge_f (pc := 149) (tgt := 182) C (dq D_Model_openPadded 81 rfl) (by decide) (by omega) (by omega) ?_
        refine x_iload_n (pc := 152) C (dq D_Model_openPadded 82 rfl) rfl ?_
        refine n_ifeq_t (pc := 153) (tgt := 174) C (dq D_Model_openPadded 83 rfl) (by decide) (by omega) (by omega) ?_
        refine x_iconst (pc := 174) C (dq D_Model_openPadded 94 rfl) ci_0 ?_
        exact fin false rfl
      | true =>
        have e1 : (nI (if true = true then 1 else 0)) = nI 1 := rfl
        rw [e1] at fin ⊢
        refine x_iload_n (pc := 144) C (dq D_Model_openPadded 78 rfl) rfl ?_
        refine x_aload_n (pc := 145) C (dq D_Model_openPadded 79 rfl) rfl ?_
        refine x_get (pc := 146) (ci := 1) (j := 13) C (dq D_Model_openPadded 80 rfl) rfl rfl (mo hP) rfl k_fl_Model_100 ?_
        refine n_ge_f (pc := 149) (tgt := 182) C (dq D_Model_openPadded 81 rfl) (by decide) (by omega) (by omega) ?_
        refine x_iload_n (pc := 152) C (dq D_Model_openPadded 82 rfl) rfl ?_
        refine n_ifeq_f (pc := 153) (tgt := 174) C (dq D_Model_openPadded 83 rfl) (by decide) (by omega) (by omega) ?_
        refine x_iload_n (pc := 156) C (dq D_Model_openPadded 84 rfl) rfl ?_
        refine x_iload_n (pc := 157) C (dq D_Model_openPadded 85 rfl) rfl ?_
        refine n_lt (pc := 158) (tgt := 170) C (dq D_Model_openPadded 86 rfl) (by decide) (by omega) (fun hq => ?_) (fun hq => ?_)
        · refine x_iconst (pc := 170) C (dq D_Model_openPadded 92 rfl) ci_1 ?_
          refine x_goto (pc := 171) (tgt := 175) C (dq D_Model_openPadded 93 rfl) (by decide) ?_
          exact fin true (by unfold eqz; rw [decide_eq_true (Or.inl hq)]; rfl)
        · have hq0 : ¬ k < (opr U W nr ROW).getD 7 0 := by omega
          refine x_aload_n (pc := 161) C (dq D_Model_openPadded 87 rfl) rfl ?_
          refine x_get (pc := 162) (ci := 1) (j := 14) C (dq D_Model_openPadded 88 rfl) rfl rfl (by first | exact mo hP | exact ma hP rfl rfl) rfl k_fl_Model_37 ?_
          refine x_iload_n (pc := 165) C (dq D_Model_openPadded 89 rfl) rfl ?_
          refine x_iald (pc := 166) C (dq D_Model_openPadded 90 rfl) (by first | exact mo hP | exact ma hP rfl rfl) (by (try simp only [List.length_set]); omega) ?_
          refine n_ifne (pc := 167) (tgt := 174) C (dq D_Model_openPadded 91 rfl) (by decide) (by omega) (fun hq => ?_) (fun hq => ?_)
          · refine x_iconst (pc := 174) C (dq D_Model_openPadded 94 rfl) ci_0 ?_
            exact fin false (by unfold eqz; rw [decide_eq_false (fun z => z.elim hq0 hq)]; rfl)
          · refine x_iconst (pc := 170) C (dq D_Model_openPadded 92 rfl) ci_1 ?_
            refine x_goto (pc := 171) (tgt := 175) C (dq D_Model_openPadded 93 rfl) (by decide) ?_
            exact fin true (by unfold eqz; rw [decide_eq_true (Or.inr hq)]; rfl)
  have half : ∀ (B V : List Nat), bm16 (B, V) → X g f M_Model_openPadded (0, 0) (fun o h' => o = .returned (some (.int (nI (if (opk (nr - 8) (opr U W nr ROW)) then 1 else 0)))) ∧ ∃ B' M' : List Nat, bm16 (B', M') ∧ h' = mh g P cd ni no nt (if (opk (nr - 8) (opr U W nr ROW)) then (opr U W nr ROW).getD 7 0 else nr - 8) nl [W, T, U, IN, OUT, IS, IB, B', M', (drp (nr - 8) (opr U W nr ROW)), TX, MA, SM, KP] S) (0, 0) 100 [some (.ref (zA (gz g) 44)), none, none, none] [.int (nI (if sgn (opr U W nr ROW) then 1 else 0))] (mh g P cd ni no nt nr nl [W, T, U, IN, OUT, IS, IB, B, V, (opr U W nr ROW), TX, MA, SM, KP] S) := by
    intro B V hB
    have fin : ∀ b' : Bool, b' = (sgn (opr U W nr ROW) && decide (nr - 8 - 8 < (opr U W nr ROW).getD 7 0 ∧ (opr U W nr ROW).getD 7 0 ≤ nr - 8)) → X g f M_Model_openPadded (0, 0) (fun o h' => o = .returned (some (.int (nI (if (opk (nr - 8) (opr U W nr ROW)) then 1 else 0)))) ∧ ∃ B' M' : List Nat, bm16 (B', M') ∧ h' = mh g P cd ni no nt (if (opk (nr - 8) (opr U W nr ROW)) then (opr U W nr ROW).getD 7 0 else nr - 8) nl [W, T, U, IN, OUT, IS, IB, B', M', (drp (nr - 8) (opr U W nr ROW)), TX, MA, SM, KP] S) (0, 0) 141 [some (.ref (zA (gz g) 44)), some (.int (nI (if sgn (opr U W nr ROW) then 1 else 0))), some (.int (nI ((opr U W nr ROW).getD 7 0))), none] [.int (nI (if b' then 1 else 0))] (mh g P cd ni no nt (nr - 8) nl [W, T, U, IN, OUT, IS, IB, B, V, (drp (nr - 8) (opr U W nr ROW)), TX, MA, SM, KP] S) := by
      intro b' hb'
      refine x_istore_n (i := 1) (pc := 141) C (dq D_Model_openPadded 75 rfl) rfl rfl rfl ?_
      simp only [List.set_cons_zero, List.set_cons_succ]
      refine x_iconst (pc := 142) C (dq D_Model_openPadded 76 rfl) ci_0 ?_
      refine x_istore_n (i := 3) (pc := 143) C (dq D_Model_openPadded 77 rfl) rfl rfl rfl ?_
      simp only [List.set_cons_zero, List.set_cons_succ]
      refine cmp (nr - 8) 0 b' B V (by omega) hB ?_
      rw [hb', opk]
    refine x_istore_n (i := 1) (pc := 100) C (dq D_Model_openPadded 52 rfl) rfl rfl rfl ?_
    simp only [List.set_cons_zero, List.set_cons_succ]
    refine x_aload_n (pc := 101) C (dq D_Model_openPadded 53 rfl) rfl ?_
    refine x_get (pc := 102) (ci := 1) (j := 14) C (dq D_Model_openPadded 54 rfl) rfl rfl (by first | exact mo hP | exact ma hP rfl rfl) rfl k_fl_Model_37 ?_
    refine x_bipush (pc := 105) C (dq D_Model_openPadded 55 rfl) cb_7 ?_
    refine x_iald (pc := 107) C (dq D_Model_openPadded 56 rfl) (by first | exact mo hP | exact ma hP rfl rfl) (by (try simp only [List.length_set]); omega) ?_
    refine x_istore_n (i := 2) (pc := 108) C (dq D_Model_openPadded 57 rfl) rfl rfl rfl ?_
    simp only [List.set_cons_zero, List.set_cons_succ]
    refine x_aload_n (pc := 109) C (dq D_Model_openPadded 58 rfl) rfl ?_
    refine x_cV0 (pc := 110) (ci := 1) (M := M_Model_dropFront) C (dq D_Model_openPadded 59 rfl) k_ml_Model_130 m_Model_dropFront rfl rfl (by first | exact mo hP | exact ma hP rfl rfl) (cm_dropFront hP hrl (by omega)) rfl rfl rfl rfl (by decide) ?_
    cases hs : sgn (opr U W nr ROW) with
    | false =>
      rw [hs] at fin
      have e1 : (nI (if false = true then 1 else 0)) = nI 0 := rfl
      rw [e1] at fin ⊢
      refine x_iload_n (pc := 113) C (dq D_Model_openPadded 60 rfl) rfl ?_
      refine n_ifeq_t (pc := 114) (tgt := 140) C (dq D_Model_openPadded 61 rfl) (by decide) (by omega) (by omega) ?_
      refine x_iconst (pc := 140) C (dq D_Model_openPadded 74 rfl) ci_0 ?_
      exact fin false rfl
    | true =>
      rw [hs] at fin
      have e1 : (nI (if true = true then 1 else 0)) = nI 1 := rfl
      rw [e1] at fin ⊢
      refine x_iload_n (pc := 113) C (dq D_Model_openPadded 60 rfl) rfl ?_
      refine n_ifeq_f (pc := 114) (tgt := 140) C (dq D_Model_openPadded 61 rfl) (by decide) (by omega) (by omega) ?_
      refine x_iload_n (pc := 117) C (dq D_Model_openPadded 62 rfl) rfl ?_
      refine x_aload_n (pc := 118) C (dq D_Model_openPadded 63 rfl) rfl ?_
      refine x_get (pc := 119) (ci := 1) (j := 13) C (dq D_Model_openPadded 64 rfl) rfl rfl (mo hP) rfl k_fl_Model_100 ?_
      refine x_bipush (pc := 122) C (dq D_Model_openPadded 65 rfl) cb_8 ?_
      refine n_isub (pc := 124) C (dq D_Model_openPadded 66 rfl) (by omega) ?_
      refine n_le (pc := 125) (tgt := 140) C (dq D_Model_openPadded 67 rfl) (by decide) (by omega) (fun hq => ?_) (fun hq => ?_)
      · refine x_iconst (pc := 140) C (dq D_Model_openPadded 74 rfl) ci_0 ?_
        exact fin false (by rw [decide_eq_false (fun z => by omega)]; rfl)
      · have hq0 := hq
        refine x_iload_n (pc := 128) C (dq D_Model_openPadded 68 rfl) rfl ?_
        refine x_aload_n (pc := 129) C (dq D_Model_openPadded 69 rfl) rfl ?_
        refine x_get (pc := 130) (ci := 1) (j := 13) C (dq D_Model_openPadded 70 rfl) rfl rfl (mo hP) rfl k_fl_Model_100 ?_
        refine n_gt (pc := 133) (tgt := 140) C (dq D_Model_openPadded 71 rfl) (by decide) (by omega) (fun hq => ?_) (fun hq => ?_)
        · refine x_iconst (pc := 140) C (dq D_Model_openPadded 74 rfl) ci_0 ?_
          exact fin false (by rw [decide_eq_false (fun z => by omega)]; rfl)
        · refine x_iconst (pc := 136) C (dq D_Model_openPadded 72 rfl) ci_1 ?_
          refine x_goto (pc := 137) (tgt := 141) C (dq D_Model_openPadded 73 rfl) (by decide) ?_
          exact fin true (by rw [decide_eq_true (by omega)]; rfl)
  have first : ∀ (B V : List Nat), bm16 (B, V) → X g f M_Model_openPadded (0, 0) (fun o h' => o = .returned (some (.int (nI (if (opk (nr - 8) (opr U W nr ROW)) then 1 else 0)))) ∧ ∃ B' M' : List Nat, bm16 (B', M') ∧ h' = mh g P cd ni no nt (if (opk (nr - 8) (opr U W nr ROW)) then (opr U W nr ROW).getD 7 0 else nr - 8) nl [W, T, U, IN, OUT, IS, IB, B', M', (drp (nr - 8) (opr U W nr ROW)), TX, MA, SM, KP] S) (0, 0) 21 [some (.ref (zA (gz g) 44)), none, none, none] [] (mh g P cd ni no nt nr nl [W, T, U, IN, OUT, IS, IB, B, V, (opr U W nr ROW), TX, MA, SM, KP] S) := by
    intro B V hB
    have h0 := half B V hB
    have v0 := r1.2.at 0
    have v1 := r1.2.at 1
    have v2 := r1.2.at 2
    have v3 := r1.2.at 3
    have v4 := r1.2.at 4
    have v5 := r1.2.at 5
    have v6 := r1.2.at 6
    have bad : sgn (opr U W nr ROW) = false → X g f M_Model_openPadded (0, 0) (fun o h' => o = .returned (some (.int (nI (if (opk (nr - 8) (opr U W nr ROW)) then 1 else 0)))) ∧ ∃ B' M' : List Nat, bm16 (B', M') ∧ h' = mh g P cd ni no nt (if (opk (nr - 8) (opr U W nr ROW)) then (opr U W nr ROW).getD 7 0 else nr - 8) nl [W, T, U, IN, OUT, IS, IB, B', M', (drp (nr - 8) (opr U W nr ROW)), TX, MA, SM, KP] S) (0, 0) 99 [some (.ref (zA (gz g) 44)), none, none, none] [] (mh g P cd ni no nt nr nl [W, T, U, IN, OUT, IS, IB, B, V, (opr U W nr ROW), TX, MA, SM, KP] S) := by
      intro hs
      rw [hs] at h0
      refine x_iconst (pc := 99) C (dq D_Model_openPadded 51 rfl) ci_0 ?_
      exact h0
    refine x_aload_n (pc := 21) C (dq D_Model_openPadded 10 rfl) rfl ?_
    refine x_get (pc := 22) (ci := 1) (j := 14) C (dq D_Model_openPadded 11 rfl) rfl rfl (by first | exact mo hP | exact ma hP rfl rfl) rfl k_fl_Model_37 ?_
    refine x_iconst (pc := 25) C (dq D_Model_openPadded 12 rfl) ci_0 ?_
    refine x_iald (pc := 26) C (dq D_Model_openPadded 13 rfl) (by first | exact mo hP | exact ma hP rfl rfl) (by (try simp only [List.length_set]); omega) ?_
    refine x_sipush (pc := 27) C (dq D_Model_openPadded 14 rfl) cs_166 ?_
    refine n_ne (pc := 30) (tgt := 99) C (dq D_Model_openPadded 15 rfl) (by decide) (by omega) (fun hq => ?_) (fun hq => ?_)
    · exact bad (decide_eq_false (fun z => hq z.1))
    · have a0 := hq
      refine x_aload_n (pc := 33) C (dq D_Model_openPadded 16 rfl) rfl ?_
      refine x_get (pc := 34) (ci := 1) (j := 14) C (dq D_Model_openPadded 17 rfl) rfl rfl (by first | exact mo hP | exact ma hP rfl rfl) rfl k_fl_Model_37 ?_
      refine x_iconst (pc := 37) C (dq D_Model_openPadded 18 rfl) ci_1 ?_
      refine x_iald (pc := 38) C (dq D_Model_openPadded 19 rfl) (by first | exact mo hP | exact ma hP rfl rfl) (by (try simp only [List.length_set]); omega) ?_
      refine x_bipush (pc := 39) C (dq D_Model_openPadded 20 rfl) cb_89 ?_
      refine n_ne (pc := 41) (tgt := 99) C (dq D_Model_openPadded 21 rfl) (by decide) (by omega) (fun hq => ?_) (fun hq => ?_)
      · exact bad (decide_eq_false (fun z => hq z.2.1))
      · have a1 := hq
        refine x_aload_n (pc := 44) C (dq D_Model_openPadded 22 rfl) rfl ?_
        refine x_get (pc := 45) (ci := 1) (j := 14) C (dq D_Model_openPadded 23 rfl) rfl rfl (by first | exact mo hP | exact ma hP rfl rfl) rfl k_fl_Model_37 ?_
        refine x_iconst (pc := 48) C (dq D_Model_openPadded 24 rfl) ci_2 ?_
        refine x_iald (pc := 49) C (dq D_Model_openPadded 25 rfl) (by first | exact mo hP | exact ma hP rfl rfl) (by (try simp only [List.length_set]); omega) ?_
        refine x_bipush (pc := 50) C (dq D_Model_openPadded 26 rfl) cb_89 ?_
        refine n_ne (pc := 52) (tgt := 99) C (dq D_Model_openPadded 27 rfl) (by decide) (by omega) (fun hq => ?_) (fun hq => ?_)
        · exact bad (decide_eq_false (fun z => hq z.2.2.1))
        · have a2 := hq
          refine x_aload_n (pc := 55) C (dq D_Model_openPadded 28 rfl) rfl ?_
          refine x_get (pc := 56) (ci := 1) (j := 14) C (dq D_Model_openPadded 29 rfl) rfl rfl (by first | exact mo hP | exact ma hP rfl rfl) rfl k_fl_Model_37 ?_
          refine x_iconst (pc := 59) C (dq D_Model_openPadded 30 rfl) ci_3 ?_
          refine x_iald (pc := 60) C (dq D_Model_openPadded 31 rfl) (by first | exact mo hP | exact ma hP rfl rfl) (by (try simp only [List.length_set]); omega) ?_
          refine x_sipush (pc := 61) C (dq D_Model_openPadded 32 rfl) cs_166 ?_
          refine n_ne (pc := 64) (tgt := 99) C (dq D_Model_openPadded 33 rfl) (by decide) (by omega) (fun hq => ?_) (fun hq => ?_)
          · exact bad (decide_eq_false (fun z => hq z.2.2.2.1))
          · have a3 := hq
            refine x_aload_n (pc := 67) C (dq D_Model_openPadded 34 rfl) rfl ?_
            refine x_get (pc := 68) (ci := 1) (j := 14) C (dq D_Model_openPadded 35 rfl) rfl rfl (by first | exact mo hP | exact ma hP rfl rfl) rfl k_fl_Model_37 ?_
            refine x_iconst (pc := 71) C (dq D_Model_openPadded 36 rfl) ci_4 ?_
            refine x_iald (pc := 72) C (dq D_Model_openPadded 37 rfl) (by first | exact mo hP | exact ma hP rfl rfl) (by (try simp only [List.length_set]); omega) ?_
            refine n_ifne (pc := 73) (tgt := 99) C (dq D_Model_openPadded 38 rfl) (by decide) (by omega) (fun hq => ?_) (fun hq => ?_)
            · exact bad (decide_eq_false (fun z => hq z.2.2.2.2.1))
            · have a4 := hq
              refine x_aload_n (pc := 76) C (dq D_Model_openPadded 39 rfl) rfl ?_
              refine x_get (pc := 77) (ci := 1) (j := 14) C (dq D_Model_openPadded 40 rfl) rfl rfl (by first | exact mo hP | exact ma hP rfl rfl) rfl k_fl_Model_37 ?_
              refine x_iconst (pc := 80) C (dq D_Model_openPadded 41 rfl) ci_5 ?_
              refine x_iald (pc := 81) C (dq D_Model_openPadded 42 rfl) (by first | exact mo hP | exact ma hP rfl rfl) (by (try simp only [List.length_set]); omega) ?_
              refine n_ifne (pc := 82) (tgt := 99) C (dq D_Model_openPadded 43 rfl) (by decide) (by omega) (fun hq => ?_) (fun hq => ?_)
              · exact bad (decide_eq_false (fun z => hq z.2.2.2.2.2.1))
              · have a5 := hq
                refine x_aload_n (pc := 85) C (dq D_Model_openPadded 44 rfl) rfl ?_
                refine x_get (pc := 86) (ci := 1) (j := 14) C (dq D_Model_openPadded 45 rfl) rfl rfl (by first | exact mo hP | exact ma hP rfl rfl) rfl k_fl_Model_37 ?_
                refine x_bipush (pc := 89) C (dq D_Model_openPadded 46 rfl) cb_6 ?_
                refine x_iald (pc := 91) C (dq D_Model_openPadded 47 rfl) (by first | exact mo hP | exact ma hP rfl rfl) (by (try simp only [List.length_set]); omega) ?_
                refine n_ifne (pc := 92) (tgt := 99) C (dq D_Model_openPadded 48 rfl) (by decide) (by omega) (fun hq => ?_) (fun hq => ?_)
                · exact bad (decide_eq_false (fun z => hq z.2.2.2.2.2.2))
                · have hs : sgn (opr U W nr ROW) = true := decide_eq_true ⟨a0, a1, a2, a3, a4, a5, hq⟩
                  rw [hs] at h0
                  refine x_iconst (pc := 95) C (dq D_Model_openPadded 49 rfl) ci_1 ?_
                  refine x_goto (pc := 96) (tgt := 100) C (dq D_Model_openPadded 50 rfl) (by decide) ?_
                  exact h0
  refine x_aload_n (pc := 0) C (dq D_Model_openPadded 0 rfl) rfl ?_
  refine x_get (pc := 1) (ci := 1) (j := 13) C (dq D_Model_openPadded 1 rfl) rfl rfl (mo hP) rfl k_fl_Model_100 ?_
  refine x_bipush (pc := 4) C (dq D_Model_openPadded 2 rfl) cb_16 ?_
  refine n_ne (pc := 6) (tgt := 17) C (dq D_Model_openPadded 3 rfl) (by decide) (by omega) (fun hq => ?_) (fun hq => ?_)
  · have e0 : mud U W (nr / 8 - 1) ROW = (opr U W nr ROW) := (if_neg hq).symm
    refine x_aload_n (pc := 17) C (dq D_Model_openPadded 8 rfl) rfl ?_
    refine x_cV (pc := 18) (ci := 1) (M := M_Model_unwrap) C (dq D_Model_openPadded 9 rfl) k_ml_Model_127 m_Model_unwrap rfl rfl (mo hP) (cm_unwrap hP hW hT hU hb hR (by omega)) rfl rfl rfl rfl (by decide) (fun o h2 hp => ?_)
    obtain ⟨rfl, B2, V2, hB2, rfl⟩ := hp
    refine ⟨none, rfl, ?_⟩
    rw [e0]
    exact first B2 V2 hB2
  · have e0 : sgl (if 1 = 0 then enc T W 0 (ROW.take 16) else dec U W 0 (ROW.take 16)) ROW = (opr U W nr ROW) := (if_pos hq).symm
    refine x_aload_n (pc := 9) C (dq D_Model_openPadded 4 rfl) rfl ?_
    refine x_iconst (pc := 10) C (dq D_Model_openPadded 5 rfl) ci_1 ?_
    refine x_cV (pc := 11) (ci := 1) (M := M_Model_single) C (dq D_Model_openPadded 6 rfl) k_ml_Model_120 m_Model_single rfl rfl (mo hP) (cm_single (bk := 1) hP hW hT hU hb hR (by omega)) rfl rfl rfl rfl (by decide) (fun o h2 hp => ?_)
    obtain ⟨rfl, B2, V2, hB2, rfl⟩ := hp
    refine ⟨none, rfl, ?_⟩
    rw [e0]
    show X g f M_Model_openPadded (0, 0) (fun o h' => o = .returned (some (.int (nI (if (opk (nr - 8) (opr U W nr ROW)) then 1 else 0)))) ∧ ∃ B' M' : List Nat, bm16 (B', M') ∧ h' = mh g P cd ni no nt (if (opk (nr - 8) (opr U W nr ROW)) then (opr U W nr ROW).getD 7 0 else nr - 8) nl [W, T, U, IN, OUT, IS, IB, B', M', (drp (nr - 8) (opr U W nr ROW)), TX, MA, SM, KP] S) (0, 0) 14 [some (.ref (zA (gz g) 44)), none, none, none] [] (mh g P cd ni no nt nr nl [W, T, U, IN, OUT, IS, IB, B2, V2, (opr U W nr ROW), TX, MA, SM, KP] S)
    refine x_goto (pc := 14) (tgt := 21) C (dq D_Model_openPadded 7 rfl) (by decide) ?_
    exact first B2 V2 hB2
