/-- the reference's unmixing and its places moved back -/
def mum (r : Nat) (B : List Nat) (k : Nat) (M : List Nat) : List Nat := M.set k (if r = 10 then B.getD k 0 else ((prd (B.getD (k / 4 * 4 + k % 4) 0) 14 ^^^ prd (B.getD (k / 4 * 4 + (k % 4 + 1) % 4) 0) 11) ^^^ prd (B.getD (k / 4 * 4 + (k % 4 + 2) % 4) 0) 13) ^^^ prd (B.getD (k / 4 * 4 + (k % 4 + 3) % 4) 0) 9)
def mub (U M : List Nat) (c k : Nat) (B : List Nat) : List Nat := B.set (4 * ((c + k) % 4) + k) (U.getD (M.getD (4 * c + k) 0) 0)
def muv (U M : List Nat) (c : Nat) (B : List Nat) : List Nat := it (mub U M c) 0 4 B
theorem mum_len (r : Nat) (B : List Nat) (k : Nat) (M : List Nat) : (mum r B k M).length = M.length := List.length_set
theorem mub_len (U M : List Nat) (c k : Nat) (B : List Nat) : (mub U M c k B).length = B.length := List.length_set
theorem muv_len (U M : List Nat) (c : Nat) (B : List Nat) : (muv U M c B).length = B.length := it_len (mub_len U M c) 4 0 B
theorem mum8 (r : Nat) {B : List Nat} (hB : by8 B) (n k : Nat) {M : List Nat} (h : by8 M) : by8 (it (mum r B) k n M) := it_inv by8 n k M (fun j S _ _ hS => hS.set (by
  split
  · exact hB.at _
  · exact xor8 (xor8 (xor8 (prd8 (hB.at _)) (prd8 (hB.at _))) (prd8 (hB.at _))) (prd8 (hB.at _)))) h
theorem muv8 {U : List Nat} (hU : by8 U) (M : List Nat) (c n k : Nat) {B : List Nat} (h : by8 B) : by8 (it (mub U M c) k n B) := it_inv by8 n k B (fun j S _ _ hS => hS.set (hU.at _)) h
theorem muvs_ok {U M : List Nat} (hU : by8 U) (c n : Nat) {B : List Nat} (h : B.length = 16 ∧ by8 B) : (it (muv U M) c n B).length = 16 ∧ by8 (it (muv U M) c n B) :=
  it_inv (fun B : List Nat => B.length = 16 ∧ by8 B) n c B (fun j S _ _ hS => ⟨by rw [muv_len]; exact hS.1, muv8 hU M j 4 0 hS.2⟩) h
/-- a round back: block, moved places -/
def mrb (U W : List Nat) (f r : Nat) (q : List Nat × List Nat) : List Nat × List Nat :=
  (it (muv U (it (mum r (it (mak W f r) 0 16 q.1)) 0 16 q.2)) 0 4 (it (mak W f r) 0 16 q.1), it (mum r (it (mak W f r) 0 16 q.1)) 0 16 q.2)
def mdec (U W : List Nat) (f : Nat) (q : List Nat × List Nat) : List Nat × List Nat := (it (mak W f 0) 0 16 (it (fun i => mrb U W f (10 - i)) 0 10 q).1, (it (fun i => mrb U W f (10 - i)) 0 10 q).2)
theorem mrb_ok {U : List Nat} (hU : by8 U) (W : List Nat) (f r : Nat) {q : List Nat × List Nat} (h : bm16 q) : bm16 (mrb U W f r q) := by
  obtain ⟨a, b, c, d⟩ := h
  have h1 : (it (mak W f r) 0 16 q.1).length = 16 := by
    rw [it_len (mak_len W f r)]
    exact a
  have h2 : by8 (it (mak W f r) 0 16 q.1) := mak8 W f r 0 16 b
  have h3 : (it (mum r (it (mak W f r) 0 16 q.1)) 0 16 q.2).length = 16 := by
    rw [it_len (mum_len r _)]
    exact c
  have h4 : by8 (it (mum r (it (mak W f r) 0 16 q.1)) 0 16 q.2) := mum8 r h2 16 0 d
  obtain ⟨h5, h6⟩ := muvs_ok (M := it (mum r (it (mak W f r) 0 16 q.1)) 0 16 q.2) hU 0 4 ⟨h1, h2⟩
  unfold bm16 mrb
  dsimp only
  exact ⟨h5, h6, h3, h4⟩
theorem mrbs_ok {U : List Nat} (hU : by8 U) (W : List Nat) (f k n : Nat) {q : List Nat × List Nat} (h : bm16 q) : bm16 (it (fun i => mrb U W f (10 - i)) k n q) :=
  it_inv bm16 n k q (fun j s _ _ hs => mrb_ok hU W f (10 - j) hs) h
theorem mdec_ok {U : List Nat} (hU : by8 U) (W : List Nat) (f : Nat) {q : List Nat × List Nat} (h : bm16 q) : bm16 (mdec U W f q) := by
  obtain ⟨a, b, c, d⟩ := mrbs_ok hU W f 0 10 h
  have h1 : (it (mak W f 0) 0 16 (it (fun i => mrb U W f (10 - i)) 0 10 q).1).length = 16 := by
    rw [it_len (mak_len W f 0)]
    exact a
  have h2 := mak8 W f 0 0 16 b
  unfold bm16 mdec
  dsimp only
  exact ⟨h1, h2, c, d⟩
theorem c_decipher {g : Gp} {h : Hp} {cd ni no nt nr nl f0 : Nat} {W T U B M : List Nat} (hc : mci g h cd ni no nt nr nl W T U) (hb : h[52]? = some (ia g B)) (hv : h[53]? = some (ia g M)) (hq : bm16 (B, M)) (hf : f0 ≤ 44) :
    Con g M_Model_decipher 1 (0, 0) [.ref (zA (gz g) 44), .int (nI f0)] h (Ret none ((h.set 53 (ia g (mdec U W f0 (B, M)).2)).set 52 (ia g (mdec U W f0 (B, M)).1))) := by
  have v1 : ∀ (e e' : va_E), ((h.set 53 e).set 52 e')[53]? = some e := fun e e' => gs_ne (by decide) (gs_self hv)
  have b1 : ∀ (e e' : va_E), ((h.set 53 e).set 52 e')[52]? = some e' := fun e e' => gs_self (gs_ne (by decide) hb)
  have c1 : ∀ (e e' : va_E), mci g ((h.set 53 e).set 52 e') cd ni no nt nr nl W T U := fun e e' => mci.at (mci.at hc rfl) rfl
  have hU8 := hc.2.2.2.2.2.2.2.2.2
  have hU := hc.2.2.2.2.2.2.1
  refine Con.of (by decide) rfl rfl (L := [some (.ref (zA (gz g) 44)), some (.int (nI f0)), none, none, none, none]) rfl (fun f C => ?_)
  have loop : ∀ (n i : Nat) (q : List Nat × List Nat) (l3 l4 l5 : Option Value), i + n = 10 → bm16 q → it (fun i => mrb U W f0 (10 - i)) i n q = it (fun i => mrb U W f0 (10 - i)) 0 10 (B, M) → X g f M_Model_decipher (0, 0) (Ret none ((h.set 53 (ia g (mdec U W f0 (B, M)).2)).set 52 (ia g (mdec U W f0 (B, M)).1))) (0, 0) 3 [some (.ref (zA (gz g) 44)), some (.int (nI f0)), some (.int (nI (10 - i))), l3, l4, l5] [] ((h.set 53 (ia g q.2)).set 52 (ia g q.1)) := by
    intro n
    induction n with
    | zero =>
      intro i q l3 l4 l5 hin hq he
      have e1 : q = it (fun i => mrb U W f0 (10 - i)) 0 10 (B, M) := he
      refine x_iload_n (pc := 3) C (dq D_Model_decipher 2 rfl) rfl ?_
      refine x_iconst (pc := 4) C (dq D_Model_decipher 3 rfl) ci_1 ?_
      refine n_lt_t (pc := 5) (tgt := 202) C (dq D_Model_decipher 4 rfl) (by decide) (by omega) (by omega) ?_
      refine x_aload_n (pc := 202) C (dq D_Model_decipher 124 rfl) rfl ?_
      refine x_iload_n (pc := 203) C (dq D_Model_decipher 125 rfl) rfl ?_
      refine x_iconst (pc := 204) C (dq D_Model_decipher 126 rfl) ci_0 ?_
      refine x_cV0 (pc := 205) (ci := 1) (M := M_Model_addKey) C (dq D_Model_decipher 127 rfl) k_ml_Model_74 m_Model_addKey rfl rfl ((c1 _ _).1) (c_addKey (r := 0) (c1 _ _).1 (c1 _ _).2.1 (b1 _ _) hc.2.2.2.2.1 hc.2.2.2.2.2.2.2.1 hq.1 (by omega) hf) rfl rfl rfl rfl (by decide) ?_
      rw [List.set_set]
      exact x_vret (pc := 208) C (dq D_Model_decipher 128 rfl) rfl (by decide) ⟨rfl, by unfold mdec; rw [← e1]⟩
    | succ n ih =>
      intro i q l3 l4 l5 hin hq he
      obtain ⟨hq1, hq2, hq3, hq4⟩ := hq
      obtain ⟨S0, M0⟩ := q
      dsimp only at hq1 hq2 hq3 hq4 he ⊢
      have hS : (it (mak W f0 (10 - i)) 0 16 S0).length = 16 := by
        rw [it_len (mak_len W f0 _)]
        exact hq1
      have hS8 : by8 (it (mak W f0 (10 - i)) 0 16 S0) := mak8 W f0 _ 0 16 hq2
      generalize hSe : it (mak W f0 (10 - i)) 0 16 S0 = S at hS hS8
      have hV : (it (mum (10 - i) S) 0 16 M0).length = 16 := by
        rw [it_len (mum_len _ _)]
        exact hq3
      have hV8 : by8 (it (mum (10 - i) S) 0 16 M0) := mum8 _ hS8 16 0 hq4
      -- the moving back
      have moving : ∀ (V : List Nat), V = it (mum (10 - i) S) 0 16 M0 → V.length = 16 → by8 V → ∀ (l4 l5 : Option Value), X g f M_Model_decipher (0, 0) (Ret none ((h.set 53 (ia g (mdec U W f0 (B, M)).2)).set 52 (ia g (mdec U W f0 (B, M)).1))) (0, 0) 138 [some (.ref (zA (gz g) 44)), some (.int (nI f0)), some (.int (nI (10 - i))), some (.int (nI 0)), l4, l5] [] ((h.set 53 (ia g V)).set 52 (ia g S)) := by
        intro V hVe hV hV8
        have inner : ∀ (n k c : Nat) (R : List Nat) (l5 : Option Value), k + n = 4 → c < 4 → R.length = 16 → (∀ l4, X g f M_Model_decipher (0, 0) (Ret none ((h.set 53 (ia g (mdec U W f0 (B, M)).2)).set 52 (ia g (mdec U W f0 (B, M)).1))) (0, 0) 190 [some (.ref (zA (gz g) 44)), some (.int (nI f0)), some (.int (nI (10 - i))), some (.int (nI c)), l4, l5] [] ((h.set 53 (ia g V)).set 52 (ia g (it (mub U V c) k n R)))) → X g f M_Model_decipher (0, 0) (Ret none ((h.set 53 (ia g (mdec U W f0 (B, M)).2)).set 52 (ia g (mdec U W f0 (B, M)).1))) (0, 0) 146 [some (.ref (zA (gz g) 44)), some (.int (nI f0)), some (.int (nI (10 - i))), some (.int (nI c)), some (.int (nI k)), l5] [] ((h.set 53 (ia g V)).set 52 (ia g R)) := by
          intro n2
          induction n2 with
          | zero =>
            intro k c R l5 hkn hc4 hR go
            refine x_iload (pc := 146) C (dq D_Model_decipher 92 rfl) rfl ?_
            refine x_iconst (pc := 148) C (dq D_Model_decipher 93 rfl) ci_4 ?_
            refine n_ge_t (pc := 149) (tgt := 190) C (dq D_Model_decipher 94 rfl) (by decide) (by omega) (by omega) ?_
            exact go _
          | succ n2 ih2 =>
            intro k c R l5 hkn hc4 hR go
            have p0 := hV8.at (4 * c + k)
            refine x_iload (pc := 146) C (dq D_Model_decipher 92 rfl) rfl ?_
            refine x_iconst (pc := 148) C (dq D_Model_decipher 93 rfl) ci_4 ?_
            refine n_ge_f (pc := 149) (tgt := 190) C (dq D_Model_decipher 94 rfl) (by decide) (by omega) (by omega) ?_
            refine x_aload_n (pc := 152) C (dq D_Model_decipher 95 rfl) rfl ?_
            refine x_get (pc := 153) (ci := 1) (j := 11) C (dq D_Model_decipher 96 rfl) rfl rfl (by first | exact (c1 _ _).1 | exact v1 _ _ | exact b1 _ _ | exact (c1 _ _).2.2.2.1) rfl k_fl_Model_31 ?_
            refine x_iconst (pc := 156) C (dq D_Model_decipher 97 rfl) ci_4 ?_
            refine x_iload_n (pc := 157) C (dq D_Model_decipher 98 rfl) rfl ?_
            refine x_iload (pc := 158) C (dq D_Model_decipher 99 rfl) rfl ?_
            refine n_iadd (pc := 160) C (dq D_Model_decipher 100 rfl) ?_
            refine x_iconst (pc := 161) C (dq D_Model_decipher 101 rfl) ci_4 ?_
            refine n_irem (pc := 162) C (dq D_Model_decipher 102 rfl) (by omega) (by omega) (by omega) ?_
            refine n_imul (pc := 163) C (dq D_Model_decipher 103 rfl) ?_
            refine x_iload (pc := 164) C (dq D_Model_decipher 104 rfl) rfl ?_
            refine n_iadd (pc := 166) C (dq D_Model_decipher 105 rfl) ?_
            refine x_aload_n (pc := 167) C (dq D_Model_decipher 106 rfl) rfl ?_
            refine x_get (pc := 168) (ci := 1) (j := 3) C (dq D_Model_decipher 107 rfl) rfl rfl (by first | exact (c1 _ _).1 | exact v1 _ _ | exact b1 _ _ | exact (c1 _ _).2.2.2.1) rfl k_fl_Model_16 ?_
            refine x_aload_n (pc := 171) C (dq D_Model_decipher 108 rfl) rfl ?_
            refine x_get (pc := 172) (ci := 1) (j := 12) C (dq D_Model_decipher 109 rfl) rfl rfl (by first | exact (c1 _ _).1 | exact v1 _ _ | exact b1 _ _ | exact (c1 _ _).2.2.2.1) rfl k_fl_Model_34 ?_
            refine x_iconst (pc := 175) C (dq D_Model_decipher 110 rfl) ci_4 ?_
            refine x_iload_n (pc := 176) C (dq D_Model_decipher 111 rfl) rfl ?_
            refine n_imul (pc := 177) C (dq D_Model_decipher 112 rfl) ?_
            refine x_iload (pc := 178) C (dq D_Model_decipher 113 rfl) rfl ?_
            refine n_iadd (pc := 180) C (dq D_Model_decipher 114 rfl) ?_
            refine x_iald (pc := 181) C (dq D_Model_decipher 115 rfl) (by first | exact (c1 _ _).1 | exact v1 _ _ | exact b1 _ _ | exact (c1 _ _).2.2.2.1) (by (try simp only [List.length_set]); omega) ?_
            refine x_iald (pc := 182) C (dq D_Model_decipher 116 rfl) (by first | exact (c1 _ _).1 | exact v1 _ _ | exact b1 _ _ | exact (c1 _ _).2.2.2.1) (by (try simp only [List.length_set]); omega) ?_
            refine x_iast (pc := 183) C (dq D_Model_decipher 117 rfl) (by first | exact (c1 _ _).1 | exact v1 _ _ | exact b1 _ _ | exact (c1 _ _).2.2.2.1) (by (try simp only [List.length_set]); omega) ?_
            try rw [List.set_set]
            refine x_iinc (pc := 184) C (dq D_Model_decipher 118 rfl) rfl (ii_1 _) rfl rfl ?_
            simp only [List.set_cons_zero, List.set_cons_succ]
            refine x_goto (pc := 187) (tgt := 146) C (dq D_Model_decipher 119 rfl) (by decide) ?_
            exact ih2 (k + 1) c (mub U V c k R) l5 (by omega) hc4 (by rw [mub_len]; exact hR) go
        have outer : ∀ (n c : Nat) (R : List Nat) (l4 l5 : Option Value), c + n = 4 → R.length = 16 → it (muv U V) c n R = it (muv U V) 0 4 S → X g f M_Model_decipher (0, 0) (Ret none ((h.set 53 (ia g (mdec U W f0 (B, M)).2)).set 52 (ia g (mdec U W f0 (B, M)).1))) (0, 0) 138 [some (.ref (zA (gz g) 44)), some (.int (nI f0)), some (.int (nI (10 - i))), some (.int (nI c)), l4, l5] [] ((h.set 53 (ia g V)).set 52 (ia g R)) := by
          intro n2
          induction n2 with
          | zero =>
            intro c R l4 l5 hcn hR heR
            have e1 : R = it (muv U V) 0 4 S := heR
            refine x_iload_n (pc := 138) C (dq D_Model_decipher 87 rfl) rfl ?_
            refine x_iconst (pc := 139) C (dq D_Model_decipher 88 rfl) ci_4 ?_
            refine n_ge_t (pc := 140) (tgt := 196) C (dq D_Model_decipher 89 rfl) (by decide) (by omega) (by omega) ?_
            refine x_iinc (pc := 196) C (dq D_Model_decipher 122 rfl) rfl (iim (by omega)) rfl rfl ?_
            simp only [List.set_cons_zero, List.set_cons_succ]
            refine x_goto (pc := 199) (tgt := 3) C (dq D_Model_decipher 123 rfl) (by decide) ?_
            have e2 : (R, V) = mrb U W f0 (10 - i) (S0, M0) := by
              unfold mrb
              dsimp only
              rw [hSe, ← hVe, e1]
            have e3 : 10 - i - 1 = 10 - (i + 1) := by omega
            have h0 := ih (i + 1) (mrb U W f0 (10 - i) (S0, M0)) (some (.int (nI c))) l4 l5 (by omega) (mrb_ok hU8 W f0 (10 - i) ⟨hq1, hq2, hq3, hq4⟩) he
            rw [← e2] at h0
            rw [e3]
            exact h0
          | succ n2 ih2 =>
            intro c R l4 l5 hcn hR heR
            refine x_iload_n (pc := 138) C (dq D_Model_decipher 87 rfl) rfl ?_
            refine x_iconst (pc := 139) C (dq D_Model_decipher 88 rfl) ci_4 ?_
            refine n_ge_f (pc := 140) (tgt := 196) C (dq D_Model_decipher 89 rfl) (by decide) (by omega) (by omega) ?_
            refine x_iconst (pc := 143) C (dq D_Model_decipher 90 rfl) ci_0 ?_
            refine x_istore (i := 4) (pc := 144) C (dq D_Model_decipher 91 rfl) rfl rfl rfl ?_
            simp only [List.set_cons_zero, List.set_cons_succ]
            refine inner 4 0 c R l5 rfl (by omega) hR (fun l4 => ?_)
            refine x_iinc (pc := 190) C (dq D_Model_decipher 120 rfl) rfl (ii_1 _) rfl rfl ?_
            simp only [List.set_cons_zero, List.set_cons_succ]
            refine x_goto (pc := 193) (tgt := 138) C (dq D_Model_decipher 121 rfl) (by decide) ?_
            exact ih2 (c + 1) (muv U V c R) l4 l5 (by omega) (by rw [muv_len]; exact hR) heR
        intro l4 l5
        exact outer 4 0 S l4 l5 rfl hS rfl
      -- the unmixing
      have unmixing : ∀ (n k : Nat) (V : List Nat) (l4 l5 : Option Value), k + n = 16 → V.length = 16 → by8 V → it (mum (10 - i) S) k n V = it (mum (10 - i) S) 0 16 M0 → X g f M_Model_decipher (0, 0) (Ret none ((h.set 53 (ia g (mdec U W f0 (B, M)).2)).set 52 (ia g (mdec U W f0 (B, M)).1))) (0, 0) 16 [some (.ref (zA (gz g) 44)), some (.int (nI f0)), some (.int (nI (10 - i))), some (.int (nI k)), l4, l5] [] ((h.set 53 (ia g V)).set 52 (ia g S)) := by
        intro n2
        induction n2 with
        | zero =>
          intro k V l4 l5 hkn hV hV8 heV
          refine x_iload_n (pc := 16) C (dq D_Model_decipher 11 rfl) rfl ?_
          refine x_bipush (pc := 17) C (dq D_Model_decipher 12 rfl) cb_16 ?_
          refine n_ge_t (pc := 19) (tgt := 136) C (dq D_Model_decipher 13 rfl) (by decide) (by omega) (by omega) ?_
          refine x_iconst (pc := 136) C (dq D_Model_decipher 85 rfl) ci_0 ?_
          refine x_istore_n (i := 3) (pc := 137) C (dq D_Model_decipher 86 rfl) rfl rfl rfl ?_
          simp only [List.set_cons_zero, List.set_cons_succ]
          exact moving V heV hV hV8 l4 l5
        | succ n2 ih2 =>
          intro k V l4 l5 hkn hV hV8 heV
          have p0 := hS8.at (k / 4 * 4 + k % 4)
          have p1 := hS8.at (k / 4 * 4 + (k % 4 + 1) % 4)
          have p2 := hS8.at (k / 4 * 4 + (k % 4 + 2) % 4)
          have p3 := hS8.at (k / 4 * 4 + (k % 4 + 3) % 4)
          have fin : ∀ v : Nat, v = (if 10 - i = 10 then S.getD k 0 else ((prd (S.getD (k / 4 * 4 + k % 4) 0) 14 ^^^ prd (S.getD (k / 4 * 4 + (k % 4 + 1) % 4) 0) 11) ^^^ prd (S.getD (k / 4 * 4 + (k % 4 + 2) % 4) 0) 13) ^^^ prd (S.getD (k / 4 * 4 + (k % 4 + 3) % 4) 0) 9) → X g f M_Model_decipher (0, 0) (Ret none ((h.set 53 (ia g (mdec U W f0 (B, M)).2)).set 52 (ia g (mdec U W f0 (B, M)).1))) (0, 0) 129 [some (.ref (zA (gz g) 44)), some (.int (nI f0)), some (.int (nI (10 - i))), some (.int (nI k)), some (.int (nI (k / 4 * 4))), some (.int (nI (k % 4)))] [.int (nI v), .int (nI k), .ref (zA (gz g) 53)] ((h.set 53 (ia g V)).set 52 (ia g S)) := by
            intro v hv0
            have hv8 : v < 256 := by
              rw [hv0]
              split
              · exact hS8.at _
              · exact xor8 (xor8 (xor8 (prd8 p0) (prd8 p1)) (prd8 p2)) (prd8 p3)
            refine x_iast (pc := 129) C (dq D_Model_decipher 82 rfl) (v1 _ _) (by (try simp only [List.length_set]); omega) ?_
            try rw [List.set_set]
            rw [gs_in (show (53 : Nat) ≠ 52 by decide)]
            refine x_iinc (pc := 130) C (dq D_Model_decipher 83 rfl) rfl (ii_1 _) rfl rfl ?_
            simp only [List.set_cons_zero, List.set_cons_succ]
            refine x_goto (pc := 133) (tgt := 16) C (dq D_Model_decipher 84 rfl) (by decide) ?_
            refine ih2 (k + 1) (V.set k v) _ _ (by omega) (by rw [List.length_set]; exact hV) (hV8.set hv8) ?_
            rw [hv0]
            exact heV
          refine x_iload_n (pc := 16) C (dq D_Model_decipher 11 rfl) rfl ?_
          refine x_bipush (pc := 17) C (dq D_Model_decipher 12 rfl) cb_16 ?_
          refine n_ge_f (pc := 19) (tgt := 136) C (dq D_Model_decipher 13 rfl) (by decide) (by omega) (by omega) ?_
          refine x_iload_n (pc := 22) C (dq D_Model_decipher 14 rfl) rfl ?_
          refine x_iconst (pc := 23) C (dq D_Model_decipher 15 rfl) ci_4 ?_
          refine n_idiv (pc := 24) C (dq D_Model_decipher 16 rfl) (by omega) (by omega) (by omega) ?_
          refine x_iconst (pc := 25) C (dq D_Model_decipher 17 rfl) ci_4 ?_
          refine n_imul (pc := 26) C (dq D_Model_decipher 18 rfl) ?_
          refine x_istore (i := 4) (pc := 27) C (dq D_Model_decipher 19 rfl) rfl rfl rfl ?_
          simp only [List.set_cons_zero, List.set_cons_succ]
          refine x_iload_n (pc := 29) C (dq D_Model_decipher 20 rfl) rfl ?_
          refine x_iconst (pc := 30) C (dq D_Model_decipher 21 rfl) ci_4 ?_
          refine n_irem (pc := 31) C (dq D_Model_decipher 22 rfl) (by omega) (by omega) (by omega) ?_
          refine x_istore (i := 5) (pc := 32) C (dq D_Model_decipher 23 rfl) rfl rfl rfl ?_
          simp only [List.set_cons_zero, List.set_cons_succ]
          refine x_aload_n (pc := 34) C (dq D_Model_decipher 24 rfl) rfl ?_
          refine x_get (pc := 35) (ci := 1) (j := 12) C (dq D_Model_decipher 25 rfl) rfl rfl ((c1 _ _).1) rfl k_fl_Model_34 ?_
          refine x_iload_n (pc := 38) C (dq D_Model_decipher 26 rfl) rfl ?_
          refine x_iload_n (pc := 39) C (dq D_Model_decipher 27 rfl) rfl ?_
          refine x_bipush (pc := 40) C (dq D_Model_decipher 28 rfl) cb_10 ?_
          refine n_ne (pc := 42) (tgt := 54) C (dq D_Model_decipher 29 rfl) (by decide) (by omega) (fun hq => ?_) (fun hq => ?_)
          · rw [if_neg hq] at fin
            refine x_aload_n (pc := 54) C (dq D_Model_decipher 35 rfl) rfl ?_
            refine x_get (pc := 55) (ci := 1) (j := 11) C (dq D_Model_decipher 36 rfl) rfl rfl (by first | exact (c1 _ _).1 | exact b1 _ _) rfl k_fl_Model_31 ?_
            refine x_iload (pc := 58) C (dq D_Model_decipher 37 rfl) rfl ?_
            refine x_iload (pc := 60) C (dq D_Model_decipher 38 rfl) rfl ?_
            refine n_iadd (pc := 62) C (dq D_Model_decipher 39 rfl) ?_
            refine x_iald (pc := 63) C (dq D_Model_decipher 40 rfl) (by first | exact (c1 _ _).1 | exact b1 _ _) (by (try simp only [List.length_set]); omega) ?_
            refine x_bipush (pc := 64) C (dq D_Model_decipher 41 rfl) cb_14 ?_
            refine x_cS1 (pc := 66) (M := M_Model_product) C (dq D_Model_decipher 42 rfl) k_ml_Model_68 m_Model_product (c_product p0 (by omega)) rfl rfl rfl rfl (by decide) ?_
            refine x_aload_n (pc := 69) C (dq D_Model_decipher 43 rfl) rfl ?_
            refine x_get (pc := 70) (ci := 1) (j := 11) C (dq D_Model_decipher 44 rfl) rfl rfl (by first | exact (c1 _ _).1 | exact b1 _ _) rfl k_fl_Model_31 ?_
            refine x_iload (pc := 73) C (dq D_Model_decipher 45 rfl) rfl ?_
            refine x_iload (pc := 75) C (dq D_Model_decipher 46 rfl) rfl ?_
            refine x_iconst (pc := 77) C (dq D_Model_decipher 47 rfl) ci_1 ?_
            refine n_iadd (pc := 78) C (dq D_Model_decipher 48 rfl) ?_
            refine x_iconst (pc := 79) C (dq D_Model_decipher 49 rfl) ci_4 ?_
            refine n_irem (pc := 80) C (dq D_Model_decipher 50 rfl) (by omega) (by omega) (by omega) ?_
            refine n_iadd (pc := 81) C (dq D_Model_decipher 51 rfl) ?_
            refine x_iald (pc := 82) C (dq D_Model_decipher 52 rfl) (by first | exact (c1 _ _).1 | exact b1 _ _) (by (try simp only [List.length_set]); omega) ?_
            refine x_bipush (pc := 83) C (dq D_Model_decipher 53 rfl) cb_11 ?_
            refine x_cS1 (pc := 85) (M := M_Model_product) C (dq D_Model_decipher 54 rfl) k_ml_Model_68 m_Model_product (c_product p1 (by omega)) rfl rfl rfl rfl (by decide) ?_
            refine n_ixor (pc := 88) C (dq D_Model_decipher 55 rfl) ?_
            refine x_aload_n (pc := 89) C (dq D_Model_decipher 56 rfl) rfl ?_
            refine x_get (pc := 90) (ci := 1) (j := 11) C (dq D_Model_decipher 57 rfl) rfl rfl (by first | exact (c1 _ _).1 | exact b1 _ _) rfl k_fl_Model_31 ?_
            refine x_iload (pc := 93) C (dq D_Model_decipher 58 rfl) rfl ?_
            refine x_iload (pc := 95) C (dq D_Model_decipher 59 rfl) rfl ?_
            refine x_iconst (pc := 97) C (dq D_Model_decipher 60 rfl) ci_2 ?_
            refine n_iadd (pc := 98) C (dq D_Model_decipher 61 rfl) ?_
            refine x_iconst (pc := 99) C (dq D_Model_decipher 62 rfl) ci_4 ?_
            refine n_irem (pc := 100) C (dq D_Model_decipher 63 rfl) (by omega) (by omega) (by omega) ?_
            refine n_iadd (pc := 101) C (dq D_Model_decipher 64 rfl) ?_
            refine x_iald (pc := 102) C (dq D_Model_decipher 65 rfl) (by first | exact (c1 _ _).1 | exact b1 _ _) (by (try simp only [List.length_set]); omega) ?_
            refine x_bipush (pc := 103) C (dq D_Model_decipher 66 rfl) cb_13 ?_
            refine x_cS1 (pc := 105) (M := M_Model_product) C (dq D_Model_decipher 67 rfl) k_ml_Model_68 m_Model_product (c_product p2 (by omega)) rfl rfl rfl rfl (by decide) ?_
            refine n_ixor (pc := 108) C (dq D_Model_decipher 68 rfl) ?_
            refine x_aload_n (pc := 109) C (dq D_Model_decipher 69 rfl) rfl ?_
            refine x_get (pc := 110) (ci := 1) (j := 11) C (dq D_Model_decipher 70 rfl) rfl rfl (by first | exact (c1 _ _).1 | exact b1 _ _) rfl k_fl_Model_31 ?_
            refine x_iload (pc := 113) C (dq D_Model_decipher 71 rfl) rfl ?_
            refine x_iload (pc := 115) C (dq D_Model_decipher 72 rfl) rfl ?_
            refine x_iconst (pc := 117) C (dq D_Model_decipher 73 rfl) ci_3 ?_
            refine n_iadd (pc := 118) C (dq D_Model_decipher 74 rfl) ?_
            refine x_iconst (pc := 119) C (dq D_Model_decipher 75 rfl) ci_4 ?_
            refine n_irem (pc := 120) C (dq D_Model_decipher 76 rfl) (by omega) (by omega) (by omega) ?_
            refine n_iadd (pc := 121) C (dq D_Model_decipher 77 rfl) ?_
            refine x_iald (pc := 122) C (dq D_Model_decipher 78 rfl) (by first | exact (c1 _ _).1 | exact b1 _ _) (by (try simp only [List.length_set]); omega) ?_
            refine x_bipush (pc := 123) C (dq D_Model_decipher 79 rfl) cb_9 ?_
            refine x_cS1 (pc := 125) (M := M_Model_product) C (dq D_Model_decipher 80 rfl) k_ml_Model_68 m_Model_product (c_product p3 (by omega)) rfl rfl rfl rfl (by decide) ?_
            refine n_ixor (pc := 128) C (dq D_Model_decipher 81 rfl) ?_
            exact fin _ rfl
          · rw [if_pos hq] at fin
            refine x_aload_n (pc := 45) C (dq D_Model_decipher 30 rfl) rfl ?_
            refine x_get (pc := 46) (ci := 1) (j := 11) C (dq D_Model_decipher 31 rfl) rfl rfl (by first | exact (c1 _ _).1 | exact b1 _ _) rfl k_fl_Model_31 ?_
            refine x_iload_n (pc := 49) C (dq D_Model_decipher 32 rfl) rfl ?_
            refine x_iald (pc := 50) C (dq D_Model_decipher 33 rfl) (by first | exact (c1 _ _).1 | exact b1 _ _) (by (try simp only [List.length_set]); omega) ?_
            refine x_goto (pc := 51) (tgt := 129) C (dq D_Model_decipher 34 rfl) (by decide) ?_
            exact fin _ rfl
      refine x_iload_n (pc := 3) C (dq D_Model_decipher 2 rfl) rfl ?_
      refine x_iconst (pc := 4) C (dq D_Model_decipher 3 rfl) ci_1 ?_
      refine n_lt_f (pc := 5) (tgt := 202) C (dq D_Model_decipher 4 rfl) (by decide) (by omega) (by omega) ?_
      refine x_aload_n (pc := 8) C (dq D_Model_decipher 5 rfl) rfl ?_
      refine x_iload_n (pc := 9) C (dq D_Model_decipher 6 rfl) rfl ?_
      refine x_iload_n (pc := 10) C (dq D_Model_decipher 7 rfl) rfl ?_
      refine x_cV0 (pc := 11) (ci := 1) (M := M_Model_addKey) C (dq D_Model_decipher 8 rfl) k_ml_Model_74 m_Model_addKey rfl rfl ((c1 _ _).1) (c_addKey (c1 _ _).1 (c1 _ _).2.1 (b1 _ _) hc.2.2.2.2.1 hc.2.2.2.2.2.2.2.1 hq1 (by omega) hf) rfl rfl rfl rfl (by decide) ?_
      rw [List.set_set, hSe]
      refine x_iconst (pc := 14) C (dq D_Model_decipher 9 rfl) ci_0 ?_
      refine x_istore_n (i := 3) (pc := 15) C (dq D_Model_decipher 10 rfl) rfl rfl rfl ?_
      simp only [List.set_cons_zero, List.set_cons_succ]
      exact unmixing 16 0 M0 l4 l5 rfl hq3 hq4 rfl
  refine x_bipush (pc := 0) C (dq D_Model_decipher 0 rfl) cb_10 ?_
  refine x_istore_n (i := 2) (pc := 2) C (dq D_Model_decipher 1 rfl) rfl rfl rfl ?_
  simp only [List.set_cons_zero, List.set_cons_succ]
  have h0 := loop 10 0 (B, M) none none none rfl hq rfl
  dsimp only at h0
  rw [gs_id hv, gs_id hb] at h0
  exact h0
/-- the reference's doubling -/
def mds (k : Nat) (S : List Nat) : List Nat := S.set k (((S.getD k 0 * 2) &&& 255) + (if k < 15 then S.getD (if k < 15 then k + 1 else 15) 0 / 2 ^ 7 else 0))
def mde (hi : Nat) (S : List Nat) : List Nat := S.set 15 (if hi = 1 then S.getD 15 0 ^^^ 135 else S.getD 15 0)
def mdb (S : List Nat) : List Nat := mde (S.getD 0 0 / 2 ^ 7) (it mds 0 16 S)
theorem mds_len (k : Nat) (S : List Nat) : (mds k S).length = S.length := List.length_set
theorem dbl8b : ∀ a, a < 256 → ∀ b, b < 2 → ((a * 2) &&& 255) + b < 256 := by decide +kernel
theorem mds8v {S : List Nat} (h : by8 S) (k : Nat) : ((S.getD k 0 * 2) &&& 255) + (if k < 15 then S.getD (if k < 15 then k + 1 else 15) 0 / 2 ^ 7 else 0) < 256 := by
  refine dbl8b _ (h.at k) _ ?_
  have h1 := h.at (k + 1)
  by_cases hk : k < 15
  · rw [if_pos hk, if_pos hk]
    omega
  · rw [if_neg hk]
    omega
theorem mds8 (k n : Nat) {S : List Nat} (h : by8 S) : by8 (it mds k n S) := it_inv by8 n k S (fun j T _ _ hT => hT.set (mds8v hT j)) h
theorem mdb_len (S : List Nat) : (mdb S).length = S.length := by
  unfold mdb mde
  rw [List.length_set, it_len mds_len]
theorem mdb8 {S : List Nat} (h : by8 S) : by8 (mdb S) := by
  have h1 := mds8 0 16 h
  exact h1.set (by
    split
    · exact xor8 (h1.at _) (by omega)
    · exact h1.at _)
theorem cm_doubleSum {g : Gp} {h : Hp} {cd ni no nt nr nl : Nat} {A : List Nat} (hm : h[44]? = some (moc g cd ni no nt nr nl)) (hb : h[57]? = some (ia g A)) (hA : A.length = 16) (h8 : by8 A) :
    Con g M_Model_doubleSum 1 (0, 0) [.ref (zA (gz g) 44)] h (Ret none (h.set 57 (ia g (mdb A)))) := by
  have hb1 : ∀ e, (h.set 57 e)[57]? = some e := fun e => gs_self hb
  have hm1 : ∀ e, (h.set 57 e)[44]? = some (moc g cd ni no nt nr nl) := fun e => gs_ne (by decide) hm
  have hz := h8.at 0
  refine Con.of (by decide) rfl rfl (L := [some (.ref (zA (gz g) 44)), none, none]) rfl (fun f C => ?_)
  have loop : ∀ (d k : Nat) (S : List Nat), k + d = 16 → S.length = 16 → by8 S → X g f M_Model_doubleSum (0, 0) (Ret none (h.set 57 (ia g (mde (A.getD 0 0 / 2 ^ 7) (it mds k d S))))) (0, 0) 12 [some (.ref (zA (gz g) 44)), some (.int (nI (A.getD 0 0 / 2 ^ 7))), some (.int (nI k))] [] (h.set 57 (ia g S)) := by
    intro d
    induction d with
    | zero =>
      intro k S hkn hS h8
      refine x_iload_n (pc := 12) C (dq D_Model_doubleSum 9 rfl) rfl ?_
      refine x_bipush (pc := 13) C (dq D_Model_doubleSum 10 rfl) cb_16 ?_
      refine n_ge_t (pc := 15) (tgt := 66) C (dq D_Model_doubleSum 11 rfl) (by decide) (by omega) (by omega) ?_
      refine x_aload_n (pc := 66) C (dq D_Model_doubleSum 40 rfl) rfl ?_
      refine x_get (pc := 67) (ci := 1) (j := 18) C (dq D_Model_doubleSum 41 rfl) rfl rfl (hm1 _) rfl k_fl_Model_46 ?_
      refine x_bipush (pc := 70) C (dq D_Model_doubleSum 42 rfl) cb_15 ?_
      refine x_iload_n (pc := 72) C (dq D_Model_doubleSum 43 rfl) rfl ?_
      refine x_iconst (pc := 73) C (dq D_Model_doubleSum 44 rfl) ci_1 ?_
      refine n_ne (pc := 74) (tgt := 91) C (dq D_Model_doubleSum 45 rfl) (by decide) (by omega) (fun hq => ?_) (fun hq => ?_)
      · refine x_aload_n (pc := 91) C (dq D_Model_doubleSum 53 rfl) rfl ?_
        refine x_get (pc := 92) (ci := 1) (j := 18) C (dq D_Model_doubleSum 54 rfl) rfl rfl (by first | exact hm1 _ | exact hb1 _) rfl k_fl_Model_46 ?_
        refine x_bipush (pc := 95) C (dq D_Model_doubleSum 55 rfl) cb_15 ?_
        refine x_iald (pc := 97) C (dq D_Model_doubleSum 56 rfl) (by first | exact hm1 _ | exact hb1 _) (by (try simp only [List.length_set]); omega) ?_
        refine x_iast (pc := 98) C (dq D_Model_doubleSum 57 rfl) (by first | exact hm1 _ | exact hb1 _) (by (try simp only [List.length_set]); omega) ?_
        try rw [List.set_set]
        exact x_vret (pc := 99) C (dq D_Model_doubleSum 58 rfl) rfl (by decide) ⟨rfl, by show h.set 57 (ia g (S.set 15 _)) = h.set 57 (ia g (S.set 15 _)); rw [if_neg hq]; rfl⟩
      · refine x_aload_n (pc := 77) C (dq D_Model_doubleSum 46 rfl) rfl ?_
        refine x_get (pc := 78) (ci := 1) (j := 18) C (dq D_Model_doubleSum 47 rfl) rfl rfl (by first | exact hm1 _ | exact hb1 _) rfl k_fl_Model_46 ?_
        refine x_bipush (pc := 81) C (dq D_Model_doubleSum 48 rfl) cb_15 ?_
        refine x_iald (pc := 83) C (dq D_Model_doubleSum 49 rfl) (by first | exact hm1 _ | exact hb1 _) (by (try simp only [List.length_set]); omega) ?_
        refine x_sipush (pc := 84) C (dq D_Model_doubleSum 50 rfl) cs_135 ?_
        refine n_ixor (pc := 87) C (dq D_Model_doubleSum 51 rfl) ?_
        refine x_goto (pc := 88) (tgt := 98) C (dq D_Model_doubleSum 52 rfl) (by decide) ?_
        refine x_iast (pc := 98) C (dq D_Model_doubleSum 57 rfl) (by first | exact hm1 _ | exact hb1 _) (by (try simp only [List.length_set]); omega) ?_
        try rw [List.set_set]
        exact x_vret (pc := 99) C (dq D_Model_doubleSum 58 rfl) rfl (by decide) ⟨rfl, by show h.set 57 (ia g (S.set 15 _)) = h.set 57 (ia g (S.set 15 _)); rw [if_pos hq]; rfl⟩
    | succ d ih =>
      intro k S hkn hS h8
      have h1 := h8.at k
      have fin : ∀ j : Nat, j = (if k < 15 then k + 1 else 15) → X g f M_Model_doubleSum (0, 0) (Ret none (h.set 57 (ia g (mde (A.getD 0 0 / 2 ^ 7) (it mds k (d + 1) S))))) (0, 0) 54 [some (.ref (zA (gz g) 44)), some (.int (nI (A.getD 0 0 / 2 ^ 7))), some (.int (nI k))] [.int (nI j), .ref (zA (gz g) 57), .int (nI k), .int (nI ((S.getD k 0 * 2) &&& 255)), .int (nI k), .ref (zA (gz g) 57)] (h.set 57 (ia g S)) := by
        intro j hj
        have hj1 : j < 16 := by rw [hj]; split <;> omega
        have h2 := h8.at j
        refine x_iald (pc := 54) C (dq D_Model_doubleSum 34 rfl) (by first | exact hm1 _ | exact hb1 _) (by (try simp only [List.length_set]); omega) ?_
        refine x_cS1 (pc := 55) (M := M_Model_bitBehind) C (dq D_Model_doubleSum 35 rfl) k_ml_Model_78 m_Model_bitBehind (c_bitBehind (by omega) h2) rfl rfl rfl rfl (by decide) ?_
        refine n_iadd (pc := 58) C (dq D_Model_doubleSum 36 rfl) ?_
        refine x_iast (pc := 59) C (dq D_Model_doubleSum 37 rfl) (by first | exact hm1 _ | exact hb1 _) (by (try simp only [List.length_set]); omega) ?_
        try rw [List.set_set]
        refine x_iinc (pc := 60) C (dq D_Model_doubleSum 38 rfl) rfl (ii_1 _) rfl rfl ?_
        simp only [List.set_cons_zero, List.set_cons_succ]
        refine x_goto (pc := 63) (tgt := 12) C (dq D_Model_doubleSum 39 rfl) (by decide) ?_
        rw [hj]
        exact ih (k + 1) (mds k S) (by omega) (by rw [mds_len]; exact hS) (h8.set (mds8v h8 k))
      refine x_iload_n (pc := 12) C (dq D_Model_doubleSum 9 rfl) rfl ?_
      refine x_bipush (pc := 13) C (dq D_Model_doubleSum 10 rfl) cb_16 ?_
      refine n_ge_f (pc := 15) (tgt := 66) C (dq D_Model_doubleSum 11 rfl) (by decide) (by omega) (by omega) ?_
      refine x_aload_n (pc := 18) C (dq D_Model_doubleSum 12 rfl) rfl ?_
      refine x_get (pc := 19) (ci := 1) (j := 18) C (dq D_Model_doubleSum 13 rfl) rfl rfl (by first | exact hm1 _ | exact hb1 _) rfl k_fl_Model_46 ?_
      refine x_iload_n (pc := 22) C (dq D_Model_doubleSum 14 rfl) rfl ?_
      refine x_aload_n (pc := 23) C (dq D_Model_doubleSum 15 rfl) rfl ?_
      refine x_get (pc := 24) (ci := 1) (j := 18) C (dq D_Model_doubleSum 16 rfl) rfl rfl (by first | exact hm1 _ | exact hb1 _) rfl k_fl_Model_46 ?_
      refine x_iload_n (pc := 27) C (dq D_Model_doubleSum 17 rfl) rfl ?_
      refine x_iald (pc := 28) C (dq D_Model_doubleSum 18 rfl) (by first | exact hm1 _ | exact hb1 _) (by (try simp only [List.length_set]); omega) ?_
      refine x_iconst (pc := 29) C (dq D_Model_doubleSum 19 rfl) ci_2 ?_
      refine n_imul (pc := 30) C (dq D_Model_doubleSum 20 rfl) ?_
      refine x_sipush (pc := 31) C (dq D_Model_doubleSum 21 rfl) cs_255 ?_
      refine n_iand (pc := 34) C (dq D_Model_doubleSum 22 rfl) ?_
      refine x_iload_n (pc := 35) C (dq D_Model_doubleSum 23 rfl) rfl ?_
      refine x_aload_n (pc := 36) C (dq D_Model_doubleSum 24 rfl) rfl ?_
      refine x_get (pc := 37) (ci := 1) (j := 18) C (dq D_Model_doubleSum 25 rfl) rfl rfl (by first | exact hm1 _ | exact hb1 _) rfl k_fl_Model_46 ?_
      refine x_iload_n (pc := 40) C (dq D_Model_doubleSum 26 rfl) rfl ?_
      refine x_bipush (pc := 41) C (dq D_Model_doubleSum 27 rfl) cb_15 ?_
      refine n_ge (pc := 43) (tgt := 52) C (dq D_Model_doubleSum 28 rfl) (by decide) (by omega) (fun hq => ?_) (fun hq => ?_)
      · rw [if_neg (by omega)] at fin
        refine x_bipush (pc := 52) C (dq D_Model_doubleSum 33 rfl) cb_15 ?_
        exact fin 15 rfl
      · rw [if_pos hq] at fin
        refine x_iload_n (pc := 46) C (dq D_Model_doubleSum 29 rfl) rfl ?_
        refine x_iconst (pc := 47) C (dq D_Model_doubleSum 30 rfl) ci_1 ?_
        refine n_iadd (pc := 48) C (dq D_Model_doubleSum 31 rfl) ?_
        refine x_goto (pc := 49) (tgt := 54) C (dq D_Model_doubleSum 32 rfl) (by decide) ?_
        exact fin (k + 1) rfl
  refine x_aload_n (pc := 0) C (dq D_Model_doubleSum 0 rfl) rfl ?_
  refine x_get (pc := 1) (ci := 1) (j := 18) C (dq D_Model_doubleSum 1 rfl) rfl rfl (by first | exact hm | exact hb) rfl k_fl_Model_46 ?_
  refine x_iconst (pc := 4) C (dq D_Model_doubleSum 2 rfl) ci_0 ?_
  refine x_iald (pc := 5) C (dq D_Model_doubleSum 3 rfl) (by first | exact hm | exact hb) (by (try simp only [List.length_set]); omega) ?_
  refine x_bipush (pc := 6) C (dq D_Model_doubleSum 4 rfl) cb_7 ?_
  refine n_ishr (pc := 8) C (dq D_Model_doubleSum 5 rfl) (by omega) (by omega) ?_
  refine x_istore_n (i := 1) (pc := 9) C (dq D_Model_doubleSum 6 rfl) rfl rfl rfl ?_
  simp only [List.set_cons_zero, List.set_cons_succ]
  refine x_iconst (pc := 10) C (dq D_Model_doubleSum 7 rfl) ci_0 ?_
  refine x_istore_n (i := 2) (pc := 11) C (dq D_Model_doubleSum 8 rfl) rfl rfl rfl ?_
  simp only [List.set_cons_zero, List.set_cons_succ]
  have h0 := loop 16 0 A rfl hA h8
  rw [gs_id hb] at h0
  exact h0
theorem cm_doubleBlock {g : Gp} {h : Hp} {cd ni no nt nr nl : Nat} {A : List Nat} (hm : h[44]? = some (moc g cd ni no nt nr nl)) (hb : h[52]? = some (ia g A)) (hA : A.length = 16) (h8 : by8 A) :
    Con g M_Model_doubleBlock 1 (0, 0) [.ref (zA (gz g) 44)] h (Ret none (h.set 52 (ia g (mdb A)))) := by
  have hb1 : ∀ e, (h.set 52 e)[52]? = some e := fun e => gs_self hb
  have hm1 : ∀ e, (h.set 52 e)[44]? = some (moc g cd ni no nt nr nl) := fun e => gs_ne (by decide) hm
  have hz := h8.at 0
  refine Con.of (by decide) rfl rfl (L := [some (.ref (zA (gz g) 44)), none, none]) rfl (fun f C => ?_)
  have loop : ∀ (d k : Nat) (S : List Nat), k + d = 16 → S.length = 16 → by8 S → X g f M_Model_doubleBlock (0, 0) (Ret none (h.set 52 (ia g (mde (A.getD 0 0 / 2 ^ 7) (it mds k d S))))) (0, 0) 12 [some (.ref (zA (gz g) 44)), some (.int (nI (A.getD 0 0 / 2 ^ 7))), some (.int (nI k))] [] (h.set 52 (ia g S)) := by
    intro d
    induction d with
    | zero =>
      intro k S hkn hS h8
      refine x_iload_n (pc := 12) C (dq D_Model_doubleBlock 9 rfl) rfl ?_
      refine x_bipush (pc := 13) C (dq D_Model_doubleBlock 10 rfl) cb_16 ?_
      refine n_ge_t (pc := 15) (tgt := 66) C (dq D_Model_doubleBlock 11 rfl) (by decide) (by omega) (by omega) ?_
      refine x_aload_n (pc := 66) C (dq D_Model_doubleBlock 40 rfl) rfl ?_
      refine x_get (pc := 67) (ci := 1) (j := 11) C (dq D_Model_doubleBlock 41 rfl) rfl rfl (hm1 _) rfl k_fl_Model_31 ?_
      refine x_bipush (pc := 70) C (dq D_Model_doubleBlock 42 rfl) cb_15 ?_
      refine x_iload_n (pc := 72) C (dq D_Model_doubleBlock 43 rfl) rfl ?_
      refine x_iconst (pc := 73) C (dq D_Model_doubleBlock 44 rfl) ci_1 ?_
      refine n_ne (pc := 74) (tgt := 91) C (dq D_Model_doubleBlock 45 rfl) (by decide) (by omega) (fun hq => ?_) (fun hq => ?_)
      · refine x_aload_n (pc := 91) C (dq D_Model_doubleBlock 53 rfl) rfl ?_
        refine x_get (pc := 92) (ci := 1) (j := 11) C (dq D_Model_doubleBlock 54 rfl) rfl rfl (by first | exact hm1 _ | exact hb1 _) rfl k_fl_Model_31 ?_
        refine x_bipush (pc := 95) C (dq D_Model_doubleBlock 55 rfl) cb_15 ?_
        refine x_iald (pc := 97) C (dq D_Model_doubleBlock 56 rfl) (by first | exact hm1 _ | exact hb1 _) (by (try simp only [List.length_set]); omega) ?_
        refine x_iast (pc := 98) C (dq D_Model_doubleBlock 57 rfl) (by first | exact hm1 _ | exact hb1 _) (by (try simp only [List.length_set]); omega) ?_
        try rw [List.set_set]
        exact x_vret (pc := 99) C (dq D_Model_doubleBlock 58 rfl) rfl (by decide) ⟨rfl, by show h.set 52 (ia g (S.set 15 _)) = h.set 52 (ia g (S.set 15 _)); rw [if_neg hq]; rfl⟩
      · refine x_aload_n (pc := 77) C (dq D_Model_doubleBlock 46 rfl) rfl ?_
        refine x_get (pc := 78) (ci := 1) (j := 11) C (dq D_Model_doubleBlock 47 rfl) rfl rfl (by first | exact hm1 _ | exact hb1 _) rfl k_fl_Model_31 ?_
        refine x_bipush (pc := 81) C (dq D_Model_doubleBlock 48 rfl) cb_15 ?_
        refine x_iald (pc := 83) C (dq D_Model_doubleBlock 49 rfl) (by first | exact hm1 _ | exact hb1 _) (by (try simp only [List.length_set]); omega) ?_
        refine x_sipush (pc := 84) C (dq D_Model_doubleBlock 50 rfl) cs_135 ?_
        refine n_ixor (pc := 87) C (dq D_Model_doubleBlock 51 rfl) ?_
        refine x_goto (pc := 88) (tgt := 98) C (dq D_Model_doubleBlock 52 rfl) (by decide) ?_
        refine x_iast (pc := 98) C (dq D_Model_doubleBlock 57 rfl) (by first | exact hm1 _ | exact hb1 _) (by (try simp only [List.length_set]); omega) ?_
        try rw [List.set_set]
        exact x_vret (pc := 99) C (dq D_Model_doubleBlock 58 rfl) rfl (by decide) ⟨rfl, by show h.set 52 (ia g (S.set 15 _)) = h.set 52 (ia g (S.set 15 _)); rw [if_pos hq]; rfl⟩
    | succ d ih =>
      intro k S hkn hS h8
      have h1 := h8.at k
      have fin : ∀ j : Nat, j = (if k < 15 then k + 1 else 15) → X g f M_Model_doubleBlock (0, 0) (Ret none (h.set 52 (ia g (mde (A.getD 0 0 / 2 ^ 7) (it mds k (d + 1) S))))) (0, 0) 54 [some (.ref (zA (gz g) 44)), some (.int (nI (A.getD 0 0 / 2 ^ 7))), some (.int (nI k))] [.int (nI j), .ref (zA (gz g) 52), .int (nI k), .int (nI ((S.getD k 0 * 2) &&& 255)), .int (nI k), .ref (zA (gz g) 52)] (h.set 52 (ia g S)) := by
        intro j hj
        have hj1 : j < 16 := by rw [hj]; split <;> omega
        have h2 := h8.at j
        refine x_iald (pc := 54) C (dq D_Model_doubleBlock 34 rfl) (by first | exact hm1 _ | exact hb1 _) (by (try simp only [List.length_set]); omega) ?_
        refine x_cS1 (pc := 55) (M := M_Model_bitBehind) C (dq D_Model_doubleBlock 35 rfl) k_ml_Model_78 m_Model_bitBehind (c_bitBehind (by omega) h2) rfl rfl rfl rfl (by decide) ?_
        refine n_iadd (pc := 58) C (dq D_Model_doubleBlock 36 rfl) ?_
        refine x_iast (pc := 59) C (dq D_Model_doubleBlock 37 rfl) (by first | exact hm1 _ | exact hb1 _) (by (try simp only [List.length_set]); omega) ?_
        try rw [List.set_set]
        refine x_iinc (pc := 60) C (dq D_Model_doubleBlock 38 rfl) rfl (ii_1 _) rfl rfl ?_
        simp only [List.set_cons_zero, List.set_cons_succ]
        refine x_goto (pc := 63) (tgt := 12) C (dq D_Model_doubleBlock 39 rfl) (by decide) ?_
        rw [hj]
        exact ih (k + 1) (mds k S) (by omega) (by rw [mds_len]; exact hS) (h8.set (mds8v h8 k))
      refine x_iload_n (pc := 12) C (dq D_Model_doubleBlock 9 rfl) rfl ?_
      refine x_bipush (pc := 13) C (dq D_Model_doubleBlock 10 rfl) cb_16 ?_
      refine n_ge_f (pc := 15) (tgt := 66) C (dq D_Model_doubleBlock 11 rfl) (by decide) (by omega) (by omega) ?_
      refine x_aload_n (pc := 18) C (dq D_Model_doubleBlock 12 rfl) rfl ?_
      refine x_get (pc := 19) (ci := 1) (j := 11) C (dq D_Model_doubleBlock 13 rfl) rfl rfl (by first | exact hm1 _ | exact hb1 _) rfl k_fl_Model_31 ?_
      refine x_iload_n (pc := 22) C (dq D_Model_doubleBlock 14 rfl) rfl ?_
      refine x_aload_n (pc := 23) C (dq D_Model_doubleBlock 15 rfl) rfl ?_
      refine x_get (pc := 24) (ci := 1) (j := 11) C (dq D_Model_doubleBlock 16 rfl) rfl rfl (by first | exact hm1 _ | exact hb1 _) rfl k_fl_Model_31 ?_
      refine x_iload_n (pc := 27) C (dq D_Model_doubleBlock 17 rfl) rfl ?_
      refine x_iald (pc := 28) C (dq D_Model_doubleBlock 18 rfl) (by first | exact hm1 _ | exact hb1 _) (by (try simp only [List.length_set]); omega) ?_
      refine x_iconst (pc := 29) C (dq D_Model_doubleBlock 19 rfl) ci_2 ?_
      refine n_imul (pc := 30) C (dq D_Model_doubleBlock 20 rfl) ?_
      refine x_sipush (pc := 31) C (dq D_Model_doubleBlock 21 rfl) cs_255 ?_
      refine n_iand (pc := 34) C (dq D_Model_doubleBlock 22 rfl) ?_
      refine x_iload_n (pc := 35) C (dq D_Model_doubleBlock 23 rfl) rfl ?_
      refine x_aload_n (pc := 36) C (dq D_Model_doubleBlock 24 rfl) rfl ?_
      refine x_get (pc := 37) (ci := 1) (j := 11) C (dq D_Model_doubleBlock 25 rfl) rfl rfl (by first | exact hm1 _ | exact hb1 _) rfl k_fl_Model_31 ?_
      refine x_iload_n (pc := 40) C (dq D_Model_doubleBlock 26 rfl) rfl ?_
      refine x_bipush (pc := 41) C (dq D_Model_doubleBlock 27 rfl) cb_15 ?_
      refine n_ge (pc := 43) (tgt := 52) C (dq D_Model_doubleBlock 28 rfl) (by decide) (by omega) (fun hq => ?_) (fun hq => ?_)
      · rw [if_neg (by omega)] at fin
        refine x_bipush (pc := 52) C (dq D_Model_doubleBlock 33 rfl) cb_15 ?_
        exact fin 15 rfl
      · rw [if_pos hq] at fin
        refine x_iload_n (pc := 46) C (dq D_Model_doubleBlock 29 rfl) rfl ?_
        refine x_iconst (pc := 47) C (dq D_Model_doubleBlock 30 rfl) ci_1 ?_
        refine n_iadd (pc := 48) C (dq D_Model_doubleBlock 31 rfl) ?_
        refine x_goto (pc := 49) (tgt := 54) C (dq D_Model_doubleBlock 32 rfl) (by decide) ?_
        exact fin (k + 1) rfl
  refine x_aload_n (pc := 0) C (dq D_Model_doubleBlock 0 rfl) rfl ?_
  refine x_get (pc := 1) (ci := 1) (j := 11) C (dq D_Model_doubleBlock 1 rfl) rfl rfl (by first | exact hm | exact hb) rfl k_fl_Model_31 ?_
  refine x_iconst (pc := 4) C (dq D_Model_doubleBlock 2 rfl) ci_0 ?_
  refine x_iald (pc := 5) C (dq D_Model_doubleBlock 3 rfl) (by first | exact hm | exact hb) (by (try simp only [List.length_set]); omega) ?_
  refine x_bipush (pc := 6) C (dq D_Model_doubleBlock 4 rfl) cb_7 ?_
  refine n_ishr (pc := 8) C (dq D_Model_doubleBlock 5 rfl) (by omega) (by omega) ?_
  refine x_istore_n (i := 1) (pc := 9) C (dq D_Model_doubleBlock 6 rfl) rfl rfl rfl ?_
  simp only [List.set_cons_zero, List.set_cons_succ]
  refine x_iconst (pc := 10) C (dq D_Model_doubleBlock 7 rfl) ci_0 ?_
  refine x_istore_n (i := 2) (pc := 11) C (dq D_Model_doubleBlock 8 rfl) rfl rfl rfl ?_
  simp only [List.set_cons_zero, List.set_cons_succ]
  have h0 := loop 16 0 A rfl hA h8
  rw [gs_id hb] at h0
  exact h0
