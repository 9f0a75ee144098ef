/-! The constructors of the tables, the ciphers, the desk and the reference. -/
/-- a byte's place in the table, of its inverse -/
def sx (b : Nat) : Nat := ((((b ^^^ tl b 1) ^^^ tl b 2) ^^^ tl b 3) ^^^ tl b 4) ^^^ 99
theorem sx8 : ∀ b, b < 256 → sx b < 256 := by decide +kernel
theorem c_enter {g : Gp} {h : Hp} {t fo ba a b : Nat} {FO BA : List Nat} (ht : h[t]? = some (tbc g fo ba)) (hf : h[fo]? = some (ia g FO)) (hb : h[ba]? = some (ia g BA)) (hne : fo ≠ ba) (hF : FO.length = 256) (hB : BA.length = 256) (ha : a < 256) (hb8 : b < 256) :
    Con g M_Tables_enter 1 (0, 0) [.ref (zA (gz g) t), .int (nI a), .int (nI b)] h (Ret none ((h.set fo (ia g (FO.set a (sx b)))).set ba (ia g (BA.set (sx b) a)))) := by
  have hs := sx8 b hb8
  have ht2 : (h.set fo (ia g (FO.set a (sx b))))[t]? = some (tbc g fo ba) := gs_ne (ne_io hf ht) ht
  have hb2 : (h.set fo (ia g (FO.set a (sx b))))[ba]? = some (ia g BA) := gs_ne hne hb
  refine Con.of (by decide) rfl rfl (L := [some (.ref (zA (gz g) t)), some (.int (nI a)), some (.int (nI b)), none]) rfl (fun f C => ?_)
  refine x_iload_n (pc := 0) C (dq D_Tables_enter 0 rfl) rfl ?_
  refine x_iload_n (pc := 1) C (dq D_Tables_enter 1 rfl) rfl ?_
  refine x_iconst (pc := 2) C (dq D_Tables_enter 2 rfl) ci_1 ?_
  refine x_cS1 (pc := 3) (M := M_Tables_turnLeft) C (dq D_Tables_enter 3 rfl) k_ml_Tables_24 m_Tables_turnLeft (c_turnLeft hb8 ⟨by omega, by omega⟩) rfl rfl rfl rfl (by decide) ?_
  refine n_ixor (pc := 6) C (dq D_Tables_enter 4 rfl) ?_
  refine x_iload_n (pc := 7) C (dq D_Tables_enter 5 rfl) rfl ?_
  refine x_iconst (pc := 8) C (dq D_Tables_enter 6 rfl) ci_2 ?_
  refine x_cS1 (pc := 9) (M := M_Tables_turnLeft) C (dq D_Tables_enter 7 rfl) k_ml_Tables_24 m_Tables_turnLeft (c_turnLeft hb8 ⟨by omega, by omega⟩) rfl rfl rfl rfl (by decide) ?_
  refine n_ixor (pc := 12) C (dq D_Tables_enter 8 rfl) ?_
  refine x_iload_n (pc := 13) C (dq D_Tables_enter 9 rfl) rfl ?_
  refine x_iconst (pc := 14) C (dq D_Tables_enter 10 rfl) ci_3 ?_
  refine x_cS1 (pc := 15) (M := M_Tables_turnLeft) C (dq D_Tables_enter 11 rfl) k_ml_Tables_24 m_Tables_turnLeft (c_turnLeft hb8 ⟨by omega, by omega⟩) rfl rfl rfl rfl (by decide) ?_
  refine n_ixor (pc := 18) C (dq D_Tables_enter 12 rfl) ?_
  refine x_iload_n (pc := 19) C (dq D_Tables_enter 13 rfl) rfl ?_
  refine x_iconst (pc := 20) C (dq D_Tables_enter 14 rfl) ci_4 ?_
  refine x_cS1 (pc := 21) (M := M_Tables_turnLeft) C (dq D_Tables_enter 15 rfl) k_ml_Tables_24 m_Tables_turnLeft (c_turnLeft hb8 ⟨by omega, by omega⟩) rfl rfl rfl rfl (by decide) ?_
  refine n_ixor (pc := 24) C (dq D_Tables_enter 16 rfl) ?_
  refine x_bipush (pc := 25) C (dq D_Tables_enter 17 rfl) cb_99 ?_
  refine n_ixor (pc := 27) C (dq D_Tables_enter 18 rfl) ?_
  show X g f M_Tables_enter (0, 0) _ (0, 0) 28 _ (.int (nI (sx b)) :: []) _
  refine x_istore_n (i := 3) (pc := 28) C (dq D_Tables_enter 19 rfl) rfl rfl rfl ?_
  simp only [List.set_cons_zero, List.set_cons_succ]
  refine x_aload_n (pc := 29) C (dq D_Tables_enter 20 rfl) rfl ?_
  refine x_get (pc := 30) (ci := 8) (j := 0) C (dq D_Tables_enter 21 rfl) rfl rfl (by first | exact ht | exact hf) rfl k_fl_Tables_7 ?_
  refine x_iload_n (pc := 33) C (dq D_Tables_enter 22 rfl) rfl ?_
  refine x_iload_n (pc := 34) C (dq D_Tables_enter 23 rfl) rfl ?_
  refine x_iast (pc := 35) C (dq D_Tables_enter 24 rfl) (by first | exact ht | exact hf) (by (try simp only [List.length_set]); omega) ?_
  try rw [List.set_set]
  refine x_aload_n (pc := 36) C (dq D_Tables_enter 25 rfl) rfl ?_
  refine x_get (pc := 37) (ci := 8) (j := 1) C (dq D_Tables_enter 26 rfl) rfl rfl (by first | exact ht2 | exact hb2) rfl k_fl_Tables_13 ?_
  refine x_iload_n (pc := 40) C (dq D_Tables_enter 27 rfl) rfl ?_
  refine x_iload_n (pc := 41) C (dq D_Tables_enter 28 rfl) rfl ?_
  refine x_iast (pc := 42) C (dq D_Tables_enter 29 rfl) (by first | exact ht2 | exact hb2) (by (try simp only [List.length_set]); omega) ?_
  try rw [List.set_set]
  exact x_vret (pc := 43) C (dq D_Tables_enter 30 rfl) rfl (by decide) ⟨rfl, rfl⟩
def z256 : List Nat := List.replicate 256 0
/-- the powers of three -/
def pws (k : Nat) (A : List Nat) : List Nat := A.set k (A.getD (k - 1) 0 ^^^ tw (A.getD (k - 1) 0))
def PW0 : List Nat := it pws 1 255 (z256.set 0 1)
def ent (PW : List Nat) (k : Nat) (q : List Nat × List Nat) : List Nat × List Nat := (q.1.set (PW.getD k 0) (sx (PW.getD (255 - k) 0)), q.2.set (sx (PW.getD (255 - k) 0)) (PW.getD k 0))
def FB0 : List Nat × List Nat := it (ent PW0) 0 255 (z256.set 0 (sx 0), z256.set (sx 0) 0)
theorem pws_ok {k : Nat} {A : List Nat} (h : A.length = 256 ∧ by8 A) : (pws k A).length = 256 ∧ by8 (pws k A) := ⟨by unfold pws; rw [List.length_set]; exact h.1, h.2.set (xor8 (h.2.at _) (tw8 _ (h.2.at _)))⟩
theorem z256_ok : z256.length = 256 ∧ by8 z256 := ⟨List.length_replicate, fun v hv => by rw [List.eq_of_mem_replicate hv]; decide⟩
theorem PW0_ok : PW0.length = 256 ∧ by8 PW0 := it_inv (fun A : List Nat => A.length = 256 ∧ by8 A) 255 1 _ (fun j S _ _ hS => pws_ok hS) ⟨by rw [List.length_set]; exact z256_ok.1, z256_ok.2.set (by omega)⟩

theorem c_Tables_init {g : Gp} {Q : Hp} {m : Nat} {h h' : Hp} (hQ : Q.length = m) (h60 : m + 4 < 60) (he : h = Q ++ [.inr (8, [.null, .null])]) (he' : h' = Q ++ [tbc g (m + 1) (m + 2), ia g FB0.1, ia g FB0.2, ia g PW0]) : Con g M_Tables_init 2 (3, 768) [.ref (zA (gz g) (m + 0))] h (Ret none h') := by
  subst he
  subst he'
  refine Con.of (by decide) rfl rfl (L := [some (.ref (zA (gz g) (m + 0))), none, none]) rfl (fun f C => ?_)
  have hPW := PW0_ok
  have hPl := hPW.1
  have loop2 : ∀ (d i : Nat) (q : List Nat × List Nat), i + d = 255 → (q.1.length = 256 ∧ q.2.length = 256) → it (ent PW0) i d q = FB0 → X g f M_Tables_init (3, 768) (Ret none (Q ++ [tbc g (m + 1) (m + 2), ia g FB0.1, ia g FB0.2, ia g PW0])) (3, 768) 71 [some (.ref (zA (gz g) (m + 0))), some (.ref (zA (gz g) (m + 3))), some (.int (nI i))] [] (Q ++ [tbc g (m + 1) (m + 2), ia g q.1, ia g q.2, ia g PW0]) := by
    intro d
    induction d with
    | zero =>
      intro i q hi hq he
      have he : q = FB0 := he
      subst he
      refine x_iload_n (pc := 71) C (dq D_Tables_init 46 rfl) rfl ?_
      refine x_sipush (pc := 72) C (dq D_Tables_init 47 rfl) cs_255 ?_
      refine n_ge_t (pc := 75) (tgt := 98) C (dq D_Tables_init 48 rfl) (by decide) (by omega) (by omega) ?_
      exact x_vret (pc := 98) C (dq D_Tables_init 61 rfl) rfl (by decide) ⟨rfl, rfl⟩
    | succ d ih =>
      intro i q hi hq he
      have b1 := hPW.2.at i
      have b2 := hPW.2.at (255 - i)
      have b3 := sx8 _ b2
      refine x_iload_n (pc := 71) C (dq D_Tables_init 46 rfl) rfl ?_
      refine x_sipush (pc := 72) C (dq D_Tables_init 47 rfl) cs_255 ?_
      refine n_ge_f (pc := 75) (tgt := 98) C (dq D_Tables_init 48 rfl) (by decide) (by omega) (by omega) ?_
      refine x_aload_n (pc := 78) C (dq D_Tables_init 49 rfl) rfl ?_
      refine x_aload_n (pc := 79) C (dq D_Tables_init 50 rfl) rfl ?_
      refine x_iload_n (pc := 80) C (dq D_Tables_init 51 rfl) rfl ?_
      refine x_iald (pc := 81) C (dq D_Tables_init 52 rfl) (qg hQ rfl) (by (try simp only [List.length_set]); omega) ?_
      refine x_aload_n (pc := 82) C (dq D_Tables_init 53 rfl) rfl ?_
      refine x_sipush (pc := 83) C (dq D_Tables_init 54 rfl) cs_255 ?_
      refine x_iload_n (pc := 86) C (dq D_Tables_init 55 rfl) rfl ?_
      refine n_isub (pc := 87) C (dq D_Tables_init 56 rfl) (by omega) ?_
      refine x_iald (pc := 88) C (dq D_Tables_init 57 rfl) (qg hQ rfl) (by (try simp only [List.length_set]); omega) ?_
      refine x_cV0 (pc := 89) (ci := 8) (M := M_Tables_enter) C (dq D_Tables_init 58 rfl) k_ml_Tables_20 m_Tables_enter rfl rfl (qg hQ rfl) (c_enter (t := m + 0) (fo := m + 1) (ba := m + 2) (FO := q.1) (BA := q.2) (qg hQ rfl) (qg hQ rfl) (qg hQ rfl) (by omega) hq.1 hq.2 b1 b2) rfl rfl rfl rfl (by decide) ?_
      rw [qs hQ, qs hQ]
      simp only [List.set_cons_zero, List.set_cons_succ]
      refine x_iinc (pc := 92) C (dq D_Tables_init 59 rfl) rfl (ii_1 _) rfl rfl ?_
      simp only [List.set_cons_zero, List.set_cons_succ]
      refine x_goto (pc := 95) (tgt := 71) C (dq D_Tables_init 60 rfl) (by decide) ?_
      exact ih (i + 1) (ent PW0 i q) (by omega) ⟨by unfold ent; rw [List.length_set]; exact hq.1, by unfold ent; rw [List.length_set]; exact hq.2⟩ he
  have loop1 : ∀ (d i : Nat) (A : List Nat), i + d = 256 → 1 ≤ i → (A.length = 256 ∧ by8 A) → it pws i d A = PW0 → X g f M_Tables_init (3, 768) (Ret none (Q ++ [tbc g (m + 1) (m + 2), ia g FB0.1, ia g FB0.2, ia g PW0])) (3, 768) 34 [some (.ref (zA (gz g) (m + 0))), some (.ref (zA (gz g) (m + 3))), some (.int (nI i))] [] (Q ++ [tbc g (m + 1) (m + 2), ia g z256, ia g z256, ia g A]) := by
    intro d
    induction d with
    | zero =>
      intro i A hi h1 hA he
      have hAl := hA.1
      rw [show A = PW0 from he]
      refine x_iload_n (pc := 34) C (dq D_Tables_init 19 rfl) rfl ?_
      refine x_aload_n (pc := 35) C (dq D_Tables_init 20 rfl) rfl ?_
      refine x_alen (pc := 36) C (dq D_Tables_init 21 rfl) (qg hQ rfl) ?_
      refine n_ge_t (pc := 37) (tgt := 63) C (dq D_Tables_init 22 rfl) (by decide) (by omega) (by omega) ?_
      refine x_aload_n (pc := 63) C (dq D_Tables_init 40 rfl) rfl ?_
      refine x_iconst (pc := 64) C (dq D_Tables_init 41 rfl) ci_0 ?_
      refine x_iconst (pc := 65) C (dq D_Tables_init 42 rfl) ci_0 ?_
      refine x_cV0 (pc := 66) (ci := 8) (M := M_Tables_enter) C (dq D_Tables_init 43 rfl) k_ml_Tables_20 m_Tables_enter rfl rfl (qg hQ rfl) (c_enter (t := m + 0) (fo := m + 1) (ba := m + 2) (FO := z256) (BA := z256) (qg hQ rfl) (qg hQ rfl) (qg hQ rfl) (by omega) z256_ok.1 z256_ok.1 (by omega) (by omega)) rfl rfl rfl rfl (by decide) ?_
      rw [qs hQ, qs hQ]
      simp only [List.set_cons_zero, List.set_cons_succ]
      refine x_iconst (pc := 69) C (dq D_Tables_init 44 rfl) ci_0 ?_
      refine x_istore_n (i := 2) (pc := 70) C (dq D_Tables_init 45 rfl) rfl rfl rfl ?_
      simp only [List.set_cons_zero, List.set_cons_succ]
      exact loop2 255 0 (z256.set 0 (sx 0), z256.set (sx 0) 0) rfl ⟨by rw [List.length_set]; exact z256_ok.1, by rw [List.length_set]; exact z256_ok.1⟩ rfl
    | succ d ih =>
      intro i A hi h1 hA he
      have hAl := hA.1
      have b1 := hA.2.at (i - 1)
      refine x_iload_n (pc := 34) C (dq D_Tables_init 19 rfl) rfl ?_
      refine x_aload_n (pc := 35) C (dq D_Tables_init 20 rfl) rfl ?_
      refine x_alen (pc := 36) C (dq D_Tables_init 21 rfl) (qg hQ rfl) ?_
      refine n_ge_f (pc := 37) (tgt := 63) C (dq D_Tables_init 22 rfl) (by decide) (by omega) (by omega) ?_
      refine x_aload_n (pc := 40) C (dq D_Tables_init 23 rfl) rfl ?_
      refine x_iload_n (pc := 41) C (dq D_Tables_init 24 rfl) rfl ?_
      refine x_aload_n (pc := 42) C (dq D_Tables_init 25 rfl) rfl ?_
      refine x_iload_n (pc := 43) C (dq D_Tables_init 26 rfl) rfl ?_
      refine x_iconst (pc := 44) C (dq D_Tables_init 27 rfl) ci_1 ?_
      refine n_isub (pc := 45) C (dq D_Tables_init 28 rfl) (by omega) ?_
      refine x_iald (pc := 46) C (dq D_Tables_init 29 rfl) (qg hQ rfl) (by (try simp only [List.length_set]); omega) ?_
      refine x_aload_n (pc := 47) C (dq D_Tables_init 30 rfl) rfl ?_
      refine x_iload_n (pc := 48) C (dq D_Tables_init 31 rfl) rfl ?_
      refine x_iconst (pc := 49) C (dq D_Tables_init 32 rfl) ci_1 ?_
      refine n_isub (pc := 50) C (dq D_Tables_init 33 rfl) (by omega) ?_
      refine x_iald (pc := 51) C (dq D_Tables_init 34 rfl) (qg hQ rfl) (by (try simp only [List.length_set]); omega) ?_
      refine x_cS1 (pc := 52) (M := M_Tables_twice) C (dq D_Tables_init 35 rfl) k_ml_Tables_16 m_Tables_twice (c_twice b1) rfl rfl rfl rfl (by decide) ?_
      refine n_ixor (pc := 55) C (dq D_Tables_init 36 rfl) ?_
      refine x_iast (pc := 56) C (dq D_Tables_init 37 rfl) (qg hQ rfl) (by omega) ?_
      rw [qs hQ]
      simp only [List.set_cons_zero, List.set_cons_succ]
      refine x_iinc (pc := 57) C (dq D_Tables_init 38 rfl) rfl (ii_1 _) rfl rfl ?_
      simp only [List.set_cons_zero, List.set_cons_succ]
      refine x_goto (pc := 60) (tgt := 34) C (dq D_Tables_init 39 rfl) (by decide) ?_
      exact ih (i + 1) (pws i A) (by omega) (by omega) (pws_ok hA) he

  refine x_aload_n (pc := 0) C (dq D_Tables_init 0 rfl) rfl ?_
  refine x_objInit (pc := 1) C (dq D_Tables_init 1 rfl) k_ml_Tables_1 rfl rfl ?_
  refine x_aload_n (pc := 4) C (dq D_Tables_init 2 rfl) rfl ?_
  refine x_sipush (pc := 5) C (dq D_Tables_init 3 rfl) cs_256 ?_
  refine x_newiQ (pc := 8) (k := 1) C (dq D_Tables_init 4 rfl) hQ rfl (by decide) (by omega) (by decide) ?_
  simp only [List.cons_append, List.nil_append]
  refine x_put (pc := 10) (ci := 8) (j := 0) (ty := .array .int) C (dq D_Tables_init 5 rfl) rfl rfl (qg hQ rfl) rfl k_fl_Tables_7 (Or.inr ⟨rfl, rfl, rfl⟩) (by decide +kernel) rfl rfl ?_
  simp only [List.set_cons_zero, List.set_cons_succ]
  rw [qs hQ]
  simp only [List.set_cons_zero, List.set_cons_succ]
  refine x_aload_n (pc := 13) C (dq D_Tables_init 6 rfl) rfl ?_
  refine x_sipush (pc := 14) C (dq D_Tables_init 7 rfl) cs_256 ?_
  refine x_newiQ (pc := 17) (k := 2) C (dq D_Tables_init 8 rfl) hQ rfl (by decide) (by omega) (by decide) ?_
  simp only [List.cons_append, List.nil_append]
  refine x_put (pc := 19) (ci := 8) (j := 1) (ty := .array .int) C (dq D_Tables_init 9 rfl) rfl rfl (qg hQ rfl) rfl k_fl_Tables_13 (Or.inr ⟨rfl, rfl, rfl⟩) (by decide +kernel) rfl rfl ?_
  simp only [List.set_cons_zero, List.set_cons_succ]
  rw [qs hQ]
  simp only [List.set_cons_zero, List.set_cons_succ]
  refine x_sipush (pc := 22) C (dq D_Tables_init 10 rfl) cs_256 ?_
  refine x_newiQ (pc := 25) (k := 3) C (dq D_Tables_init 11 rfl) hQ rfl (by decide) (by omega) (by decide) ?_
  simp only [List.cons_append, List.nil_append]
  refine x_astore_n (i := 1) (pc := 27) C (dq D_Tables_init 12 rfl) rfl rfl rfl ?_
  simp only [List.set_cons_zero, List.set_cons_succ]
  refine x_aload_n (pc := 28) C (dq D_Tables_init 13 rfl) rfl ?_
  refine x_iconst (pc := 29) C (dq D_Tables_init 14 rfl) ci_0 ?_
  refine x_iconst (pc := 30) C (dq D_Tables_init 15 rfl) ci_1 ?_
  refine x_iast (pc := 31) C (dq D_Tables_init 16 rfl) (qg hQ rfl) (by rw [List.length_replicate]; omega) ?_
  rw [qs hQ]
  simp only [List.set_cons_zero, List.set_cons_succ]
  refine x_iconst (pc := 32) C (dq D_Tables_init 17 rfl) ci_1 ?_
  refine x_istore_n (i := 2) (pc := 33) C (dq D_Tables_init 18 rfl) rfl rfl rfl ?_
  simp only [List.set_cons_zero, List.set_cons_succ]
  exact loop1 255 1 (z256.set 0 1) rfl (by omega) ⟨by rw [List.length_set]; exact z256_ok.1, z256_ok.2.set (by omega)⟩ rfl
/-- the first keys -/
def K00 : List Nat := keys FB0.1 0 0 0 0 (List.replicate 176 0)
theorem qL {Q Xs : Hp} {t : Nat} {e : va_E} (h : Q[t]? = some e) : (Q ++ Xs)[t]? = some e := (List.getElem?_append_left (List.getElem?_eq_some_iff.mp h).1).trans h
theorem FB0_ok : (FB0.1.length = 256 ∧ by8 FB0.1) ∧ FB0.2.length = 256 ∧ by8 FB0.2 := by
  have h := it_inv (fun q : List Nat × List Nat => (q.1.length = 256 ∧ by8 q.1) ∧ q.2.length = 256 ∧ by8 q.2) 255 0 (z256.set 0 (sx 0), z256.set (sx 0) 0) (f := ent PW0) (fun j q _ _ hq => by
    unfold ent
    exact ⟨⟨by rw [List.length_set]; exact hq.1.1, hq.1.2.set (sx8 _ (PW0_ok.2.at _))⟩, by rw [List.length_set]; exact hq.2.1, hq.2.2.set (PW0_ok.2.at _)⟩) ⟨⟨by rw [List.length_set]; exact z256_ok.1, z256_ok.2.set (sx8 0 (by omega))⟩, by rw [List.length_set]; exact z256_ok.1, z256_ok.2.set (by omega)⟩
  exact h

theorem c_Cipher_init {g : Gp} {Q : Hp} {m t fo ba : Nat} {h h' : Hp} (ht : Q[t]? = some (tbc g fo ba)) (hf : Q[fo]? = some (ia g FB0.1)) (hQ : Q.length = m) (h60 : m + 3 < 60) (he : h = Q ++ [.inr (2, [.null, .null, .null])]) (he' : h' = Q ++ [cpc g t (m + 1) (m + 2), ia g K00, ia g (List.replicate 16 0)]) : Con g M_Cipher_init 2 (2, 192) [.ref (zA (gz g) (m + 0)), .ref (zA (gz g) t)] h (Ret none h') := by
  have hfl : fo < m := by
    have := (List.getElem?_eq_some_iff.mp hf).1
    omega
  subst he
  subst he'
  refine Con.of (by decide) rfl rfl (L := [some (.ref (zA (gz g) (m + 0))), some (.ref (zA (gz g) t))]) rfl (fun f C => ?_)
  refine x_aload_n (pc := 0) C (dq D_Cipher_init 0 rfl) rfl ?_
  refine x_objInit (pc := 1) C (dq D_Cipher_init 1 rfl) k_ml_Cipher_3 rfl rfl ?_
  refine x_aload_n (pc := 4) C (dq D_Cipher_init 2 rfl) rfl ?_
  refine x_sipush (pc := 5) C (dq D_Cipher_init 3 rfl) cs_176 ?_
  refine x_newiQ (pc := 8) (k := 1) C (dq D_Cipher_init 4 rfl) hQ rfl (by decide) (by omega) (by decide) ?_
  simp only [List.cons_append, List.nil_append]
  refine x_put (pc := 10) (ci := 2) (j := 1) (ty := .array .int) C (dq D_Cipher_init 5 rfl) rfl rfl (qg hQ rfl) rfl k_fl_Cipher_11 (Or.inr ⟨rfl, rfl, rfl⟩) (by decide +kernel) rfl rfl ?_
  simp only [List.set_cons_zero, List.set_cons_succ]
  rw [qs hQ]
  simp only [List.set_cons_zero, List.set_cons_succ]
  refine x_aload_n (pc := 13) C (dq D_Cipher_init 6 rfl) rfl ?_
  refine x_bipush (pc := 14) C (dq D_Cipher_init 7 rfl) cb_16 ?_
  refine x_newiQ (pc := 16) (k := 2) C (dq D_Cipher_init 8 rfl) hQ rfl (by decide) (by omega) (by decide) ?_
  simp only [List.cons_append, List.nil_append]
  refine x_put (pc := 18) (ci := 2) (j := 2) (ty := .array .int) C (dq D_Cipher_init 9 rfl) rfl rfl (qg hQ rfl) rfl k_fl_Cipher_15 (Or.inr ⟨rfl, rfl, rfl⟩) (by decide +kernel) rfl rfl ?_
  simp only [List.set_cons_zero, List.set_cons_succ]
  rw [qs hQ]
  simp only [List.set_cons_zero, List.set_cons_succ]
  refine x_aload_n (pc := 21) C (dq D_Cipher_init 10 rfl) rfl ?_
  refine x_aload_n (pc := 22) C (dq D_Cipher_init 11 rfl) rfl ?_
  refine x_put (pc := 23) (ci := 2) (j := 0) (ty := .object "SealingDesk$Tables") C (dq D_Cipher_init 12 rfl) rfl rfl (qg hQ rfl) rfl k_fl_Cipher_18 (Or.inr ⟨rfl, rfl, rfl⟩) (by decide +kernel) rfl rfl ?_
  simp only [List.set_cons_zero, List.set_cons_succ]
  rw [qs hQ]
  simp only [List.set_cons_zero, List.set_cons_succ]
  refine x_aload_n (pc := 26) C (dq D_Cipher_init 13 rfl) rfl ?_
  refine x_iconst (pc := 27) C (dq D_Cipher_init 14 rfl) ci_0 ?_
  refine x_iconst (pc := 28) C (dq D_Cipher_init 15 rfl) ci_0 ?_
  refine x_iconst (pc := 29) C (dq D_Cipher_init 16 rfl) ci_0 ?_
  refine x_iconst (pc := 30) C (dq D_Cipher_init 17 rfl) ci_0 ?_
  refine x_cV0 (pc := 31) (ci := 2) (M := M_Cipher_use) C (dq D_Cipher_init 18 rfl) k_ml_Cipher_22 m_Cipher_use rfl rfl (qg hQ rfl) (c_use (cc := m + 0) (t := t) (rk := m + 1) (bf := m + 2) (fo := fo) (ba := ba) (a := 0) (b := 0) (c := 0) (d := 0) (qg hQ rfl) (qL ht) (qL hf) (qg hQ rfl) (by omega) FB0_ok.1.1 List.length_replicate FB0_ok.1.2 (fun v hv => by rw [List.eq_of_mem_replicate hv]; decide) (by omega) (by omega) (by omega) (by omega)) rfl rfl rfl rfl (by decide) ?_
  rw [qs hQ]
  simp only [List.set_cons_zero, List.set_cons_succ]
  exact x_vret (pc := 34) C (dq D_Cipher_init 19 rfl) rfl (by decide) ⟨rfl, rfl⟩
/-! the desk -/
/-- what stands in the place of a way -/
def cst (U : State) : Prop := va_Nw (.castable R_Marked R_Way) U ∧ va_Nw (.castable R_Wrapped R_Way) U ∧ va_Nw (.castable R_Padded R_Way) U
theorem cst.warm {s U : State} (hW : s.WarmedH U.vm) (h : cst s) : cst U := ⟨va_Nw.warmC hW h.1, va_Nw.warmC hW h.2.1, va_Nw.warmC hW h.2.2⟩
theorem cst.same {s U : State} (hv : s.vm = U.vm) (h : cst s) : cst U := ⟨va_Nw.same rfl hv h.1, va_Nw.same rfl hv h.2.1, va_Nw.same rfl hv h.2.2⟩
def Pxc (g : Gp) (av : List Value) (h : Hp) : Array Value → State → Prop := va_Pc av (fun U => Rl g h U.heap ∧ va_K (gD g) Cls (gT g) U ∧ nzw U ∧ cst U)
def ConC (g : Gp) (md : MD) (fr : Nat) (mc : Nat × Nat) (av : List Value) (h : Hp) (Post : Outcome → Hp → Prop) : Prop :=
  Met (gl g) md.1 (wz md) (rmo fr mc) (Pxc g av h) (Qx g Post) mc.1 mc.2 (zle g)
theorem ConC.of {g : Gp} {md : MD} {fr : Nat} {mc : Nat × Nat} {av : List Value} {h : Hp} {Post : Outcome → Hp → Prop} (hy : plainName md.1.cls = true) (hc : (av.all fun v => v.category == 1) = true) (hn : Nat.ble av.length md.2.2.1 = true) {L : List (Option Value)} (hL : lin av md.2.2.1 = L)
    (body : ∀ f : Fm, Cx g f md fr mc → cst (fS f) → X g f md mc Post (0, 0) 0 L [] h) : ConC g md fr mc av h Post := by
  refine Met.ofW (cc := md.2.1) (maxL := md.2.2.1) (ret := md.2.2.2) (ws' := tb) hy rfl ?_
  intro p e s m args below meth c s₁ B hml hv
  obtain ⟨rfl, hR, hK, hz, hcs⟩ := hv
  have hts := atoms_spec (ws := wz md) B.pre
  have hl0 : (lg_sl av).length ≤ md.2.2.1 := by
    have h1 : ∀ vs : List Value, (vs.all fun v => v.category == 1) = true → (lg_sl vs).length = vs.length := by
      intro vs
      induction vs with
      | nil => intro _; rfl
      | cons v vs ih =>
        intro h
        rw [List.all_cons, Bool.and_eq_true, beq_iff_eq] at h
        have h2 := ih h.2
        have h3 : lg_sl (v :: vs) = [.val v] ++ lg_sl vs := by simp [lg_sl, h.1]
        rw [h3, List.length_append, h2]
        show 1 + vs.length = vs.length + 1
        omega
    rw [h1 av hc]
    exact Nat.le_of_ble_eq_true hn
  have hl := lin_lx hc (lv_entry av hl0)
  rw [hL] at hl
  rw [lg_entry_eq]
  exact W.monoQ (body (p, e, (headSpec (wz md) (rmo fr mc)).room, s, m, av.toArray, below, meth, c, none) ⟨B.exec, B.bytes, B.returns, fun w hw => hts w (List.mem_cons_of_mem _ hw), findClass_of_methodNamed B.named, hml, B.notSynchronized, hK, hz, (name_of_methodNamed B.named B.method).1, rfl, Nat.le_trans (Nat.le_add_right _ _) hR.2.1⟩ hcs s.heap [] _ hR va_S.rf hl) (fun t q => XQ.to rfl q)
section XNC
variable {g : Gp} {f : Fm} {md : MD} {fr : Nat} {mc : Nat × Nat} {Post : Outcome → Hp → Prop} {n : Nat × Nat} {pc : Nat} {L : List (Option Value)} {st : List Value} {M : MD} {fr2 na idx : Nat} {mc2 : Nat × Nat} {As rest : List Value} {h h2 : Hp}
theorem Pxc_blind {av : List Value} : FrameBlind (Pxc g av h) := fun a U g2 mk q => by
  obtain ⟨q0, q1, qK, qz, qc⟩ := q
  exact ⟨q0, q1, va_K.moved (u := U) (U := U.calling g2 mk a) (Vm.Alike.refl U.vm) qK, qz.same rfl, qc.same rfl⟩
theorem Pxc_pre {av : List Value} {H : Heap} (C : Cx g f md fr mc) (hcs : cst (fS f)) (hR : Rl g h H) : ∀ U : State, U.heap = H → (fS f).WarmedH U.vm → Pxc g av h av.toArray U :=
  fun U hU hW => ⟨rfl, by rw [hU]; exact hR, va_K.moved hW.alike C.K, C.nw.warm hW, hcs.warm hW⟩
theorem x_cIC0 {a : Nat} (C : Cx g f md fr mc) (hcs : cst (fS f)) (d : decode md.2.1 pc = .ok (.invokespecial idx, 3)) (hw : Cond.methodLink md.1.cls idx M.1 ∈ tb) (hm : mI M na) (hc : ConC g M fr2 mc2 (.ref a :: As) h (Ret none h2)) (hst : st = As.reverse ++ .ref a :: rest) (hlen : As.length = na) (hcat : Nat.ble (rest.map fun v => v.category).sum 8 = true) (hfr : rmK fr2 fr M.2.2.1 = true) (hmc : n.1 + mc2.1 ≤ mc.1 ∧ n.2 + mc2.2 ≤ mc.2)
    (k : X g f md mc Post (n.1 + mc2.1, n.2 + mc2.2) (pc + 3) L rest h2) : X g f md mc Post n pc L st h := by
  obtain ⟨m1, m2, m3, m4, m5, m6⟩ := hm
  refine x_run (av := .ref a :: As) (Post2 := Ret none h2) C (fun H locs ls hR hS hl => ?_) (fun o h3 hp => ⟨none, hp.1, by rw [hp.2]; exact k⟩)
  exact va_runI (Ts := tb) ⟨C.exec, C.code, C.ml, C.own, C.ts⟩ hc (cwI na C.ts (tb_wz m4) (by unfold wz; rw [m6]) rfl rfl (C.ts _ m3) (C.ts _ hw) (C.ts _ m1) m2 m5 (rmK.ok C hfr)) ⟨Pxc_blind, Pxc_pre C hcs hR⟩ rfl hlen hl.1 hst (lv_room (Nat.le_of_ble_eq_true hcat)) d (mcK_ok C hmc)
end XNC

set_option maxHeartbeats 4000000 in
theorem c_Desk_init {g : Gp} {Q : Hp} {m : Nat} {h h' : Hp} (hQ : Q.length = m) (h60 : m + 44 < 60) (he : h = Q ++ [.inr (0, [.null, .null, .null, .null, .null, .null, .null])]) (he' : h' = Q ++ [.inr (0, [.ref (zA (gz g) (m + 30)), .ref (zA (gz g) (m + 13)), .ref (zA (gz g) (m + 31)), .ref (zA (gz g) (m + 18)), .ref (zA (gz g) (m + 38)), .ref (zA (gz g) (m + 40)), .ref (zA (gz g) (m + 42))]), tbc g (m + 2) (m + 3), ia g FB0.1, ia g FB0.2, ia g PW0, cpc g (m + 1) (m + 6) (m + 7), ia g K00, ia g (List.replicate 16 0), cpc g (m + 1) (m + 9) (m + 10), ia g K00, ia g (List.replicate 16 0), wrc g (m + 5) (m + 12), ia g (List.replicate 16 0), mkc g (m + 5) (m + 14) (m + 15) (m + 16), ia g (List.replicate 16 0), ia g (List.replicate 16 0), rwc g (m + 17) 0, ia g (List.replicate 88 0), .inr (3, [.ref (zA (gz g) (m + 19)), .int (nI 0)]), ra g 2 [some (zA (gz g) (m + 20)), some (zA (gz g) (m + 22)), some (zA (gz g) (m + 24)), some (zA (gz g) (m + 26)), some (zA (gz g) (m + 28))], rwc g (m + 21) 0, ia g (List.replicate 88 0), rwc g (m + 23) 0, ia g (List.replicate 88 0), rwc g (m + 25) 0, ia g (List.replicate 88 0), rwc g (m + 27) 0, ia g (List.replicate 88 0), rwc g (m + 29) 0, ia g (List.replicate 88 0), ra g 3 [some (zA (gz g) (m + 5)), some (zA (gz g) (m + 8))], ra g 4 [some (zA (gz g) (m + 32)), some (zA (gz g) (m + 36)), some (zA (gz g) (m + 37))], .inr (4, [.ref (zA (gz g) (m + 13)), .ref (zA (gz g) (m + 18)), .ref (zA (gz g) (m + 8)), .ref (zA (gz g) (m + 33)), .ref (zA (gz g) (m + 34)), .ref (zA (gz g) (m + 35))]), ia g (List.replicate 16 0), ia g (List.replicate 16 0), ia g (List.replicate 16 0), .inr (9, [.ref (zA (gz g) (m + 11))]), .inr (6, [.ref (zA (gz g) (m + 11)), .ref (zA (gz g) (m + 5))]), rwc g (m + 39) 0, ia g (List.replicate 88 0), rwc g (m + 41) 0, ia g (List.replicate 88 0), rwc g (m + 43) 0, ia g (List.replicate 88 0)]) : ConC g M_Desk_init 4 (43, 2093) [.ref (zA (gz g) (m + 0))] h (Ret none h') := by
  subst he
  subst he'
  refine ConC.of (by decide) rfl rfl (L := [some (.ref (zA (gz g) (m + 0))), none, none, none, none, none, none]) rfl (fun f C hcs => ?_)
  refine x_aload_n (pc := 0) C (dq D_Desk_init 0 rfl) rfl ?_
  refine x_objInit (pc := 1) C (dq D_Desk_init 1 rfl) k_ml_Desk_1 rfl rfl ?_
  refine x_newQ (pc := 4) (ci := 8) (k := 1) (fs := [.null, .null]) C (dq D_Desk_init 2 rfl) hQ rfl rfl k_cl_Desk_7 k_it_Tables k_in_Tables (fun j hj => match j, hj with | 0, _ => rfl | 1, _ => rfl | j + 2, hj => absurd hj (by show ¬ (j + 2 < 2); omega)) (by omega) (by decide) ?_
  simp only [List.cons_append, List.nil_append]
  refine x_dup (pc := 7) C (dq D_Desk_init 3 rfl) rfl ?_
  refine x_cI0 (pc := 8) (M := M_Tables_init) C (dq D_Desk_init 4 rfl) k_ml_Desk_9 m_Tables_init (c_Tables_init (Q := Q ++ [.inr (0, [.null, .null, .null, .null, .null, .null, .null])]) (m := m + 1) (h' := Q ++ [.inr (0, [.null, .null, .null, .null, .null, .null, .null]), tbc g (m + 2) (m + 3), ia g FB0.1, ia g FB0.2, ia g PW0]) (qlen hQ rfl) (by omega) (by rw [List.append_assoc]; rfl) (by rw [List.append_assoc]; rfl)) rfl rfl rfl (by decide) (by decide) ?_
  refine x_astore_n (i := 1) (pc := 11) C (dq D_Desk_init 5 rfl) rfl rfl rfl ?_
  simp only [List.set_cons_zero, List.set_cons_succ]
  refine x_newQ (pc := 12) (ci := 2) (k := 5) (fs := [.null, .null, .null]) C (dq D_Desk_init 6 rfl) hQ rfl rfl k_cl_Desk_10 k_it_Cipher k_in_Cipher (fun j hj => match j, hj with | 0, _ => rfl | 1, _ => rfl | 2, _ => rfl | j + 3, hj => absurd hj (by show ¬ (j + 3 < 3); omega)) (by omega) (by decide) ?_
  simp only [List.cons_append, List.nil_append]
  refine x_dup (pc := 15) C (dq D_Desk_init 7 rfl) rfl ?_
  refine x_aload_n (pc := 16) C (dq D_Desk_init 8 rfl) rfl ?_
  refine x_cI0 (pc := 17) (M := M_Cipher_init) C (dq D_Desk_init 9 rfl) k_ml_Desk_12 m_Cipher_init (c_Cipher_init (Q := Q ++ [.inr (0, [.null, .null, .null, .null, .null, .null, .null]), tbc g (m + 2) (m + 3), ia g FB0.1, ia g FB0.2, ia g PW0]) (m := m + 5) (h' := Q ++ [.inr (0, [.null, .null, .null, .null, .null, .null, .null]), tbc g (m + 2) (m + 3), ia g FB0.1, ia g FB0.2, ia g PW0, cpc g (m + 1) (m + 6) (m + 7), ia g K00, ia g (List.replicate 16 0)]) (t := m + 1) (fo := m + 2) (ba := m + 3) (qg hQ rfl) (qg hQ rfl) (qlen hQ rfl) (by omega) (by rw [List.append_assoc]; rfl) (by rw [List.append_assoc]; rfl)) rfl rfl rfl (by decide) (by decide) ?_
  refine x_astore_n (i := 2) (pc := 20) C (dq D_Desk_init 10 rfl) rfl rfl rfl ?_
  simp only [List.set_cons_zero, List.set_cons_succ]
  refine x_newQ (pc := 21) (ci := 2) (k := 8) (fs := [.null, .null, .null]) C (dq D_Desk_init 11 rfl) hQ rfl rfl k_cl_Desk_10 k_it_Cipher k_in_Cipher (fun j hj => match j, hj with | 0, _ => rfl | 1, _ => rfl | 2, _ => rfl | j + 3, hj => absurd hj (by show ¬ (j + 3 < 3); omega)) (by omega) (by decide) ?_
  simp only [List.cons_append, List.nil_append]
  refine x_dup (pc := 24) C (dq D_Desk_init 12 rfl) rfl ?_
  refine x_aload_n (pc := 25) C (dq D_Desk_init 13 rfl) rfl ?_
  refine x_cI0 (pc := 26) (M := M_Cipher_init) C (dq D_Desk_init 14 rfl) k_ml_Desk_12 m_Cipher_init (c_Cipher_init (Q := Q ++ [.inr (0, [.null, .null, .null, .null, .null, .null, .null]), tbc g (m + 2) (m + 3), ia g FB0.1, ia g FB0.2, ia g PW0, cpc g (m + 1) (m + 6) (m + 7), ia g K00, ia g (List.replicate 16 0)]) (m := m + 8) (h' := Q ++ [.inr (0, [.null, .null, .null, .null, .null, .null, .null]), tbc g (m + 2) (m + 3), ia g FB0.1, ia g FB0.2, ia g PW0, cpc g (m + 1) (m + 6) (m + 7), ia g K00, ia g (List.replicate 16 0), cpc g (m + 1) (m + 9) (m + 10), ia g K00, ia g (List.replicate 16 0)]) (t := m + 1) (fo := m + 2) (ba := m + 3) (qg hQ rfl) (qg hQ rfl) (qlen hQ rfl) (by omega) (by rw [List.append_assoc]; rfl) (by rw [List.append_assoc]; rfl)) rfl rfl rfl (by decide) (by decide) ?_
  refine x_astore_n (i := 3) (pc := 29) C (dq D_Desk_init 15 rfl) rfl rfl rfl ?_
  simp only [List.set_cons_zero, List.set_cons_succ]
  refine x_newQ (pc := 30) (ci := 10) (k := 11) (fs := [.null, .null]) C (dq D_Desk_init 16 rfl) hQ rfl rfl k_cl_Desk_15 k_it_Wrapping k_in_Wrapping (fun j hj => match j, hj with | 0, _ => rfl | 1, _ => rfl | j + 2, hj => absurd hj (by show ¬ (j + 2 < 2); omega)) (by omega) (by decide) ?_
  simp only [List.cons_append, List.nil_append]
  refine x_dup (pc := 33) C (dq D_Desk_init 17 rfl) rfl ?_
  refine x_aload_n (pc := 34) C (dq D_Desk_init 18 rfl) rfl ?_
  refine x_cI0 (pc := 35) (M := M_Wrapping_init) C (dq D_Desk_init 19 rfl) k_ml_Desk_17 m_Wrapping_init (c_Wrapping_init (Q := Q ++ [.inr (0, [.null, .null, .null, .null, .null, .null, .null]), tbc g (m + 2) (m + 3), ia g FB0.1, ia g FB0.2, ia g PW0, cpc g (m + 1) (m + 6) (m + 7), ia g K00, ia g (List.replicate 16 0), cpc g (m + 1) (m + 9) (m + 10), ia g K00, ia g (List.replicate 16 0)]) (m := m + 11) (h' := Q ++ [.inr (0, [.null, .null, .null, .null, .null, .null, .null]), tbc g (m + 2) (m + 3), ia g FB0.1, ia g FB0.2, ia g PW0, cpc g (m + 1) (m + 6) (m + 7), ia g K00, ia g (List.replicate 16 0), cpc g (m + 1) (m + 9) (m + 10), ia g K00, ia g (List.replicate 16 0), wrc g (m + 5) (m + 12), ia g (List.replicate 16 0)]) (c := m + 5) (qlen hQ rfl) (by omega) (by rw [List.append_assoc]; rfl) (by rw [List.append_assoc]; rfl)) rfl rfl rfl (by decide) (by decide) ?_
  refine x_astore (i := 4) (pc := 38) C (dq D_Desk_init 20 rfl) rfl rfl rfl ?_
  simp only [List.set_cons_zero, List.set_cons_succ]
  refine x_newQ (pc := 40) (ci := 5) (k := 13) (fs := [.null, .null, .null, .null]) C (dq D_Desk_init 21 rfl) hQ rfl rfl k_cl_Desk_20 k_it_Marker k_in_Marker (fun j hj => match j, hj with | 0, _ => rfl | 1, _ => rfl | 2, _ => rfl | 3, _ => rfl | j + 4, hj => absurd hj (by show ¬ (j + 4 < 4); omega)) (by omega) (by decide) ?_
  simp only [List.cons_append, List.nil_append]
  refine x_dup (pc := 43) C (dq D_Desk_init 22 rfl) rfl ?_
  refine x_aload_n (pc := 44) C (dq D_Desk_init 23 rfl) rfl ?_
  refine x_cI0 (pc := 45) (M := M_Marker_init) C (dq D_Desk_init 24 rfl) k_ml_Desk_22 m_Marker_init (c_Marker_init (Q := Q ++ [.inr (0, [.null, .null, .null, .null, .null, .null, .null]), tbc g (m + 2) (m + 3), ia g FB0.1, ia g FB0.2, ia g PW0, cpc g (m + 1) (m + 6) (m + 7), ia g K00, ia g (List.replicate 16 0), cpc g (m + 1) (m + 9) (m + 10), ia g K00, ia g (List.replicate 16 0), wrc g (m + 5) (m + 12), ia g (List.replicate 16 0)]) (m := m + 13) (h' := Q ++ [.inr (0, [.null, .null, .null, .null, .null, .null, .null]), tbc g (m + 2) (m + 3), ia g FB0.1, ia g FB0.2, ia g PW0, cpc g (m + 1) (m + 6) (m + 7), ia g K00, ia g (List.replicate 16 0), cpc g (m + 1) (m + 9) (m + 10), ia g K00, ia g (List.replicate 16 0), wrc g (m + 5) (m + 12), ia g (List.replicate 16 0), mkc g (m + 5) (m + 14) (m + 15) (m + 16), ia g (List.replicate 16 0), ia g (List.replicate 16 0), rwc g (m + 17) 0, ia g (List.replicate 88 0)]) (c := m + 5) (qlen hQ rfl) (by omega) (by rw [List.append_assoc]; rfl) (by rw [List.append_assoc]; rfl)) rfl rfl rfl (by decide) (by decide) ?_
  refine x_astore (i := 5) (pc := 48) C (dq D_Desk_init 25 rfl) rfl rfl rfl ?_
  simp only [List.set_cons_zero, List.set_cons_succ]
  refine x_newQ (pc := 50) (ci := 3) (k := 18) (fs := [.null, .int (nI 0)]) C (dq D_Desk_init 26 rfl) hQ rfl rfl k_cl_Desk_23 k_it_Items k_in_Items (fun j hj => match j, hj with | 0, _ => rfl | 1, _ => rfl | j + 2, hj => absurd hj (by show ¬ (j + 2 < 2); omega)) (by omega) (by decide) ?_
  simp only [List.cons_append, List.nil_append]
  refine x_dup (pc := 53) C (dq D_Desk_init 27 rfl) rfl ?_
  refine x_cI0 (pc := 54) (M := M_Items_init) C (dq D_Desk_init 28 rfl) k_ml_Desk_25 m_Items_init (c_Items_init (Q := Q ++ [.inr (0, [.null, .null, .null, .null, .null, .null, .null]), tbc g (m + 2) (m + 3), ia g FB0.1, ia g FB0.2, ia g PW0, cpc g (m + 1) (m + 6) (m + 7), ia g K00, ia g (List.replicate 16 0), cpc g (m + 1) (m + 9) (m + 10), ia g K00, ia g (List.replicate 16 0), wrc g (m + 5) (m + 12), ia g (List.replicate 16 0), mkc g (m + 5) (m + 14) (m + 15) (m + 16), ia g (List.replicate 16 0), ia g (List.replicate 16 0), rwc g (m + 17) 0, ia g (List.replicate 88 0)]) (m := m + 18) (h' := Q ++ [.inr (0, [.null, .null, .null, .null, .null, .null, .null]), tbc g (m + 2) (m + 3), ia g FB0.1, ia g FB0.2, ia g PW0, cpc g (m + 1) (m + 6) (m + 7), ia g K00, ia g (List.replicate 16 0), cpc g (m + 1) (m + 9) (m + 10), ia g K00, ia g (List.replicate 16 0), wrc g (m + 5) (m + 12), ia g (List.replicate 16 0), mkc g (m + 5) (m + 14) (m + 15) (m + 16), ia g (List.replicate 16 0), ia g (List.replicate 16 0), rwc g (m + 17) 0, ia g (List.replicate 88 0), .inr (3, [.ref (zA (gz g) (m + 19)), .int (nI 0)]), ra g 2 [some (zA (gz g) (m + 20)), some (zA (gz g) (m + 22)), some (zA (gz g) (m + 24)), some (zA (gz g) (m + 26)), some (zA (gz g) (m + 28))], rwc g (m + 21) 0, ia g (List.replicate 88 0), rwc g (m + 23) 0, ia g (List.replicate 88 0), rwc g (m + 25) 0, ia g (List.replicate 88 0), rwc g (m + 27) 0, ia g (List.replicate 88 0), rwc g (m + 29) 0, ia g (List.replicate 88 0)]) (qlen hQ rfl) (by omega) (by rw [List.append_assoc]; rfl) (by rw [List.append_assoc]; rfl)) rfl rfl rfl (by decide) (by decide) ?_
  refine x_astore (i := 6) (pc := 57) C (dq D_Desk_init 29 rfl) rfl rfl rfl ?_
  simp only [List.set_cons_zero, List.set_cons_succ]
  refine x_aload_n (pc := 59) C (dq D_Desk_init 30 rfl) rfl ?_
  refine x_iconst (pc := 60) C (dq D_Desk_init 31 rfl) ci_2 ?_
  refine x_anewQ (pc := 61) (k := 30) (t := 3) (A := [none, none]) C (dq D_Desk_init 32 rfl) hQ rfl k_cl_Desk_10 (by simp [nwA]) rfl rfl (by decide) (by omega) (by decide) ?_
  simp only [List.cons_append, List.nil_append]
  refine x_dup (pc := 64) C (dq D_Desk_init 33 rfl) rfl ?_
  refine x_iconst (pc := 65) C (dq D_Desk_init 34 rfl) ci_0 ?_
  refine x_aload_n (pc := 66) C (dq D_Desk_init 35 rfl) rfl ?_
  refine x_aast (pc := 67) C (dq D_Desk_init 36 rfl) (qg hQ rfl) rfl (qg hQ rfl) rfl ⟨by simp, by simp⟩ ?_
  rw [qs hQ]
  simp only [List.set_cons_zero, List.set_cons_succ]
  refine x_dup (pc := 68) C (dq D_Desk_init 37 rfl) rfl ?_
  refine x_iconst (pc := 69) C (dq D_Desk_init 38 rfl) ci_1 ?_
  refine x_aload_n (pc := 70) C (dq D_Desk_init 39 rfl) rfl ?_
  refine x_aast (pc := 71) C (dq D_Desk_init 40 rfl) (qg hQ rfl) rfl (qg hQ rfl) rfl ⟨by simp, by simp⟩ ?_
  rw [qs hQ]
  simp only [List.set_cons_zero, List.set_cons_succ]
  refine x_put (pc := 72) (ci := 0) (j := 0) (ty := .array (.object "SealingDesk$Cipher")) C (dq D_Desk_init 41 rfl) rfl rfl (qg hQ rfl) rfl k_fl_Desk_26 (Or.inr ⟨rfl, rfl, rfl⟩) (by decide +kernel) rfl rfl ?_
  simp only [List.set_cons_zero, List.set_cons_succ]
  rw [qs hQ]
  simp only [List.set_cons_zero, List.set_cons_succ]
  refine x_aload_n (pc := 75) C (dq D_Desk_init 42 rfl) rfl ?_
  refine x_aload (pc := 76) C (dq D_Desk_init 43 rfl) rfl ?_
  refine x_put (pc := 78) (ci := 0) (j := 1) (ty := .object "SealingDesk$Marker") C (dq D_Desk_init 44 rfl) rfl rfl (qg hQ rfl) rfl k_fl_Desk_32 (Or.inr ⟨rfl, rfl, rfl⟩) (by decide +kernel) rfl rfl ?_
  simp only [List.set_cons_zero, List.set_cons_succ]
  rw [qs hQ]
  simp only [List.set_cons_zero, List.set_cons_succ]
  refine x_aload_n (pc := 81) C (dq D_Desk_init 45 rfl) rfl ?_
  refine x_aload (pc := 82) C (dq D_Desk_init 46 rfl) rfl ?_
  refine x_put (pc := 84) (ci := 0) (j := 3) (ty := .object "SealingDesk$Items") C (dq D_Desk_init 47 rfl) rfl rfl (qg hQ rfl) rfl k_fl_Desk_36 (Or.inr ⟨rfl, rfl, rfl⟩) (by decide +kernel) rfl rfl ?_
  simp only [List.set_cons_zero, List.set_cons_succ]
  rw [qs hQ]
  simp only [List.set_cons_zero, List.set_cons_succ]
  refine x_aload_n (pc := 87) C (dq D_Desk_init 48 rfl) rfl ?_
  refine x_iconst (pc := 88) C (dq D_Desk_init 49 rfl) ci_3 ?_
  refine x_anewQ (pc := 89) (k := 31) (t := 4) (A := [none, none, none]) C (dq D_Desk_init 50 rfl) hQ rfl k_cl_Desk_40 (by simp [nwA]) rfl rfl (by decide) (by omega) (by decide) ?_
  simp only [List.cons_append, List.nil_append]
  refine x_dup (pc := 92) C (dq D_Desk_init 51 rfl) rfl ?_
  refine x_iconst (pc := 93) C (dq D_Desk_init 52 rfl) ci_0 ?_
  refine x_newQ (pc := 94) (ci := 4) (k := 32) (fs := [.null, .null, .null, .null, .null, .null]) C (dq D_Desk_init 53 rfl) hQ rfl rfl k_cl_Desk_42 k_it_Marked k_in_Marked (fun j hj => match j, hj with | 0, _ => rfl | 1, _ => rfl | 2, _ => rfl | 3, _ => rfl | 4, _ => rfl | 5, _ => rfl | j + 6, hj => absurd hj (by show ¬ (j + 6 < 6); omega)) (by omega) (by decide) ?_
  simp only [List.cons_append, List.nil_append]
  refine x_dup (pc := 97) C (dq D_Desk_init 54 rfl) rfl ?_
  refine x_aload (pc := 98) C (dq D_Desk_init 55 rfl) rfl ?_
  refine x_aload (pc := 100) C (dq D_Desk_init 56 rfl) rfl ?_
  refine x_aload_n (pc := 102) C (dq D_Desk_init 57 rfl) rfl ?_
  refine x_cI0 (pc := 103) (M := M_Marked_init) C (dq D_Desk_init 58 rfl) k_ml_Desk_44 m_Marked_init (c_Marked_init (Q := Q ++ [.inr (0, [.ref (zA (gz g) (m + 30)), .ref (zA (gz g) (m + 13)), .null, .ref (zA (gz g) (m + 18)), .null, .null, .null]), tbc g (m + 2) (m + 3), ia g FB0.1, ia g FB0.2, ia g PW0, cpc g (m + 1) (m + 6) (m + 7), ia g K00, ia g (List.replicate 16 0), cpc g (m + 1) (m + 9) (m + 10), ia g K00, ia g (List.replicate 16 0), wrc g (m + 5) (m + 12), ia g (List.replicate 16 0), mkc g (m + 5) (m + 14) (m + 15) (m + 16), ia g (List.replicate 16 0), ia g (List.replicate 16 0), rwc g (m + 17) 0, ia g (List.replicate 88 0), .inr (3, [.ref (zA (gz g) (m + 19)), .int (nI 0)]), ra g 2 [some (zA (gz g) (m + 20)), some (zA (gz g) (m + 22)), some (zA (gz g) (m + 24)), some (zA (gz g) (m + 26)), some (zA (gz g) (m + 28))], rwc g (m + 21) 0, ia g (List.replicate 88 0), rwc g (m + 23) 0, ia g (List.replicate 88 0), rwc g (m + 25) 0, ia g (List.replicate 88 0), rwc g (m + 27) 0, ia g (List.replicate 88 0), rwc g (m + 29) 0, ia g (List.replicate 88 0), ra g 3 [some (zA (gz g) (m + 5)), some (zA (gz g) (m + 8))], ra g 4 [none, none, none]]) (m := m + 32) (h' := Q ++ [.inr (0, [.ref (zA (gz g) (m + 30)), .ref (zA (gz g) (m + 13)), .null, .ref (zA (gz g) (m + 18)), .null, .null, .null]), tbc g (m + 2) (m + 3), ia g FB0.1, ia g FB0.2, ia g PW0, cpc g (m + 1) (m + 6) (m + 7), ia g K00, ia g (List.replicate 16 0), cpc g (m + 1) (m + 9) (m + 10), ia g K00, ia g (List.replicate 16 0), wrc g (m + 5) (m + 12), ia g (List.replicate 16 0), mkc g (m + 5) (m + 14) (m + 15) (m + 16), ia g (List.replicate 16 0), ia g (List.replicate 16 0), rwc g (m + 17) 0, ia g (List.replicate 88 0), .inr (3, [.ref (zA (gz g) (m + 19)), .int (nI 0)]), ra g 2 [some (zA (gz g) (m + 20)), some (zA (gz g) (m + 22)), some (zA (gz g) (m + 24)), some (zA (gz g) (m + 26)), some (zA (gz g) (m + 28))], rwc g (m + 21) 0, ia g (List.replicate 88 0), rwc g (m + 23) 0, ia g (List.replicate 88 0), rwc g (m + 25) 0, ia g (List.replicate 88 0), rwc g (m + 27) 0, ia g (List.replicate 88 0), rwc g (m + 29) 0, ia g (List.replicate 88 0), ra g 3 [some (zA (gz g) (m + 5)), some (zA (gz g) (m + 8))], ra g 4 [none, none, none], .inr (4, [.ref (zA (gz g) (m + 13)), .ref (zA (gz g) (m + 18)), .ref (zA (gz g) (m + 8)), .ref (zA (gz g) (m + 33)), .ref (zA (gz g) (m + 34)), .ref (zA (gz g) (m + 35))]), ia g (List.replicate 16 0), ia g (List.replicate 16 0), ia g (List.replicate 16 0)]) (k := m + 13) (i := m + 18) (c := m + 8) (qlen hQ rfl) (by omega) (by rw [List.append_assoc]; rfl) (by rw [List.append_assoc]; rfl)) rfl rfl rfl (by decide) (by decide) ?_
  refine x_aastC (pc := 106) C (dq D_Desk_init 59 rfl) (qg hQ rfl) rfl hcs.1 (qg hQ rfl) rfl ⟨by simp, by simp⟩ ?_
  rw [qs hQ]
  simp only [List.set_cons_zero, List.set_cons_succ]
  refine x_dup (pc := 107) C (dq D_Desk_init 60 rfl) rfl ?_
  refine x_iconst (pc := 108) C (dq D_Desk_init 61 rfl) ci_1 ?_
  refine x_newQ (pc := 109) (ci := 9) (k := 36) (fs := [.null]) C (dq D_Desk_init 62 rfl) hQ rfl rfl k_cl_Desk_47 k_it_Wrapped k_in_Wrapped (fun j hj => match j, hj with | 0, _ => rfl | j + 1, hj => absurd hj (by show ¬ (j + 1 < 1); omega)) (by omega) (by decide) ?_
  simp only [List.cons_append, List.nil_append]
  refine x_dup (pc := 112) C (dq D_Desk_init 63 rfl) rfl ?_
  refine x_aload (pc := 113) C (dq D_Desk_init 64 rfl) rfl ?_
  refine x_cI0 (pc := 115) (M := M_Wrapped_init) C (dq D_Desk_init 65 rfl) k_ml_Desk_49 m_Wrapped_init (c_Wrapped_init (Q := Q ++ [.inr (0, [.ref (zA (gz g) (m + 30)), .ref (zA (gz g) (m + 13)), .null, .ref (zA (gz g) (m + 18)), .null, .null, .null]), tbc g (m + 2) (m + 3), ia g FB0.1, ia g FB0.2, ia g PW0, cpc g (m + 1) (m + 6) (m + 7), ia g K00, ia g (List.replicate 16 0), cpc g (m + 1) (m + 9) (m + 10), ia g K00, ia g (List.replicate 16 0), wrc g (m + 5) (m + 12), ia g (List.replicate 16 0), mkc g (m + 5) (m + 14) (m + 15) (m + 16), ia g (List.replicate 16 0), ia g (List.replicate 16 0), rwc g (m + 17) 0, ia g (List.replicate 88 0), .inr (3, [.ref (zA (gz g) (m + 19)), .int (nI 0)]), ra g 2 [some (zA (gz g) (m + 20)), some (zA (gz g) (m + 22)), some (zA (gz g) (m + 24)), some (zA (gz g) (m + 26)), some (zA (gz g) (m + 28))], rwc g (m + 21) 0, ia g (List.replicate 88 0), rwc g (m + 23) 0, ia g (List.replicate 88 0), rwc g (m + 25) 0, ia g (List.replicate 88 0), rwc g (m + 27) 0, ia g (List.replicate 88 0), rwc g (m + 29) 0, ia g (List.replicate 88 0), ra g 3 [some (zA (gz g) (m + 5)), some (zA (gz g) (m + 8))], ra g 4 [some (zA (gz g) (m + 32)), none, none], .inr (4, [.ref (zA (gz g) (m + 13)), .ref (zA (gz g) (m + 18)), .ref (zA (gz g) (m + 8)), .ref (zA (gz g) (m + 33)), .ref (zA (gz g) (m + 34)), .ref (zA (gz g) (m + 35))]), ia g (List.replicate 16 0), ia g (List.replicate 16 0), ia g (List.replicate 16 0)]) (m := m + 36) (h' := Q ++ [.inr (0, [.ref (zA (gz g) (m + 30)), .ref (zA (gz g) (m + 13)), .null, .ref (zA (gz g) (m + 18)), .null, .null, .null]), tbc g (m + 2) (m + 3), ia g FB0.1, ia g FB0.2, ia g PW0, cpc g (m + 1) (m + 6) (m + 7), ia g K00, ia g (List.replicate 16 0), cpc g (m + 1) (m + 9) (m + 10), ia g K00, ia g (List.replicate 16 0), wrc g (m + 5) (m + 12), ia g (List.replicate 16 0), mkc g (m + 5) (m + 14) (m + 15) (m + 16), ia g (List.replicate 16 0), ia g (List.replicate 16 0), rwc g (m + 17) 0, ia g (List.replicate 88 0), .inr (3, [.ref (zA (gz g) (m + 19)), .int (nI 0)]), ra g 2 [some (zA (gz g) (m + 20)), some (zA (gz g) (m + 22)), some (zA (gz g) (m + 24)), some (zA (gz g) (m + 26)), some (zA (gz g) (m + 28))], rwc g (m + 21) 0, ia g (List.replicate 88 0), rwc g (m + 23) 0, ia g (List.replicate 88 0), rwc g (m + 25) 0, ia g (List.replicate 88 0), rwc g (m + 27) 0, ia g (List.replicate 88 0), rwc g (m + 29) 0, ia g (List.replicate 88 0), ra g 3 [some (zA (gz g) (m + 5)), some (zA (gz g) (m + 8))], ra g 4 [some (zA (gz g) (m + 32)), none, none], .inr (4, [.ref (zA (gz g) (m + 13)), .ref (zA (gz g) (m + 18)), .ref (zA (gz g) (m + 8)), .ref (zA (gz g) (m + 33)), .ref (zA (gz g) (m + 34)), .ref (zA (gz g) (m + 35))]), ia g (List.replicate 16 0), ia g (List.replicate 16 0), ia g (List.replicate 16 0), .inr (9, [.ref (zA (gz g) (m + 11))])]) (w := m + 11) (qlen hQ rfl) (by omega) (by rw [List.append_assoc]; rfl) (by rw [List.append_assoc]; rfl)) rfl rfl rfl (by decide) (by decide) ?_
  refine x_aastC (pc := 118) C (dq D_Desk_init 66 rfl) (qg hQ rfl) rfl hcs.2.1 (qg hQ rfl) rfl ⟨by simp, by simp⟩ ?_
  rw [qs hQ]
  simp only [List.set_cons_zero, List.set_cons_succ]
  refine x_dup (pc := 119) C (dq D_Desk_init 67 rfl) rfl ?_
  refine x_iconst (pc := 120) C (dq D_Desk_init 68 rfl) ci_2 ?_
  refine x_newQ (pc := 121) (ci := 6) (k := 37) (fs := [.null, .null]) C (dq D_Desk_init 69 rfl) hQ rfl rfl k_cl_Desk_52 k_it_Padded k_in_Padded (fun j hj => match j, hj with | 0, _ => rfl | 1, _ => rfl | j + 2, hj => absurd hj (by show ¬ (j + 2 < 2); omega)) (by omega) (by decide) ?_
  simp only [List.cons_append, List.nil_append]
  refine x_dup (pc := 124) C (dq D_Desk_init 70 rfl) rfl ?_
  refine x_aload (pc := 125) C (dq D_Desk_init 71 rfl) rfl ?_
  refine x_aload_n (pc := 127) C (dq D_Desk_init 72 rfl) rfl ?_
  refine x_cI0 (pc := 128) (M := M_Padded_init) C (dq D_Desk_init 73 rfl) k_ml_Desk_54 m_Padded_init (c_Padded_init (Q := Q ++ [.inr (0, [.ref (zA (gz g) (m + 30)), .ref (zA (gz g) (m + 13)), .null, .ref (zA (gz g) (m + 18)), .null, .null, .null]), tbc g (m + 2) (m + 3), ia g FB0.1, ia g FB0.2, ia g PW0, cpc g (m + 1) (m + 6) (m + 7), ia g K00, ia g (List.replicate 16 0), cpc g (m + 1) (m + 9) (m + 10), ia g K00, ia g (List.replicate 16 0), wrc g (m + 5) (m + 12), ia g (List.replicate 16 0), mkc g (m + 5) (m + 14) (m + 15) (m + 16), ia g (List.replicate 16 0), ia g (List.replicate 16 0), rwc g (m + 17) 0, ia g (List.replicate 88 0), .inr (3, [.ref (zA (gz g) (m + 19)), .int (nI 0)]), ra g 2 [some (zA (gz g) (m + 20)), some (zA (gz g) (m + 22)), some (zA (gz g) (m + 24)), some (zA (gz g) (m + 26)), some (zA (gz g) (m + 28))], rwc g (m + 21) 0, ia g (List.replicate 88 0), rwc g (m + 23) 0, ia g (List.replicate 88 0), rwc g (m + 25) 0, ia g (List.replicate 88 0), rwc g (m + 27) 0, ia g (List.replicate 88 0), rwc g (m + 29) 0, ia g (List.replicate 88 0), ra g 3 [some (zA (gz g) (m + 5)), some (zA (gz g) (m + 8))], ra g 4 [some (zA (gz g) (m + 32)), some (zA (gz g) (m + 36)), none], .inr (4, [.ref (zA (gz g) (m + 13)), .ref (zA (gz g) (m + 18)), .ref (zA (gz g) (m + 8)), .ref (zA (gz g) (m + 33)), .ref (zA (gz g) (m + 34)), .ref (zA (gz g) (m + 35))]), ia g (List.replicate 16 0), ia g (List.replicate 16 0), ia g (List.replicate 16 0), .inr (9, [.ref (zA (gz g) (m + 11))])]) (m := m + 37) (h' := Q ++ [.inr (0, [.ref (zA (gz g) (m + 30)), .ref (zA (gz g) (m + 13)), .null, .ref (zA (gz g) (m + 18)), .null, .null, .null]), tbc g (m + 2) (m + 3), ia g FB0.1, ia g FB0.2, ia g PW0, cpc g (m + 1) (m + 6) (m + 7), ia g K00, ia g (List.replicate 16 0), cpc g (m + 1) (m + 9) (m + 10), ia g K00, ia g (List.replicate 16 0), wrc g (m + 5) (m + 12), ia g (List.replicate 16 0), mkc g (m + 5) (m + 14) (m + 15) (m + 16), ia g (List.replicate 16 0), ia g (List.replicate 16 0), rwc g (m + 17) 0, ia g (List.replicate 88 0), .inr (3, [.ref (zA (gz g) (m + 19)), .int (nI 0)]), ra g 2 [some (zA (gz g) (m + 20)), some (zA (gz g) (m + 22)), some (zA (gz g) (m + 24)), some (zA (gz g) (m + 26)), some (zA (gz g) (m + 28))], rwc g (m + 21) 0, ia g (List.replicate 88 0), rwc g (m + 23) 0, ia g (List.replicate 88 0), rwc g (m + 25) 0, ia g (List.replicate 88 0), rwc g (m + 27) 0, ia g (List.replicate 88 0), rwc g (m + 29) 0, ia g (List.replicate 88 0), ra g 3 [some (zA (gz g) (m + 5)), some (zA (gz g) (m + 8))], ra g 4 [some (zA (gz g) (m + 32)), some (zA (gz g) (m + 36)), none], .inr (4, [.ref (zA (gz g) (m + 13)), .ref (zA (gz g) (m + 18)), .ref (zA (gz g) (m + 8)), .ref (zA (gz g) (m + 33)), .ref (zA (gz g) (m + 34)), .ref (zA (gz g) (m + 35))]), ia g (List.replicate 16 0), ia g (List.replicate 16 0), ia g (List.replicate 16 0), .inr (9, [.ref (zA (gz g) (m + 11))]), .inr (6, [.ref (zA (gz g) (m + 11)), .ref (zA (gz g) (m + 5))])]) (w := m + 11) (c := m + 5) (qlen hQ rfl) (by omega) (by rw [List.append_assoc]; rfl) (by rw [List.append_assoc]; rfl)) rfl rfl rfl (by decide) (by decide) ?_
  refine x_aastC (pc := 131) C (dq D_Desk_init 74 rfl) (qg hQ rfl) rfl hcs.2.2 (qg hQ rfl) rfl ⟨by simp, by simp⟩ ?_
  rw [qs hQ]
  simp only [List.set_cons_zero, List.set_cons_succ]
  refine x_put (pc := 132) (ci := 0) (j := 2) (ty := .array (.object "SealingDesk$Way")) C (dq D_Desk_init 75 rfl) rfl rfl (qg hQ rfl) rfl k_fl_Desk_57 (Or.inr ⟨rfl, rfl, rfl⟩) (by decide +kernel) rfl rfl ?_
  simp only [List.set_cons_zero, List.set_cons_succ]
  rw [qs hQ]
  simp only [List.set_cons_zero, List.set_cons_succ]
  refine x_aload_n (pc := 135) C (dq D_Desk_init 76 rfl) rfl ?_
  refine x_newQ (pc := 136) (ci := 7) (k := 38) (fs := [.null, .int (nI 0)]) C (dq D_Desk_init 77 rfl) hQ rfl rfl k_cl_Desk_61 k_it_Row k_in_Row (fun j hj => match j, hj with | 0, _ => rfl | 1, _ => rfl | j + 2, hj => absurd hj (by show ¬ (j + 2 < 2); omega)) (by omega) (by decide) ?_
  simp only [List.cons_append, List.nil_append]
  refine x_dup (pc := 139) C (dq D_Desk_init 78 rfl) rfl ?_
  refine x_cIN0 (pc := 140) (M := M_Row_init) C (dq D_Desk_init 79 rfl) q_ml_Desk_63 m_Row_init (c_Row_init (Q := Q ++ [.inr (0, [.ref (zA (gz g) (m + 30)), .ref (zA (gz g) (m + 13)), .ref (zA (gz g) (m + 31)), .ref (zA (gz g) (m + 18)), .null, .null, .null]), tbc g (m + 2) (m + 3), ia g FB0.1, ia g FB0.2, ia g PW0, cpc g (m + 1) (m + 6) (m + 7), ia g K00, ia g (List.replicate 16 0), cpc g (m + 1) (m + 9) (m + 10), ia g K00, ia g (List.replicate 16 0), wrc g (m + 5) (m + 12), ia g (List.replicate 16 0), mkc g (m + 5) (m + 14) (m + 15) (m + 16), ia g (List.replicate 16 0), ia g (List.replicate 16 0), rwc g (m + 17) 0, ia g (List.replicate 88 0), .inr (3, [.ref (zA (gz g) (m + 19)), .int (nI 0)]), ra g 2 [some (zA (gz g) (m + 20)), some (zA (gz g) (m + 22)), some (zA (gz g) (m + 24)), some (zA (gz g) (m + 26)), some (zA (gz g) (m + 28))], rwc g (m + 21) 0, ia g (List.replicate 88 0), rwc g (m + 23) 0, ia g (List.replicate 88 0), rwc g (m + 25) 0, ia g (List.replicate 88 0), rwc g (m + 27) 0, ia g (List.replicate 88 0), rwc g (m + 29) 0, ia g (List.replicate 88 0), ra g 3 [some (zA (gz g) (m + 5)), some (zA (gz g) (m + 8))], ra g 4 [some (zA (gz g) (m + 32)), some (zA (gz g) (m + 36)), some (zA (gz g) (m + 37))], .inr (4, [.ref (zA (gz g) (m + 13)), .ref (zA (gz g) (m + 18)), .ref (zA (gz g) (m + 8)), .ref (zA (gz g) (m + 33)), .ref (zA (gz g) (m + 34)), .ref (zA (gz g) (m + 35))]), ia g (List.replicate 16 0), ia g (List.replicate 16 0), ia g (List.replicate 16 0), .inr (9, [.ref (zA (gz g) (m + 11))]), .inr (6, [.ref (zA (gz g) (m + 11)), .ref (zA (gz g) (m + 5))])]) (m := m + 38) (h' := Q ++ [.inr (0, [.ref (zA (gz g) (m + 30)), .ref (zA (gz g) (m + 13)), .ref (zA (gz g) (m + 31)), .ref (zA (gz g) (m + 18)), .null, .null, .null]), tbc g (m + 2) (m + 3), ia g FB0.1, ia g FB0.2, ia g PW0, cpc g (m + 1) (m + 6) (m + 7), ia g K00, ia g (List.replicate 16 0), cpc g (m + 1) (m + 9) (m + 10), ia g K00, ia g (List.replicate 16 0), wrc g (m + 5) (m + 12), ia g (List.replicate 16 0), mkc g (m + 5) (m + 14) (m + 15) (m + 16), ia g (List.replicate 16 0), ia g (List.replicate 16 0), rwc g (m + 17) 0, ia g (List.replicate 88 0), .inr (3, [.ref (zA (gz g) (m + 19)), .int (nI 0)]), ra g 2 [some (zA (gz g) (m + 20)), some (zA (gz g) (m + 22)), some (zA (gz g) (m + 24)), some (zA (gz g) (m + 26)), some (zA (gz g) (m + 28))], rwc g (m + 21) 0, ia g (List.replicate 88 0), rwc g (m + 23) 0, ia g (List.replicate 88 0), rwc g (m + 25) 0, ia g (List.replicate 88 0), rwc g (m + 27) 0, ia g (List.replicate 88 0), rwc g (m + 29) 0, ia g (List.replicate 88 0), ra g 3 [some (zA (gz g) (m + 5)), some (zA (gz g) (m + 8))], ra g 4 [some (zA (gz g) (m + 32)), some (zA (gz g) (m + 36)), some (zA (gz g) (m + 37))], .inr (4, [.ref (zA (gz g) (m + 13)), .ref (zA (gz g) (m + 18)), .ref (zA (gz g) (m + 8)), .ref (zA (gz g) (m + 33)), .ref (zA (gz g) (m + 34)), .ref (zA (gz g) (m + 35))]), ia g (List.replicate 16 0), ia g (List.replicate 16 0), ia g (List.replicate 16 0), .inr (9, [.ref (zA (gz g) (m + 11))]), .inr (6, [.ref (zA (gz g) (m + 11)), .ref (zA (gz g) (m + 5))]), rwc g (m + 39) 0, ia g (List.replicate 88 0)]) (qlen hQ rfl) (by omega) (by rw [List.append_assoc]; rfl) (by rw [List.append_assoc]; rfl)) rfl rfl rfl (by decide) (by decide) ?_
  refine x_put (pc := 143) (ci := 0) (j := 4) (ty := .object "SealingDesk$Row") C (dq D_Desk_init 80 rfl) rfl rfl (qg hQ rfl) rfl k_fl_Desk_64 (Or.inr ⟨rfl, rfl, rfl⟩) (by decide +kernel) rfl rfl ?_
  simp only [List.set_cons_zero, List.set_cons_succ]
  rw [qs hQ]
  simp only [List.set_cons_zero, List.set_cons_succ]
  refine x_aload_n (pc := 146) C (dq D_Desk_init 81 rfl) rfl ?_
  refine x_newQ (pc := 147) (ci := 7) (k := 40) (fs := [.null, .int (nI 0)]) C (dq D_Desk_init 82 rfl) hQ rfl rfl k_cl_Desk_61 k_it_Row k_in_Row (fun j hj => match j, hj with | 0, _ => rfl | 1, _ => rfl | j + 2, hj => absurd hj (by show ¬ (j + 2 < 2); omega)) (by omega) (by decide) ?_
  simp only [List.cons_append, List.nil_append]
  refine x_dup (pc := 150) C (dq D_Desk_init 83 rfl) rfl ?_
  refine x_cIN0 (pc := 151) (M := M_Row_init) C (dq D_Desk_init 84 rfl) q_ml_Desk_63 m_Row_init (c_Row_init (Q := Q ++ [.inr (0, [.ref (zA (gz g) (m + 30)), .ref (zA (gz g) (m + 13)), .ref (zA (gz g) (m + 31)), .ref (zA (gz g) (m + 18)), .ref (zA (gz g) (m + 38)), .null, .null]), tbc g (m + 2) (m + 3), ia g FB0.1, ia g FB0.2, ia g PW0, cpc g (m + 1) (m + 6) (m + 7), ia g K00, ia g (List.replicate 16 0), cpc g (m + 1) (m + 9) (m + 10), ia g K00, ia g (List.replicate 16 0), wrc g (m + 5) (m + 12), ia g (List.replicate 16 0), mkc g (m + 5) (m + 14) (m + 15) (m + 16), ia g (List.replicate 16 0), ia g (List.replicate 16 0), rwc g (m + 17) 0, ia g (List.replicate 88 0), .inr (3, [.ref (zA (gz g) (m + 19)), .int (nI 0)]), ra g 2 [some (zA (gz g) (m + 20)), some (zA (gz g) (m + 22)), some (zA (gz g) (m + 24)), some (zA (gz g) (m + 26)), some (zA (gz g) (m + 28))], rwc g (m + 21) 0, ia g (List.replicate 88 0), rwc g (m + 23) 0, ia g (List.replicate 88 0), rwc g (m + 25) 0, ia g (List.replicate 88 0), rwc g (m + 27) 0, ia g (List.replicate 88 0), rwc g (m + 29) 0, ia g (List.replicate 88 0), ra g 3 [some (zA (gz g) (m + 5)), some (zA (gz g) (m + 8))], ra g 4 [some (zA (gz g) (m + 32)), some (zA (gz g) (m + 36)), some (zA (gz g) (m + 37))], .inr (4, [.ref (zA (gz g) (m + 13)), .ref (zA (gz g) (m + 18)), .ref (zA (gz g) (m + 8)), .ref (zA (gz g) (m + 33)), .ref (zA (gz g) (m + 34)), .ref (zA (gz g) (m + 35))]), ia g (List.replicate 16 0), ia g (List.replicate 16 0), ia g (List.replicate 16 0), .inr (9, [.ref (zA (gz g) (m + 11))]), .inr (6, [.ref (zA (gz g) (m + 11)), .ref (zA (gz g) (m + 5))]), rwc g (m + 39) 0, ia g (List.replicate 88 0)]) (m := m + 40) (h' := Q ++ [.inr (0, [.ref (zA (gz g) (m + 30)), .ref (zA (gz g) (m + 13)), .ref (zA (gz g) (m + 31)), .ref (zA (gz g) (m + 18)), .ref (zA (gz g) (m + 38)), .null, .null]), tbc g (m + 2) (m + 3), ia g FB0.1, ia g FB0.2, ia g PW0, cpc g (m + 1) (m + 6) (m + 7), ia g K00, ia g (List.replicate 16 0), cpc g (m + 1) (m + 9) (m + 10), ia g K00, ia g (List.replicate 16 0), wrc g (m + 5) (m + 12), ia g (List.replicate 16 0), mkc g (m + 5) (m + 14) (m + 15) (m + 16), ia g (List.replicate 16 0), ia g (List.replicate 16 0), rwc g (m + 17) 0, ia g (List.replicate 88 0), .inr (3, [.ref (zA (gz g) (m + 19)), .int (nI 0)]), ra g 2 [some (zA (gz g) (m + 20)), some (zA (gz g) (m + 22)), some (zA (gz g) (m + 24)), some (zA (gz g) (m + 26)), some (zA (gz g) (m + 28))], rwc g (m + 21) 0, ia g (List.replicate 88 0), rwc g (m + 23) 0, ia g (List.replicate 88 0), rwc g (m + 25) 0, ia g (List.replicate 88 0), rwc g (m + 27) 0, ia g (List.replicate 88 0), rwc g (m + 29) 0, ia g (List.replicate 88 0), ra g 3 [some (zA (gz g) (m + 5)), some (zA (gz g) (m + 8))], ra g 4 [some (zA (gz g) (m + 32)), some (zA (gz g) (m + 36)), some (zA (gz g) (m + 37))], .inr (4, [.ref (zA (gz g) (m + 13)), .ref (zA (gz g) (m + 18)), .ref (zA (gz g) (m + 8)), .ref (zA (gz g) (m + 33)), .ref (zA (gz g) (m + 34)), .ref (zA (gz g) (m + 35))]), ia g (List.replicate 16 0), ia g (List.replicate 16 0), ia g (List.replicate 16 0), .inr (9, [.ref (zA (gz g) (m + 11))]), .inr (6, [.ref (zA (gz g) (m + 11)), .ref (zA (gz g) (m + 5))]), rwc g (m + 39) 0, ia g (List.replicate 88 0), rwc g (m + 41) 0, ia g (List.replicate 88 0)]) (qlen hQ rfl) (by omega) (by rw [List.append_assoc]; rfl) (by rw [List.append_assoc]; rfl)) rfl rfl rfl (by decide) (by decide) ?_
  refine x_put (pc := 154) (ci := 0) (j := 5) (ty := .object "SealingDesk$Row") C (dq D_Desk_init 85 rfl) rfl rfl (qg hQ rfl) rfl k_fl_Desk_68 (Or.inr ⟨rfl, rfl, rfl⟩) (by decide +kernel) rfl rfl ?_
  simp only [List.set_cons_zero, List.set_cons_succ]
  rw [qs hQ]
  simp only [List.set_cons_zero, List.set_cons_succ]
  refine x_aload_n (pc := 157) C (dq D_Desk_init 86 rfl) rfl ?_
  refine x_newQ (pc := 158) (ci := 7) (k := 42) (fs := [.null, .int (nI 0)]) C (dq D_Desk_init 87 rfl) hQ rfl rfl k_cl_Desk_61 k_it_Row k_in_Row (fun j hj => match j, hj with | 0, _ => rfl | 1, _ => rfl | j + 2, hj => absurd hj (by show ¬ (j + 2 < 2); omega)) (by omega) (by decide) ?_
  simp only [List.cons_append, List.nil_append]
  refine x_dup (pc := 161) C (dq D_Desk_init 88 rfl) rfl ?_
  refine x_cIN0 (pc := 162) (M := M_Row_init) C (dq D_Desk_init 89 rfl) q_ml_Desk_63 m_Row_init (c_Row_init (Q := Q ++ [.inr (0, [.ref (zA (gz g) (m + 30)), .ref (zA (gz g) (m + 13)), .ref (zA (gz g) (m + 31)), .ref (zA (gz g) (m + 18)), .ref (zA (gz g) (m + 38)), .ref (zA (gz g) (m + 40)), .null]), tbc g (m + 2) (m + 3), ia g FB0.1, ia g FB0.2, ia g PW0, cpc g (m + 1) (m + 6) (m + 7), ia g K00, ia g (List.replicate 16 0), cpc g (m + 1) (m + 9) (m + 10), ia g K00, ia g (List.replicate 16 0), wrc g (m + 5) (m + 12), ia g (List.replicate 16 0), mkc g (m + 5) (m + 14) (m + 15) (m + 16), ia g (List.replicate 16 0), ia g (List.replicate 16 0), rwc g (m + 17) 0, ia g (List.replicate 88 0), .inr (3, [.ref (zA (gz g) (m + 19)), .int (nI 0)]), ra g 2 [some (zA (gz g) (m + 20)), some (zA (gz g) (m + 22)), some (zA (gz g) (m + 24)), some (zA (gz g) (m + 26)), some (zA (gz g) (m + 28))], rwc g (m + 21) 0, ia g (List.replicate 88 0), rwc g (m + 23) 0, ia g (List.replicate 88 0), rwc g (m + 25) 0, ia g (List.replicate 88 0), rwc g (m + 27) 0, ia g (List.replicate 88 0), rwc g (m + 29) 0, ia g (List.replicate 88 0), ra g 3 [some (zA (gz g) (m + 5)), some (zA (gz g) (m + 8))], ra g 4 [some (zA (gz g) (m + 32)), some (zA (gz g) (m + 36)), some (zA (gz g) (m + 37))], .inr (4, [.ref (zA (gz g) (m + 13)), .ref (zA (gz g) (m + 18)), .ref (zA (gz g) (m + 8)), .ref (zA (gz g) (m + 33)), .ref (zA (gz g) (m + 34)), .ref (zA (gz g) (m + 35))]), ia g (List.replicate 16 0), ia g (List.replicate 16 0), ia g (List.replicate 16 0), .inr (9, [.ref (zA (gz g) (m + 11))]), .inr (6, [.ref (zA (gz g) (m + 11)), .ref (zA (gz g) (m + 5))]), rwc g (m + 39) 0, ia g (List.replicate 88 0), rwc g (m + 41) 0, ia g (List.replicate 88 0)]) (m := m + 42) (h' := Q ++ [.inr (0, [.ref (zA (gz g) (m + 30)), .ref (zA (gz g) (m + 13)), .ref (zA (gz g) (m + 31)), .ref (zA (gz g) (m + 18)), .ref (zA (gz g) (m + 38)), .ref (zA (gz g) (m + 40)), .null]), tbc g (m + 2) (m + 3), ia g FB0.1, ia g FB0.2, ia g PW0, cpc g (m + 1) (m + 6) (m + 7), ia g K00, ia g (List.replicate 16 0), cpc g (m + 1) (m + 9) (m + 10), ia g K00, ia g (List.replicate 16 0), wrc g (m + 5) (m + 12), ia g (List.replicate 16 0), mkc g (m + 5) (m + 14) (m + 15) (m + 16), ia g (List.replicate 16 0), ia g (List.replicate 16 0), rwc g (m + 17) 0, ia g (List.replicate 88 0), .inr (3, [.ref (zA (gz g) (m + 19)), .int (nI 0)]), ra g 2 [some (zA (gz g) (m + 20)), some (zA (gz g) (m + 22)), some (zA (gz g) (m + 24)), some (zA (gz g) (m + 26)), some (zA (gz g) (m + 28))], rwc g (m + 21) 0, ia g (List.replicate 88 0), rwc g (m + 23) 0, ia g (List.replicate 88 0), rwc g (m + 25) 0, ia g (List.replicate 88 0), rwc g (m + 27) 0, ia g (List.replicate 88 0), rwc g (m + 29) 0, ia g (List.replicate 88 0), ra g 3 [some (zA (gz g) (m + 5)), some (zA (gz g) (m + 8))], ra g 4 [some (zA (gz g) (m + 32)), some (zA (gz g) (m + 36)), some (zA (gz g) (m + 37))], .inr (4, [.ref (zA (gz g) (m + 13)), .ref (zA (gz g) (m + 18)), .ref (zA (gz g) (m + 8)), .ref (zA (gz g) (m + 33)), .ref (zA (gz g) (m + 34)), .ref (zA (gz g) (m + 35))]), ia g (List.replicate 16 0), ia g (List.replicate 16 0), ia g (List.replicate 16 0), .inr (9, [.ref (zA (gz g) (m + 11))]), .inr (6, [.ref (zA (gz g) (m + 11)), .ref (zA (gz g) (m + 5))]), rwc g (m + 39) 0, ia g (List.replicate 88 0), rwc g (m + 41) 0, ia g (List.replicate 88 0), rwc g (m + 43) 0, ia g (List.replicate 88 0)]) (qlen hQ rfl) (by omega) (by rw [List.append_assoc]; rfl) (by rw [List.append_assoc]; rfl)) rfl rfl rfl (by decide) (by decide) ?_
  refine x_put (pc := 165) (ci := 0) (j := 6) (ty := .object "SealingDesk$Row") C (dq D_Desk_init 90 rfl) rfl rfl (qg hQ rfl) rfl k_fl_Desk_71 (Or.inr ⟨rfl, rfl, rfl⟩) (by decide +kernel) rfl rfl ?_
  simp only [List.set_cons_zero, List.set_cons_succ]
  rw [qs hQ]
  simp only [List.set_cons_zero, List.set_cons_succ]
  exact x_vret (pc := 168) C (dq D_Desk_init 91 rfl) rfl (by decide) ⟨rfl, rfl⟩
/-- the reference's table -/
def sy (b : Nat) : Nat := ((((b ^^^ arn b 1) ^^^ arn b 2) ^^^ arn b 3) ^^^ arn b 4) ^^^ 99
theorem sy8 : ∀ b, b < 256 → sy b < 256 := by decide +kernel
def tst (i : Nat) (q : List Nat × List Nat) : List Nat × List Nat := (q.1.set i (sy (pow i)), q.2.set (sy (pow i)) i)
def TU0 : List Nat × List Nat := it tst 0 256 (z256, z256)
/-- both have the same tables -/
theorem TU_FB : TU0 = FB0 := by decide +kernel
def z88 : List Nat := List.replicate 88 0
def W00 : List Nat := mky TU0.1 44 0 0 0 0 (mky TU0.1 0 0 0 0 0 z88)
theorem TU0_ok : (TU0.1.length = 256 ∧ by8 TU0.1) ∧ TU0.2.length = 256 ∧ by8 TU0.2 := by
  rw [TU_FB]
  exact FB0_ok
theorem z88_ok : z88.length = 88 ∧ by32 z88 := ⟨List.length_replicate, fun v hv => by rw [List.eq_of_mem_replicate hv]; decide⟩
theorem c_Model_init {g : Gp} {Q : Hp} (hQ : Q.length = 44) : Con g M_Model_init 2 (14, 1309) [.ref (zA (gz g) (44 + 0))] (Q ++ [.inr (1, [.int (nI 0), .null, .null, .null, .int (nI 0), .null, .int (nI 0), .null, .int (nI 0), .null, .null, .null, .null, .int (nI 0), .null, .int (nI 0), .null, .null, .null, .null])]) (Ret none (mh g Q 0 0 0 0 0 0 [W00, TU0.1, TU0.2, z88, List.replicate 112 0, List.replicate 5 0, List.replicate 200 0, List.replicate 16 0, List.replicate 16 0, List.replicate 112 0, List.replicate 112 0, List.replicate 16 0, List.replicate 16 0, List.replicate 16 0] [])) := by
  refine Con.of (by decide) rfl rfl (L := [some (.ref (zA (gz g) (44 + 0))), none, none, none]) rfl (fun f C => ?_)
  have hT := TU0_ok
  have hz := z88_ok
  have hm1 := mky_ok hT.1.2 0 (a := 0) (b := 0) (c := 0) (d := 0) (by omega) (by omega) (by omega) (by omega) hz
  have loop : ∀ (d i : Nat) (q : List Nat × List Nat) (l2 l3 : Option Value), i + d = 256 → (q.1.length = 256 ∧ q.2.length = 256) → it tst i d q = TU0 → X g f M_Model_init (14, 1309) (Ret none (mh g Q 0 0 0 0 0 0 [W00, TU0.1, TU0.2, z88, List.replicate 112 0, List.replicate 5 0, List.replicate 200 0, List.replicate 16 0, List.replicate 16 0, List.replicate 112 0, List.replicate 112 0, List.replicate 16 0, List.replicate 16 0, List.replicate 16 0] [])) (14, 1309) 120 [some (.ref (zA (gz g) (44 + 0))), some (.int (nI i)), l2, l3] [] (Q ++ [.inr (1, [.int (nI 0), .ref (zA (gz g) (44 + 1)), .ref (zA (gz g) (44 + 2)), .ref (zA (gz g) (44 + 3)), .int (nI 0), .ref (zA (gz g) (44 + 4)), .int (nI 0), .ref (zA (gz g) (44 + 5)), .int (nI 0), .ref (zA (gz g) (44 + 6)), .ref (zA (gz g) (44 + 7)), .ref (zA (gz g) (44 + 8)), .ref (zA (gz g) (44 + 9)), .int (nI 0), .ref (zA (gz g) (44 + 10)), .int (nI 0), .ref (zA (gz g) (44 + 11)), .ref (zA (gz g) (44 + 12)), .ref (zA (gz g) (44 + 13)), .ref (zA (gz g) (44 + 14))]), ia g (List.replicate 88 0), ia g q.1, ia g q.2, ia g (List.replicate 88 0), ia g (List.replicate 112 0), ia g (List.replicate 5 0), ia g (List.replicate 200 0), ia g (List.replicate 16 0), ia g (List.replicate 16 0), ia g (List.replicate 112 0), ia g (List.replicate 112 0), ia g (List.replicate 16 0), ia g (List.replicate 16 0), ia g (List.replicate 16 0)]) := by
    intro d
    induction d with
    | zero =>
      intro i q l2 l3 hi hq he
      rw [show q = TU0 from he]
      refine x_iload_n (pc := 120) C (dq D_Model_init 60 rfl) rfl ?_
      refine x_sipush (pc := 121) C (dq D_Model_init 61 rfl) cs_256 ?_
      refine n_ge_t (pc := 124) (tgt := 181) C (dq D_Model_init 62 rfl) (by decide) (by omega) (by omega) ?_
      refine x_aload_n (pc := 181) C (dq D_Model_init 98 rfl) rfl ?_
      refine x_iconst (pc := 182) C (dq D_Model_init 99 rfl) ci_0 ?_
      refine x_iconst (pc := 183) C (dq D_Model_init 100 rfl) ci_0 ?_
      refine x_iconst (pc := 184) C (dq D_Model_init 101 rfl) ci_0 ?_
      refine x_iconst (pc := 185) C (dq D_Model_init 102 rfl) ci_0 ?_
      refine x_iconst (pc := 186) C (dq D_Model_init 103 rfl) ci_0 ?_
      show X g f M_Model_init _ _ _ 187 _ _ (mh g Q 0 0 0 0 0 0 [z88, TU0.1, TU0.2, z88, List.replicate 112 0, List.replicate 5 0, List.replicate 200 0, List.replicate 16 0, List.replicate 16 0, List.replicate 112 0, List.replicate 112 0, List.replicate 16 0, List.replicate 16 0, List.replicate 16 0] [])
      refine x_cV0 (pc := 187) (ci := 1) (M := M_Model_expand) (fr2 := 1) C (dq D_Model_init 104 rfl) k_ml_Model_60 m_Model_expand rfl rfl (mo hQ) (cm_expand (f0 := 0) (a := 0) (b := 0) (c := 0) (d := 0) (S := []) (W := z88) (cd := 0) (ni := 0) (no := 0) (nt := 0) (nr := 0) (nl := 0) hQ hz hT.1 (by omega) (by omega) (by omega) (by omega) (by omega)) rfl rfl rfl rfl (by decide) ?_
      refine x_aload_n (pc := 190) C (dq D_Model_init 105 rfl) rfl ?_
      refine x_bipush (pc := 191) C (dq D_Model_init 106 rfl) cb_44 ?_
      refine x_iconst (pc := 193) C (dq D_Model_init 107 rfl) ci_0 ?_
      refine x_iconst (pc := 194) C (dq D_Model_init 108 rfl) ci_0 ?_
      refine x_iconst (pc := 195) C (dq D_Model_init 109 rfl) ci_0 ?_
      refine x_iconst (pc := 196) C (dq D_Model_init 110 rfl) ci_0 ?_
      refine x_cV0 (pc := 197) (ci := 1) (M := M_Model_expand) C (dq D_Model_init 111 rfl) k_ml_Model_60 m_Model_expand rfl rfl (mo hQ) (cm_expand (f0 := 44) (a := 0) (b := 0) (c := 0) (d := 0) (S := []) (cd := 0) (ni := 0) (no := 0) (nt := 0) (nr := 0) (nl := 0) hQ hm1 hT.1 (by omega) (by omega) (by omega) (by omega) (by omega)) rfl rfl rfl rfl (by decide) ?_
      exact x_vret (pc := 200) C (dq D_Model_init 112 rfl) rfl (by decide) ⟨rfl, rfl⟩
    | succ d ih =>
      intro i q l2 l3 hi hq he
      have b1 := pow8 (b := i) (by omega)
      have b2 := sy8 _ b1
      have hq1 := hq.1
      have hq2 := hq.2
      refine x_iload_n (pc := 120) C (dq D_Model_init 60 rfl) rfl ?_
      refine x_sipush (pc := 121) C (dq D_Model_init 61 rfl) cs_256 ?_
      refine n_ge_f (pc := 124) (tgt := 181) C (dq D_Model_init 62 rfl) (by decide) (by omega) (by omega) ?_
      refine x_iload_n (pc := 127) C (dq D_Model_init 63 rfl) rfl ?_
      refine x_cS1 (pc := 128) (M := M_Model_power) C (dq D_Model_init 64 rfl) k_ml_Model_52 m_Model_power (c_power (by omega)) rfl rfl rfl rfl (by decide) ?_
      refine x_istore_n (i := 2) (pc := 131) C (dq D_Model_init 65 rfl) rfl rfl rfl ?_
      simp only [List.set_cons_zero, List.set_cons_succ]
      refine x_iload_n (pc := 132) C (dq D_Model_init 66 rfl) rfl ?_
      refine x_iload_n (pc := 133) C (dq D_Model_init 67 rfl) rfl ?_
      refine x_iconst (pc := 134) C (dq D_Model_init 68 rfl) ci_1 ?_
      refine x_cS1 (pc := 135) (M := M_Model_around) C (dq D_Model_init 69 rfl) k_ml_Model_56 m_Model_around (c_around b1 ⟨by omega, by omega⟩) rfl rfl rfl rfl (by decide) ?_
      refine n_ixor (pc := 138) C (dq D_Model_init 70 rfl) ?_
      refine x_iload_n (pc := 139) C (dq D_Model_init 71 rfl) rfl ?_
      refine x_iconst (pc := 140) C (dq D_Model_init 72 rfl) ci_2 ?_
      refine x_cS1 (pc := 141) (M := M_Model_around) C (dq D_Model_init 73 rfl) k_ml_Model_56 m_Model_around (c_around b1 ⟨by omega, by omega⟩) rfl rfl rfl rfl (by decide) ?_
      refine n_ixor (pc := 144) C (dq D_Model_init 74 rfl) ?_
      refine x_iload_n (pc := 145) C (dq D_Model_init 75 rfl) rfl ?_
      refine x_iconst (pc := 146) C (dq D_Model_init 76 rfl) ci_3 ?_
      refine x_cS1 (pc := 147) (M := M_Model_around) C (dq D_Model_init 77 rfl) k_ml_Model_56 m_Model_around (c_around b1 ⟨by omega, by omega⟩) rfl rfl rfl rfl (by decide) ?_
      refine n_ixor (pc := 150) C (dq D_Model_init 78 rfl) ?_
      refine x_iload_n (pc := 151) C (dq D_Model_init 79 rfl) rfl ?_
      refine x_iconst (pc := 152) C (dq D_Model_init 80 rfl) ci_4 ?_
      refine x_cS1 (pc := 153) (M := M_Model_around) C (dq D_Model_init 81 rfl) k_ml_Model_56 m_Model_around (c_around b1 ⟨by omega, by omega⟩) rfl rfl rfl rfl (by decide) ?_
      refine n_ixor (pc := 156) C (dq D_Model_init 82 rfl) ?_
      refine x_bipush (pc := 157) C (dq D_Model_init 83 rfl) cb_99 ?_
      refine n_ixor (pc := 159) C (dq D_Model_init 84 rfl) ?_
      show X g f M_Model_init (14, 1309) _ (14, 1309) 160 _ (.int (nI (sy (pow i))) :: []) _
      refine x_istore_n (i := 3) (pc := 160) C (dq D_Model_init 85 rfl) rfl rfl rfl ?_
      simp only [List.set_cons_zero, List.set_cons_succ]
      refine x_aload_n (pc := 161) C (dq D_Model_init 86 rfl) rfl ?_
      refine x_get (pc := 162) (ci := 1) (j := 2) C (dq D_Model_init 87 rfl) rfl rfl (qg hQ rfl) rfl k_fl_Model_13 ?_
      refine x_iload_n (pc := 165) C (dq D_Model_init 88 rfl) rfl ?_
      refine x_iload_n (pc := 166) C (dq D_Model_init 89 rfl) rfl ?_
      refine x_iast (pc := 167) C (dq D_Model_init 90 rfl) (qg hQ rfl) (by omega) ?_
      rw [qs hQ]
      simp only [List.set_cons_zero, List.set_cons_succ]
      refine x_aload_n (pc := 168) C (dq D_Model_init 91 rfl) rfl ?_
      refine x_get (pc := 169) (ci := 1) (j := 3) C (dq D_Model_init 92 rfl) rfl rfl (qg hQ rfl) rfl k_fl_Model_16 ?_
      refine x_iload_n (pc := 172) C (dq D_Model_init 93 rfl) rfl ?_
      refine x_iload_n (pc := 173) C (dq D_Model_init 94 rfl) rfl ?_
      refine x_iast (pc := 174) C (dq D_Model_init 95 rfl) (qg hQ rfl) (by omega) ?_
      rw [qs hQ]
      simp only [List.set_cons_zero, List.set_cons_succ]
      refine x_iinc (pc := 175) C (dq D_Model_init 96 rfl) rfl (ii_1 _) rfl rfl ?_
      simp only [List.set_cons_zero, List.set_cons_succ]
      refine x_goto (pc := 178) (tgt := 120) C (dq D_Model_init 97 rfl) (by decide) ?_
      exact ih (i + 1) (tst i q) _ _ (by omega) ⟨by unfold tst; rw [List.length_set]; exact hq.1, by unfold tst; rw [List.length_set]; exact hq.2⟩ he
  refine x_aload_n (pc := 0) C (dq D_Model_init 0 rfl) rfl ?_
  refine x_objInit (pc := 1) C (dq D_Model_init 1 rfl) k_ml_Model_1 rfl rfl ?_
  refine x_aload_n (pc := 4) C (dq D_Model_init 2 rfl) rfl ?_
  refine x_bipush (pc := 5) C (dq D_Model_init 3 rfl) cb_88 ?_
  refine x_newiQ (pc := 7) (k := 1) C (dq D_Model_init 4 rfl) hQ rfl (by decide) (by omega) (by decide) ?_
  simp only [List.cons_append, List.nil_append]
  refine x_put (pc := 9) (ci := 1) (j := 1) (ty := .array .int) C (dq D_Model_init 5 rfl) rfl rfl (qg hQ rfl) rfl k_fl_Model_7 (Or.inr ⟨rfl, rfl, rfl⟩) (by decide +kernel) rfl rfl ?_
  simp only [List.set_cons_zero, List.set_cons_succ]
  rw [qs hQ]
  simp only [List.set_cons_zero, List.set_cons_succ]
  refine x_aload_n (pc := 12) C (dq D_Model_init 6 rfl) rfl ?_
  refine x_sipush (pc := 13) C (dq D_Model_init 7 rfl) cs_256 ?_
  refine x_newiQ (pc := 16) (k := 2) C (dq D_Model_init 8 rfl) hQ rfl (by decide) (by omega) (by decide) ?_
  simp only [List.cons_append, List.nil_append]
  refine x_put (pc := 18) (ci := 1) (j := 2) (ty := .array .int) C (dq D_Model_init 9 rfl) rfl rfl (qg hQ rfl) rfl k_fl_Model_13 (Or.inr ⟨rfl, rfl, rfl⟩) (by decide +kernel) rfl rfl ?_
  simp only [List.set_cons_zero, List.set_cons_succ]
  rw [qs hQ]
  simp only [List.set_cons_zero, List.set_cons_succ]
  refine x_aload_n (pc := 21) C (dq D_Model_init 10 rfl) rfl ?_
  refine x_sipush (pc := 22) C (dq D_Model_init 11 rfl) cs_256 ?_
  refine x_newiQ (pc := 25) (k := 3) C (dq D_Model_init 12 rfl) hQ rfl (by decide) (by omega) (by decide) ?_
  simp only [List.cons_append, List.nil_append]
  refine x_put (pc := 27) (ci := 1) (j := 3) (ty := .array .int) C (dq D_Model_init 13 rfl) rfl rfl (qg hQ rfl) rfl k_fl_Model_16 (Or.inr ⟨rfl, rfl, rfl⟩) (by decide +kernel) rfl rfl ?_
  simp only [List.set_cons_zero, List.set_cons_succ]
  rw [qs hQ]
  simp only [List.set_cons_zero, List.set_cons_succ]
  refine x_aload_n (pc := 30) C (dq D_Model_init 14 rfl) rfl ?_
  refine x_bipush (pc := 31) C (dq D_Model_init 15 rfl) cb_88 ?_
  refine x_newiQ (pc := 33) (k := 4) C (dq D_Model_init 16 rfl) hQ rfl (by decide) (by omega) (by decide) ?_
  simp only [List.cons_append, List.nil_append]
  refine x_put (pc := 35) (ci := 1) (j := 5) (ty := .array .int) C (dq D_Model_init 17 rfl) rfl rfl (qg hQ rfl) rfl k_fl_Model_19 (Or.inr ⟨rfl, rfl, rfl⟩) (by decide +kernel) rfl rfl ?_
  simp only [List.set_cons_zero, List.set_cons_succ]
  rw [qs hQ]
  simp only [List.set_cons_zero, List.set_cons_succ]
  refine x_aload_n (pc := 38) C (dq D_Model_init 18 rfl) rfl ?_
  refine x_bipush (pc := 39) C (dq D_Model_init 19 rfl) cb_112 ?_
  refine x_newiQ (pc := 41) (k := 5) C (dq D_Model_init 20 rfl) hQ rfl (by decide) (by omega) (by decide) ?_
  simp only [List.cons_append, List.nil_append]
  refine x_put (pc := 43) (ci := 1) (j := 7) (ty := .array .int) C (dq D_Model_init 21 rfl) rfl rfl (qg hQ rfl) rfl k_fl_Model_22 (Or.inr ⟨rfl, rfl, rfl⟩) (by decide +kernel) rfl rfl ?_
  simp only [List.set_cons_zero, List.set_cons_succ]
  rw [qs hQ]
  simp only [List.set_cons_zero, List.set_cons_succ]
  refine x_aload_n (pc := 46) C (dq D_Model_init 22 rfl) rfl ?_
  refine x_iconst (pc := 47) C (dq D_Model_init 23 rfl) ci_5 ?_
  refine x_newiQ (pc := 48) (k := 6) C (dq D_Model_init 24 rfl) hQ rfl (by decide) (by omega) (by decide) ?_
  simp only [List.cons_append, List.nil_append]
  refine x_put (pc := 50) (ci := 1) (j := 9) (ty := .array .int) C (dq D_Model_init 25 rfl) rfl rfl (qg hQ rfl) rfl k_fl_Model_25 (Or.inr ⟨rfl, rfl, rfl⟩) (by decide +kernel) rfl rfl ?_
  simp only [List.set_cons_zero, List.set_cons_succ]
  rw [qs hQ]
  simp only [List.set_cons_zero, List.set_cons_succ]
  refine x_aload_n (pc := 53) C (dq D_Model_init 26 rfl) rfl ?_
  refine x_sipush (pc := 54) C (dq D_Model_init 27 rfl) cs_200 ?_
  refine x_newiQ (pc := 57) (k := 7) C (dq D_Model_init 28 rfl) hQ rfl (by decide) (by omega) (by decide) ?_
  simp only [List.cons_append, List.nil_append]
  refine x_put (pc := 59) (ci := 1) (j := 10) (ty := .array .int) C (dq D_Model_init 29 rfl) rfl rfl (qg hQ rfl) rfl k_fl_Model_28 (Or.inr ⟨rfl, rfl, rfl⟩) (by decide +kernel) rfl rfl ?_
  simp only [List.set_cons_zero, List.set_cons_succ]
  rw [qs hQ]
  simp only [List.set_cons_zero, List.set_cons_succ]
  refine x_aload_n (pc := 62) C (dq D_Model_init 30 rfl) rfl ?_
  refine x_bipush (pc := 63) C (dq D_Model_init 31 rfl) cb_16 ?_
  refine x_newiQ (pc := 65) (k := 8) C (dq D_Model_init 32 rfl) hQ rfl (by decide) (by omega) (by decide) ?_
  simp only [List.cons_append, List.nil_append]
  refine x_put (pc := 67) (ci := 1) (j := 11) (ty := .array .int) C (dq D_Model_init 33 rfl) rfl rfl (qg hQ rfl) rfl k_fl_Model_31 (Or.inr ⟨rfl, rfl, rfl⟩) (by decide +kernel) rfl rfl ?_
  simp only [List.set_cons_zero, List.set_cons_succ]
  rw [qs hQ]
  simp only [List.set_cons_zero, List.set_cons_succ]
  refine x_aload_n (pc := 70) C (dq D_Model_init 34 rfl) rfl ?_
  refine x_bipush (pc := 71) C (dq D_Model_init 35 rfl) cb_16 ?_
  refine x_newiQ (pc := 73) (k := 9) C (dq D_Model_init 36 rfl) hQ rfl (by decide) (by omega) (by decide) ?_
  simp only [List.cons_append, List.nil_append]
  refine x_put (pc := 75) (ci := 1) (j := 12) (ty := .array .int) C (dq D_Model_init 37 rfl) rfl rfl (qg hQ rfl) rfl k_fl_Model_34 (Or.inr ⟨rfl, rfl, rfl⟩) (by decide +kernel) rfl rfl ?_
  simp only [List.set_cons_zero, List.set_cons_succ]
  rw [qs hQ]
  simp only [List.set_cons_zero, List.set_cons_succ]
  refine x_aload_n (pc := 78) C (dq D_Model_init 38 rfl) rfl ?_
  refine x_bipush (pc := 79) C (dq D_Model_init 39 rfl) cb_112 ?_
  refine x_newiQ (pc := 81) (k := 10) C (dq D_Model_init 40 rfl) hQ rfl (by decide) (by omega) (by decide) ?_
  simp only [List.cons_append, List.nil_append]
  refine x_put (pc := 83) (ci := 1) (j := 14) (ty := .array .int) C (dq D_Model_init 41 rfl) rfl rfl (qg hQ rfl) rfl k_fl_Model_37 (Or.inr ⟨rfl, rfl, rfl⟩) (by decide +kernel) rfl rfl ?_
  simp only [List.set_cons_zero, List.set_cons_succ]
  rw [qs hQ]
  simp only [List.set_cons_zero, List.set_cons_succ]
  refine x_aload_n (pc := 86) C (dq D_Model_init 42 rfl) rfl ?_
  refine x_bipush (pc := 87) C (dq D_Model_init 43 rfl) cb_112 ?_
  refine x_newiQ (pc := 89) (k := 11) C (dq D_Model_init 44 rfl) hQ rfl (by decide) (by omega) (by decide) ?_
  simp only [List.cons_append, List.nil_append]
  refine x_put (pc := 91) (ci := 1) (j := 16) (ty := .array .int) C (dq D_Model_init 45 rfl) rfl rfl (qg hQ rfl) rfl k_fl_Model_40 (Or.inr ⟨rfl, rfl, rfl⟩) (by decide +kernel) rfl rfl ?_
  simp only [List.set_cons_zero, List.set_cons_succ]
  rw [qs hQ]
  simp only [List.set_cons_zero, List.set_cons_succ]
  refine x_aload_n (pc := 94) C (dq D_Model_init 46 rfl) rfl ?_
  refine x_bipush (pc := 95) C (dq D_Model_init 47 rfl) cb_16 ?_
  refine x_newiQ (pc := 97) (k := 12) C (dq D_Model_init 48 rfl) hQ rfl (by decide) (by omega) (by decide) ?_
  simp only [List.cons_append, List.nil_append]
  refine x_put (pc := 99) (ci := 1) (j := 17) (ty := .array .int) C (dq D_Model_init 49 rfl) rfl rfl (qg hQ rfl) rfl k_fl_Model_43 (Or.inr ⟨rfl, rfl, rfl⟩) (by decide +kernel) rfl rfl ?_
  simp only [List.set_cons_zero, List.set_cons_succ]
  rw [qs hQ]
  simp only [List.set_cons_zero, List.set_cons_succ]
  refine x_aload_n (pc := 102) C (dq D_Model_init 50 rfl) rfl ?_
  refine x_bipush (pc := 103) C (dq D_Model_init 51 rfl) cb_16 ?_
  refine x_newiQ (pc := 105) (k := 13) C (dq D_Model_init 52 rfl) hQ rfl (by decide) (by omega) (by decide) ?_
  simp only [List.cons_append, List.nil_append]
  refine x_put (pc := 107) (ci := 1) (j := 18) (ty := .array .int) C (dq D_Model_init 53 rfl) rfl rfl (qg hQ rfl) rfl k_fl_Model_46 (Or.inr ⟨rfl, rfl, rfl⟩) (by decide +kernel) rfl rfl ?_
  simp only [List.set_cons_zero, List.set_cons_succ]
  rw [qs hQ]
  simp only [List.set_cons_zero, List.set_cons_succ]
  refine x_aload_n (pc := 110) C (dq D_Model_init 54 rfl) rfl ?_
  refine x_bipush (pc := 111) C (dq D_Model_init 55 rfl) cb_16 ?_
  refine x_newiQ (pc := 113) (k := 14) C (dq D_Model_init 56 rfl) hQ rfl (by decide) (by omega) (by decide) ?_
  simp only [List.cons_append, List.nil_append]
  refine x_put (pc := 115) (ci := 1) (j := 19) (ty := .array .int) C (dq D_Model_init 57 rfl) rfl rfl (qg hQ rfl) rfl k_fl_Model_49 (Or.inr ⟨rfl, rfl, rfl⟩) (by decide +kernel) rfl rfl ?_
  simp only [List.set_cons_zero, List.set_cons_succ]
  rw [qs hQ]
  simp only [List.set_cons_zero, List.set_cons_succ]
  refine x_iconst (pc := 118) C (dq D_Model_init 58 rfl) ci_0 ?_
  refine x_istore_n (i := 1) (pc := 119) C (dq D_Model_init 59 rfl) rfl rfl rfl ?_
  simp only [List.set_cons_zero, List.set_cons_succ]
  exact loop 256 0 (z256, z256) none none rfl ⟨z256_ok.1, z256_ok.1⟩ rfl
