theorem x_irem {g : Gp} {f : Fm} {md : MD} {fr : Nat} {mc : Nat × Nat} {Post : Outcome → Hp → Prop} {n : Nat × Nat} {pc : Nat} {L : List (Option Value)} {st : List Value} {h : Hp} {x y : Int32} (C : Cx g f md fr mc) (d : decode md.2.1 pc = .ok (.irem, 1)) (hy : ¬ y = 0) (k : X g f md mc Post n (pc + 1) L (.int (x - x / y * y) :: st) h) : X g f md mc Post n pc L (.int y :: .int x :: st) h :=
  fun H locs ls hR hS hl => lv_irem C.exec C.code d hy (k H locs ls hR hS hl)
/-! The ways. -/
theorem c_Marked_canLock {g : Gp} {h : Hp} {n : Nat} (hn : n ≤ 88) : Con g M_Marked_canLock 0 (0, 0) [.ref (zA (gz g) 32), .int (nI n)] h (Ret (some (.int (nI (if n ≤ 64 then 1 else 0)))) h) := by
  refine Con.of (by decide) rfl rfl (L := [some (.ref (zA (gz g) 32)), some (.int (nI n))]) rfl (fun f C => ?_)
  refine x_iload_n (pc := 0) C (dq D_Marked_canLock 0 rfl) rfl ?_
  refine x_bipush (pc := 1) C (dq D_Marked_canLock 1 rfl) cb_64 ?_
  refine n_gt (pc := 3) (tgt := 10) C (dq D_Marked_canLock 2 rfl) (by decide) (by omega) (fun hq => ?_) (fun hq => ?_)
  · rw [if_neg (by omega)]
    refine x_iconst (pc := 10) C (dq D_Marked_canLock 5 rfl) ci_0 ?_
    exact x_zret (pc := 11) C (dq D_Marked_canLock 6 rfl) rfl rfl (by decide) ⟨rfl, rfl⟩
  · have hq0 := hq
    rw [if_pos (by omega)]
    refine x_iconst (pc := 6) C (dq D_Marked_canLock 3 rfl) ci_1 ?_
    refine x_goto (pc := 7) (tgt := 11) C (dq D_Marked_canLock 4 rfl) (by decide) ?_
    exact x_zret (pc := 11) C (dq D_Marked_canLock 6 rfl) rfl rfl (by decide) ⟨rfl, rfl⟩

theorem c_Marked_canUnlock {g : Gp} {h : Hp} {n : Nat} (hn : n ≤ 88) : Con g M_Marked_canUnlock 0 (0, 0) [.ref (zA (gz g) 32), .int (nI n)] h (Ret (some (.int (nI (if 16 ≤ n ∧ n ≤ 80 then 1 else 0)))) h) := by
  refine Con.of (by decide) rfl rfl (L := [some (.ref (zA (gz g) 32)), some (.int (nI n))]) rfl (fun f C => ?_)
  refine x_iload_n (pc := 0) C (dq D_Marked_canUnlock 0 rfl) rfl ?_
  refine x_bipush (pc := 1) C (dq D_Marked_canUnlock 1 rfl) cb_16 ?_
  refine n_lt (pc := 3) (tgt := 16) C (dq D_Marked_canUnlock 2 rfl) (by decide) (by omega) (fun hq => ?_) (fun hq => ?_)
  · rw [if_neg (by omega)]
    refine x_iconst (pc := 16) C (dq D_Marked_canUnlock 8 rfl) ci_0 ?_
    exact x_zret (pc := 17) C (dq D_Marked_canUnlock 9 rfl) rfl rfl (by decide) ⟨rfl, rfl⟩
  · have hq0 := hq
    refine x_iload_n (pc := 6) C (dq D_Marked_canUnlock 3 rfl) rfl ?_
    refine x_bipush (pc := 7) C (dq D_Marked_canUnlock 4 rfl) cb_80 ?_
    refine n_gt (pc := 9) (tgt := 16) C (dq D_Marked_canUnlock 5 rfl) (by decide) (by omega) (fun hq => ?_) (fun hq => ?_)
    · rw [if_neg (by omega)]
      refine x_iconst (pc := 16) C (dq D_Marked_canUnlock 8 rfl) ci_0 ?_
      exact x_zret (pc := 17) C (dq D_Marked_canUnlock 9 rfl) rfl rfl (by decide) ⟨rfl, rfl⟩
    · have hq1 := hq
      rw [if_pos (by omega)]
      refine x_iconst (pc := 12) C (dq D_Marked_canUnlock 6 rfl) ci_1 ?_
      refine x_goto (pc := 13) (tgt := 17) C (dq D_Marked_canUnlock 7 rfl) (by decide) ?_
      exact x_zret (pc := 17) C (dq D_Marked_canUnlock 9 rfl) rfl rfl (by decide) ⟨rfl, rfl⟩

theorem c_Padded_canLock {g : Gp} {h : Hp} {n : Nat} (hn : n ≤ 88) : Con g M_Padded_canLock 0 (0, 0) [.ref (zA (gz g) 37), .int (nI n)] h (Ret (some (.int (nI (if 1 ≤ n ∧ n ≤ 64 then 1 else 0)))) h) := by
  refine Con.of (by decide) rfl rfl (L := [some (.ref (zA (gz g) 37)), some (.int (nI n))]) rfl (fun f C => ?_)
  refine x_iload_n (pc := 0) C (dq D_Padded_canLock 0 rfl) rfl ?_
  refine x_iconst (pc := 1) C (dq D_Padded_canLock 1 rfl) ci_1 ?_
  refine n_lt (pc := 2) (tgt := 15) C (dq D_Padded_canLock 2 rfl) (by decide) (by omega) (fun hq => ?_) (fun hq => ?_)
  · rw [if_neg (by omega)]
    refine x_iconst (pc := 15) C (dq D_Padded_canLock 8 rfl) ci_0 ?_
    exact x_zret (pc := 16) C (dq D_Padded_canLock 9 rfl) rfl rfl (by decide) ⟨rfl, rfl⟩
  · have hq0 := hq
    refine x_iload_n (pc := 5) C (dq D_Padded_canLock 3 rfl) rfl ?_
    refine x_bipush (pc := 6) C (dq D_Padded_canLock 4 rfl) cb_64 ?_
    refine n_gt (pc := 8) (tgt := 15) C (dq D_Padded_canLock 5 rfl) (by decide) (by omega) (fun hq => ?_) (fun hq => ?_)
    · rw [if_neg (by omega)]
      refine x_iconst (pc := 15) C (dq D_Padded_canLock 8 rfl) ci_0 ?_
      exact x_zret (pc := 16) C (dq D_Padded_canLock 9 rfl) rfl rfl (by decide) ⟨rfl, rfl⟩
    · have hq1 := hq
      rw [if_pos (by omega)]
      refine x_iconst (pc := 11) C (dq D_Padded_canLock 6 rfl) ci_1 ?_
      refine x_goto (pc := 12) (tgt := 16) C (dq D_Padded_canLock 7 rfl) (by decide) ?_
      exact x_zret (pc := 16) C (dq D_Padded_canLock 9 rfl) rfl rfl (by decide) ⟨rfl, rfl⟩

theorem c_Padded_canUnlock {g : Gp} {h : Hp} {n : Nat} (hn : n ≤ 88) : Con g M_Padded_canUnlock 0 (0, 0) [.ref (zA (gz g) 37), .int (nI n)] h (Ret (some (.int (nI (if n % 8 = 0 ∧ 16 ≤ n ∧ n ≤ 72 then 1 else 0)))) h) := by
  refine Con.of (by decide) rfl rfl (L := [some (.ref (zA (gz g) 37)), some (.int (nI n))]) rfl (fun f C => ?_)
  refine x_iload_n (pc := 0) C (dq D_Padded_canUnlock 0 rfl) rfl ?_
  refine x_bipush (pc := 1) C (dq D_Padded_canUnlock 1 rfl) cb_8 ?_
  refine n_irem (pc := 3) C (dq D_Padded_canUnlock 2 rfl) (by omega) (by omega) (by omega) ?_
  refine n_ifne (pc := 4) (tgt := 23) C (dq D_Padded_canUnlock 3 rfl) (by decide) (by omega) (fun hq => ?_) (fun hq => ?_)
  · rw [if_neg (by omega)]
    refine x_iconst (pc := 23) C (dq D_Padded_canUnlock 12 rfl) ci_0 ?_
    exact x_zret (pc := 24) C (dq D_Padded_canUnlock 13 rfl) rfl rfl (by decide) ⟨rfl, rfl⟩
  · have hq0 := hq
    refine x_iload_n (pc := 7) C (dq D_Padded_canUnlock 4 rfl) rfl ?_
    refine x_bipush (pc := 8) C (dq D_Padded_canUnlock 5 rfl) cb_16 ?_
    refine n_lt (pc := 10) (tgt := 23) C (dq D_Padded_canUnlock 6 rfl) (by decide) (by omega) (fun hq => ?_) (fun hq => ?_)
    · rw [if_neg (by omega)]
      refine x_iconst (pc := 23) C (dq D_Padded_canUnlock 12 rfl) ci_0 ?_
      exact x_zret (pc := 24) C (dq D_Padded_canUnlock 13 rfl) rfl rfl (by decide) ⟨rfl, rfl⟩
    · have hq1 := hq
      refine x_iload_n (pc := 13) C (dq D_Padded_canUnlock 7 rfl) rfl ?_
      refine x_bipush (pc := 14) C (dq D_Padded_canUnlock 8 rfl) cb_72 ?_
      refine n_gt (pc := 16) (tgt := 23) C (dq D_Padded_canUnlock 9 rfl) (by decide) (by omega) (fun hq => ?_) (fun hq => ?_)
      · rw [if_neg (by omega)]
        refine x_iconst (pc := 23) C (dq D_Padded_canUnlock 12 rfl) ci_0 ?_
        exact x_zret (pc := 24) C (dq D_Padded_canUnlock 13 rfl) rfl rfl (by decide) ⟨rfl, rfl⟩
      · have hq2 := hq
        rw [if_pos (by omega)]
        refine x_iconst (pc := 19) C (dq D_Padded_canUnlock 10 rfl) ci_1 ?_
        refine x_goto (pc := 20) (tgt := 24) C (dq D_Padded_canUnlock 11 rfl) (by decide) ?_
        exact x_zret (pc := 24) C (dq D_Padded_canUnlock 13 rfl) rfl rfl (by decide) ⟨rfl, rfl⟩

theorem c_Wrapped_canLock {g : Gp} {h : Hp} {n : Nat} (hn : n ≤ 88) : Con g M_Wrapped_canLock 0 (0, 0) [.ref (zA (gz g) 36), .int (nI n)] h (Ret (some (.int (nI (if n % 8 = 0 ∧ 16 ≤ n ∧ n ≤ 64 then 1 else 0)))) h) := by
  refine Con.of (by decide) rfl rfl (L := [some (.ref (zA (gz g) 36)), some (.int (nI n))]) rfl (fun f C => ?_)
  refine x_iload_n (pc := 0) C (dq D_Wrapped_canLock 0 rfl) rfl ?_
  refine x_bipush (pc := 1) C (dq D_Wrapped_canLock 1 rfl) cb_8 ?_
  refine n_irem (pc := 3) C (dq D_Wrapped_canLock 2 rfl) (by omega) (by omega) (by omega) ?_
  refine n_ifne (pc := 4) (tgt := 23) C (dq D_Wrapped_canLock 3 rfl) (by decide) (by omega) (fun hq => ?_) (fun hq => ?_)
  · rw [if_neg (by omega)]
    refine x_iconst (pc := 23) C (dq D_Wrapped_canLock 12 rfl) ci_0 ?_
    exact x_zret (pc := 24) C (dq D_Wrapped_canLock 13 rfl) rfl rfl (by decide) ⟨rfl, rfl⟩
  · have hq0 := hq
    refine x_iload_n (pc := 7) C (dq D_Wrapped_canLock 4 rfl) rfl ?_
    refine x_bipush (pc := 8) C (dq D_Wrapped_canLock 5 rfl) cb_16 ?_
    refine n_lt (pc := 10) (tgt := 23) C (dq D_Wrapped_canLock 6 rfl) (by decide) (by omega) (fun hq => ?_) (fun hq => ?_)
    · rw [if_neg (by omega)]
      refine x_iconst (pc := 23) C (dq D_Wrapped_canLock 12 rfl) ci_0 ?_
      exact x_zret (pc := 24) C (dq D_Wrapped_canLock 13 rfl) rfl rfl (by decide) ⟨rfl, rfl⟩
    · have hq1 := hq
      refine x_iload_n (pc := 13) C (dq D_Wrapped_canLock 7 rfl) rfl ?_
      refine x_bipush (pc := 14) C (dq D_Wrapped_canLock 8 rfl) cb_64 ?_
      refine n_gt (pc := 16) (tgt := 23) C (dq D_Wrapped_canLock 9 rfl) (by decide) (by omega) (fun hq => ?_) (fun hq => ?_)
      · rw [if_neg (by omega)]
        refine x_iconst (pc := 23) C (dq D_Wrapped_canLock 12 rfl) ci_0 ?_
        exact x_zret (pc := 24) C (dq D_Wrapped_canLock 13 rfl) rfl rfl (by decide) ⟨rfl, rfl⟩
      · have hq2 := hq
        rw [if_pos (by omega)]
        refine x_iconst (pc := 19) C (dq D_Wrapped_canLock 10 rfl) ci_1 ?_
        refine x_goto (pc := 20) (tgt := 24) C (dq D_Wrapped_canLock 11 rfl) (by decide) ?_
        exact x_zret (pc := 24) C (dq D_Wrapped_canLock 13 rfl) rfl rfl (by decide) ⟨rfl, rfl⟩

theorem c_Wrapped_canLock_neg {g : Gp} {h : Hp} {n : Nat} (hn : n < 8) : Con g M_Wrapped_canLock 0 (0, 0) [.ref (zA (gz g) 36), .int (nI n - nI 8)] h (Ret (some (.int (nI 0))) h) := by
  refine Con.of (by decide) rfl rfl (L := [some (.ref (zA (gz g) 36)), some (.int (nI n - nI 8))]) rfl (fun f C => ?_)
  have bad : X g f M_Wrapped_canLock (0, 0) (Ret (some (.int (nI 0))) h) (0, 0) 23 [some (.ref (zA (gz g) 36)), some (.int (nI n - nI 8))] [] h := by
    refine x_iconst (pc := 23) C (dq D_Wrapped_canLock 12 rfl) ci_0 ?_
    exact x_zret (pc := 24) C (dq D_Wrapped_canLock 13 rfl) rfl rfl (by decide) ⟨rfl, rfl⟩
  have hlt : nI n - nI 8 < nI 16 := by
    rcases (show n = 0 ∨ n = 1 ∨ n = 2 ∨ n = 3 ∨ n = 4 ∨ n = 5 ∨ n = 6 ∨ n = 7 by omega) with rfl | rfl | rfl | rfl | rfl | rfl | rfl | rfl <;> decide +kernel
  refine x_iload_n (pc := 0) C (dq D_Wrapped_canLock 0 rfl) rfl ?_
  refine x_bipush (pc := 1) C (dq D_Wrapped_canLock 1 rfl) cb_8 ?_
  refine x_irem (pc := 3) C (dq D_Wrapped_canLock 2 rfl) (by decide +kernel) ?_
  refine x_ifne (pc := 4) (tgt := 23) C (dq D_Wrapped_canLock 3 rfl) (by decide) (fun hq => ?_) (fun hq => ?_)
  · exact bad
  · refine x_iload_n (pc := 7) C (dq D_Wrapped_canLock 4 rfl) rfl ?_
    refine x_bipush (pc := 8) C (dq D_Wrapped_canLock 5 rfl) cb_16 ?_
    refine x_lt (pc := 10) (tgt := 23) C (dq D_Wrapped_canLock 6 rfl) (by decide) (fun hq => ?_) (fun hq => ?_)
    · exact bad
    · exact absurd hlt hq
theorem c_Wrapped_canUnlock {g : Gp} {nj ct n0 n1 n2 n3 n4 ni no np : Nat} {FO BA PW K1 F1 K2 F2 WB TW SM JB B0 B1 B2 B3 B4 SG CT MB IN OU OP : List Nat} {S : Hp} (hn : ni ≤ 88) : Con g M_Wrapped_canUnlock 1 (0, 0) [.ref (zA (gz g) 36), .int (nI ni)] (dh g nj ct n0 n1 n2 n3 n4 ni no np FO BA PW K1 F1 K2 F2 WB TW SM JB B0 B1 B2 B3 B4 SG CT MB IN OU OP S) (Ret (some (.int (nI (if ni % 8 = 0 ∧ 24 ≤ ni ∧ ni ≤ 72 then 1 else 0)))) (dh g nj ct n0 n1 n2 n3 n4 ni no np FO BA PW K1 F1 K2 F2 WB TW SM JB B0 B1 B2 B3 B4 SG CT MB IN OU OP S)) := by
  refine Con.of (by decide) rfl rfl (L := [some (.ref (zA (gz g) 36)), some (.int (nI ni))]) rfl (fun f C => ?_)
  by_cases h8 : ni < 8
  · rw [if_neg (by omega)]
    refine x_aload_n (pc := 0) C (dq D_Wrapped_canUnlock 0 rfl) rfl ?_
    refine x_iload_n (pc := 1) C (dq D_Wrapped_canUnlock 1 rfl) rfl ?_
    refine x_bipush (pc := 2) C (dq D_Wrapped_canUnlock 2 rfl) cb_8 ?_
    refine x_isub (pc := 4) C (dq D_Wrapped_canUnlock 3 rfl) ?_
    refine x_cV1 (pc := 5) (ci := 9) (M := M_Wrapped_canLock) C (dq D_Wrapped_canUnlock 4 rfl) k_ml_Wrapped_15 m_Wrapped_canLock rfl rfl rfl (c_Wrapped_canLock_neg h8) rfl rfl rfl rfl (by decide) ?_
    exact x_zret (pc := 8) C (dq D_Wrapped_canUnlock 5 rfl) rfl rfl (by decide) ⟨rfl, rfl⟩
  · have e : (if ni - 8 ≤ 88 ∧ (ni - 8) % 8 = 0 ∧ 16 ≤ ni - 8 ∧ ni - 8 ≤ 64 then 1 else 0) = (if ni % 8 = 0 ∧ 24 ≤ ni ∧ ni ≤ 72 then 1 else 0) := by
      by_cases hc : ni % 8 = 0 ∧ 24 ≤ ni ∧ ni ≤ 72
      · rw [if_pos hc, if_pos (by omega)]
      · rw [if_neg hc, if_neg (by omega)]
    have e2 : (if (ni - 8) % 8 = 0 ∧ 16 ≤ ni - 8 ∧ ni - 8 ≤ 64 then 1 else 0) = (if ni % 8 = 0 ∧ 24 ≤ ni ∧ ni ≤ 72 then 1 else 0) := by
      by_cases hc : ni % 8 = 0 ∧ 24 ≤ ni ∧ ni ≤ 72
      · rw [if_pos hc, if_pos (by omega)]
      · rw [if_neg hc, if_neg (by omega)]
    have hz : ∀ b : Nat, b = (if ni % 8 = 0 ∧ 24 ≤ ni ∧ ni ≤ 72 then 1 else 0) → narrow .boolean (.int (nI b)) = .int (nI b) := by
      intro b hb
      rw [hb]
      split <;> decide +kernel
    refine x_aload_n (pc := 0) C (dq D_Wrapped_canUnlock 0 rfl) rfl ?_
    refine x_iload_n (pc := 1) C (dq D_Wrapped_canUnlock 1 rfl) rfl ?_
    refine x_bipush (pc := 2) C (dq D_Wrapped_canUnlock 2 rfl) cb_8 ?_
    refine n_isub (pc := 4) C (dq D_Wrapped_canUnlock 3 rfl) (by omega) ?_
    refine x_cV1 (pc := 5) (ci := 9) (M := M_Wrapped_canLock) C (dq D_Wrapped_canUnlock 4 rfl) k_ml_Wrapped_15 m_Wrapped_canLock rfl rfl rfl (c_Wrapped_canLock (n := ni - 8) (by omega)) rfl rfl rfl rfl (by decide) ?_
    rw [e2]
    exact x_zret (pc := 8) C (dq D_Wrapped_canUnlock 5 rfl) rfl (hz _ rfl) (by decide) ⟨rfl, rfl⟩

theorem cjs_ok {FO K : List Nat} (hF : by8 FO) (hK : by8 K) {M Q0 : List Nat} {BL : List (List Nat)} {NL : List Nat} {ct : Nat} (hM : by8 M) (hQ : by8 Q0) (hB : ∀ i, i < ct → by8 (BL.getD i [])) : (it (cjs FO K BL NL) 0 ct (M, Q0)).1.length = M.length ∧ by8 (it (cjs FO K BL NL) 0 ct (M, Q0)).1 ∧ by8 (it (cjs FO K BL NL) 0 ct (M, Q0)).2 :=
  it_inv (fun q : List Nat × List Nat => q.1.length = M.length ∧ by8 q.1 ∧ by8 q.2) ct 0 (M, Q0) (fun j q _ hj hq => by
    obtain ⟨a, b⟩ := cmk_ok hF hK (hB j (by omega)) (NL.getD j 0) hq.2.1
    unfold cjs
    dsimp only
    exact ⟨a.trans hq.1, b, adt8 b 0 0 16 (dbl8 hq.2.2)⟩) ⟨rfl, hM, hQ⟩
theorem cjo_ok {FO K : List Nat} (hF : by8 FO) (hK : by8 K) {JB SM M : List Nat} {BL : List (List Nat)} {NL : List Nat} {ct n : Nat} {RB : List Nat} (hJ : by8 JB) (hS : by8 SM) (hM : by8 M) (hB : ∀ i, i < ct → by8 (BL.getD i [])) (hR : by8 RB) : (cjo FO K JB SM M BL NL ct RB n).length = M.length ∧ by8 (cjo FO K JB SM M BL NL ct RB n) := by
  have hz : by8 (it zr 0 16 JB) := it_inv by8 16 0 JB (fun j S _ _ hS => hS.set (by omega)) hJ
  have h0 : by8 (cj0 FO K JB SM) := (cmk_ok hF hK hz 16 hS).2
  have h1 := cjs_ok (NL := NL) hF hK hM h0 hB
  generalize hqe : it (cjs FO K BL NL) 0 ct (M, cj0 FO K JB SM) = q at h1
  have hc : by8 (cpy RB (it zr 0 16 JB) 0 0 n) := cpy8 hR hz
  unfold cjo
  rw [hqe]
  split
  · have hz2 : by8 (it zr (n + 1) (16 - (n + 1)) ((cpy RB (it zr 0 16 JB) 0 0 n).set n 128)) := (zrs_ok (n + 1) (16 - (n + 1)) (hc.set (show 128 < 256 by omega))).2
    have hx := ate8 (dbl8 h1.2.2) 0 0 16 hz2
    obtain ⟨a, b⟩ := cmk_ok hF hK hx 16 h1.2.1
    exact ⟨a.trans h1.1, b⟩
  · obtain ⟨a, b⟩ := cmk_ok hF hK (ate8 h1.2.2 (n - 16) 0 16 hc) n h1.2.1
    exact ⟨a.trans h1.1, b⟩

set_option maxHeartbeats 4000000 in
theorem c_Marked_lock {g : Gp} {nj ct n0 n1 n2 n3 n4 ni no np : Nat} {FO BA PW K1 F1 K2 F2 WB TW SM JB B0 B1 B2 B3 B4 SG CT MB IN OU OP : List Nat} {S : Hp} (hT : tok FO BA) (hK : kok K1) (hK2 : kok K2) (hF : F1.length = 16) (hF2 : F2.length = 16) (hTW : l16 TW) (hSM : l16 SM) (hJB : l88 JB) (hSG : l16 SG) (hCT : l16 CT) (hMB : l16 MB) (hIN : l88 IN) (hOU : l88 OU) (hOP : l88 OP) (hI : ∀ i, i < 5 → l88 ([B0, B1, B2, B3, B4].getD i []) ∧ [n0, n1, n2, n3, n4].getD i 0 ≤ 40) (hct : ct ≤ 5) (hn : ni ≤ 64) :
    Con g M_Marked_lock 5 (0, 0) [.ref (zA (gz g) 32), .ref (zA (gz g) 38), .ref (zA (gz g) 40)] (dh g nj ct n0 n1 n2 n3 n4 ni no np FO BA PW K1 F1 K2 F2 WB TW SM JB B0 B1 B2 B3 B4 SG CT MB IN OU OP S) (fun o h' => o = .returned none ∧ ∃ (j : Nat) (Fa T Ja Q Fb C2 M2 : List Nat), Fa.length = 16 ∧ l16 T ∧ l88 Ja ∧ l16 Q ∧ j ≤ 88 ∧ Fb.length = 16 ∧ l16 C2 ∧ l16 M2 ∧ h' = (dh g j ct n0 n1 n2 n3 n4 ni (16 + ni) np FO BA PW K1 Fa K2 Fb WB T Q Ja B0 B1 B2 B3 B4 (cjo FO K1 JB SM SG [B0, B1, B2, B3, B4] [n0, n1, n2, n3, n4] ct IN ni) C2 M2 IN ((it (ast FO K2 16) 16 (16 + ni - 16) ((cpy IN (cpy (cjo FO K1 JB SM SG [B0, B1, B2, B3, B4] [n0, n1, n2, n3, n4] ct IN ni) OU 0 0 16) 0 16 ni), ct0 (cpy IN (cpy (cjo FO K1 JB SM SG [B0, B1, B2, B3, B4] [n0, n1, n2, n3, n4] ct IN ni) OU 0 0 16) 0 16 ni), MB)).1) OP S)) := by
  obtain ⟨j1, j2⟩ := cjo_ok (ct := ct) (NL := [n0, n1, n2, n3, n4]) (n := ni) hT.1.2 hK.2 hJB.2 hSM.2 hSG.2 (fun i hi => (hI i (by omega)).1.2) hIN.2
  have j1l := j1.trans hSG.1
  have hol := hOU.1
  have hil := hIN.1
  refine Con.of (by decide) rfl rfl (L := [some (.ref (zA (gz g) 32)), some (.ref (zA (gz g) 38)), some (.ref (zA (gz g) 40))]) rfl (fun f C => ?_)
  refine x_aload_n (pc := 0) C (dq D_Marked_lock 0 rfl) rfl ?_
  refine x_get (pc := 1) (ci := 4) (j := 0) C (dq D_Marked_lock 1 rfl) rfl rfl rfl rfl k_fl_Marked_21 ?_
  refine x_aload_n (pc := 4) C (dq D_Marked_lock 2 rfl) rfl ?_
  refine x_get (pc := 5) (ci := 4) (j := 1) C (dq D_Marked_lock 3 rfl) rfl rfl rfl rfl k_fl_Marked_25 ?_
  refine x_aload_n (pc := 8) C (dq D_Marked_lock 4 rfl) rfl ?_
  refine x_aload_n (pc := 9) C (dq D_Marked_lock 5 rfl) rfl ?_
  refine x_get (pc := 10) (ci := 4) (j := 3) C (dq D_Marked_lock 6 rfl) rfl rfl rfl rfl k_fl_Marked_9 ?_
  refine x_cV (pc := 13) (ci := 5) (M := M_Marker_join) C (dq D_Marked_lock 7 rfl) k_ml_Marked_33 m_Marker_join rfl rfl rfl (c_joinB hT hK hF hTW hSM hJB hSG hIN (by omega) hI hct) rfl rfl rfl rfl (by decide) (fun o h2 hp => ?_)
  obtain ⟨rfl, j, Fa, Ta, Ja, Qa, q1, q2, q3, q4, q5, rfl⟩ := hp
  refine ⟨none, rfl, ?_⟩
  generalize hJe : (cjo FO K1 JB SM SG [B0, B1, B2, B3, B4] [n0, n1, n2, n3, n4] ct IN ni) = Jm at j1l j2
  have c1 : (cpy Jm OU 0 0 16).length = 88 := by rw [cpy_length (by omega) (by omega)]; exact hol
  have c2 : l88 (cpy IN (cpy Jm OU 0 0 16) 0 16 ni) := ⟨by rw [cpy_length (by omega) (by omega)]; exact c1, cpy8 hIN.2 (cpy8 j2 hOU.2)⟩
  show X g f M_Marked_lock (0, 0) _ (0, 0) 16 [some (.ref (zA (gz g) 32)), some (.ref (zA (gz g) 38)), some (.ref (zA (gz g) 40))] [] (dh g j ct n0 n1 n2 n3 n4 ni no np FO BA PW K1 Fa K2 F2 WB Ta Qa Ja B0 B1 B2 B3 B4 Jm CT MB IN OU OP S)
  refine x_aload_n (pc := 16) C (dq D_Marked_lock 8 rfl) rfl ?_
  refine x_cV0 (pc := 17) (ci := 7) (M := M_Row_clear) C (dq D_Marked_lock 9 rfl) k_ml_Marked_39 m_Row_clear rfl rfl rfl (c_Row_clear (r := 40) (b := 41) (n := no) rfl) rfl rfl rfl rfl (by decide) ?_
  rw [dh_s40]
  refine x_aload_n (pc := 20) C (dq D_Marked_lock 10 rfl) rfl ?_
  refine x_aload_n (pc := 21) C (dq D_Marked_lock 11 rfl) rfl ?_
  refine x_get (pc := 22) (ci := 4) (j := 3) C (dq D_Marked_lock 12 rfl) rfl rfl rfl rfl k_fl_Marked_9 ?_
  refine x_bipush (pc := 25) C (dq D_Marked_lock 13 rfl) cb_16 ?_
  refine x_cV0 (pc := 27) (ci := 7) (M := M_Row_addAll) C (dq D_Marked_lock 14 rfl) k_ml_Marked_44 m_Row_addAll rfl rfl rfl (c_Row_addAll (r := 40) (b := 41) (n := 0) (a := 33) (c := 16) rfl rfl rfl (by omega) (by omega)) rfl rfl rfl rfl (by decide) ?_
  rw [dh_s41, dh_s40]
  refine x_aload_n (pc := 30) C (dq D_Marked_lock 15 rfl) rfl ?_
  refine x_aload_n (pc := 31) C (dq D_Marked_lock 16 rfl) rfl ?_
  refine x_get (pc := 32) (ci := 7) (j := 0) C (dq D_Marked_lock 17 rfl) rfl rfl rfl rfl k_fl_Marked_48 ?_
  refine x_aload_n (pc := 35) C (dq D_Marked_lock 18 rfl) rfl ?_
  refine x_get (pc := 36) (ci := 7) (j := 1) C (dq D_Marked_lock 19 rfl) rfl rfl rfl rfl k_fl_Marked_51 ?_
  refine x_cV0 (pc := 39) (ci := 7) (M := M_Row_addAll) C (dq D_Marked_lock 20 rfl) k_ml_Marked_44 m_Row_addAll rfl rfl rfl (c_Row_addAll (r := 40) (b := 41) (n := 0 + 16) (a := 39) (c := ni) rfl rfl rfl (by omega) (by omega)) rfl rfl rfl rfl (by decide) ?_
  rw [dh_s41, dh_s40]
  refine x_aload_n (pc := 42) C (dq D_Marked_lock 21 rfl) rfl ?_
  refine x_aload_n (pc := 43) C (dq D_Marked_lock 22 rfl) rfl ?_
  refine x_bipush (pc := 44) C (dq D_Marked_lock 23 rfl) cb_16 ?_
  refine x_aload_n (pc := 46) C (dq D_Marked_lock 24 rfl) rfl ?_
  refine x_get (pc := 47) (ci := 7) (j := 0) C (dq D_Marked_lock 25 rfl) rfl rfl rfl rfl k_fl_Marked_48 ?_
  refine x_cV (pc := 50) (ci := 4) (M := M_Marked_addStream) C (dq D_Marked_lock 26 rfl) k_ml_Marked_55 m_Marked_addStream rfl rfl rfl (c_addStreamA (no := 0 + 16 + ni) hT hK2 hF2 hCT hMB c2 c2 (by omega)) rfl rfl rfl rfl (by decide) (fun o h2 hp => ?_)
  obtain ⟨rfl, Fb, C2, M2, r1, r2, r3, rfl⟩ := hp
  refine ⟨none, rfl, ?_⟩
  have e0 : 0 + 16 + ni = 16 + ni := by omega
  rw [e0]
  rw [← hJe]
  show X g f M_Marked_lock (0, 0) _ (0, 0) 53 [some (.ref (zA (gz g) 32)), some (.ref (zA (gz g) 38)), some (.ref (zA (gz g) 40))] [] _
  exact x_vret (pc := 53) C (dq D_Marked_lock 27 rfl) rfl (by decide) ⟨rfl, j, Fa, Ta, Ja, Qa, Fb, C2, M2, q1, q2, q3, q4, q5, r1, r2, r3, rfl⟩

theorem ast_all {FO K : List Nat} (hF : by8 FO) (hK : by8 K) (s k d : Nat) {q : List Nat × List Nat × List Nat} (h : l88 q.1 ∧ l16 q.2.1 ∧ l16 q.2.2) : l88 (it (ast FO K s) k d q).1 ∧ l16 (it (ast FO K s) k d q).2.1 ∧ l16 (it (ast FO K s) k d q).2.2 :=
  it_inv (fun q : List Nat × List Nat × List Nat => l88 q.1 ∧ l16 q.2.1 ∧ l16 q.2.2) d k q (fun j q _ _ hq => ast_ok hF hK s j hq) h
set_option maxHeartbeats 4000000 in
theorem c_Marked_unlock {g : Gp} {nj ct n0 n1 n2 n3 n4 ni no np : Nat} {FO BA PW K1 F1 K2 F2 WB TW SM JB B0 B1 B2 B3 B4 SG CT MB IN OU OP : List Nat} {S : Hp} (hT : tok FO BA) (hK : kok K1) (hK2 : kok K2) (hF : F1.length = 16) (hF2 : F2.length = 16) (hTW : l16 TW) (hSM : l16 SM) (hJB : l88 JB) (hSG : l16 SG) (hCT : l16 CT) (hMB : l16 MB) (hIN : l88 IN) (hOU : l88 OU) (hOP : l88 OP) (hI : ∀ i, i < 5 → l88 ([B0, B1, B2, B3, B4].getD i []) ∧ [n0, n1, n2, n3, n4].getD i 0 ≤ 40) (hct : ct ≤ 5) (hn : 16 ≤ ni ∧ ni ≤ 80) :
    Con g M_Marked_unlock 5 (0, 0) [.ref (zA (gz g) 32), .ref (zA (gz g) 38), .ref (zA (gz g) 42)] (dh g nj ct n0 n1 n2 n3 n4 ni no np FO BA PW K1 F1 K2 F2 WB TW SM JB B0 B1 B2 B3 B4 SG CT MB IN OU OP S) (fun o h' => o = .returned (some (.int (nI (if (it (eqs (cjo FO K1 JB SM SG [B0, B1, B2, B3, B4] [n0, n1, n2, n3, n4] ct ((it (ast FO K2 0) 0 (ni - 16 - 0) ((cpy IN OP 16 0 (ni - 16)), ct0 IN, MB)).1) (ni - 16)) IN) 0 16 true) then 1 else 0)))) ∧ ∃ (j : Nat) (Fa T Ja Q Fb C2 M2 : List Nat), Fa.length = 16 ∧ l16 T ∧ l88 Ja ∧ l16 Q ∧ j ≤ 88 ∧ Fb.length = 16 ∧ l16 C2 ∧ l16 M2 ∧ h' = (dh g j ct n0 n1 n2 n3 n4 ni no (ni - 16) FO BA PW K1 Fa K2 Fb WB T Q Ja B0 B1 B2 B3 B4 (cjo FO K1 JB SM SG [B0, B1, B2, B3, B4] [n0, n1, n2, n3, n4] ct ((it (ast FO K2 0) 0 (ni - 16 - 0) ((cpy IN OP 16 0 (ni - 16)), ct0 IN, MB)).1) (ni - 16)) C2 M2 IN OU ((it (ast FO K2 0) 0 (ni - 16 - 0) ((cpy IN OP 16 0 (ni - 16)), ct0 IN, MB)).1) S)) := by
  have hil := hIN.1
  have hpl := hOP.1
  have c1 : l88 (cpy IN OP 16 0 (ni - 16)) := ⟨by rw [cpy_length (by omega) (by omega)]; exact hpl, cpy8 hIN.2 hOP.2⟩
  have c2 := (ast_all hT.1.2 hK2.2 0 0 (ni - 16 - 0) (q := ((cpy IN OP 16 0 (ni - 16)), ct0 IN, MB)) ⟨c1, ct0_ok (by omega) hIN.2, hMB⟩).1
  refine Con.of (by decide) rfl rfl (L := [some (.ref (zA (gz g) 32)), some (.ref (zA (gz g) 38)), some (.ref (zA (gz g) 42)), none]) rfl (fun f C => ?_)
  refine x_aload_n (pc := 0) C (dq D_Marked_unlock 0 rfl) rfl ?_
  refine x_aload_n (pc := 1) C (dq D_Marked_unlock 1 rfl) rfl ?_
  refine x_bipush (pc := 2) C (dq D_Marked_unlock 2 rfl) cb_16 ?_
  refine x_cV0 (pc := 4) (ci := 7) (M := M_Row_becomeRest) C (dq D_Marked_unlock 3 rfl) k_ml_Marked_59 m_Row_becomeRest rfl rfl rfl (c_Row_becomeRest (r := 42) (b := 43) (n := np) (o := 38) (q := 39) (m := ni) (s := 16) rfl rfl rfl rfl (by omega) (by omega) (by omega)) rfl rfl rfl rfl (by decide) ?_
  rw [dh_s42, dh_s43]
  refine x_aload_n (pc := 7) C (dq D_Marked_unlock 4 rfl) rfl ?_
  refine x_aload_n (pc := 8) C (dq D_Marked_unlock 5 rfl) rfl ?_
  refine x_iconst (pc := 9) C (dq D_Marked_unlock 6 rfl) ci_0 ?_
  refine x_aload_n (pc := 10) C (dq D_Marked_unlock 7 rfl) rfl ?_
  refine x_get (pc := 11) (ci := 7) (j := 0) C (dq D_Marked_unlock 8 rfl) rfl rfl rfl rfl k_fl_Marked_48 ?_
  refine x_cV (pc := 14) (ci := 4) (M := M_Marked_addStream) C (dq D_Marked_unlock 9 rfl) k_ml_Marked_55 m_Marked_addStream rfl rfl rfl (c_addStreamB (np := ni - 16) hT hK2 hF2 hCT hMB c1 hIN (by omega)) rfl rfl rfl rfl (by decide) (fun o h2 hp => ?_)
  obtain ⟨rfl, Fb, C2, M2, r1, r2, r3, rfl⟩ := hp
  refine ⟨none, rfl, ?_⟩
  generalize hP2 : (it (ast FO K2 0) 0 (ni - 16 - 0) ((cpy IN OP 16 0 (ni - 16)), ct0 IN, MB)).1 = P2 at c2
  show X g f M_Marked_unlock (0, 0) _ (0, 0) 17 [some (.ref (zA (gz g) 32)), some (.ref (zA (gz g) 38)), some (.ref (zA (gz g) 42)), none] [] (dh g nj ct n0 n1 n2 n3 n4 ni no (ni - 16) FO BA PW K1 F1 K2 Fb WB TW SM JB B0 B1 B2 B3 B4 SG C2 M2 IN OU P2 S)
  obtain ⟨j1, j2⟩ := cjo_ok (ct := ct) (NL := [n0, n1, n2, n3, n4]) (n := ni - 16) hT.1.2 hK.2 hJB.2 hSM.2 hSG.2 (fun i hi => (hI i (by omega)).1.2) c2.2
  have j1l := j1.trans hSG.1
  refine x_aload_n (pc := 17) C (dq D_Marked_unlock 10 rfl) rfl ?_
  refine x_get (pc := 18) (ci := 4) (j := 0) C (dq D_Marked_unlock 11 rfl) rfl rfl rfl rfl k_fl_Marked_21 ?_
  refine x_aload_n (pc := 21) C (dq D_Marked_unlock 12 rfl) rfl ?_
  refine x_get (pc := 22) (ci := 4) (j := 1) C (dq D_Marked_unlock 13 rfl) rfl rfl rfl rfl k_fl_Marked_25 ?_
  refine x_aload_n (pc := 25) C (dq D_Marked_unlock 14 rfl) rfl ?_
  refine x_aload_n (pc := 26) C (dq D_Marked_unlock 15 rfl) rfl ?_
  refine x_get (pc := 27) (ci := 4) (j := 3) C (dq D_Marked_unlock 16 rfl) rfl rfl rfl rfl k_fl_Marked_9 ?_
  refine x_cV (pc := 30) (ci := 5) (M := M_Marker_join) C (dq D_Marked_unlock 17 rfl) k_ml_Marked_33 m_Marker_join rfl rfl rfl (c_joinC hT hK hF hTW hSM hJB hSG c2 (by omega) hI hct) rfl rfl rfl rfl (by decide) (fun o h2 hp => ?_)
  obtain ⟨rfl, j, Fa, Ta, Ja, Qa, q1, q2, q3, q4, q5, rfl⟩ := hp
  refine ⟨none, rfl, ?_⟩
  generalize hJe : (cjo FO K1 JB SM SG [B0, B1, B2, B3, B4] [n0, n1, n2, n3, n4] ct P2 (ni - 16)) = Jm at j1l j2
  have loop : ∀ (d k : Nat), k + d = 16 → it (eqs Jm IN) k d true = it (eqs Jm IN) 0 16 true → X g f M_Marked_unlock (0, 0) (fun o h' => o = .returned (some (.int (nI (if it (eqs Jm IN) 0 16 true then 1 else 0)))) ∧ ∃ (j : Nat) (Fa T Ja Q Fb C2 M2 : List Nat), Fa.length = 16 ∧ l16 T ∧ l88 Ja ∧ l16 Q ∧ j ≤ 88 ∧ Fb.length = 16 ∧ l16 C2 ∧ l16 M2 ∧ h' = (dh g j ct n0 n1 n2 n3 n4 ni no (ni - 16) FO BA PW K1 Fa K2 Fb WB T Q Ja B0 B1 B2 B3 B4 Jm C2 M2 IN OU P2 S)) (0, 0) 35 [some (.ref (zA (gz g) 32)), some (.ref (zA (gz g) 38)), some (.ref (zA (gz g) 42)), some (.int (nI k))] [] (dh g j ct n0 n1 n2 n3 n4 ni no (ni - 16) FO BA PW K1 Fa K2 Fb WB Ta Qa Ja B0 B1 B2 B3 B4 Jm C2 M2 IN OU P2 S) := by
    intro d
    induction d with
    | zero =>
      intro k hkd he
      rw [it_zero] at he
      rw [← he]
      refine x_iload_n (pc := 35) C (dq D_Marked_unlock 20 rfl) rfl ?_
      refine x_bipush (pc := 36) C (dq D_Marked_unlock 21 rfl) cb_16 ?_
      refine n_ge_t (pc := 38) (tgt := 64) C (dq D_Marked_unlock 22 rfl) (by decide) (by omega) (by omega) ?_
      refine x_iconst (pc := 64) C (dq D_Marked_unlock 36 rfl) ci_1 ?_
      exact x_zret (pc := 65) C (dq D_Marked_unlock 37 rfl) rfl rfl (by decide) ⟨rfl, j, Fa, Ta, Ja, Qa, Fb, C2, M2, q1, q2, q3, q4, q5, r1, r2, r3, rfl⟩
    | succ d ih =>
      intro k hkd he
      have v1 := j2.at k
      have v2 := hIN.2.at k
      by_cases hq : Jm.getD k 0 = IN.getD k 0
      · refine x_iload_n (pc := 35) C (dq D_Marked_unlock 20 rfl) rfl ?_
        refine x_bipush (pc := 36) C (dq D_Marked_unlock 21 rfl) cb_16 ?_
        refine n_ge_f (pc := 38) (tgt := 64) C (dq D_Marked_unlock 22 rfl) (by decide) (by omega) (by omega) ?_
        refine x_aload_n (pc := 41) C (dq D_Marked_unlock 23 rfl) rfl ?_
        refine x_get (pc := 42) (ci := 4) (j := 3) C (dq D_Marked_unlock 24 rfl) rfl rfl rfl rfl k_fl_Marked_9 ?_
        refine x_iload_n (pc := 45) C (dq D_Marked_unlock 25 rfl) rfl ?_
        refine x_iald (pc := 46) C (dq D_Marked_unlock 26 rfl) rfl (by (try simp only [List.length_set]); omega) ?_
        refine x_aload_n (pc := 47) C (dq D_Marked_unlock 27 rfl) rfl ?_
        refine x_get (pc := 48) (ci := 7) (j := 0) C (dq D_Marked_unlock 28 rfl) rfl rfl rfl rfl k_fl_Marked_48 ?_
        refine x_iload_n (pc := 51) C (dq D_Marked_unlock 29 rfl) rfl ?_
        refine x_iald (pc := 52) C (dq D_Marked_unlock 30 rfl) rfl (by (try simp only [List.length_set]); omega) ?_
        refine n_eq_t (pc := 53) (tgt := 58) C (dq D_Marked_unlock 31 rfl) (by decide) (by omega) (by omega) ?_
        refine x_iinc (pc := 58) C (dq D_Marked_unlock 34 rfl) rfl (ii_1 _) rfl rfl ?_
        simp only [List.set_cons_zero, List.set_cons_succ]
        refine x_goto (pc := 61) (tgt := 35) C (dq D_Marked_unlock 35 rfl) (by decide) ?_
        refine ih (k + 1) (by omega) ?_
        rw [← he, it_succ, eqs, decide_eq_true hq]
        rfl
      · have ef : it (eqs Jm IN) 0 16 true = false := by
          rw [← he, it_succ, eqs, decide_eq_false hq]
          exact eqs_f Jm IN d (k + 1)
        rw [ef]
        refine x_iload_n (pc := 35) C (dq D_Marked_unlock 20 rfl) rfl ?_
        refine x_bipush (pc := 36) C (dq D_Marked_unlock 21 rfl) cb_16 ?_
        refine n_ge_f (pc := 38) (tgt := 64) C (dq D_Marked_unlock 22 rfl) (by decide) (by omega) (by omega) ?_
        refine x_aload_n (pc := 41) C (dq D_Marked_unlock 23 rfl) rfl ?_
        refine x_get (pc := 42) (ci := 4) (j := 3) C (dq D_Marked_unlock 24 rfl) rfl rfl rfl rfl k_fl_Marked_9 ?_
        refine x_iload_n (pc := 45) C (dq D_Marked_unlock 25 rfl) rfl ?_
        refine x_iald (pc := 46) C (dq D_Marked_unlock 26 rfl) rfl (by (try simp only [List.length_set]); omega) ?_
        refine x_aload_n (pc := 47) C (dq D_Marked_unlock 27 rfl) rfl ?_
        refine x_get (pc := 48) (ci := 7) (j := 0) C (dq D_Marked_unlock 28 rfl) rfl rfl rfl rfl k_fl_Marked_48 ?_
        refine x_iload_n (pc := 51) C (dq D_Marked_unlock 29 rfl) rfl ?_
        refine x_iald (pc := 52) C (dq D_Marked_unlock 30 rfl) rfl (by (try simp only [List.length_set]); omega) ?_
        refine n_eq_f (pc := 53) (tgt := 58) C (dq D_Marked_unlock 31 rfl) (by decide) (by omega) (by omega) ?_
        refine x_iconst (pc := 56) C (dq D_Marked_unlock 32 rfl) ci_0 ?_
        exact x_zret (pc := 57) C (dq D_Marked_unlock 33 rfl) rfl rfl (by decide) ⟨rfl, j, Fa, Ta, Ja, Qa, Fb, C2, M2, q1, q2, q3, q4, q5, r1, r2, r3, rfl⟩
  have h0 := loop 16 0 rfl rfl
  show X g f M_Marked_unlock (0, 0) (fun o h' => o = .returned (some (.int (nI (if it (eqs Jm IN) 0 16 true then 1 else 0)))) ∧ ∃ (j : Nat) (Fa T Ja Q Fb C2 M2 : List Nat), Fa.length = 16 ∧ l16 T ∧ l88 Ja ∧ l16 Q ∧ j ≤ 88 ∧ Fb.length = 16 ∧ l16 C2 ∧ l16 M2 ∧ h' = (dh g j ct n0 n1 n2 n3 n4 ni no (ni - 16) FO BA PW K1 Fa K2 Fb WB T Q Ja B0 B1 B2 B3 B4 Jm C2 M2 IN OU P2 S)) (0, 0) 33 [some (.ref (zA (gz g) 32)), some (.ref (zA (gz g) 38)), some (.ref (zA (gz g) 42)), none] [] (dh g j ct n0 n1 n2 n3 n4 ni no (ni - 16) FO BA PW K1 Fa K2 Fb WB Ta Qa Ja B0 B1 B2 B3 B4 Jm C2 M2 IN OU P2 S)
  refine x_iconst (pc := 33) C (dq D_Marked_unlock 18 rfl) ci_0 ?_
  refine x_istore_n (i := 3) (pc := 34) C (dq D_Marked_unlock 19 rfl) rfl rfl rfl ?_
  simp only [List.set_cons_zero, List.set_cons_succ]
  exact h0
