/-! The class's mark. -/
abbrev mkc (g : Gp) (c tz sm jn : Nat) : va_E := .inr (5, [.ref (zA (gz g) c), .ref (zA (gz g) tz), .ref (zA (gz g) sm), .ref (zA (gz g) jn)])
def lst16 (n : Nat) : Nat := if n = 0 then 0 else (n - 1) / 16 * 16
def ckl (FO RK B : List Nat) (i : Nat) (M : List Nat) : List Nat := trn FO RK (it (adt B (16 * i)) 0 16 M)
def ctw (FO RK : List Nat) : List Nat := dbl (trn FO RK z16)
def cm1 (FO RK B : List Nat) (n : Nat) (M : List Nat) : List Nat := it (ckl FO RK B) 0 (lst16 n / 16) (it (fls 0) 0 16 M)
def cm2 (FO RK B : List Nat) (n : Nat) (M : List Nat) : List Nat := it (adt B (lst16 n)) 0 (n - lst16 n) (cm1 FO RK B n M)
def x128 (k : Nat) (M : List Nat) : List Nat := M.set k (M.getD k 0 ^^^ 128)
def cmk (FO RK B : List Nat) (n : Nat) (M : List Nat) : List Nat := if n - lst16 n < 16 then trn FO RK (it (adt (dbl (ctw FO RK)) 0) 0 16 (x128 (n - lst16 n) (cm2 FO RK B n M))) else trn FO RK (it (adt (ctw FO RK) 0) 0 16 (cm2 FO RK B n M))
theorem lst16_ok {n : Nat} : lst16 n ≤ n ∧ n - lst16 n ≤ 16 ∧ lst16 n % 16 = 0 := by
  unfold lst16
  split <;> omega
theorem adts_len (B : List Nat) (s n : Nat) (M : List Nat) : (it (adt B s) 0 n M).length = M.length := it_len (adt_len B s) n 0 M
theorem ckl_ok {FO RK B : List Nat} (hF : by8 FO) (hK : by8 RK) (hB : by8 B) (i : Nat) {M : List Nat} {l : Nat} (h : M.length = l ∧ by8 M) : (ckl FO RK B i M).length = l ∧ by8 (ckl FO RK B i M) := by
  unfold ckl
  exact ⟨by rw [trn_len, adts_len]; exact h.1, trn8 hF hK (adt8 hB _ 0 16 h.2)⟩
theorem fls8 (k d : Nat) {M : List Nat} (h : by8 M) : by8 (it (fls 0) k d M) := it_inv by8 d k M (fun j S _ _ hS => hS.set (by omega)) h
theorem cm1_ok {FO RK B : List Nat} (hF : by8 FO) (hK : by8 RK) (hB : by8 B) (n : Nat) {M : List Nat} (h : by8 M) : (cm1 FO RK B n M).length = M.length ∧ by8 (cm1 FO RK B n M) :=
  it_inv (fun S : List Nat => S.length = M.length ∧ by8 S) _ 0 _ (fun j S _ _ hS => ckl_ok hF hK hB j hS) ⟨it_len (fls_len 0) 16 0 M, fls8 0 16 h⟩
theorem cm2_ok {FO RK B : List Nat} (hF : by8 FO) (hK : by8 RK) (hB : by8 B) (n : Nat) {M : List Nat} (h : by8 M) : (cm2 FO RK B n M).length = M.length ∧ by8 (cm2 FO RK B n M) := by
  obtain ⟨a, b⟩ := cm1_ok hF hK hB n h
  unfold cm2
  exact ⟨by rw [adts_len]; exact a, adt8 hB _ 0 _ b⟩
theorem ctw_ok {FO RK : List Nat} (hF : by8 FO) (hK : by8 RK) : (ctw FO RK).length = 16 ∧ by8 (ctw FO RK) := by
  unfold ctw
  exact ⟨by rw [dbl_len, trn_len]; rfl, dbl8 (trn8 hF hK z16_8)⟩
theorem cmk_ok {FO RK B : List Nat} (hF : by8 FO) (hK : by8 RK) (hB : by8 B) (n : Nat) {M : List Nat} (h : by8 M) : (cmk FO RK B n M).length = M.length ∧ by8 (cmk FO RK B n M) := by
  obtain ⟨a, b⟩ := cm2_ok hF hK hB n h
  obtain ⟨c, d⟩ := ctw_ok hF hK
  unfold cmk
  split
  · have hx : by8 (x128 (n - lst16 n) (cm2 FO RK B n M)) := b.set (xor8 (b.at _) (by omega))
    exact ⟨by rw [trn_len, adts_len, x128, List.length_set]; exact a, trn8 hF hK (adt8 (dbl8 d) 0 0 16 hx)⟩
  · exact ⟨by rw [trn_len, adts_len]; exact a, trn8 hF hK (adt8 d 0 0 16 b)⟩
set_option maxHeartbeats 4000000 in
theorem c_markRow {g : Gp} {h : Hp} {m c tz sm jn t rk bf fo ba r b n mr : Nat} {FO BA RK TW B M : List Nat} (hm : h[m]? = some (mkc g c tz sm jn)) (hc : cip g h c t rk bf fo ba FO BA RK) (htz : h[tz]? = some (ia g TW)) (hr : h[r]? = some (rwc g b n)) (hb : h[b]? = some (ia g B)) (hmr : h[mr]? = some (ia g M))
    (hnt : tz ≠ fo ∧ tz ≠ ba ∧ tz ≠ rk ∧ tz ≠ bf) (hnm : mr ≠ fo ∧ mr ≠ ba ∧ mr ≠ rk ∧ mr ≠ bf) (hne : tz ≠ mr ∧ tz ≠ b ∧ mr ≠ b ∧ bf ≠ b) (hTW : TW.length = 16) (hT8 : by8 TW) (hB : B.length = 88 ∧ by8 B) (hn : n ≤ 88) (hM : 16 ≤ M.length ∧ M.length < 1000) (hM8 : by8 M) :
    Con g M_Marker_markRow 3 (0, 0) [.ref (zA (gz g) m), .ref (zA (gz g) r), .ref (zA (gz g) mr)] h (fun o h' => o = .returned none ∧ ∃ F T' : List Nat, F.length = 16 ∧ T'.length = 16 ∧ by8 T' ∧ h' = (((h.set bf (ia g F)).set tz (ia g T')).set mr (ia g (cmk FO RK B n M)))) := by
  obtain ⟨BF, hbf, hBF⟩ := hc.bfa
  have hF8 := hc.2.2.2.2.2.2.2.2.2.1
  have hK8 := hc.2.2.2.2.2.2.2.2.2.2.2.1
  obtain ⟨l1, l2, l3⟩ := lst16_ok (n := n)
  obtain ⟨a1, a2⟩ := cm1_ok hF8 hK8 hB.2 n hM8
  obtain ⟨b1, b2⟩ := cm2_ok hF8 hK8 hB.2 n hM8
  obtain ⟨w1, w2⟩ := ctw_ok hF8 hK8
  have hBl := hB.1
  have t0 : ∀ F : List Nat, (h.set bf (ia g F))[tz]? = some (ia g TW) := fun F => gs_ne (Ne.symm hnt.2.2.2) htz
  have m0 : ∀ F T : List Nat, ((h.set bf (ia g F)).set tz (ia g T))[mr]? = some (ia g M) := fun F T => gs_ne hne.1 (gs_ne (Ne.symm hnm.2.2.2) hmr)
  have e1 : ∀ F T A : List Nat, (((h.set bf (ia g F)).set tz (ia g T)).set mr (ia g A))[m]? = some (mkc g c tz sm jn) := fun F T A => gs_ne (ne_io hmr hm) (gs_ne (ne_io htz hm) (gs_ne (ne_io hbf hm) hm))
  have e2 : ∀ F T A : List Nat, (((h.set bf (ia g F)).set tz (ia g T)).set mr (ia g A))[r]? = some (rwc g b n) := fun F T A => gs_ne (ne_io hmr hr) (gs_ne (ne_io htz hr) (gs_ne (ne_io hbf hr) hr))
  have e3 : ∀ F T A : List Nat, (((h.set bf (ia g F)).set tz (ia g T)).set mr (ia g A))[b]? = some (ia g B) := fun F T A => gs_ne hne.2.2.1 (gs_ne hne.2.1 (gs_ne hne.2.2.2 hb))
  have e4 : ∀ F T A : List Nat, (((h.set bf (ia g F)).set tz (ia g T)).set mr (ia g A))[tz]? = some (ia g T) := fun F T A => gs_ne (Ne.symm hne.1) (gs_self (t0 F))
  have e5 : ∀ F T A : List Nat, (((h.set bf (ia g F)).set tz (ia g T)).set mr (ia g A))[mr]? = some (ia g A) := fun F T A => gs_self (m0 F T)
  have e6 : ∀ F T A : List Nat, F.length = 16 → cip g (((h.set bf (ia g F)).set tz (ia g T)).set mr (ia g A)) c t rk bf fo ba FO BA RK := fun F T A hF => ((hc.bf hF).blk (t0 F) hnt).blk (m0 F T) hnm
  have s1 : ∀ (F T A : List Nat) (x : va_E), ((((h.set bf (ia g F)).set tz (ia g T)).set mr (ia g A))).set tz x = ((h.set bf (ia g F)).set tz x).set mr (ia g A) := fun F T A x => gs_in hne.1
  have s2 : ∀ (F T A : List Nat) (x y : va_E), (((((h.set bf (ia g F)).set tz (ia g T)).set mr (ia g A))).set bf x).set mr y = ((h.set bf x).set tz (ia g T)).set mr y := fun F T A x y => by
    rw [List.set_comm _ _ hnm.2.2.2, List.set_comm _ _ hnt.2.2.2, List.set_set, List.set_set]
  have s3 : ∀ (F T A : List Nat) (x y : va_E), (((((h.set bf (ia g F)).set tz (ia g T)).set mr (ia g A))).set bf x).set tz y = ((h.set bf x).set tz y).set mr (ia g A) := fun F T A x y => by
    rw [List.set_comm _ _ hnm.2.2.2, List.set_comm _ _ hnt.2.2.2, List.set_set, gs_in hne.1]
  refine Con.of (by decide) rfl rfl (L := [some (.ref (zA (gz g) m)), some (.ref (zA (gz g) r)), some (.ref (zA (gz g) mr)), none, none]) rfl (fun f C => ?_)
  have last : ∀ (F T A : List Nat) (l4 : Option Value), F.length = 16 → T.length = 16 → by8 T → A.length = M.length → by8 A → trn FO RK (it (adt T 0) 0 16 A) = cmk FO RK B n M → X g f M_Marker_markRow (0, 0) (fun o h' => o = .returned none ∧ ∃ F T' : List Nat, F.length = 16 ∧ T'.length = 16 ∧ by8 T' ∧ h' = (((h.set bf (ia g F)).set tz (ia g T')).set mr (ia g (cmk FO RK B n M)))) (0, 0) 136 [some (.ref (zA (gz g) m)), some (.ref (zA (gz g) r)), some (.ref (zA (gz g) mr)), some (.int (nI (lst16 n))), l4] [] (((h.set bf (ia g F)).set tz (ia g T)).set mr (ia g A)) := by
    intro F T A l4 hF hT hT8 hA hA8 he
    have q1 : (it (adt T 0) 0 16 A).length = M.length := by rw [adts_len]; exact hA
    have q2 := adt8 hT8 0 0 16 hA8
    refine x_aload_n (pc := 136) C (dq D_Marker_markRow 72 rfl) rfl ?_
    refine x_aload_n (pc := 137) C (dq D_Marker_markRow 73 rfl) rfl ?_
    refine x_get (pc := 138) (ci := 5) (j := 1) C (dq D_Marker_markRow 74 rfl) rfl rfl (e1 _ _ _) rfl k_fl_Marker_9 ?_
    refine x_iconst (pc := 141) C (dq D_Marker_markRow 75 rfl) ci_0 ?_
    refine x_bipush (pc := 142) C (dq D_Marker_markRow 76 rfl) cb_16 ?_
    refine x_cS0 (pc := 144) (M := M_Marker_addTo) C (dq D_Marker_markRow 77 rfl) k_ml_Marker_42 m_Marker_addTo (c_addTo (s := 0) (m := 16) (e5 _ _ _) (e4 _ _ _) (Ne.symm hne.1) (by omega) (by omega)) rfl rfl rfl rfl (by decide) ?_
    rw [List.set_set]
    refine x_aload_n (pc := 147) C (dq D_Marker_markRow 78 rfl) rfl ?_
    refine x_get (pc := 148) (ci := 5) (j := 0) C (dq D_Marker_markRow 79 rfl) rfl rfl (by first | exact e1 _ _ _ | exact (e6 _ _ _ hF).1) rfl k_fl_Marker_25 ?_
    refine x_aload_n (pc := 151) C (dq D_Marker_markRow 80 rfl) rfl ?_
    refine x_cV (pc := 152) (ci := 2) (M := M_Cipher_turn) C (dq D_Marker_markRow 81 rfl) k_ml_Marker_46 m_Cipher_turn rfl rfl (by first | exact e1 _ _ _ | exact (e6 _ _ _ hF).1) (c_turn (e6 _ _ _ hF) (e5 _ _ _) hnm (by omega) q2) rfl rfl rfl rfl (by decide) (fun o h2 hp => ?_)
    obtain ⟨rfl, F2, hF2, rfl⟩ := hp
    refine ⟨none, rfl, ?_⟩
    rw [s2, he]
    show X g f M_Marker_markRow (0, 0) (fun o h' => o = .returned none ∧ ∃ F T' : List Nat, F.length = 16 ∧ T'.length = 16 ∧ by8 T' ∧ h' = (((h.set bf (ia g F)).set tz (ia g T')).set mr (ia g (cmk FO RK B n M)))) (0, 0) 155 [some (.ref (zA (gz g) m)), some (.ref (zA (gz g) r)), some (.ref (zA (gz g) mr)), some (.int (nI (lst16 n))), l4] [] (((h.set bf (ia g F2)).set tz (ia g T)).set mr (ia g (cmk FO RK B n M)))
    exact x_vret (pc := 155) C (dq D_Marker_markRow 82 rfl) rfl (by decide) ⟨rfl, F2, T, hF2, hT, hT8, rfl⟩
  have mid : ∀ (F T : List Nat), F.length = 16 → T.length = 16 → by8 T → X g f M_Marker_markRow (0, 0) (fun o h' => o = .returned none ∧ ∃ F T' : List Nat, F.length = 16 ∧ T'.length = 16 ∧ by8 T' ∧ h' = (((h.set bf (ia g F)).set tz (ia g T')).set mr (ia g (cmk FO RK B n M)))) (0, 0) 67 [some (.ref (zA (gz g) m)), some (.ref (zA (gz g) r)), some (.ref (zA (gz g) mr)), some (.int (nI (lst16 n))), some (.int (nI (lst16 n)))] [] (((h.set bf (ia g F)).set tz (ia g T)).set mr (ia g (cm1 FO RK B n M))) := by
    intro F T hF hT hT8
    refine x_aload_n (pc := 67) C (dq D_Marker_markRow 36 rfl) rfl ?_
    refine x_get (pc := 68) (ci := 7) (j := 1) C (dq D_Marker_markRow 37 rfl) rfl rfl (e2 _ _ _) rfl k_fl_Marker_29 ?_
    refine x_iload_n (pc := 71) C (dq D_Marker_markRow 38 rfl) rfl ?_
    refine n_isub (pc := 72) C (dq D_Marker_markRow 39 rfl) (by omega) ?_
    refine x_istore (i := 4) (pc := 73) C (dq D_Marker_markRow 40 rfl) rfl rfl rfl ?_
    simp only [List.set_cons_zero, List.set_cons_succ]
    refine x_aload_n (pc := 75) C (dq D_Marker_markRow 41 rfl) rfl ?_
    refine x_aload_n (pc := 76) C (dq D_Marker_markRow 42 rfl) rfl ?_
    refine x_get (pc := 77) (ci := 7) (j := 0) C (dq D_Marker_markRow 43 rfl) rfl rfl (e2 _ _ _) rfl k_fl_Marker_39 ?_
    refine x_iload_n (pc := 80) C (dq D_Marker_markRow 44 rfl) rfl ?_
    refine x_iload (pc := 81) C (dq D_Marker_markRow 45 rfl) rfl ?_
    refine x_cS0 (pc := 83) (M := M_Marker_addTo) C (dq D_Marker_markRow 46 rfl) k_ml_Marker_42 m_Marker_addTo (c_addTo (e5 _ _ _) (e3 _ _ _) hne.2.2.1 (by omega) (by omega)) rfl rfl rfl rfl (by decide) ?_
    rw [List.set_set]
    have ec : it (adt B (lst16 n)) 0 (n - lst16 n) (cm1 FO RK B n M) = cm2 FO RK B n M := by rw [cm2]
    rw [ec]
    refine x_aload_n (pc := 86) C (dq D_Marker_markRow 47 rfl) rfl ?_
    refine x_get (pc := 87) (ci := 5) (j := 1) C (dq D_Marker_markRow 48 rfl) rfl rfl (e1 _ _ _) rfl k_fl_Marker_9 ?_
    refine x_iconst (pc := 90) C (dq D_Marker_markRow 49 rfl) ci_0 ?_
    refine x_cS0 (pc := 91) (M := M_Arrays_fill1) C (dq D_Marker_markRow 50 rfl) k_ml_Marker_52 m_Arrays_fill1 (c_fill2 (v := 0) (e4 _ _ _) (by omega)) rfl rfl rfl rfl (by decide) ?_
    rw [s1, hT, fls16 hT]
    refine x_aload_n (pc := 94) C (dq D_Marker_markRow 51 rfl) rfl ?_
    refine x_get (pc := 95) (ci := 5) (j := 0) C (dq D_Marker_markRow 52 rfl) rfl rfl (by first | exact e1 _ _ _ | exact (e6 _ _ _ hF).1) rfl k_fl_Marker_25 ?_
    refine x_aload_n (pc := 98) C (dq D_Marker_markRow 53 rfl) rfl ?_
    refine x_get (pc := 99) (ci := 5) (j := 1) C (dq D_Marker_markRow 54 rfl) rfl rfl (by first | exact e1 _ _ _ | exact (e6 _ _ _ hF).1) rfl k_fl_Marker_9 ?_
    refine x_cV (pc := 102) (ci := 2) (M := M_Cipher_turn) C (dq D_Marker_markRow 55 rfl) k_ml_Marker_46 m_Cipher_turn rfl rfl (by first | exact e1 _ _ _ | exact (e6 _ _ _ hF).1) (c_turn (e6 _ _ _ hF) (e4 _ _ _) hnt (by decide) z16_8) rfl rfl rfl rfl (by decide) (fun o h2 hp => ?_)
    obtain ⟨rfl, F2, hF2, rfl⟩ := hp
    refine ⟨none, rfl, ?_⟩
    rw [s3]
    have z1 : (trn FO RK z16).length = 16 := by rw [trn_len]; rfl
    have z2 := trn8 hF8 hK8 z16_8
    show X g f M_Marker_markRow (0, 0) (fun o h' => o = .returned none ∧ ∃ F T' : List Nat, F.length = 16 ∧ T'.length = 16 ∧ by8 T' ∧ h' = (((h.set bf (ia g F)).set tz (ia g T')).set mr (ia g (cmk FO RK B n M)))) (0, 0) 105 [some (.ref (zA (gz g) m)), some (.ref (zA (gz g) r)), some (.ref (zA (gz g) mr)), some (.int (nI (lst16 n))), some (.int (nI (n - lst16 n)))] [] (((h.set bf (ia g F2)).set tz (ia g (trn FO RK z16))).set mr (ia g (cm2 FO RK B n M)))
    refine x_aload_n (pc := 105) C (dq D_Marker_markRow 56 rfl) rfl ?_
    refine x_get (pc := 106) (ci := 5) (j := 1) C (dq D_Marker_markRow 57 rfl) rfl rfl (e1 _ _ _) rfl k_fl_Marker_9 ?_
    refine x_cS0 (pc := 109) (M := M_Marker_doubleBlock) C (dq D_Marker_markRow 58 rfl) k_ml_Marker_55 m_Marker_doubleBlock (c_doubleBlock (e4 _ _ _) (by omega) z2) rfl rfl rfl rfl (by decide) ?_
    rw [s1]
    have ew : dbl (trn FO RK z16) = ctw FO RK := by rw [ctw]
    rw [ew]
    by_cases hq : n - lst16 n < 16
    · refine x_iload (pc := 112) C (dq D_Marker_markRow 59 rfl) rfl ?_
      refine x_bipush (pc := 114) C (dq D_Marker_markRow 60 rfl) cb_16 ?_
      refine n_ge_f (pc := 116) (tgt := 136) C (dq D_Marker_markRow 61 rfl) (by decide) (by omega) (by omega) ?_
      refine x_aload_n (pc := 119) C (dq D_Marker_markRow 62 rfl) rfl ?_
      refine x_iload (pc := 120) C (dq D_Marker_markRow 63 rfl) rfl ?_
      refine x_dup2 (pc := 122) C (dq D_Marker_markRow 64 rfl) rfl rfl ?_
      refine x_iald (pc := 123) C (dq D_Marker_markRow 65 rfl) (e5 _ _ _) (by (try simp only [List.length_set]); omega) ?_
      refine x_sipush (pc := 124) C (dq D_Marker_markRow 66 rfl) cs_128 ?_
      refine n_ixor (pc := 127) C (dq D_Marker_markRow 67 rfl) ?_
      refine x_iast (pc := 128) C (dq D_Marker_markRow 68 rfl) (e5 _ _ _) (by (try simp only [List.length_set]); omega) ?_
      try rw [List.set_set]
      refine x_aload_n (pc := 129) C (dq D_Marker_markRow 69 rfl) rfl ?_
      refine x_get (pc := 130) (ci := 5) (j := 1) C (dq D_Marker_markRow 70 rfl) rfl rfl (e1 _ _ _) rfl k_fl_Marker_9 ?_
      refine x_cS0 (pc := 133) (M := M_Marker_doubleBlock) C (dq D_Marker_markRow 71 rfl) k_ml_Marker_55 m_Marker_doubleBlock (c_doubleBlock (e4 _ _ _) (by omega) w2) rfl rfl rfl rfl (by decide) ?_
      rw [s1]
      have hx : by8 (x128 (n - lst16 n) (cm2 FO RK B n M)) := b2.set (xor8 (b2.at _) (by omega))
      exact last F2 (dbl (ctw FO RK)) (x128 (n - lst16 n) (cm2 FO RK B n M)) _ hF2 (by rw [dbl_len]; exact w1) (dbl8 w2) (by rw [x128, List.length_set]; exact b1) hx (by rw [cmk, if_pos hq])
    · refine x_iload (pc := 112) C (dq D_Marker_markRow 59 rfl) rfl ?_
      refine x_bipush (pc := 114) C (dq D_Marker_markRow 60 rfl) cb_16 ?_
      refine n_ge_t (pc := 116) (tgt := 136) C (dq D_Marker_markRow 61 rfl) (by decide) (by omega) (by omega) ?_
      exact last F2 (ctw FO RK) (cm2 FO RK B n M) _ hF2 w1 w2 b1 b2 (by rw [cmk, if_neg hq])
  have chain : ∀ (d i : Nat) (F T A : List Nat), 16 * i + 16 * d = lst16 n → F.length = 16 → T.length = 16 → by8 T → A.length = M.length ∧ by8 A → it (ckl FO RK B) i d A = cm1 FO RK B n M → X g f M_Marker_markRow (0, 0) (fun o h' => o = .returned none ∧ ∃ F T' : List Nat, F.length = 16 ∧ T'.length = 16 ∧ by8 T' ∧ h' = (((h.set bf (ia g F)).set tz (ia g T')).set mr (ia g (cmk FO RK B n M)))) (0, 0) 35 [some (.ref (zA (gz g) m)), some (.ref (zA (gz g) r)), some (.ref (zA (gz g) mr)), some (.int (nI (lst16 n))), some (.int (nI (16 * i)))] [] (((h.set bf (ia g F)).set tz (ia g T)).set mr (ia g A)) := by
    intro d
    induction d with
    | zero =>
      intro i F T A hid hF hT hT8 hA he
      rw [it_zero] at he
      rw [he]
      have ei : 16 * i = lst16 n := by omega
      rw [ei]
      refine x_iload (pc := 35) C (dq D_Marker_markRow 21 rfl) rfl ?_
      refine x_iload_n (pc := 37) C (dq D_Marker_markRow 22 rfl) rfl ?_
      refine n_ge_t (pc := 38) (tgt := 67) C (dq D_Marker_markRow 23 rfl) (by decide) (by omega) (by omega) ?_
      exact mid F T hF hT hT8
    | succ d ih =>
      intro i F T A hid hF hT hT8 hA he
      have hAl := hA.1
      have q1 : (it (adt B (16 * i)) 0 16 A).length = M.length := by rw [adts_len]; exact hAl
      have q2 := adt8 hB.2 (16 * i) 0 16 hA.2
      refine x_iload (pc := 35) C (dq D_Marker_markRow 21 rfl) rfl ?_
      refine x_iload_n (pc := 37) C (dq D_Marker_markRow 22 rfl) rfl ?_
      refine n_ge_f (pc := 38) (tgt := 67) C (dq D_Marker_markRow 23 rfl) (by decide) (by omega) (by omega) ?_
      refine x_aload_n (pc := 41) C (dq D_Marker_markRow 24 rfl) rfl ?_
      refine x_aload_n (pc := 42) C (dq D_Marker_markRow 25 rfl) rfl ?_
      refine x_get (pc := 43) (ci := 7) (j := 0) C (dq D_Marker_markRow 26 rfl) rfl rfl (e2 _ _ _) rfl k_fl_Marker_39 ?_
      refine x_iload (pc := 46) C (dq D_Marker_markRow 27 rfl) rfl ?_
      refine x_bipush (pc := 48) C (dq D_Marker_markRow 28 rfl) cb_16 ?_
      refine x_cS0 (pc := 50) (M := M_Marker_addTo) C (dq D_Marker_markRow 29 rfl) k_ml_Marker_42 m_Marker_addTo (c_addTo (m := 16) (e5 _ _ _) (e3 _ _ _) hne.2.2.1 (by omega) (by omega)) rfl rfl rfl rfl (by decide) ?_
      rw [List.set_set]
      refine x_aload_n (pc := 53) C (dq D_Marker_markRow 30 rfl) rfl ?_
      refine x_get (pc := 54) (ci := 5) (j := 0) C (dq D_Marker_markRow 31 rfl) rfl rfl (by first | exact e1 _ _ _ | exact (e6 _ _ _ hF).1) rfl k_fl_Marker_25 ?_
      refine x_aload_n (pc := 57) C (dq D_Marker_markRow 32 rfl) rfl ?_
      refine x_cV (pc := 58) (ci := 2) (M := M_Cipher_turn) C (dq D_Marker_markRow 33 rfl) k_ml_Marker_46 m_Cipher_turn rfl rfl (by first | exact e1 _ _ _ | exact (e6 _ _ _ hF).1) (c_turn (e6 _ _ _ hF) (e5 _ _ _) hnm (by omega) q2) rfl rfl rfl rfl (by decide) (fun o h2 hp => ?_)
      obtain ⟨rfl, F2, hF2, rfl⟩ := hp
      refine ⟨none, rfl, ?_⟩
      rw [s2]
      show X g f M_Marker_markRow (0, 0) (fun o h' => o = .returned none ∧ ∃ F T' : List Nat, F.length = 16 ∧ T'.length = 16 ∧ by8 T' ∧ h' = (((h.set bf (ia g F)).set tz (ia g T')).set mr (ia g (cmk FO RK B n M)))) (0, 0) 61 [some (.ref (zA (gz g) m)), some (.ref (zA (gz g) r)), some (.ref (zA (gz g) mr)), some (.int (nI (lst16 n))), some (.int (nI (16 * i)))] [] (((h.set bf (ia g F2)).set tz (ia g T)).set mr (ia g (ckl FO RK B i A)))
      refine x_iinc (pc := 61) C (dq D_Marker_markRow 34 rfl) rfl (ii_16 _) rfl rfl ?_
      simp only [List.set_cons_zero, List.set_cons_succ]
      refine x_goto (pc := 64) (tgt := 35) C (dq D_Marker_markRow 35 rfl) (by decide) ?_
      exact ih (i + 1) F2 T (ckl FO RK B i A) (by omega) hF2 hT hT8 (ckl_ok hF8 hK8 hB.2 i hA) he
  have start : X g f M_Marker_markRow (0, 0) (fun o h' => o = .returned none ∧ ∃ F T' : List Nat, F.length = 16 ∧ T'.length = 16 ∧ by8 T' ∧ h' = (((h.set bf (ia g F)).set tz (ia g T')).set mr (ia g (cmk FO RK B n M)))) (0, 0) 23 [some (.ref (zA (gz g) m)), some (.ref (zA (gz g) r)), some (.ref (zA (gz g) mr)), none, none] [.int (nI (lst16 n))] h := by
    have h0 := chain (lst16 n / 16) 0 BF TW (it (fls 0) 0 16 M) (by omega) hBF hTW hT8 ⟨it_len (fls_len 0) 16 0 M, fls8 0 16 hM8⟩ (by rw [cm1])
    rw [gs_id hbf, gs_id htz] at h0
    refine x_istore_n (i := 3) (pc := 23) C (dq D_Marker_markRow 13 rfl) rfl rfl rfl ?_
    simp only [List.set_cons_zero, List.set_cons_succ]
    refine x_aload_n (pc := 24) C (dq D_Marker_markRow 14 rfl) rfl ?_
    refine x_iconst (pc := 25) C (dq D_Marker_markRow 15 rfl) ci_0 ?_
    refine x_bipush (pc := 26) C (dq D_Marker_markRow 16 rfl) cb_16 ?_
    refine x_iconst (pc := 28) C (dq D_Marker_markRow 17 rfl) ci_0 ?_
    refine x_cS0 (pc := 29) (M := M_Arrays_fill) C (dq D_Marker_markRow 18 rfl) k_ml_Marker_33 m_Arrays_fill (c_fill4 (a := 0) (b := 16) (v := 0) hmr (by omega)) rfl rfl rfl rfl (by decide) ?_
    refine x_iconst (pc := 32) C (dq D_Marker_markRow 19 rfl) ci_0 ?_
    refine x_istore (i := 4) (pc := 33) C (dq D_Marker_markRow 20 rfl) rfl rfl rfl ?_
    simp only [List.set_cons_zero, List.set_cons_succ]
    exact h0
  by_cases hz : n = 0
  · have e0 : lst16 n = 0 := by unfold lst16; rw [if_pos hz]
    rw [e0] at start
    refine x_aload_n (pc := 0) C (dq D_Marker_markRow 0 rfl) rfl ?_
    refine x_get (pc := 1) (ci := 7) (j := 1) C (dq D_Marker_markRow 1 rfl) rfl rfl (hr) rfl k_fl_Marker_29 ?_
    refine n_ifne_f (pc := 4) (tgt := 11) C (dq D_Marker_markRow 2 rfl) (by decide) (by omega) (by omega) ?_
    refine x_iconst (pc := 7) C (dq D_Marker_markRow 3 rfl) ci_0 ?_
    refine x_goto (pc := 8) (tgt := 23) C (dq D_Marker_markRow 4 rfl) (by decide) ?_
    exact start
  · have e0 : lst16 n = (n - 1) / 16 * 16 := by unfold lst16; rw [if_neg hz]
    rw [e0] at start
    refine x_aload_n (pc := 0) C (dq D_Marker_markRow 0 rfl) rfl ?_
    refine x_get (pc := 1) (ci := 7) (j := 1) C (dq D_Marker_markRow 1 rfl) rfl rfl (hr) rfl k_fl_Marker_29 ?_
    refine n_ifne_t (pc := 4) (tgt := 11) C (dq D_Marker_markRow 2 rfl) (by decide) (by omega) (by omega) ?_
    refine x_aload_n (pc := 11) C (dq D_Marker_markRow 5 rfl) rfl ?_
    refine x_get (pc := 12) (ci := 7) (j := 1) C (dq D_Marker_markRow 6 rfl) rfl rfl (hr) rfl k_fl_Marker_29 ?_
    refine x_iconst (pc := 15) C (dq D_Marker_markRow 7 rfl) ci_1 ?_
    refine n_isub (pc := 16) C (dq D_Marker_markRow 8 rfl) (by omega) ?_
    refine x_bipush (pc := 17) C (dq D_Marker_markRow 9 rfl) cb_16 ?_
    refine n_idiv (pc := 19) C (dq D_Marker_markRow 10 rfl) (by omega) (by omega) (by omega) ?_
    refine x_bipush (pc := 20) C (dq D_Marker_markRow 11 rfl) cb_16 ?_
    refine n_imul (pc := 22) C (dq D_Marker_markRow 12 rfl) ?_
    exact start
