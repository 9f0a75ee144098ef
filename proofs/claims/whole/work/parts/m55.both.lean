/-! Both sides together. -/
theorem ConW.weaken {g : Gp} {md : MD} {hs : List (Nat × Nat × Nat × Nat)} {fr : Nat} {mc : Nat × Nat} {av : List Value} {h : Hp} {Post Post' : Outcome → Hp → Prop} (H : ConW g md hs fr mc av h Post) (hp : ∀ o h', Post o h' → Post' o h') : ConW g md hs fr mc av h Post' := by
  intro p e ha hc hk s m args below hf happ hP hKK
  obtain ⟨s₂, o, h1, h2, h3, ⟨⟨h', q1, q2⟩, q3⟩, q4⟩ := H p e ha hc hk s m args below hf happ hP hKK
  exact ⟨s₂, o, h1, h2, h3, ⟨⟨h', hp _ _ q1, q2⟩, q3⟩, q4⟩
theorem i32_in {y : Int32} {a b : Nat} (hb : b < 2 ^ 31) (hab : a ≤ b) (h : ¬ (y < nI a ∨ ¬ y ≤ nI b)) : ∃ n, a ≤ n ∧ n ≤ b ∧ y = nI n := by
  have h1 : ¬ y < nI a := fun q => h (Or.inl q)
  have h2 : y ≤ nI b := Decidable.byContradiction fun q => h (Or.inr q)
  rw [Int32.lt_iff_toInt_lt, nI_toInt (by omega)] at h1
  rw [Int32.le_iff_toInt_le, nI_toInt hb] at h2
  refine ⟨y.toInt.toNat, by omega, by omega, ?_⟩
  apply Int32.toInt_inj.mp
  rw [nI_toInt (by omega)]
  omega
theorem i32_up (y : Int32) {b : Nat} (hb : b < 2 ^ 31) : (y < 0 ∨ ¬ y ≤ nI b) ∨ ∃ n, n ≤ b ∧ y = nI n := by
  by_cases h : y < 0 ∨ ¬ y ≤ nI b
  · exact Or.inl h
  · obtain ⟨n, -, h2, h3⟩ := i32_in (a := 0) hb (by omega) (by rw [nI_0]; exact h)
    exact Or.inr ⟨n, h2, h3⟩
theorem i32_lt (y : Int32) {b : Nat} (hb : b < 2 ^ 31) : (y < 0 ∨ nI b ≤ y) ∨ ∃ n, n < b ∧ y = nI n := by
  by_cases h : y < 0 ∨ nI b ≤ y
  · exact Or.inl h
  · have h1 : ¬ y < 0 := fun q => h (Or.inl q)
    have h2 : ¬ nI b ≤ y := fun q => h (Or.inr q)
    rw [Int32.le_iff_toInt_le, nI_toInt hb] at h2
    have h1' : ¬ y < nI 0 := by rw [nI_0]; exact h1
    rw [Int32.lt_iff_toInt_lt, nI_toInt (by omega)] at h1'
    refine Or.inr ⟨y.toInt.toNat, by omega, ?_⟩
    apply Int32.toInt_inj.mp
    rw [nI_toInt (by omega)]
    omega
section DH
variable {g : Gp} {nj ct n0 n1 n2 n3 n4 ni no np : Nat} {FO BA PW K1 F1 K2 F2 WB TW SM JB B0 B1 B2 B3 B4 SG CT MB IN OU OP : List Nat}
theorem dh_ap (S : Hp) : dh g nj ct n0 n1 n2 n3 n4 ni no np FO BA PW K1 F1 K2 F2 WB TW SM JB B0 B1 B2 B3 B4 SG CT MB IN OU OP S = dh g nj ct n0 n1 n2 n3 n4 ni no np FO BA PW K1 F1 K2 F2 WB TW SM JB B0 B1 B2 B3 B4 SG CT MB IN OU OP [] ++ S := by
  unfold dh
  rw [List.append_nil]
end DH
section JH
variable {g : Gp} {FO BA : List Nat} {ct ni no : Nat} {NL : List Nat} {BL : List (List Nat)} {K1 K2 IN OU : List Nat} {h : Hp}
theorem dok_split {S : Hp} (hd : dok g S FO BA ct ni no NL BL K1 K2 IN OU h) : ∃ P : Hp, P.length = 44 ∧ h = P ++ S ∧ (∀ S', dok g S' FO BA ct ni no NL BL K1 K2 IN OU (P ++ S')) ∧ ∃ vs, P[0]? = some (.inr (0, vs)) := by
  obtain ⟨nj, n0, n1, n2, n3, n4, np, PW, F1, F2, WB, TW, SM, JB, B0, B1, B2, B3, B4, SG, CT, MB, OP, rfl, rfl, hd, rfl⟩ := hd
  exact ⟨dh g nj ct n0 n1 n2 n3 n4 ni no np FO BA PW K1 F1 K2 F2 WB TW SM JB B0 B1 B2 B3 B4 SG CT MB IN OU OP [], by rw [dh_len]; rfl, dh_ap S, fun S' => by rw [← dh_ap]; exact dok.mk hd, _, rfl⟩
theorem mok_split {T U : List Nat} {P : Hp} {v : Int64} {cd mi mv mt : Nat} {W INm OUT IS IB : List Nat} (hm : mok g P [lc g v] T U cd mi mv mt W INm OUT IS IB h) : ∃ S0 : Hp, S0.length = 15 ∧ h = P ++ (S0 ++ [lc g v]) ∧ ∀ (P' : Hp) (v' : Int64), mok g P' [lc g v'] T U cd mi mv mt W INm OUT IS IB (P' ++ (S0 ++ [lc g v'])) := by
  obtain ⟨nr, nl, BLm, MV, ROW, TX, MA, SM, KP, f1, f2, f3, f4, f5, f6, rfl⟩ := hm
  refine ⟨moc g cd mi mv mt nr nl :: [W, T, U, INm, OUT, IS, IB, BLm, MV, ROW, TX, MA, SM, KP].map (ia g), rfl, ?_, fun P' v' => ⟨nr, nl, BLm, MV, ROW, TX, MA, SM, KP, f1, f2, f3, f4, f5, f6, ?_⟩⟩
  · unfold mh
    rfl
  · unfold mh
    rfl
/-- the cells of both and of the row of one long -/
def jh (g : Gp) (FO BA : List Nat) (v : Int64) (ct ni no : Nat) (NL : List Nat) (BL : List (List Nat)) (K1 K2 IN OU : List Nat) (cd mi mv mt : Nat) (W INm OUT IS IB : List Nat) (h : Hp) : Prop := ∃ S P : Hp, dok g S FO BA ct ni no NL BL K1 K2 IN OU h ∧ P.length = 44 ∧ mok g P [lc g v] FO BA cd mi mv mt W INm OUT IS IB h
variable {v : Int64} {cd mi mv mt : Nat} {W INm OUT IS IB : List Nat}
theorem jh_at (hj : jh g FO BA v ct ni no NL BL K1 K2 IN OU cd mi mv mt W INm OUT IS IB h) : ∃ (P S0 : Hp), P.length = 44 ∧ S0.length = 15 ∧ h = P ++ (S0 ++ [lc g v]) ∧ (∀ S', dok g S' FO BA ct ni no NL BL K1 K2 IN OU (P ++ S')) ∧ (∃ vs, P[0]? = some (.inr (0, vs))) ∧ ∀ (P' : Hp) (v' : Int64), mok g P' [lc g v'] FO BA cd mi mv mt W INm OUT IS IB (P' ++ (S0 ++ [lc g v'])) := by
  obtain ⟨S, P, hd, hP, hm⟩ := hj
  obtain ⟨P1, h1, e1, k1, c1⟩ := dok_split hd
  obtain ⟨S0, h2, e2, k2⟩ := mok_split hm
  have e : P1 ++ S = P ++ (S0 ++ [lc g v]) := e1.symm.trans e2
  obtain ⟨eP, eS⟩ := List.append_inj e (h1.trans hP.symm)
  exact ⟨P1, S0, h1, h2, by rw [eP]; exact e2, k1, c1, k2⟩
theorem jh_cls (hj : jh g FO BA v ct ni no NL BL K1 K2 IN OU cd mi mv mt W INm OUT IS IB h) : ∃ S : Hp, S.length = 16 ∧ dok g S FO BA ct ni no NL BL K1 K2 IN OU h ∧ ∀ {ct ni no : Nat} {NL : List Nat} {BL : List (List Nat)} {K1 K2 IN OU : List Nat} {h1 : Hp}, dok g S FO BA ct ni no NL BL K1 K2 IN OU h1 → jh g FO BA v ct ni no NL BL K1 K2 IN OU cd mi mv mt W INm OUT IS IB h1 := by
  obtain ⟨P, S0, hP, h0, e, k1, -, k2⟩ := jh_at hj
  refine ⟨S0 ++ [lc g v], by rw [List.length_append, h0]; rfl, by rw [e]; exact k1 _, fun hd' => ?_⟩
  obtain ⟨P2, h3, e3, -, -⟩ := dok_split hd'
  exact ⟨S0 ++ [lc g v], P2, hd', h3, by rw [e3]; exact k2 P2 v⟩
theorem jh_mod (hj : jh g FO BA v ct ni no NL BL K1 K2 IN OU cd mi mv mt W INm OUT IS IB h) : ∃ P : Hp, P.length = 44 ∧ mok g P [lc g v] FO BA cd mi mv mt W INm OUT IS IB h ∧ ∀ {cd mi mv mt : Nat} {W INm OUT IS IB : List Nat} {h1 : Hp}, mok g P [lc g v] FO BA cd mi mv mt W INm OUT IS IB h1 → jh g FO BA v ct ni no NL BL K1 K2 IN OU cd mi mv mt W INm OUT IS IB h1 := by
  obtain ⟨P, S0, hP, h0, e, k1, -, k2⟩ := jh_at hj
  refine ⟨P, hP, by rw [e]; exact k2 P v, fun hm' => ?_⟩
  obtain ⟨S3, l3, e3, -⟩ := mok_split hm'
  exact ⟨S3 ++ [lc g v], P, by rw [e3]; exact k1 _, hP, hm'⟩
theorem jh_59 (hj : jh g FO BA v ct ni no NL BL K1 K2 IN OU cd mi mv mt W INm OUT IS IB h) : h[59]? = some (lc g v) := by
  obtain ⟨P, S0, hP, h0, e, -⟩ := jh_at hj
  rw [e, List.getElem?_append_right (by omega), hP, List.getElem?_append_right (by omega), h0]
  rfl
theorem jh_len (hj : jh g FO BA v ct ni no NL BL K1 K2 IN OU cd mi mv mt W INm OUT IS IB h) : h.length = 60 := by
  obtain ⟨P, S0, hP, h0, e, -⟩ := jh_at hj
  rw [e, List.length_append, List.length_append, hP, h0]
  rfl
theorem jh_out (hj : jh g FO BA v ct ni no NL BL K1 K2 IN OU cd mi mv mt W INm OUT IS IB h) (v' : Int64) : jh g FO BA v' ct ni no NL BL K1 K2 IN OU cd mi mv mt W INm OUT IS IB (h.set 59 (lc g v')) := by
  obtain ⟨P, S0, hP, h0, e, k1, -, k2⟩ := jh_at hj
  have es : h.set 59 (lc g v') = P ++ (S0 ++ [lc g v']) := by
    rw [e, List.set_append_right _ _ (by omega), hP, List.set_append_right _ _ (by omega), h0]
    rfl
  rw [es]
  exact ⟨S0 ++ [lc g v'], P, k1 _, hP, k2 P v'⟩
theorem jh_0 (hj : jh g FO BA v ct ni no NL BL K1 K2 IN OU cd mi mv mt W INm OUT IS IB h) : ∃ vs, h[0]? = some (.inr (0, vs)) := by
  obtain ⟨P, S0, hP, h0, e, -, ⟨vs, hv⟩, -⟩ := jh_at hj
  exact ⟨vs, by rw [e, List.getElem?_append_left (by omega)]; exact hv⟩
theorem jh_44 (hj : jh g FO BA v ct ni no NL BL K1 K2 IN OU cd mi mv mt W INm OUT IS IB h) : ∃ vs, h[44]? = some (.inr (1, vs)) := by
  obtain ⟨P, hP, hm, -⟩ := jh_mod hj
  obtain ⟨nr, nl, BLm, MV, ROW, TX, MA, SM, KP, f1, f2, f3, f4, f5, f6, rfl⟩ := hm
  exact ⟨_, mo hP⟩
end JH
/-- both hold the same -/
def rl (ct ni no : Nat) (NL : List Nat) (BL : List (List Nat)) (K1 K2 IN OU W INm OUT IS IB : List Nat) : Prop := kr 0 W K1 ∧ kr 44 W K2 ∧ (∀ q, q < ni → IN.getD q 0 = INm.getD q 0) ∧ (∀ q, q < no → OU.getD q 0 = OUT.getD q 0) ∧ itr ct BL NL IB IS
def JSc (g : Gp) (FO BA : List Nat) (cd : Nat) (v : Int64) (h : Hp) : Prop := ∃ (ct ni no : Nat) (NL : List Nat) (BL : List (List Nat)) (K1 K2 IN OU W INm OUT IS IB : List Nat), jh g FO BA v ct ni no NL BL K1 K2 IN OU cd ni no ct W INm OUT IS IB h ∧ dst0 FO BA ct ni no NL BL K1 K2 IN OU ∧ mst0 FO BA ni no ct W INm OUT IS IB ∧ rl ct ni no NL BL K1 K2 IN OU W INm OUT IS IB
theorem JSc.mk {g : Gp} {FO BA : List Nat} {cd : Nat} {v : Int64} {h : Hp} {ct ni no : Nat} {NL : List Nat} {BL : List (List Nat)} {K1 K2 IN OU : List Nat} {W INm OUT IS IB : List Nat} (hj : jh g FO BA v ct ni no NL BL K1 K2 IN OU cd ni no ct W INm OUT IS IB h) (hs : dst0 FO BA ct ni no NL BL K1 K2 IN OU) (hm : mst0 FO BA ni no ct W INm OUT IS IB) (hr : rl ct ni no NL BL K1 K2 IN OU W INm OUT IS IB) : JSc g FO BA cd v h := ⟨ct, ni, no, NL, BL, K1, K2, IN, OU, W, INm, OUT, IS, IB, hj, hs, hm, hr⟩
theorem JSc.r44 {g : Gp} {FO BA : List Nat} {cd : Nat} {v : Int64} {h : Hp} (hJ : JSc g FO BA cd v h) : ∃ vs, h[44]? = some (.inr (1, vs)) := by
  obtain ⟨ct, ni, no, NL, BL, K1, K2, IN, OU, W, INm, OUT, IS, IB, hj, hs, hm, hr⟩ := hJ
  exact jh_44 hj
theorem JSc.r0 {g : Gp} {FO BA : List Nat} {cd : Nat} {v : Int64} {h : Hp} (hJ : JSc g FO BA cd v h) : ∃ vs, h[0]? = some (.inr (0, vs)) := by
  obtain ⟨ct, ni, no, NL, BL, K1, K2, IN, OU, W, INm, OUT, IS, IB, hj, hs, hm, hr⟩ := hJ
  exact jh_0 hj
theorem JSc.r59 {g : Gp} {FO BA : List Nat} {cd : Nat} {v : Int64} {h : Hp} (hJ : JSc g FO BA cd v h) : h[59]? = some (lc g v) := by
  obtain ⟨ct, ni, no, NL, BL, K1, K2, IN, OU, W, INm, OUT, IS, IB, hj, hs, hm, hr⟩ := hJ
  exact jh_59 hj

theorem q_key_ok {g : Gp} {P S : Hp} {T U : List Nat} {cd ni no nt : Nat} {W IN OUT IS IB : List Nat} {h : Hp} {w a b c d : Nat} (hP : P.length = 44) (hs : mst0 T U ni no nt W IN OUT IS IB) (hm : mok g P S T U cd ni no nt W IN OUT IS IB h) (hw : w < 2) (ha : a < 2 ^ 32) (hb : b < 2 ^ 32) (hc : c < 2 ^ 32) (hd : d < 2 ^ 32) : Con g M_Model_key 2 (0, 0) [.ref (zA (gz g) 44), .int (nI w), .int (nI a), .int (nI b), .int (nI c), .int (nI d)] h (fun o h' => o = .returned (none) ∧ mok g P S T U 0 ni no nt (mky T (44 * w) a b c d W) IN OUT IS IB h') := by
  obtain ⟨nr, nl, BL, MV, ROW, TX, MA, SM, KP, f1, f2, f3, f4, f5, f6, rfl⟩ := hm
  exact (cm_key_ok hP hs.2.2.1 hs.1 hw ha hb hc hd).weaken (fun o h' hp => ⟨hp.1, nr, nl, BL, MV, ROW, TX, MA, SM, KP, f1, f2, f3, f4, f5, f6, hp.2⟩)
theorem q_key_bad {g : Gp} {P S : Hp} {T U : List Nat} {cd ni no nt : Nat} {W IN OUT IS IB : List Nat} {h : Hp} {x y1 y2 y3 y4 : Int32} (hP : P.length = 44) (hs : mst0 T U ni no nt W IN OUT IS IB) (hm : mok g P S T U cd ni no nt W IN OUT IS IB h) (hx : x < 0 ∨ ¬ x ≤ nI 1) : Con g M_Model_key 2 (0, 0) [.ref (zA (gz g) 44), .int x, .int y1, .int y2, .int y3, .int y4] h (fun o h' => o = .returned (none) ∧ mok g P S T U 1 ni no nt W IN OUT IS IB h') := by
  obtain ⟨nr, nl, BL, MV, ROW, TX, MA, SM, KP, f1, f2, f3, f4, f5, f6, rfl⟩ := hm
  exact (cm_key_bad hP hx).weaken (fun o h' hp => ⟨hp.1, nr, nl, BL, MV, ROW, TX, MA, SM, KP, f1, f2, f3, f4, f5, f6, hp.2⟩)
theorem q_feed_ok {g : Gp} {P S : Hp} {T U : List Nat} {cd ni no nt : Nat} {W IN OUT IS IB : List Nat} {h : Hp} {w n : Nat} (hP : P.length = 44) (hs : mst0 T U ni no nt W IN OUT IS IB) (hm : mok g P S T U cd ni no nt W IN OUT IS IB h) (hw : w < 2 ^ 32) (hn : 1 ≤ n ∧ n ≤ 4) (hni : ni + n ≤ 88) : Con g M_Model_feed 0 (0, 0) [.ref (zA (gz g) 44), .int (nI w), .int (nI n)] h (fun o h' => o = .returned (some (.int (nI (ni + n)))) ∧ mok g P S T U 0 (ni + n) no nt W (it (fdm w ni) 0 n IN) OUT IS IB h') := by
  obtain ⟨nr, nl, BL, MV, ROW, TX, MA, SM, KP, f1, f2, f3, f4, f5, f6, rfl⟩ := hm
  exact (cm_feed_ok hP hs.2.2.2.1.1 hw hn hni).weaken (fun o h' hp => ⟨hp.1, nr, nl, BL, MV, ROW, TX, MA, SM, KP, f1, f2, f3, f4, f5, f6, hp.2⟩)
theorem q_feed_full {g : Gp} {P S : Hp} {T U : List Nat} {cd ni no nt : Nat} {W IN OUT IS IB : List Nat} {h : Hp} {n : Nat} {x : Int32} (hP : P.length = 44) (hs : mst0 T U ni no nt W IN OUT IS IB) (hm : mok g P S T U cd ni no nt W IN OUT IS IB h) (hn : 1 ≤ n ∧ n ≤ 4) (hni : 88 < ni + n ∧ ni ≤ 88) : Con g M_Model_feed 0 (0, 0) [.ref (zA (gz g) 44), .int x, .int (nI n)] h (fun o h' => o = .returned (some (.int (nI 0))) ∧ mok g P S T U 2 ni no nt W IN OUT IS IB h') := by
  obtain ⟨nr, nl, BL, MV, ROW, TX, MA, SM, KP, f1, f2, f3, f4, f5, f6, rfl⟩ := hm
  exact (cm_feed_full hP hn hni).weaken (fun o h' hp => ⟨hp.1, nr, nl, BL, MV, ROW, TX, MA, SM, KP, f1, f2, f3, f4, f5, f6, hp.2⟩)
theorem q_feed_bad {g : Gp} {P S : Hp} {T U : List Nat} {cd ni no nt : Nat} {W IN OUT IS IB : List Nat} {h : Hp} {x y : Int32} (hP : P.length = 44) (hs : mst0 T U ni no nt W IN OUT IS IB) (hm : mok g P S T U cd ni no nt W IN OUT IS IB h) (hx : y < nI 1 ∨ ¬ y ≤ nI 4) : Con g M_Model_feed 0 (0, 0) [.ref (zA (gz g) 44), .int x, .int y] h (fun o h' => o = .returned (some (.int (nI 0))) ∧ mok g P S T U 1 ni no nt W IN OUT IS IB h') := by
  obtain ⟨nr, nl, BL, MV, ROW, TX, MA, SM, KP, f1, f2, f3, f4, f5, f6, rfl⟩ := hm
  exact (cm_feed_bad hP hx).weaken (fun o h' hp => ⟨hp.1, nr, nl, BL, MV, ROW, TX, MA, SM, KP, f1, f2, f3, f4, f5, f6, hp.2⟩)
theorem q_alter_ok {g : Gp} {P S : Hp} {T U : List Nat} {cd ni no nt : Nat} {W IN OUT IS IB : List Nat} {h : Hp} {k v : Nat} (hP : P.length = 44) (hs : mst0 T U ni no nt W IN OUT IS IB) (hm : mok g P S T U cd ni no nt W IN OUT IS IB h) (hk : k < ni) (hv : v < 256) : Con g M_Model_alter 0 (0, 0) [.ref (zA (gz g) 44), .int (nI k), .int (nI v)] h (fun o h' => o = .returned (none) ∧ mok g P S T U 0 ni no nt W (IN.set k v) OUT IS IB h') := by
  obtain ⟨nr, nl, BL, MV, ROW, TX, MA, SM, KP, f1, f2, f3, f4, f5, f6, rfl⟩ := hm
  exact (cm_alter_ok hP hs.2.2.2.1.1 hk hs.2.2.2.2.2.2.2.1 hv).weaken (fun o h' hp => ⟨hp.1, nr, nl, BL, MV, ROW, TX, MA, SM, KP, f1, f2, f3, f4, f5, f6, hp.2⟩)
theorem q_alter_bad {g : Gp} {P S : Hp} {T U : List Nat} {cd ni no nt : Nat} {W IN OUT IS IB : List Nat} {h : Hp} {x y : Int32} (hP : P.length = 44) (hs : mst0 T U ni no nt W IN OUT IS IB) (hm : mok g P S T U cd ni no nt W IN OUT IS IB h) (hx : x < 0 ∨ nI ni ≤ x) : Con g M_Model_alter 0 (0, 0) [.ref (zA (gz g) 44), .int x, .int y] h (fun o h' => o = .returned (none) ∧ mok g P S T U 1 ni no nt W IN OUT IS IB h') := by
  obtain ⟨nr, nl, BL, MV, ROW, TX, MA, SM, KP, f1, f2, f3, f4, f5, f6, rfl⟩ := hm
  exact (cm_alter_bad hP hx).weaken (fun o h' hp => ⟨hp.1, nr, nl, BL, MV, ROW, TX, MA, SM, KP, f1, f2, f3, f4, f5, f6, hp.2⟩)
theorem q_alter_byte {g : Gp} {P S : Hp} {T U : List Nat} {cd ni no nt : Nat} {W IN OUT IS IB : List Nat} {h : Hp} {k : Nat} {y : Int32} (hP : P.length = 44) (hs : mst0 T U ni no nt W IN OUT IS IB) (hm : mok g P S T U cd ni no nt W IN OUT IS IB h) (hk : k < ni) (hy : y < 0 ∨ ¬ y ≤ nI 255) : Con g M_Model_alter 0 (0, 0) [.ref (zA (gz g) 44), .int (nI k), .int y] h (fun o h' => o = .returned (none) ∧ mok g P S T U 2 ni no nt W IN OUT IS IB h') := by
  obtain ⟨nr, nl, BL, MV, ROW, TX, MA, SM, KP, f1, f2, f3, f4, f5, f6, rfl⟩ := hm
  exact (cm_alter_byte hP hk hs.2.2.2.2.2.2.2.1 hy).weaken (fun o h' hp => ⟨hp.1, nr, nl, BL, MV, ROW, TX, MA, SM, KP, f1, f2, f3, f4, f5, f6, hp.2⟩)
theorem q_item_ok {g : Gp} {P S : Hp} {T U : List Nat} {cd ni no nt : Nat} {W IN OUT IS IB : List Nat} {h : Hp}  (hP : P.length = 44) (hs : mst0 T U ni no nt W IN OUT IS IB) (hm : mok g P S T U cd ni no nt W IN OUT IS IB h) (hn : ni ≤ 40) (ht : nt < 5) : Con g M_Model_item 0 (0, 0) [.ref (zA (gz g) 44)] h (fun o h' => o = .returned (some (.int (nI (nt + 1)))) ∧ mok g P S T U 0 0 no (nt + 1) W IN OUT (IS.set nt ni) (it (itp IN nt) 0 ni IB) h') := by
  obtain ⟨nr, nl, BL, MV, ROW, TX, MA, SM, KP, f1, f2, f3, f4, f5, f6, rfl⟩ := hm
  exact (cm_item_ok hP hs.2.2.2.1.1 hs.2.2.2.2.2.2.1.1 hs.2.2.2.2.2.1.1 hn ht).weaken (fun o h' hp => ⟨hp.1, nr, nl, BL, MV, ROW, TX, MA, SM, KP, f1, f2, f3, f4, f5, f6, hp.2⟩)
theorem q_item_long {g : Gp} {P S : Hp} {T U : List Nat} {cd ni no nt : Nat} {W IN OUT IS IB : List Nat} {h : Hp}  (hP : P.length = 44) (hs : mst0 T U ni no nt W IN OUT IS IB) (hm : mok g P S T U cd ni no nt W IN OUT IS IB h) (hn : 40 < ni) : Con g M_Model_item 0 (0, 0) [.ref (zA (gz g) 44)] h (fun o h' => o = .returned (some (.int (nI 0))) ∧ mok g P S T U 1 ni no nt W IN OUT IS IB h') := by
  obtain ⟨nr, nl, BL, MV, ROW, TX, MA, SM, KP, f1, f2, f3, f4, f5, f6, rfl⟩ := hm
  exact (cm_item_long hP ⟨hn, hs.2.2.2.2.2.2.2.1⟩).weaken (fun o h' hp => ⟨hp.1, nr, nl, BL, MV, ROW, TX, MA, SM, KP, f1, f2, f3, f4, f5, f6, hp.2⟩)
theorem q_item_full {g : Gp} {P S : Hp} {T U : List Nat} {cd ni no nt : Nat} {W IN OUT IS IB : List Nat} {h : Hp}  (hP : P.length = 44) (hs : mst0 T U ni no nt W IN OUT IS IB) (hm : mok g P S T U cd ni no nt W IN OUT IS IB h) (hn : ni ≤ 40) (ht : nt = 5) : Con g M_Model_item 0 (0, 0) [.ref (zA (gz g) 44)] h (fun o h' => o = .returned (some (.int (nI 0))) ∧ mok g P S T U 2 ni no nt W IN OUT IS IB h') := by
  obtain ⟨nr, nl, BL, MV, ROW, TX, MA, SM, KP, f1, f2, f3, f4, f5, f6, rfl⟩ := hm
  exact (cm_item_full hP hn ht).weaken (fun o h' hp => ⟨hp.1, nr, nl, BL, MV, ROW, TX, MA, SM, KP, f1, f2, f3, f4, f5, f6, hp.2⟩)
theorem q_size {g : Gp} {P S : Hp} {T U : List Nat} {cd ni no nt : Nat} {W IN OUT IS IB : List Nat} {h : Hp}  (hP : P.length = 44) (hs : mst0 T U ni no nt W IN OUT IS IB) (hm : mok g P S T U cd ni no nt W IN OUT IS IB h)  : Con g M_Model_size 0 (0, 0) [.ref (zA (gz g) 44)] h (fun o h' => o = .returned (some (.int (nI no))) ∧ mok g P S T U 0 ni no nt W IN OUT IS IB h') := by
  obtain ⟨nr, nl, BL, MV, ROW, TX, MA, SM, KP, f1, f2, f3, f4, f5, f6, rfl⟩ := hm
  exact (cm_size hP).weaken (fun o h' hp => ⟨hp.1, nr, nl, BL, MV, ROW, TX, MA, SM, KP, f1, f2, f3, f4, f5, f6, hp.2⟩)
theorem q_drop {g : Gp} {P S : Hp} {T U : List Nat} {cd ni no nt : Nat} {W IN OUT IS IB : List Nat} {h : Hp}  (hP : P.length = 44) (hs : mst0 T U ni no nt W IN OUT IS IB) (hm : mok g P S T U cd ni no nt W IN OUT IS IB h)  : Con g M_Model_drop 0 (0, 0) [.ref (zA (gz g) 44)] h (fun o h' => o = .returned (none) ∧ mok g P S T U 0 0 no nt W IN OUT IS IB h') := by
  obtain ⟨nr, nl, BL, MV, ROW, TX, MA, SM, KP, f1, f2, f3, f4, f5, f6, rfl⟩ := hm
  exact (cm_drop hP).weaken (fun o h' hp => ⟨hp.1, nr, nl, BL, MV, ROW, TX, MA, SM, KP, f1, f2, f3, f4, f5, f6, hp.2⟩)
theorem q_forget {g : Gp} {P S : Hp} {T U : List Nat} {cd ni no nt : Nat} {W IN OUT IS IB : List Nat} {h : Hp}  (hP : P.length = 44) (hs : mst0 T U ni no nt W IN OUT IS IB) (hm : mok g P S T U cd ni no nt W IN OUT IS IB h)  : Con g M_Model_forget 0 (0, 0) [.ref (zA (gz g) 44)] h (fun o h' => o = .returned (some (.int (nI nt))) ∧ mok g P S T U 0 ni no 0 W IN OUT IS IB h') := by
  obtain ⟨nr, nl, BL, MV, ROW, TX, MA, SM, KP, f1, f2, f3, f4, f5, f6, rfl⟩ := hm
  exact (cm_forget hP).weaken (fun o h' hp => ⟨hp.1, nr, nl, BL, MV, ROW, TX, MA, SM, KP, f1, f2, f3, f4, f5, f6, hp.2⟩)
theorem q_take {g : Gp} {P S : Hp} {T U : List Nat} {cd ni no nt : Nat} {W IN OUT IS IB : List Nat} {h : Hp}  (hP : P.length = 44) (hs : mst0 T U ni no nt W IN OUT IS IB) (hm : mok g P S T U cd ni no nt W IN OUT IS IB h)  : Con g M_Model_take 0 (0, 0) [.ref (zA (gz g) 44)] h (fun o h' => o = .returned (some (.int (nI no))) ∧ mok g P S T U 0 no no nt W (it (cp1 OUT) 0 no IN) OUT IS IB h') := by
  obtain ⟨nr, nl, BL, MV, ROW, TX, MA, SM, KP, f1, f2, f3, f4, f5, f6, rfl⟩ := hm
  exact (cm_take hP hs.2.2.2.1.1 hs.2.2.2.2.1.1 hs.2.2.2.2.2.2.2.2.1).weaken (fun o h' hp => ⟨hp.1, nr, nl, BL, MV, ROW, TX, MA, SM, KP, f1, f2, f3, f4, f5, f6, hp.2⟩)
theorem q_at_ok {g : Gp} {P S : Hp} {T U : List Nat} {cd ni no nt : Nat} {W IN OUT IS IB : List Nat} {h : Hp} {k : Nat} (hP : P.length = 44) (hs : mst0 T U ni no nt W IN OUT IS IB) (hm : mok g P S T U cd ni no nt W IN OUT IS IB h) (hk : k < no) : Con g M_Model_at 0 (0, 0) [.ref (zA (gz g) 44), .int (nI k)] h (fun o h' => o = .returned (some (.int (nI (OUT.getD k 0)))) ∧ mok g P S T U 0 ni no nt W IN OUT IS IB h') := by
  obtain ⟨nr, nl, BL, MV, ROW, TX, MA, SM, KP, f1, f2, f3, f4, f5, f6, rfl⟩ := hm
  exact (cm_at_ok hP hs.2.2.2.2.1.1 hk hs.2.2.2.2.2.2.2.2.1).weaken (fun o h' hp => ⟨hp.1, nr, nl, BL, MV, ROW, TX, MA, SM, KP, f1, f2, f3, f4, f5, f6, hp.2⟩)
theorem q_at_bad {g : Gp} {P S : Hp} {T U : List Nat} {cd ni no nt : Nat} {W IN OUT IS IB : List Nat} {h : Hp} {x : Int32} (hP : P.length = 44) (hs : mst0 T U ni no nt W IN OUT IS IB) (hm : mok g P S T U cd ni no nt W IN OUT IS IB h) (hx : x < 0 ∨ nI no ≤ x) : Con g M_Model_at 0 (0, 0) [.ref (zA (gz g) 44), .int x] h (fun o h' => o = .returned (some (.int (nI 0))) ∧ mok g P S T U 1 ni no nt W IN OUT IS IB h') := by
  obtain ⟨nr, nl, BL, MV, ROW, TX, MA, SM, KP, f1, f2, f3, f4, f5, f6, rfl⟩ := hm
  exact (cm_at_bad hP hx).weaken (fun o h' hp => ⟨hp.1, nr, nl, BL, MV, ROW, TX, MA, SM, KP, f1, f2, f3, f4, f5, f6, hp.2⟩)
theorem JSc.thrown {g : Gp} {FO BA : List Nat} {cd : Nat} {v : Int64} {h : Hp} (hJ : JSc g FO BA cd v h) : Con g M_Model_thrown 0 (0, 0) [.ref (zA (gz g) 44)] h (Ret (some (.int (nI cd))) h) := by
  obtain ⟨ct, ni, no, NL, BL, K1, K2, IN, OU, W, INm, OUT, IS, IB, hj, hs, hm, hr⟩ := hJ
  obtain ⟨P, hP, hm, -⟩ := jh_mod hj
  obtain ⟨nr, nl, BLm, MV, ROW, TX, MA, SM, KP, f1, f2, f3, f4, f5, f6, rfl⟩ := hm
  exact cm_thrown hP
