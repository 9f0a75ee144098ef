/-! The desk: what it holds between calls; its methods where they return. -/
section XD
variable {g : Gp} {f : Fm} {md : MD} {fr : Nat} {mc : Nat × Nat} {Post : Outcome → Hp → Prop} {n : Nat × Nat} {pc : Nat} {L : List (Option Value)} {st : List Value} {h : Hp} {M : MD} {fr2 na idx : Nat} {Post2 : Outcome → Hp → Prop} {As rest : List Value}
theorem x_rlenN {a t N : Nat} {ty : FieldType} {A : List (Option Nat)} (C : Cx g f md fr mc) (d : decode md.2.1 pc = .ok (.arraylength, 1)) (ha : h[a]? = some (ra g t A)) (ht : (gT g)[t]? = some (gC g t, ty)) (hN : A.length = N) (k : X g f md mc Post n (pc + 1) L (.int (nI N) :: st) h) : X g f md mc Post n pc L (.ref (zA (gz g) a) :: st) h :=
  x_rlen C d ha ht (by rw [hN]; exact k)
theorem x_cU {a ci : Nat} {x : MethodName} {owner : String} {vs : List Value} (C : Cx g f md fr mc) (d : decode md.2.1 pc = .ok (.invokevirtual idx, 3)) (hw : Cond.methodLink md.1.cls idx x ∈ tb) (hsm : Cond.sameMethod x.cls owner x.name x.desc ∈ tb) (hsel : Cond.selects (Tc ci).1 x M.1 ∈ tb) (hdc : (⟨owner, x.name, x.desc⟩ : MethodName) ∈ nwD) (hm : mU M na) (hpx : owner ≠ "java/lang/invoke/MethodHandle" ∧ owner ≠ "java/lang/invoke/VarHandle" ∧ (parseMethodDescriptor x.desc).map (fun d => d.parameters.length) = some na) (hci : Nat.blt ci Cls.length = true) (ha : h[a]? = some (.inr (ci, vs))) (hc : Con g M fr2 (0, 0) (.ref (zA (gz g) a) :: As) h Post2)
    (hst : st = As.reverse ++ .ref (zA (gz g) a) :: rest) (hlen : As.length = na) (hcat : Nat.ble (rest.map fun v => v.category).sum 8 = true) (hfr : rmK fr2 fr M.2.2.1 = true) (hmc : n.1 ≤ mc.1 ∧ n.2 ≤ mc.2)
    (k : ∀ o h2, Post2 o h2 → ∃ r, o = .returned r ∧ X g f md mc Post n (pc + 3) L (r.toList ++ rest) h2) : X g f md mc Post n pc L st h :=
  x_callU C d hw hsm hsel hdc hm hpx hci ha hc hst hlen hcat hfr hmc k
theorem x_cU1 {a ci : Nat} {x : MethodName} {owner : String} {vs : List Value} {v : Value} {h2 : Hp} (C : Cx g f md fr mc) (d : decode md.2.1 pc = .ok (.invokevirtual idx, 3)) (hw : Cond.methodLink md.1.cls idx x ∈ tb) (hsm : Cond.sameMethod x.cls owner x.name x.desc ∈ tb) (hsel : Cond.selects (Tc ci).1 x M.1 ∈ tb) (hdc : (⟨owner, x.name, x.desc⟩ : MethodName) ∈ nwD) (hm : mU M na) (hpx : owner ≠ "java/lang/invoke/MethodHandle" ∧ owner ≠ "java/lang/invoke/VarHandle" ∧ (parseMethodDescriptor x.desc).map (fun d => d.parameters.length) = some na) (hci : Nat.blt ci Cls.length = true) (ha : h[a]? = some (.inr (ci, vs))) (hc : Con g M fr2 (0, 0) (.ref (zA (gz g) a) :: As) h (Ret (some v) h2))
    (hst : st = As.reverse ++ .ref (zA (gz g) a) :: rest) (hlen : As.length = na) (hcat : Nat.ble (rest.map fun v => v.category).sum 8 = true) (hfr : rmK fr2 fr M.2.2.1 = true) (hmc : n.1 ≤ mc.1 ∧ n.2 ≤ mc.2)
    (k : X g f md mc Post n (pc + 3) L (v :: rest) h2) : X g f md mc Post n pc L st h :=
  x_callU C d hw hsm hsel hdc hm hpx hci ha hc hst hlen hcat hfr hmc (fun o h3 hp => ⟨some v, hp.1, by rw [hp.2]; exact k⟩)
end XD
theorem has1 {k n : Nat} (hk : k < n) (hn : n < 2 ^ 31) : (if nI k < 0 ∨ nI n ≤ nI k then nI 0 else nI 1) = nI 1 := by
  refine if_neg (fun q => ?_)
  rcases q with q | q
  · have := (nI_ltI (a := k) (b := 0) (by omega) (by omega)).mp (by rw [nI_0]; exact q)
    omega
  · have := (nI_leI (by omega) (by omega)).mp q
    omega
def dsc (nj np : Nat) (F1 F2 WB TW SM JB SG CT MB OP : List Nat) : Prop := F1.length = 16 ∧ F2.length = 16 ∧ l16 WB ∧ l16 TW ∧ l16 SM ∧ l88 JB ∧ l16 SG ∧ l16 CT ∧ l16 MB ∧ l88 OP ∧ nj ≤ 88 ∧ np ≤ 88
/-- the desk's cells hold: how many items, bytes of the input, of the output; the items' lengths and bytes; the keys; input and output -/
def dok (g : Gp) (S : Hp) (FO BA : List Nat) (ct ni no : Nat) (NL : List Nat) (BL : List (List Nat)) (K1 K2 IN OU : List Nat) (h : Hp) : Prop :=
  ∃ (nj n0 n1 n2 n3 n4 np : Nat) (PW F1 F2 WB TW SM JB B0 B1 B2 B3 B4 SG CT MB OP : List Nat), NL = [n0, n1, n2, n3, n4] ∧ BL = [B0, B1, B2, B3, B4] ∧ dsc nj np F1 F2 WB TW SM JB SG CT MB OP ∧ h = (dh g nj ct n0 n1 n2 n3 n4 ni no np FO BA PW K1 F1 K2 F2 WB TW SM JB B0 B1 B2 B3 B4 SG CT MB IN OU OP S)
theorem dok.mk {g : Gp} {nj ct n0 n1 n2 n3 n4 ni no np : Nat} {FO BA PW K1 F1 K2 F2 WB TW SM JB B0 B1 B2 B3 B4 SG CT MB IN OU OP : List Nat} {S : Hp} (hd : dsc nj np F1 F2 WB TW SM JB SG CT MB OP) : dok g S FO BA ct ni no [n0, n1, n2, n3, n4] [B0, B1, B2, B3, B4] K1 K2 IN OU (dh g nj ct n0 n1 n2 n3 n4 ni no np FO BA PW K1 F1 K2 F2 WB TW SM JB B0 B1 B2 B3 B4 SG CT MB IN OU OP S) :=
  ⟨nj, n0, n1, n2, n3, n4, np, PW, F1, F2, WB, TW, SM, JB, B0, B1, B2, B3, B4, SG, CT, MB, OP, rfl, rfl, hd, rfl⟩
def dst0 (FO BA : List Nat) (ct ni no : Nat) (NL : List Nat) (BL : List (List Nat)) (K1 K2 IN OU : List Nat) : Prop :=
  tok FO BA ∧ kok K1 ∧ kok K2 ∧ l88 IN ∧ l88 OU ∧ (∀ i, i < 5 → l88 (BL.getD i []) ∧ NL.getD i 0 ≤ 40) ∧ ct ≤ 5 ∧ ni ≤ 88 ∧ no ≤ 88
def dre (g : Gp) (S : Hp) (FO BA : List Nat) (r : Option Value) (ct ni no : Nat) (NL : List Nat) (BL : List (List Nat)) (K1 K2 IN OU : List Nat) : Outcome → Hp → Prop := fun o h' => o = .returned r ∧ dok g S FO BA ct ni no NL BL K1 K2 IN OU h'

theorem d_key0 {g : Gp} {S : Hp} {FO BA : List Nat} {ct ni no : Nat} {NL : List Nat} {BL : List (List Nat)} {K1 K2 IN OU : List Nat} {h : Hp} (hs : dst0 FO BA ct ni no NL BL K1 K2 IN OU) (hd : dok g S FO BA ct ni no NL BL K1 K2 IN OU h) {a b c d : Nat} (ha : a < 2 ^ 32) (hb : b < 2 ^ 32) (hc : c < 2 ^ 32) (hdd : d < 2 ^ 32) :
    Con g M_Desk_key 6 (0, 0) [.ref (zA (gz g) 0), .int (nI 0), .int (nI a), .int (nI b), .int (nI c), .int (nI d)] h (dre g S FO BA none ct ni no NL BL (keys FO a b c d K1) K2 IN OU) := by
  obtain ⟨hT, hK1, hK2, hIN, hOU, hI, hct, hni, hno⟩ := hs
  obtain ⟨nj, n0, n1, n2, n3, n4, np, PW, F1, F2, WB, TW, SM, JB, B0, B1, B2, B3, B4, SG, CT, MB, OP, rfl, rfl, ⟨hF1, hF2, hWB, hTW, hSM, hJB, hSG, hCT, hMB, hOP, hnj, hnp⟩, rfl⟩ := hd
  have hil := hIN.1
  have hol := hOU.1
  have hpl := hOP.1
  refine Con.of (by decide) rfl rfl (L := [some (.ref (zA (gz g) 0)), some (.int (nI 0)), some (.int (nI a)), some (.int (nI b)), some (.int (nI c)), some (.int (nI d))]) rfl (fun f C => ?_)
  refine x_iload_n (pc := 0) C (dq D_Desk_key 0 rfl) rfl ?_
  refine n_iflt_f (pc := 1) (tgt := 13) C (dq D_Desk_key 1 rfl) (by decide) (by omega) (by omega) ?_
  refine x_iload_n (pc := 4) C (dq D_Desk_key 2 rfl) rfl ?_
  refine x_aload_n (pc := 5) C (dq D_Desk_key 3 rfl) rfl ?_
  refine x_get (pc := 6) (ci := 0) (j := 0) C (dq D_Desk_key 4 rfl) rfl rfl rfl rfl k_fl_Desk_26 ?_
  refine x_rlenN (pc := 9) (N := 2) C (dq D_Desk_key 5 rfl) rfl rfl rfl ?_
  refine n_lt_t (pc := 10) (tgt := 23) C (dq D_Desk_key 6 rfl) (by decide) (by omega) (by omega) ?_
  refine x_aload_n (pc := 23) C (dq D_Desk_key 12 rfl) rfl ?_
  refine x_get (pc := 24) (ci := 0) (j := 0) C (dq D_Desk_key 13 rfl) rfl rfl rfl rfl k_fl_Desk_26 ?_
  refine x_iload_n (pc := 27) C (dq D_Desk_key 14 rfl) rfl ?_
  refine x_aald (pc := 28) C (dq D_Desk_key 15 rfl) rfl rfl rfl (by simp) ?_
  refine x_iload_n (pc := 29) C (dq D_Desk_key 16 rfl) rfl ?_
  refine x_iload_n (pc := 30) C (dq D_Desk_key 17 rfl) rfl ?_
  refine x_iload (pc := 31) C (dq D_Desk_key 18 rfl) rfl ?_
  refine x_iload (pc := 33) C (dq D_Desk_key 19 rfl) rfl ?_
  refine x_cV0 (pc := 35) (ci := 2) (M := M_Cipher_use) C (dq D_Desk_key 20 rfl) k_ml_Desk_81 m_Cipher_use rfl rfl rfl (c_use (cc := 5) (t := 1) (rk := 6) (bf := 7) (fo := 2) (ba := 3) rfl rfl rfl rfl (by decide) hT.1.1 hK1.1 hT.1.2 hK1.2 ha hb hc hdd) rfl rfl rfl rfl (by decide) ?_
  rw [dh_s6]
  exact x_vret (pc := 38) C (dq D_Desk_key 21 rfl) rfl (by decide) ⟨rfl, dok.mk ⟨hF1, hF2, hWB, hTW, hSM, hJB, hSG, hCT, hMB, hOP, hnj, hnp⟩⟩

theorem d_key1 {g : Gp} {S : Hp} {FO BA : List Nat} {ct ni no : Nat} {NL : List Nat} {BL : List (List Nat)} {K1 K2 IN OU : List Nat} {h : Hp} (hs : dst0 FO BA ct ni no NL BL K1 K2 IN OU) (hd : dok g S FO BA ct ni no NL BL K1 K2 IN OU h) {a b c d : Nat} (ha : a < 2 ^ 32) (hb : b < 2 ^ 32) (hc : c < 2 ^ 32) (hdd : d < 2 ^ 32) :
    Con g M_Desk_key 6 (0, 0) [.ref (zA (gz g) 0), .int (nI 1), .int (nI a), .int (nI b), .int (nI c), .int (nI d)] h (dre g S FO BA none ct ni no NL BL K1 (keys FO a b c d K2) IN OU) := by
  obtain ⟨hT, hK1, hK2, hIN, hOU, hI, hct, hni, hno⟩ := hs
  obtain ⟨nj, n0, n1, n2, n3, n4, np, PW, F1, F2, WB, TW, SM, JB, B0, B1, B2, B3, B4, SG, CT, MB, OP, rfl, rfl, ⟨hF1, hF2, hWB, hTW, hSM, hJB, hSG, hCT, hMB, hOP, hnj, hnp⟩, rfl⟩ := hd
  have hil := hIN.1
  have hol := hOU.1
  have hpl := hOP.1
  refine Con.of (by decide) rfl rfl (L := [some (.ref (zA (gz g) 0)), some (.int (nI 1)), some (.int (nI a)), some (.int (nI b)), some (.int (nI c)), some (.int (nI d))]) rfl (fun f C => ?_)
  refine x_iload_n (pc := 0) C (dq D_Desk_key 0 rfl) rfl ?_
  refine n_iflt_f (pc := 1) (tgt := 13) C (dq D_Desk_key 1 rfl) (by decide) (by omega) (by omega) ?_
  refine x_iload_n (pc := 4) C (dq D_Desk_key 2 rfl) rfl ?_
  refine x_aload_n (pc := 5) C (dq D_Desk_key 3 rfl) rfl ?_
  refine x_get (pc := 6) (ci := 0) (j := 0) C (dq D_Desk_key 4 rfl) rfl rfl rfl rfl k_fl_Desk_26 ?_
  refine x_rlenN (pc := 9) (N := 2) C (dq D_Desk_key 5 rfl) rfl rfl rfl ?_
  refine n_lt_t (pc := 10) (tgt := 23) C (dq D_Desk_key 6 rfl) (by decide) (by omega) (by omega) ?_
  refine x_aload_n (pc := 23) C (dq D_Desk_key 12 rfl) rfl ?_
  refine x_get (pc := 24) (ci := 0) (j := 0) C (dq D_Desk_key 13 rfl) rfl rfl rfl rfl k_fl_Desk_26 ?_
  refine x_iload_n (pc := 27) C (dq D_Desk_key 14 rfl) rfl ?_
  refine x_aald (pc := 28) C (dq D_Desk_key 15 rfl) rfl rfl rfl (by simp) ?_
  refine x_iload_n (pc := 29) C (dq D_Desk_key 16 rfl) rfl ?_
  refine x_iload_n (pc := 30) C (dq D_Desk_key 17 rfl) rfl ?_
  refine x_iload (pc := 31) C (dq D_Desk_key 18 rfl) rfl ?_
  refine x_iload (pc := 33) C (dq D_Desk_key 19 rfl) rfl ?_
  refine x_cV0 (pc := 35) (ci := 2) (M := M_Cipher_use) C (dq D_Desk_key 20 rfl) k_ml_Desk_81 m_Cipher_use rfl rfl rfl (c_use (cc := 8) (t := 1) (rk := 9) (bf := 10) (fo := 2) (ba := 3) rfl rfl rfl rfl (by decide) hT.1.1 hK2.1 hT.1.2 hK2.2 ha hb hc hdd) rfl rfl rfl rfl (by decide) ?_
  rw [dh_s9]
  exact x_vret (pc := 38) C (dq D_Desk_key 21 rfl) rfl (by decide) ⟨rfl, dok.mk ⟨hF1, hF2, hWB, hTW, hSM, hJB, hSG, hCT, hMB, hOP, hnj, hnp⟩⟩

theorem d_feed {g : Gp} {S : Hp} {FO BA : List Nat} {ct ni no : Nat} {NL : List Nat} {BL : List (List Nat)} {K1 K2 IN OU : List Nat} {h : Hp} (hs : dst0 FO BA ct ni no NL BL K1 K2 IN OU) (hd : dok g S FO BA ct ni no NL BL K1 K2 IN OU h) {w n : Nat} (hw : w < 2 ^ 32) (hn : 1 ≤ n ∧ n ≤ 4) (hm : ni + n ≤ 88) :
    Con g M_Desk_feed 6 (0, 0) [.ref (zA (gz g) 0), .int (nI w), .int (nI n)] h (dre g S FO BA (some (.int (nI (ni + n)))) ct (ni + n) no NL BL K1 K2 (it (fdm w ni) 0 n IN) OU) := by
  obtain ⟨hT, hK1, hK2, hIN, hOU, hI, hct, hni, hno⟩ := hs
  obtain ⟨nj, n0, n1, n2, n3, n4, np, PW, F1, F2, WB, TW, SM, JB, B0, B1, B2, B3, B4, SG, CT, MB, OP, rfl, rfl, ⟨hF1, hF2, hWB, hTW, hSM, hJB, hSG, hCT, hMB, hOP, hnj, hnp⟩, rfl⟩ := hd
  have hil := hIN.1
  have hol := hOU.1
  have hpl := hOP.1
  refine Con.of (by decide) rfl rfl (L := [some (.ref (zA (gz g) 0)), some (.int (nI w)), some (.int (nI n)), none]) rfl (fun f C => ?_)
  have loop : ∀ (d k : Nat) (R : List Nat), k + d = n → R.length = 88 → X g f M_Desk_feed (0, 0) (dre g S FO BA (some (.int (nI (ni + n)))) ct (ni + n) no [n0, n1, n2, n3, n4] [B0, B1, B2, B3, B4] K1 K2 (it (fdm w ni) k d R) OU) (0, 0) 46 [some (.ref (zA (gz g) 0)), some (.int (nI w)), some (.int (nI n)), some (.int (nI k))] [] (dh g nj ct n0 n1 n2 n3 n4 (ni + k) no np FO BA PW K1 F1 K2 F2 WB TW SM JB B0 B1 B2 B3 B4 SG CT MB R OU OP S) := by
    intro d
    induction d with
    | zero =>
      intro k R hkd hR
      obtain rfl : k = n := by omega
      refine x_iload_n (pc := 46) C (dq D_Desk_feed 25 rfl) rfl ?_
      refine x_iload_n (pc := 47) C (dq D_Desk_feed 26 rfl) rfl ?_
      refine n_ge_t (pc := 48) (tgt := 69) C (dq D_Desk_feed 27 rfl) (by decide) (by omega) (by omega) ?_
      refine x_aload_n (pc := 69) C (dq D_Desk_feed 36 rfl) rfl ?_
      refine x_get (pc := 70) (ci := 0) (j := 4) C (dq D_Desk_feed 37 rfl) rfl rfl rfl rfl k_fl_Desk_64 ?_
      refine x_get (pc := 73) (ci := 7) (j := 1) C (dq D_Desk_feed 38 rfl) rfl rfl rfl rfl k_fl_Desk_90 ?_
      exact x_iret (pc := 76) C (dq D_Desk_feed 39 rfl) rfl (by decide) ⟨rfl, dok.mk ⟨hF1, hF2, hWB, hTW, hSM, hJB, hSG, hCT, hMB, hOP, hnj, hnp⟩⟩
    | succ d ih =>
      intro k R hkd hR
      refine x_iload_n (pc := 46) C (dq D_Desk_feed 25 rfl) rfl ?_
      refine x_iload_n (pc := 47) C (dq D_Desk_feed 26 rfl) rfl ?_
      refine n_ge_f (pc := 48) (tgt := 69) C (dq D_Desk_feed 27 rfl) (by decide) (by omega) (by omega) ?_
      refine x_aload_n (pc := 51) C (dq D_Desk_feed 28 rfl) rfl ?_
      refine x_get (pc := 52) (ci := 0) (j := 4) C (dq D_Desk_feed 29 rfl) rfl rfl rfl rfl k_fl_Desk_64 ?_
      refine x_iload_n (pc := 55) C (dq D_Desk_feed 30 rfl) rfl ?_
      refine x_iload_n (pc := 56) C (dq D_Desk_feed 31 rfl) rfl ?_
      refine x_cS1 (pc := 57) (M := M_Desk_byteOf) C (dq D_Desk_feed 32 rfl) k_ml_Desk_99 m_Desk_byteOf (c_byteOf hw (by omega)) rfl rfl rfl rfl (by decide) ?_
      refine x_cV0 (pc := 60) (ci := 7) (M := M_Row_add) C (dq D_Desk_feed 33 rfl) k_ml_Desk_103 m_Row_add rfl rfl rfl (c_Row_add (r := 38) (b := 39) (n := ni + k) rfl rfl (by omega)) rfl rfl rfl rfl (by decide) ?_
      rw [dh_s39, dh_s38]
      refine x_iinc (pc := 63) C (dq D_Desk_feed 34 rfl) rfl (ii_1 _) rfl rfl ?_
      simp only [List.set_cons_zero, List.set_cons_succ]
      refine x_goto (pc := 66) (tgt := 46) C (dq D_Desk_feed 35 rfl) (by decide) ?_
      exact ih (k + 1) (fdm w ni k R) (by omega) (by rw [fdm_len]; exact hR)
  refine x_iload_n (pc := 0) C (dq D_Desk_feed 0 rfl) rfl ?_
  refine x_iconst (pc := 1) C (dq D_Desk_feed 1 rfl) ci_1 ?_
  refine n_lt_f (pc := 2) (tgt := 10) C (dq D_Desk_feed 2 rfl) (by decide) (by omega) (by omega) ?_
  refine x_iload_n (pc := 5) C (dq D_Desk_feed 3 rfl) rfl ?_
  refine x_iconst (pc := 6) C (dq D_Desk_feed 4 rfl) ci_4 ?_
  refine n_le_t (pc := 7) (tgt := 20) C (dq D_Desk_feed 5 rfl) (by decide) (by omega) (by omega) ?_
  refine x_aload_n (pc := 20) C (dq D_Desk_feed 11 rfl) rfl ?_
  refine x_get (pc := 21) (ci := 0) (j := 4) C (dq D_Desk_feed 12 rfl) rfl rfl rfl rfl k_fl_Desk_64 ?_
  refine x_get (pc := 24) (ci := 7) (j := 1) C (dq D_Desk_feed 13 rfl) rfl rfl rfl rfl k_fl_Desk_90 ?_
  refine x_iload_n (pc := 27) C (dq D_Desk_feed 14 rfl) rfl ?_
  refine n_iadd (pc := 28) C (dq D_Desk_feed 15 rfl) ?_
  refine x_bipush (pc := 29) C (dq D_Desk_feed 16 rfl) cb_88 ?_
  refine n_le_t (pc := 31) (tgt := 44) C (dq D_Desk_feed 17 rfl) (by decide) (by omega) (by omega) ?_
  refine x_iconst (pc := 44) C (dq D_Desk_feed 23 rfl) ci_0 ?_
  refine x_istore_n (i := 3) (pc := 45) C (dq D_Desk_feed 24 rfl) rfl rfl rfl ?_
  simp only [List.set_cons_zero, List.set_cons_succ]
  exact loop n 0 IN (by omega) hil

theorem d_drop {g : Gp} {S : Hp} {FO BA : List Nat} {ct ni no : Nat} {NL : List Nat} {BL : List (List Nat)} {K1 K2 IN OU : List Nat} {h : Hp} (hs : dst0 FO BA ct ni no NL BL K1 K2 IN OU) (hd : dok g S FO BA ct ni no NL BL K1 K2 IN OU h)   :
    Con g M_Desk_drop 6 (0, 0) [.ref (zA (gz g) 0)] h (dre g S FO BA none ct 0 no NL BL K1 K2 IN OU) := by
  obtain ⟨hT, hK1, hK2, hIN, hOU, hI, hct, hni, hno⟩ := hs
  obtain ⟨nj, n0, n1, n2, n3, n4, np, PW, F1, F2, WB, TW, SM, JB, B0, B1, B2, B3, B4, SG, CT, MB, OP, rfl, rfl, ⟨hF1, hF2, hWB, hTW, hSM, hJB, hSG, hCT, hMB, hOP, hnj, hnp⟩, rfl⟩ := hd
  have hil := hIN.1
  have hol := hOU.1
  have hpl := hOP.1
  refine Con.of (by decide) rfl rfl (L := [some (.ref (zA (gz g) 0))]) rfl (fun f C => ?_)
  refine x_aload_n (pc := 0) C (dq D_Desk_drop 0 rfl) rfl ?_
  refine x_get (pc := 1) (ci := 0) (j := 4) C (dq D_Desk_drop 1 rfl) rfl rfl rfl rfl k_fl_Desk_64 ?_
  refine x_cV0 (pc := 4) (ci := 7) (M := M_Row_clear) C (dq D_Desk_drop 2 rfl) k_ml_Desk_107 m_Row_clear rfl rfl rfl (c_Row_clear (r := 38) (b := 39) (n := ni) rfl) rfl rfl rfl rfl (by decide) ?_
  rw [dh_s38]
  exact x_vret (pc := 7) C (dq D_Desk_drop 3 rfl) rfl (by decide) ⟨rfl, dok.mk ⟨hF1, hF2, hWB, hTW, hSM, hJB, hSG, hCT, hMB, hOP, hnj, hnp⟩⟩

theorem d_alter {g : Gp} {S : Hp} {FO BA : List Nat} {ct ni no : Nat} {NL : List Nat} {BL : List (List Nat)} {K1 K2 IN OU : List Nat} {h : Hp} (hs : dst0 FO BA ct ni no NL BL K1 K2 IN OU) (hd : dok g S FO BA ct ni no NL BL K1 K2 IN OU h) {k v : Nat} (hk : k < ni) (hv : v < 256) :
    Con g M_Desk_alter 6 (0, 0) [.ref (zA (gz g) 0), .int (nI k), .int (nI v)] h (dre g S FO BA none ct ni no NL BL K1 K2 (IN.set k v) OU) := by
  obtain ⟨hT, hK1, hK2, hIN, hOU, hI, hct, hni, hno⟩ := hs
  obtain ⟨nj, n0, n1, n2, n3, n4, np, PW, F1, F2, WB, TW, SM, JB, B0, B1, B2, B3, B4, SG, CT, MB, OP, rfl, rfl, ⟨hF1, hF2, hWB, hTW, hSM, hJB, hSG, hCT, hMB, hOP, hnj, hnp⟩, rfl⟩ := hd
  have hil := hIN.1
  have hol := hOU.1
  have hpl := hOP.1
  refine Con.of (by decide) rfl rfl (L := [some (.ref (zA (gz g) 0)), some (.int (nI k)), some (.int (nI v))]) rfl (fun f C => ?_)
  refine x_aload_n (pc := 0) C (dq D_Desk_alter 0 rfl) rfl ?_
  refine x_get (pc := 1) (ci := 0) (j := 4) C (dq D_Desk_alter 1 rfl) rfl rfl rfl rfl k_fl_Desk_64 ?_
  refine x_iload_n (pc := 4) C (dq D_Desk_alter 2 rfl) rfl ?_
  refine x_cV1 (pc := 5) (ci := 7) (M := M_Row_has) C (dq D_Desk_alter 3 rfl) k_ml_Desk_110 m_Row_has rfl rfl rfl (c_Row_has (r := 38) (b := 39) (n := ni) (x := nI k) rfl) rfl rfl rfl rfl (by decide) ?_
  rw [has1 hk (by omega)]
  refine n_ifne_t (pc := 8) (tgt := 21) C (dq D_Desk_alter 4 rfl) (by decide) (by omega) (by omega) ?_
  refine x_iload_n (pc := 21) C (dq D_Desk_alter 10 rfl) rfl ?_
  refine n_iflt_f (pc := 22) (tgt := 32) C (dq D_Desk_alter 11 rfl) (by decide) (by omega) (by omega) ?_
  refine x_iload_n (pc := 25) C (dq D_Desk_alter 12 rfl) rfl ?_
  refine x_sipush (pc := 26) C (dq D_Desk_alter 13 rfl) cs_255 ?_
  refine n_le_t (pc := 29) (tgt := 42) C (dq D_Desk_alter 14 rfl) (by decide) (by omega) (by omega) ?_
  refine x_aload_n (pc := 42) C (dq D_Desk_alter 20 rfl) rfl ?_
  refine x_get (pc := 43) (ci := 0) (j := 4) C (dq D_Desk_alter 21 rfl) rfl rfl rfl rfl k_fl_Desk_64 ?_
  refine x_get (pc := 46) (ci := 7) (j := 0) C (dq D_Desk_alter 22 rfl) rfl rfl rfl rfl k_fl_Desk_118 ?_
  refine x_iload_n (pc := 49) C (dq D_Desk_alter 23 rfl) rfl ?_
  refine x_iload_n (pc := 50) C (dq D_Desk_alter 24 rfl) rfl ?_
  refine x_iast (pc := 51) C (dq D_Desk_alter 25 rfl) rfl (by (try simp only [List.length_set]); omega) ?_
  try rw [List.set_set]
  rw [dh_s39]
  exact x_vret (pc := 52) C (dq D_Desk_alter 26 rfl) rfl (by decide) ⟨rfl, dok.mk ⟨hF1, hF2, hWB, hTW, hSM, hJB, hSG, hCT, hMB, hOP, hnj, hnp⟩⟩

theorem d_item0 {g : Gp} {S : Hp} {FO BA : List Nat} {ni no : Nat} {NL : List Nat} {BL : List (List Nat)} {K1 K2 IN OU : List Nat} {h : Hp} (hs : dst0 FO BA 0 ni no NL BL K1 K2 IN OU) (hd : dok g S FO BA 0 ni no NL BL K1 K2 IN OU h) (hn : ni ≤ 40) :
    Con g M_Desk_item 6 (0, 0) [.ref (zA (gz g) 0)] h (dre g S FO BA (some (.int (nI 1))) 1 0 no (NL.set 0 ni) (BL.set 0 (cpy IN (BL.getD 0 []) 0 0 ni)) K1 K2 IN OU) := by
  obtain ⟨hT, hK1, hK2, hIN, hOU, hI, hct, hni, hno⟩ := hs
  obtain ⟨nj, n0, n1, n2, n3, n4, np, PW, F1, F2, WB, TW, SM, JB, B0, B1, B2, B3, B4, SG, CT, MB, OP, rfl, rfl, ⟨hF1, hF2, hWB, hTW, hSM, hJB, hSG, hCT, hMB, hOP, hnj, hnp⟩, rfl⟩ := hd
  have hil := hIN.1
  have hol := hOU.1
  have hpl := hOP.1
  have hbl : B0.length = 88 := (hI 0 (by omega)).1.1
  refine Con.of (by decide) rfl rfl (L := [some (.ref (zA (gz g) 0))]) rfl (fun f C => ?_)
  refine x_aload_n (pc := 0) C (dq D_Desk_item 0 rfl) rfl ?_
  refine x_get (pc := 1) (ci := 0) (j := 4) C (dq D_Desk_item 1 rfl) rfl rfl rfl rfl k_fl_Desk_64 ?_
  refine x_get (pc := 4) (ci := 7) (j := 1) C (dq D_Desk_item 2 rfl) rfl rfl rfl rfl k_fl_Desk_90 ?_
  refine x_bipush (pc := 7) C (dq D_Desk_item 3 rfl) cb_40 ?_
  refine n_le_t (pc := 9) (tgt := 22) C (dq D_Desk_item 4 rfl) (by decide) (by omega) (by omega) ?_
  refine x_aload_n (pc := 22) C (dq D_Desk_item 10 rfl) rfl ?_
  refine x_get (pc := 23) (ci := 0) (j := 3) C (dq D_Desk_item 11 rfl) rfl rfl rfl rfl k_fl_Desk_36 ?_
  refine x_get (pc := 26) (ci := 3) (j := 1) C (dq D_Desk_item 12 rfl) rfl rfl rfl rfl k_fl_Desk_124 ?_
  refine x_iconst (pc := 29) C (dq D_Desk_item 13 rfl) ci_5 ?_
  refine n_lt_t (pc := 30) (tgt := 43) C (dq D_Desk_item 14 rfl) (by decide) (by omega) (by omega) ?_
  refine x_aload_n (pc := 43) C (dq D_Desk_item 20 rfl) rfl ?_
  refine x_get (pc := 44) (ci := 0) (j := 3) C (dq D_Desk_item 21 rfl) rfl rfl rfl rfl k_fl_Desk_36 ?_
  refine x_get (pc := 47) (ci := 3) (j := 0) C (dq D_Desk_item 22 rfl) rfl rfl rfl rfl k_fl_Desk_129 ?_
  refine x_aload_n (pc := 50) C (dq D_Desk_item 23 rfl) rfl ?_
  refine x_get (pc := 51) (ci := 0) (j := 3) C (dq D_Desk_item 24 rfl) rfl rfl rfl rfl k_fl_Desk_36 ?_
  refine x_get (pc := 54) (ci := 3) (j := 1) C (dq D_Desk_item 25 rfl) rfl rfl rfl rfl k_fl_Desk_124 ?_
  refine x_aald (pc := 57) C (dq D_Desk_item 26 rfl) rfl rfl rfl (by simp) ?_
  refine x_aload_n (pc := 58) C (dq D_Desk_item 27 rfl) rfl ?_
  refine x_get (pc := 59) (ci := 0) (j := 4) C (dq D_Desk_item 28 rfl) rfl rfl rfl rfl k_fl_Desk_64 ?_
  refine x_cV0 (pc := 62) (ci := 7) (M := M_Row_become) C (dq D_Desk_item 29 rfl) k_ml_Desk_133 m_Row_become rfl rfl rfl (c_Row_become (r := 20) (b := 21) (n := n0) (o := 38) (q := 39) (m := ni) rfl rfl rfl rfl (by omega) (by omega)) rfl rfl rfl rfl (by decide) ?_
  rw [dh_s20, dh_s21]
  refine x_aload_n (pc := 65) C (dq D_Desk_item 30 rfl) rfl ?_
  refine x_get (pc := 66) (ci := 0) (j := 3) C (dq D_Desk_item 31 rfl) rfl rfl rfl rfl k_fl_Desk_36 ?_
  refine x_dup (pc := 69) C (dq D_Desk_item 32 rfl) rfl ?_
  refine x_get (pc := 70) (ci := 3) (j := 1) C (dq D_Desk_item 33 rfl) rfl rfl rfl rfl k_fl_Desk_124 ?_
  refine x_iconst (pc := 73) C (dq D_Desk_item 34 rfl) ci_1 ?_
  refine n_iadd (pc := 74) C (dq D_Desk_item 35 rfl) ?_
  refine x_put (pc := 75) (ci := 3) (j := 1) (ty := .int) C (dq D_Desk_item 36 rfl) rfl rfl rfl rfl k_fl_Desk_124 (Or.inl rfl) (by decide +kernel) rfl rfl ?_
  simp only [List.set_cons_zero, List.set_cons_succ]
  rw [dh_s18 (k := 1)]
  refine x_aload_n (pc := 78) C (dq D_Desk_item 37 rfl) rfl ?_
  refine x_get (pc := 79) (ci := 0) (j := 4) C (dq D_Desk_item 38 rfl) rfl rfl rfl rfl k_fl_Desk_64 ?_
  refine x_cV0 (pc := 82) (ci := 7) (M := M_Row_clear) C (dq D_Desk_item 39 rfl) k_ml_Desk_107 m_Row_clear rfl rfl rfl (c_Row_clear (r := 38) (b := 39) (n := ni) rfl) rfl rfl rfl rfl (by decide) ?_
  rw [dh_s38]
  refine x_aload_n (pc := 85) C (dq D_Desk_item 40 rfl) rfl ?_
  refine x_get (pc := 86) (ci := 0) (j := 3) C (dq D_Desk_item 41 rfl) rfl rfl rfl rfl k_fl_Desk_36 ?_
  refine x_get (pc := 89) (ci := 3) (j := 1) C (dq D_Desk_item 42 rfl) rfl rfl rfl rfl k_fl_Desk_124 ?_
  exact x_iret (pc := 92) C (dq D_Desk_item 43 rfl) rfl (by decide) ⟨rfl, dok.mk ⟨hF1, hF2, hWB, hTW, hSM, hJB, hSG, hCT, hMB, hOP, hnj, hnp⟩⟩

theorem d_item1 {g : Gp} {S : Hp} {FO BA : List Nat} {ni no : Nat} {NL : List Nat} {BL : List (List Nat)} {K1 K2 IN OU : List Nat} {h : Hp} (hs : dst0 FO BA 1 ni no NL BL K1 K2 IN OU) (hd : dok g S FO BA 1 ni no NL BL K1 K2 IN OU h) (hn : ni ≤ 40) :
    Con g M_Desk_item 6 (0, 0) [.ref (zA (gz g) 0)] h (dre g S FO BA (some (.int (nI 2))) 2 0 no (NL.set 1 ni) (BL.set 1 (cpy IN (BL.getD 1 []) 0 0 ni)) K1 K2 IN OU) := by
  obtain ⟨hT, hK1, hK2, hIN, hOU, hI, hct, hni, hno⟩ := hs
  obtain ⟨nj, n0, n1, n2, n3, n4, np, PW, F1, F2, WB, TW, SM, JB, B0, B1, B2, B3, B4, SG, CT, MB, OP, rfl, rfl, ⟨hF1, hF2, hWB, hTW, hSM, hJB, hSG, hCT, hMB, hOP, hnj, hnp⟩, rfl⟩ := hd
  have hil := hIN.1
  have hol := hOU.1
  have hpl := hOP.1
  have hbl : B1.length = 88 := (hI 1 (by omega)).1.1
  refine Con.of (by decide) rfl rfl (L := [some (.ref (zA (gz g) 0))]) rfl (fun f C => ?_)
  refine x_aload_n (pc := 0) C (dq D_Desk_item 0 rfl) rfl ?_
  refine x_get (pc := 1) (ci := 0) (j := 4) C (dq D_Desk_item 1 rfl) rfl rfl rfl rfl k_fl_Desk_64 ?_
  refine x_get (pc := 4) (ci := 7) (j := 1) C (dq D_Desk_item 2 rfl) rfl rfl rfl rfl k_fl_Desk_90 ?_
  refine x_bipush (pc := 7) C (dq D_Desk_item 3 rfl) cb_40 ?_
  refine n_le_t (pc := 9) (tgt := 22) C (dq D_Desk_item 4 rfl) (by decide) (by omega) (by omega) ?_
  refine x_aload_n (pc := 22) C (dq D_Desk_item 10 rfl) rfl ?_
  refine x_get (pc := 23) (ci := 0) (j := 3) C (dq D_Desk_item 11 rfl) rfl rfl rfl rfl k_fl_Desk_36 ?_
  refine x_get (pc := 26) (ci := 3) (j := 1) C (dq D_Desk_item 12 rfl) rfl rfl rfl rfl k_fl_Desk_124 ?_
  refine x_iconst (pc := 29) C (dq D_Desk_item 13 rfl) ci_5 ?_
  refine n_lt_t (pc := 30) (tgt := 43) C (dq D_Desk_item 14 rfl) (by decide) (by omega) (by omega) ?_
  refine x_aload_n (pc := 43) C (dq D_Desk_item 20 rfl) rfl ?_
  refine x_get (pc := 44) (ci := 0) (j := 3) C (dq D_Desk_item 21 rfl) rfl rfl rfl rfl k_fl_Desk_36 ?_
  refine x_get (pc := 47) (ci := 3) (j := 0) C (dq D_Desk_item 22 rfl) rfl rfl rfl rfl k_fl_Desk_129 ?_
  refine x_aload_n (pc := 50) C (dq D_Desk_item 23 rfl) rfl ?_
  refine x_get (pc := 51) (ci := 0) (j := 3) C (dq D_Desk_item 24 rfl) rfl rfl rfl rfl k_fl_Desk_36 ?_
  refine x_get (pc := 54) (ci := 3) (j := 1) C (dq D_Desk_item 25 rfl) rfl rfl rfl rfl k_fl_Desk_124 ?_
  refine x_aald (pc := 57) C (dq D_Desk_item 26 rfl) rfl rfl rfl (by simp) ?_
  refine x_aload_n (pc := 58) C (dq D_Desk_item 27 rfl) rfl ?_
  refine x_get (pc := 59) (ci := 0) (j := 4) C (dq D_Desk_item 28 rfl) rfl rfl rfl rfl k_fl_Desk_64 ?_
  refine x_cV0 (pc := 62) (ci := 7) (M := M_Row_become) C (dq D_Desk_item 29 rfl) k_ml_Desk_133 m_Row_become rfl rfl rfl (c_Row_become (r := 22) (b := 23) (n := n1) (o := 38) (q := 39) (m := ni) rfl rfl rfl rfl (by omega) (by omega)) rfl rfl rfl rfl (by decide) ?_
  rw [dh_s22, dh_s23]
  refine x_aload_n (pc := 65) C (dq D_Desk_item 30 rfl) rfl ?_
  refine x_get (pc := 66) (ci := 0) (j := 3) C (dq D_Desk_item 31 rfl) rfl rfl rfl rfl k_fl_Desk_36 ?_
  refine x_dup (pc := 69) C (dq D_Desk_item 32 rfl) rfl ?_
  refine x_get (pc := 70) (ci := 3) (j := 1) C (dq D_Desk_item 33 rfl) rfl rfl rfl rfl k_fl_Desk_124 ?_
  refine x_iconst (pc := 73) C (dq D_Desk_item 34 rfl) ci_1 ?_
  refine n_iadd (pc := 74) C (dq D_Desk_item 35 rfl) ?_
  refine x_put (pc := 75) (ci := 3) (j := 1) (ty := .int) C (dq D_Desk_item 36 rfl) rfl rfl rfl rfl k_fl_Desk_124 (Or.inl rfl) (by decide +kernel) rfl rfl ?_
  simp only [List.set_cons_zero, List.set_cons_succ]
  rw [dh_s18 (k := 2)]
  refine x_aload_n (pc := 78) C (dq D_Desk_item 37 rfl) rfl ?_
  refine x_get (pc := 79) (ci := 0) (j := 4) C (dq D_Desk_item 38 rfl) rfl rfl rfl rfl k_fl_Desk_64 ?_
  refine x_cV0 (pc := 82) (ci := 7) (M := M_Row_clear) C (dq D_Desk_item 39 rfl) k_ml_Desk_107 m_Row_clear rfl rfl rfl (c_Row_clear (r := 38) (b := 39) (n := ni) rfl) rfl rfl rfl rfl (by decide) ?_
  rw [dh_s38]
  refine x_aload_n (pc := 85) C (dq D_Desk_item 40 rfl) rfl ?_
  refine x_get (pc := 86) (ci := 0) (j := 3) C (dq D_Desk_item 41 rfl) rfl rfl rfl rfl k_fl_Desk_36 ?_
  refine x_get (pc := 89) (ci := 3) (j := 1) C (dq D_Desk_item 42 rfl) rfl rfl rfl rfl k_fl_Desk_124 ?_
  exact x_iret (pc := 92) C (dq D_Desk_item 43 rfl) rfl (by decide) ⟨rfl, dok.mk ⟨hF1, hF2, hWB, hTW, hSM, hJB, hSG, hCT, hMB, hOP, hnj, hnp⟩⟩

theorem d_item2 {g : Gp} {S : Hp} {FO BA : List Nat} {ni no : Nat} {NL : List Nat} {BL : List (List Nat)} {K1 K2 IN OU : List Nat} {h : Hp} (hs : dst0 FO BA 2 ni no NL BL K1 K2 IN OU) (hd : dok g S FO BA 2 ni no NL BL K1 K2 IN OU h) (hn : ni ≤ 40) :
    Con g M_Desk_item 6 (0, 0) [.ref (zA (gz g) 0)] h (dre g S FO BA (some (.int (nI 3))) 3 0 no (NL.set 2 ni) (BL.set 2 (cpy IN (BL.getD 2 []) 0 0 ni)) K1 K2 IN OU) := by
  obtain ⟨hT, hK1, hK2, hIN, hOU, hI, hct, hni, hno⟩ := hs
  obtain ⟨nj, n0, n1, n2, n3, n4, np, PW, F1, F2, WB, TW, SM, JB, B0, B1, B2, B3, B4, SG, CT, MB, OP, rfl, rfl, ⟨hF1, hF2, hWB, hTW, hSM, hJB, hSG, hCT, hMB, hOP, hnj, hnp⟩, rfl⟩ := hd
  have hil := hIN.1
  have hol := hOU.1
  have hpl := hOP.1
  have hbl : B2.length = 88 := (hI 2 (by omega)).1.1
  refine Con.of (by decide) rfl rfl (L := [some (.ref (zA (gz g) 0))]) rfl (fun f C => ?_)
  refine x_aload_n (pc := 0) C (dq D_Desk_item 0 rfl) rfl ?_
  refine x_get (pc := 1) (ci := 0) (j := 4) C (dq D_Desk_item 1 rfl) rfl rfl rfl rfl k_fl_Desk_64 ?_
  refine x_get (pc := 4) (ci := 7) (j := 1) C (dq D_Desk_item 2 rfl) rfl rfl rfl rfl k_fl_Desk_90 ?_
  refine x_bipush (pc := 7) C (dq D_Desk_item 3 rfl) cb_40 ?_
  refine n_le_t (pc := 9) (tgt := 22) C (dq D_Desk_item 4 rfl) (by decide) (by omega) (by omega) ?_
  refine x_aload_n (pc := 22) C (dq D_Desk_item 10 rfl) rfl ?_
  refine x_get (pc := 23) (ci := 0) (j := 3) C (dq D_Desk_item 11 rfl) rfl rfl rfl rfl k_fl_Desk_36 ?_
  refine x_get (pc := 26) (ci := 3) (j := 1) C (dq D_Desk_item 12 rfl) rfl rfl rfl rfl k_fl_Desk_124 ?_
  refine x_iconst (pc := 29) C (dq D_Desk_item 13 rfl) ci_5 ?_
  refine n_lt_t (pc := 30) (tgt := 43) C (dq D_Desk_item 14 rfl) (by decide) (by omega) (by omega) ?_
  refine x_aload_n (pc := 43) C (dq D_Desk_item 20 rfl) rfl ?_
  refine x_get (pc := 44) (ci := 0) (j := 3) C (dq D_Desk_item 21 rfl) rfl rfl rfl rfl k_fl_Desk_36 ?_
  refine x_get (pc := 47) (ci := 3) (j := 0) C (dq D_Desk_item 22 rfl) rfl rfl rfl rfl k_fl_Desk_129 ?_
  refine x_aload_n (pc := 50) C (dq D_Desk_item 23 rfl) rfl ?_
  refine x_get (pc := 51) (ci := 0) (j := 3) C (dq D_Desk_item 24 rfl) rfl rfl rfl rfl k_fl_Desk_36 ?_
  refine x_get (pc := 54) (ci := 3) (j := 1) C (dq D_Desk_item 25 rfl) rfl rfl rfl rfl k_fl_Desk_124 ?_
  refine x_aald (pc := 57) C (dq D_Desk_item 26 rfl) rfl rfl rfl (by simp) ?_
  refine x_aload_n (pc := 58) C (dq D_Desk_item 27 rfl) rfl ?_
  refine x_get (pc := 59) (ci := 0) (j := 4) C (dq D_Desk_item 28 rfl) rfl rfl rfl rfl k_fl_Desk_64 ?_
  refine x_cV0 (pc := 62) (ci := 7) (M := M_Row_become) C (dq D_Desk_item 29 rfl) k_ml_Desk_133 m_Row_become rfl rfl rfl (c_Row_become (r := 24) (b := 25) (n := n2) (o := 38) (q := 39) (m := ni) rfl rfl rfl rfl (by omega) (by omega)) rfl rfl rfl rfl (by decide) ?_
  rw [dh_s24, dh_s25]
  refine x_aload_n (pc := 65) C (dq D_Desk_item 30 rfl) rfl ?_
  refine x_get (pc := 66) (ci := 0) (j := 3) C (dq D_Desk_item 31 rfl) rfl rfl rfl rfl k_fl_Desk_36 ?_
  refine x_dup (pc := 69) C (dq D_Desk_item 32 rfl) rfl ?_
  refine x_get (pc := 70) (ci := 3) (j := 1) C (dq D_Desk_item 33 rfl) rfl rfl rfl rfl k_fl_Desk_124 ?_
  refine x_iconst (pc := 73) C (dq D_Desk_item 34 rfl) ci_1 ?_
  refine n_iadd (pc := 74) C (dq D_Desk_item 35 rfl) ?_
  refine x_put (pc := 75) (ci := 3) (j := 1) (ty := .int) C (dq D_Desk_item 36 rfl) rfl rfl rfl rfl k_fl_Desk_124 (Or.inl rfl) (by decide +kernel) rfl rfl ?_
  simp only [List.set_cons_zero, List.set_cons_succ]
  rw [dh_s18 (k := 3)]
  refine x_aload_n (pc := 78) C (dq D_Desk_item 37 rfl) rfl ?_
  refine x_get (pc := 79) (ci := 0) (j := 4) C (dq D_Desk_item 38 rfl) rfl rfl rfl rfl k_fl_Desk_64 ?_
  refine x_cV0 (pc := 82) (ci := 7) (M := M_Row_clear) C (dq D_Desk_item 39 rfl) k_ml_Desk_107 m_Row_clear rfl rfl rfl (c_Row_clear (r := 38) (b := 39) (n := ni) rfl) rfl rfl rfl rfl (by decide) ?_
  rw [dh_s38]
  refine x_aload_n (pc := 85) C (dq D_Desk_item 40 rfl) rfl ?_
  refine x_get (pc := 86) (ci := 0) (j := 3) C (dq D_Desk_item 41 rfl) rfl rfl rfl rfl k_fl_Desk_36 ?_
  refine x_get (pc := 89) (ci := 3) (j := 1) C (dq D_Desk_item 42 rfl) rfl rfl rfl rfl k_fl_Desk_124 ?_
  exact x_iret (pc := 92) C (dq D_Desk_item 43 rfl) rfl (by decide) ⟨rfl, dok.mk ⟨hF1, hF2, hWB, hTW, hSM, hJB, hSG, hCT, hMB, hOP, hnj, hnp⟩⟩

theorem d_item3 {g : Gp} {S : Hp} {FO BA : List Nat} {ni no : Nat} {NL : List Nat} {BL : List (List Nat)} {K1 K2 IN OU : List Nat} {h : Hp} (hs : dst0 FO BA 3 ni no NL BL K1 K2 IN OU) (hd : dok g S FO BA 3 ni no NL BL K1 K2 IN OU h) (hn : ni ≤ 40) :
    Con g M_Desk_item 6 (0, 0) [.ref (zA (gz g) 0)] h (dre g S FO BA (some (.int (nI 4))) 4 0 no (NL.set 3 ni) (BL.set 3 (cpy IN (BL.getD 3 []) 0 0 ni)) K1 K2 IN OU) := by
  obtain ⟨hT, hK1, hK2, hIN, hOU, hI, hct, hni, hno⟩ := hs
  obtain ⟨nj, n0, n1, n2, n3, n4, np, PW, F1, F2, WB, TW, SM, JB, B0, B1, B2, B3, B4, SG, CT, MB, OP, rfl, rfl, ⟨hF1, hF2, hWB, hTW, hSM, hJB, hSG, hCT, hMB, hOP, hnj, hnp⟩, rfl⟩ := hd
  have hil := hIN.1
  have hol := hOU.1
  have hpl := hOP.1
  have hbl : B3.length = 88 := (hI 3 (by omega)).1.1
  refine Con.of (by decide) rfl rfl (L := [some (.ref (zA (gz g) 0))]) rfl (fun f C => ?_)
  refine x_aload_n (pc := 0) C (dq D_Desk_item 0 rfl) rfl ?_
  refine x_get (pc := 1) (ci := 0) (j := 4) C (dq D_Desk_item 1 rfl) rfl rfl rfl rfl k_fl_Desk_64 ?_
  refine x_get (pc := 4) (ci := 7) (j := 1) C (dq D_Desk_item 2 rfl) rfl rfl rfl rfl k_fl_Desk_90 ?_
  refine x_bipush (pc := 7) C (dq D_Desk_item 3 rfl) cb_40 ?_
  refine n_le_t (pc := 9) (tgt := 22) C (dq D_Desk_item 4 rfl) (by decide) (by omega) (by omega) ?_
  refine x_aload_n (pc := 22) C (dq D_Desk_item 10 rfl) rfl ?_
  refine x_get (pc := 23) (ci := 0) (j := 3) C (dq D_Desk_item 11 rfl) rfl rfl rfl rfl k_fl_Desk_36 ?_
  refine x_get (pc := 26) (ci := 3) (j := 1) C (dq D_Desk_item 12 rfl) rfl rfl rfl rfl k_fl_Desk_124 ?_
  refine x_iconst (pc := 29) C (dq D_Desk_item 13 rfl) ci_5 ?_
  refine n_lt_t (pc := 30) (tgt := 43) C (dq D_Desk_item 14 rfl) (by decide) (by omega) (by omega) ?_
  refine x_aload_n (pc := 43) C (dq D_Desk_item 20 rfl) rfl ?_
  refine x_get (pc := 44) (ci := 0) (j := 3) C (dq D_Desk_item 21 rfl) rfl rfl rfl rfl k_fl_Desk_36 ?_
  refine x_get (pc := 47) (ci := 3) (j := 0) C (dq D_Desk_item 22 rfl) rfl rfl rfl rfl k_fl_Desk_129 ?_
  refine x_aload_n (pc := 50) C (dq D_Desk_item 23 rfl) rfl ?_
  refine x_get (pc := 51) (ci := 0) (j := 3) C (dq D_Desk_item 24 rfl) rfl rfl rfl rfl k_fl_Desk_36 ?_
  refine x_get (pc := 54) (ci := 3) (j := 1) C (dq D_Desk_item 25 rfl) rfl rfl rfl rfl k_fl_Desk_124 ?_
  refine x_aald (pc := 57) C (dq D_Desk_item 26 rfl) rfl rfl rfl (by simp) ?_
  refine x_aload_n (pc := 58) C (dq D_Desk_item 27 rfl) rfl ?_
  refine x_get (pc := 59) (ci := 0) (j := 4) C (dq D_Desk_item 28 rfl) rfl rfl rfl rfl k_fl_Desk_64 ?_
  refine x_cV0 (pc := 62) (ci := 7) (M := M_Row_become) C (dq D_Desk_item 29 rfl) k_ml_Desk_133 m_Row_become rfl rfl rfl (c_Row_become (r := 26) (b := 27) (n := n3) (o := 38) (q := 39) (m := ni) rfl rfl rfl rfl (by omega) (by omega)) rfl rfl rfl rfl (by decide) ?_
  rw [dh_s26, dh_s27]
  refine x_aload_n (pc := 65) C (dq D_Desk_item 30 rfl) rfl ?_
  refine x_get (pc := 66) (ci := 0) (j := 3) C (dq D_Desk_item 31 rfl) rfl rfl rfl rfl k_fl_Desk_36 ?_
  refine x_dup (pc := 69) C (dq D_Desk_item 32 rfl) rfl ?_
  refine x_get (pc := 70) (ci := 3) (j := 1) C (dq D_Desk_item 33 rfl) rfl rfl rfl rfl k_fl_Desk_124 ?_
  refine x_iconst (pc := 73) C (dq D_Desk_item 34 rfl) ci_1 ?_
  refine n_iadd (pc := 74) C (dq D_Desk_item 35 rfl) ?_
  refine x_put (pc := 75) (ci := 3) (j := 1) (ty := .int) C (dq D_Desk_item 36 rfl) rfl rfl rfl rfl k_fl_Desk_124 (Or.inl rfl) (by decide +kernel) rfl rfl ?_
  simp only [List.set_cons_zero, List.set_cons_succ]
  rw [dh_s18 (k := 4)]
  refine x_aload_n (pc := 78) C (dq D_Desk_item 37 rfl) rfl ?_
  refine x_get (pc := 79) (ci := 0) (j := 4) C (dq D_Desk_item 38 rfl) rfl rfl rfl rfl k_fl_Desk_64 ?_
  refine x_cV0 (pc := 82) (ci := 7) (M := M_Row_clear) C (dq D_Desk_item 39 rfl) k_ml_Desk_107 m_Row_clear rfl rfl rfl (c_Row_clear (r := 38) (b := 39) (n := ni) rfl) rfl rfl rfl rfl (by decide) ?_
  rw [dh_s38]
  refine x_aload_n (pc := 85) C (dq D_Desk_item 40 rfl) rfl ?_
  refine x_get (pc := 86) (ci := 0) (j := 3) C (dq D_Desk_item 41 rfl) rfl rfl rfl rfl k_fl_Desk_36 ?_
  refine x_get (pc := 89) (ci := 3) (j := 1) C (dq D_Desk_item 42 rfl) rfl rfl rfl rfl k_fl_Desk_124 ?_
  exact x_iret (pc := 92) C (dq D_Desk_item 43 rfl) rfl (by decide) ⟨rfl, dok.mk ⟨hF1, hF2, hWB, hTW, hSM, hJB, hSG, hCT, hMB, hOP, hnj, hnp⟩⟩

theorem d_item4 {g : Gp} {S : Hp} {FO BA : List Nat} {ni no : Nat} {NL : List Nat} {BL : List (List Nat)} {K1 K2 IN OU : List Nat} {h : Hp} (hs : dst0 FO BA 4 ni no NL BL K1 K2 IN OU) (hd : dok g S FO BA 4 ni no NL BL K1 K2 IN OU h) (hn : ni ≤ 40) :
    Con g M_Desk_item 6 (0, 0) [.ref (zA (gz g) 0)] h (dre g S FO BA (some (.int (nI 5))) 5 0 no (NL.set 4 ni) (BL.set 4 (cpy IN (BL.getD 4 []) 0 0 ni)) K1 K2 IN OU) := by
  obtain ⟨hT, hK1, hK2, hIN, hOU, hI, hct, hni, hno⟩ := hs
  obtain ⟨nj, n0, n1, n2, n3, n4, np, PW, F1, F2, WB, TW, SM, JB, B0, B1, B2, B3, B4, SG, CT, MB, OP, rfl, rfl, ⟨hF1, hF2, hWB, hTW, hSM, hJB, hSG, hCT, hMB, hOP, hnj, hnp⟩, rfl⟩ := hd
  have hil := hIN.1
  have hol := hOU.1
  have hpl := hOP.1
  have hbl : B4.length = 88 := (hI 4 (by omega)).1.1
  refine Con.of (by decide) rfl rfl (L := [some (.ref (zA (gz g) 0))]) rfl (fun f C => ?_)
  refine x_aload_n (pc := 0) C (dq D_Desk_item 0 rfl) rfl ?_
  refine x_get (pc := 1) (ci := 0) (j := 4) C (dq D_Desk_item 1 rfl) rfl rfl rfl rfl k_fl_Desk_64 ?_
  refine x_get (pc := 4) (ci := 7) (j := 1) C (dq D_Desk_item 2 rfl) rfl rfl rfl rfl k_fl_Desk_90 ?_
  refine x_bipush (pc := 7) C (dq D_Desk_item 3 rfl) cb_40 ?_
  refine n_le_t (pc := 9) (tgt := 22) C (dq D_Desk_item 4 rfl) (by decide) (by omega) (by omega) ?_
  refine x_aload_n (pc := 22) C (dq D_Desk_item 10 rfl) rfl ?_
  refine x_get (pc := 23) (ci := 0) (j := 3) C (dq D_Desk_item 11 rfl) rfl rfl rfl rfl k_fl_Desk_36 ?_
  refine x_get (pc := 26) (ci := 3) (j := 1) C (dq D_Desk_item 12 rfl) rfl rfl rfl rfl k_fl_Desk_124 ?_
  refine x_iconst (pc := 29) C (dq D_Desk_item 13 rfl) ci_5 ?_
  refine n_lt_t (pc := 30) (tgt := 43) C (dq D_Desk_item 14 rfl) (by decide) (by omega) (by omega) ?_
  refine x_aload_n (pc := 43) C (dq D_Desk_item 20 rfl) rfl ?_
  refine x_get (pc := 44) (ci := 0) (j := 3) C (dq D_Desk_item 21 rfl) rfl rfl rfl rfl k_fl_Desk_36 ?_
  refine x_get (pc := 47) (ci := 3) (j := 0) C (dq D_Desk_item 22 rfl) rfl rfl rfl rfl k_fl_Desk_129 ?_
  refine x_aload_n (pc := 50) C (dq D_Desk_item 23 rfl) rfl ?_
  refine x_get (pc := 51) (ci := 0) (j := 3) C (dq D_Desk_item 24 rfl) rfl rfl rfl rfl k_fl_Desk_36 ?_
  refine x_get (pc := 54) (ci := 3) (j := 1) C (dq D_Desk_item 25 rfl) rfl rfl rfl rfl k_fl_Desk_124 ?_
  refine x_aald (pc := 57) C (dq D_Desk_item 26 rfl) rfl rfl rfl (by simp) ?_
  refine x_aload_n (pc := 58) C (dq D_Desk_item 27 rfl) rfl ?_
  refine x_get (pc := 59) (ci := 0) (j := 4) C (dq D_Desk_item 28 rfl) rfl rfl rfl rfl k_fl_Desk_64 ?_
  refine x_cV0 (pc := 62) (ci := 7) (M := M_Row_become) C (dq D_Desk_item 29 rfl) k_ml_Desk_133 m_Row_become rfl rfl rfl (c_Row_become (r := 28) (b := 29) (n := n4) (o := 38) (q := 39) (m := ni) rfl rfl rfl rfl (by omega) (by omega)) rfl rfl rfl rfl (by decide) ?_
  rw [dh_s28, dh_s29]
  refine x_aload_n (pc := 65) C (dq D_Desk_item 30 rfl) rfl ?_
  refine x_get (pc := 66) (ci := 0) (j := 3) C (dq D_Desk_item 31 rfl) rfl rfl rfl rfl k_fl_Desk_36 ?_
  refine x_dup (pc := 69) C (dq D_Desk_item 32 rfl) rfl ?_
  refine x_get (pc := 70) (ci := 3) (j := 1) C (dq D_Desk_item 33 rfl) rfl rfl rfl rfl k_fl_Desk_124 ?_
  refine x_iconst (pc := 73) C (dq D_Desk_item 34 rfl) ci_1 ?_
  refine n_iadd (pc := 74) C (dq D_Desk_item 35 rfl) ?_
  refine x_put (pc := 75) (ci := 3) (j := 1) (ty := .int) C (dq D_Desk_item 36 rfl) rfl rfl rfl rfl k_fl_Desk_124 (Or.inl rfl) (by decide +kernel) rfl rfl ?_
  simp only [List.set_cons_zero, List.set_cons_succ]
  rw [dh_s18 (k := 5)]
  refine x_aload_n (pc := 78) C (dq D_Desk_item 37 rfl) rfl ?_
  refine x_get (pc := 79) (ci := 0) (j := 4) C (dq D_Desk_item 38 rfl) rfl rfl rfl rfl k_fl_Desk_64 ?_
  refine x_cV0 (pc := 82) (ci := 7) (M := M_Row_clear) C (dq D_Desk_item 39 rfl) k_ml_Desk_107 m_Row_clear rfl rfl rfl (c_Row_clear (r := 38) (b := 39) (n := ni) rfl) rfl rfl rfl rfl (by decide) ?_
  rw [dh_s38]
  refine x_aload_n (pc := 85) C (dq D_Desk_item 40 rfl) rfl ?_
  refine x_get (pc := 86) (ci := 0) (j := 3) C (dq D_Desk_item 41 rfl) rfl rfl rfl rfl k_fl_Desk_36 ?_
  refine x_get (pc := 89) (ci := 3) (j := 1) C (dq D_Desk_item 42 rfl) rfl rfl rfl rfl k_fl_Desk_124 ?_
  exact x_iret (pc := 92) C (dq D_Desk_item 43 rfl) rfl (by decide) ⟨rfl, dok.mk ⟨hF1, hF2, hWB, hTW, hSM, hJB, hSG, hCT, hMB, hOP, hnj, hnp⟩⟩

theorem d_forget {g : Gp} {S : Hp} {FO BA : List Nat} {ct ni no : Nat} {NL : List Nat} {BL : List (List Nat)} {K1 K2 IN OU : List Nat} {h : Hp} (hs : dst0 FO BA ct ni no NL BL K1 K2 IN OU) (hd : dok g S FO BA ct ni no NL BL K1 K2 IN OU h)   :
    Con g M_Desk_forget 6 (0, 0) [.ref (zA (gz g) 0)] h (dre g S FO BA (some (.int (nI ct))) 0 ni no NL BL K1 K2 IN OU) := by
  obtain ⟨hT, hK1, hK2, hIN, hOU, hI, hct, hni, hno⟩ := hs
  obtain ⟨nj, n0, n1, n2, n3, n4, np, PW, F1, F2, WB, TW, SM, JB, B0, B1, B2, B3, B4, SG, CT, MB, OP, rfl, rfl, ⟨hF1, hF2, hWB, hTW, hSM, hJB, hSG, hCT, hMB, hOP, hnj, hnp⟩, rfl⟩ := hd
  have hil := hIN.1
  have hol := hOU.1
  have hpl := hOP.1
  refine Con.of (by decide) rfl rfl (L := [some (.ref (zA (gz g) 0)), none]) rfl (fun f C => ?_)
  refine x_aload_n (pc := 0) C (dq D_Desk_forget 0 rfl) rfl ?_
  refine x_get (pc := 1) (ci := 0) (j := 3) C (dq D_Desk_forget 1 rfl) rfl rfl rfl rfl k_fl_Desk_36 ?_
  refine x_get (pc := 4) (ci := 3) (j := 1) C (dq D_Desk_forget 2 rfl) rfl rfl rfl rfl k_fl_Desk_124 ?_
  refine x_istore_n (i := 1) (pc := 7) C (dq D_Desk_forget 3 rfl) rfl rfl rfl ?_
  simp only [List.set_cons_zero, List.set_cons_succ]
  refine x_aload_n (pc := 8) C (dq D_Desk_forget 4 rfl) rfl ?_
  refine x_get (pc := 9) (ci := 0) (j := 3) C (dq D_Desk_forget 5 rfl) rfl rfl rfl rfl k_fl_Desk_36 ?_
  refine x_iconst (pc := 12) C (dq D_Desk_forget 6 rfl) ci_0 ?_
  refine x_put (pc := 13) (ci := 3) (j := 1) (ty := .int) C (dq D_Desk_forget 7 rfl) rfl rfl rfl rfl k_fl_Desk_124 (Or.inl rfl) (by decide +kernel) rfl rfl ?_
  simp only [List.set_cons_zero, List.set_cons_succ]
  rw [dh_s18 (k := 0)]
  refine x_iload_n (pc := 16) C (dq D_Desk_forget 8 rfl) rfl ?_
  exact x_iret (pc := 17) C (dq D_Desk_forget 9 rfl) rfl (by decide) ⟨rfl, dok.mk ⟨hF1, hF2, hWB, hTW, hSM, hJB, hSG, hCT, hMB, hOP, hnj, hnp⟩⟩

theorem d_cipher0 {g : Gp} {S : Hp} {FO BA : List Nat} {ct no : Nat} {NL : List Nat} {BL : List (List Nat)} {K1 K2 IN OU : List Nat} {h : Hp} (hs : dst0 FO BA ct 16 no NL BL K1 K2 IN OU) (hd : dok g S FO BA ct 16 no NL BL K1 K2 IN OU h) :
    Con g M_Desk_cipher 6 (0, 0) [.ref (zA (gz g) 0), .int (nI 0)] h (dre g S FO BA none ct 16 16 NL BL K1 K2 IN (trn FO K1 (cpy IN OU 0 0 16))) := by
  obtain ⟨hT, hK1, hK2, hIN, hOU, hI, hct, hni, hno⟩ := hs
  obtain ⟨nj, n0, n1, n2, n3, n4, np, PW, F1, F2, WB, TW, SM, JB, B0, B1, B2, B3, B4, SG, CT, MB, OP, rfl, rfl, ⟨hF1, hF2, hWB, hTW, hSM, hJB, hSG, hCT, hMB, hOP, hnj, hnp⟩, rfl⟩ := hd
  have hil := hIN.1
  have hol := hOU.1
  have hpl := hOP.1
  have c1 : l88 (cpy IN OU 0 0 16) := ⟨by rw [cpy_length (by omega) (by omega)]; exact hol, cpy8 hIN.2 hOU.2⟩
  have c1l := c1.1
  refine Con.of (by decide) rfl rfl (L := [some (.ref (zA (gz g) 0)), some (.int (nI 0))]) rfl (fun f C => ?_)
  refine x_aload_n (pc := 0) C (dq D_Desk_cipher 0 rfl) rfl ?_
  refine x_get (pc := 1) (ci := 0) (j := 4) C (dq D_Desk_cipher 1 rfl) rfl rfl rfl rfl k_fl_Desk_64 ?_
  refine x_get (pc := 4) (ci := 7) (j := 1) C (dq D_Desk_cipher 2 rfl) rfl rfl rfl rfl k_fl_Desk_90 ?_
  refine x_bipush (pc := 7) C (dq D_Desk_cipher 3 rfl) cb_16 ?_
  refine n_eq_t (pc := 9) (tgt := 22) C (dq D_Desk_cipher 4 rfl) (by decide) (by omega) (by omega) ?_
  refine x_aload_n (pc := 22) C (dq D_Desk_cipher 10 rfl) rfl ?_
  refine x_get (pc := 23) (ci := 0) (j := 5) C (dq D_Desk_cipher 11 rfl) rfl rfl rfl rfl k_fl_Desk_68 ?_
  refine x_aload_n (pc := 26) C (dq D_Desk_cipher 12 rfl) rfl ?_
  refine x_get (pc := 27) (ci := 0) (j := 4) C (dq D_Desk_cipher 13 rfl) rfl rfl rfl rfl k_fl_Desk_64 ?_
  refine x_cV0 (pc := 30) (ci := 7) (M := M_Row_become) C (dq D_Desk_cipher 14 rfl) k_ml_Desk_133 m_Row_become rfl rfl rfl (c_Row_become (r := 40) (b := 41) (n := no) (o := 38) (q := 39) (m := 16) rfl rfl rfl rfl (by omega) (by omega)) rfl rfl rfl rfl (by decide) ?_
  rw [dh_s40, dh_s41]
  refine x_iload_n (pc := 33) C (dq D_Desk_cipher 15 rfl) rfl ?_
  refine n_ifeq_t (pc := 34) (tgt := 56) C (dq D_Desk_cipher 16 rfl) (by decide) (by omega) (by omega) ?_
  refine x_aload_n (pc := 56) C (dq D_Desk_cipher 26 rfl) rfl ?_
  refine x_get (pc := 57) (ci := 0) (j := 0) C (dq D_Desk_cipher 27 rfl) rfl rfl rfl rfl k_fl_Desk_26 ?_
  refine x_iconst (pc := 60) C (dq D_Desk_cipher 28 rfl) ci_0 ?_
  refine x_aald (pc := 61) C (dq D_Desk_cipher 29 rfl) rfl rfl rfl (by simp) ?_
  refine x_aload_n (pc := 62) C (dq D_Desk_cipher 30 rfl) rfl ?_
  refine x_get (pc := 63) (ci := 0) (j := 5) C (dq D_Desk_cipher 31 rfl) rfl rfl rfl rfl k_fl_Desk_68 ?_
  refine x_get (pc := 66) (ci := 7) (j := 0) C (dq D_Desk_cipher 32 rfl) rfl rfl rfl rfl k_fl_Desk_118 ?_
  refine x_cV (pc := 69) (ci := 2) (M := M_Cipher_turn) C (dq D_Desk_cipher 33 rfl) k_ml_Desk_143 m_Cipher_turn rfl rfl rfl (c_turn (c := 5) (blk := 41) (cip1 hT hK1 hF1) rfl (by decide) (by omega) c1.2) rfl rfl rfl rfl (by decide) (fun o h2 hp => ?_)
  obtain ⟨rfl, Fx, q1, rfl⟩ := hp
  refine ⟨none, rfl, ?_⟩
  rw [dh_s7, dh_s41]
  show X g f M_Desk_cipher (0, 0) (dre g S FO BA none ct 16 16 [n0, n1, n2, n3, n4] [B0, B1, B2, B3, B4] K1 K2 IN (trn FO K1 (cpy IN OU 0 0 16))) (0, 0) 72 _ [] _
  exact x_vret (pc := 72) C (dq D_Desk_cipher 34 rfl) rfl (by decide) ⟨rfl, dok.mk ⟨q1, hF2, hWB, hTW, hSM, hJB, hSG, hCT, hMB, hOP, hnj, hnp⟩⟩

theorem d_cipher1 {g : Gp} {S : Hp} {FO BA : List Nat} {ct no : Nat} {NL : List Nat} {BL : List (List Nat)} {K1 K2 IN OU : List Nat} {h : Hp} (hs : dst0 FO BA ct 16 no NL BL K1 K2 IN OU) (hd : dok g S FO BA ct 16 no NL BL K1 K2 IN OU h) :
    Con g M_Desk_cipher 6 (0, 0) [.ref (zA (gz g) 0), .int (nI 1)] h (dre g S FO BA none ct 16 16 NL BL K1 K2 IN (trnB BA K1 (cpy IN OU 0 0 16))) := by
  obtain ⟨hT, hK1, hK2, hIN, hOU, hI, hct, hni, hno⟩ := hs
  obtain ⟨nj, n0, n1, n2, n3, n4, np, PW, F1, F2, WB, TW, SM, JB, B0, B1, B2, B3, B4, SG, CT, MB, OP, rfl, rfl, ⟨hF1, hF2, hWB, hTW, hSM, hJB, hSG, hCT, hMB, hOP, hnj, hnp⟩, rfl⟩ := hd
  have hil := hIN.1
  have hol := hOU.1
  have hpl := hOP.1
  have c1 : l88 (cpy IN OU 0 0 16) := ⟨by rw [cpy_length (by omega) (by omega)]; exact hol, cpy8 hIN.2 hOU.2⟩
  have c1l := c1.1
  refine Con.of (by decide) rfl rfl (L := [some (.ref (zA (gz g) 0)), some (.int (nI 1))]) rfl (fun f C => ?_)
  refine x_aload_n (pc := 0) C (dq D_Desk_cipher 0 rfl) rfl ?_
  refine x_get (pc := 1) (ci := 0) (j := 4) C (dq D_Desk_cipher 1 rfl) rfl rfl rfl rfl k_fl_Desk_64 ?_
  refine x_get (pc := 4) (ci := 7) (j := 1) C (dq D_Desk_cipher 2 rfl) rfl rfl rfl rfl k_fl_Desk_90 ?_
  refine x_bipush (pc := 7) C (dq D_Desk_cipher 3 rfl) cb_16 ?_
  refine n_eq_t (pc := 9) (tgt := 22) C (dq D_Desk_cipher 4 rfl) (by decide) (by omega) (by omega) ?_
  refine x_aload_n (pc := 22) C (dq D_Desk_cipher 10 rfl) rfl ?_
  refine x_get (pc := 23) (ci := 0) (j := 5) C (dq D_Desk_cipher 11 rfl) rfl rfl rfl rfl k_fl_Desk_68 ?_
  refine x_aload_n (pc := 26) C (dq D_Desk_cipher 12 rfl) rfl ?_
  refine x_get (pc := 27) (ci := 0) (j := 4) C (dq D_Desk_cipher 13 rfl) rfl rfl rfl rfl k_fl_Desk_64 ?_
  refine x_cV0 (pc := 30) (ci := 7) (M := M_Row_become) C (dq D_Desk_cipher 14 rfl) k_ml_Desk_133 m_Row_become rfl rfl rfl (c_Row_become (r := 40) (b := 41) (n := no) (o := 38) (q := 39) (m := 16) rfl rfl rfl rfl (by omega) (by omega)) rfl rfl rfl rfl (by decide) ?_
  rw [dh_s40, dh_s41]
  refine x_iload_n (pc := 33) C (dq D_Desk_cipher 15 rfl) rfl ?_
  refine n_ifeq_f (pc := 34) (tgt := 56) C (dq D_Desk_cipher 16 rfl) (by decide) (by omega) (by omega) ?_
  refine x_aload_n (pc := 37) C (dq D_Desk_cipher 17 rfl) rfl ?_
  refine x_get (pc := 38) (ci := 0) (j := 0) C (dq D_Desk_cipher 18 rfl) rfl rfl rfl rfl k_fl_Desk_26 ?_
  refine x_iconst (pc := 41) C (dq D_Desk_cipher 19 rfl) ci_0 ?_
  refine x_aald (pc := 42) C (dq D_Desk_cipher 20 rfl) rfl rfl rfl (by simp) ?_
  refine x_aload_n (pc := 43) C (dq D_Desk_cipher 21 rfl) rfl ?_
  refine x_get (pc := 44) (ci := 0) (j := 5) C (dq D_Desk_cipher 22 rfl) rfl rfl rfl rfl k_fl_Desk_68 ?_
  refine x_get (pc := 47) (ci := 7) (j := 0) C (dq D_Desk_cipher 23 rfl) rfl rfl rfl rfl k_fl_Desk_118 ?_
  refine x_cV (pc := 50) (ci := 2) (M := M_Cipher_turnBack) C (dq D_Desk_cipher 24 rfl) k_ml_Desk_139 m_Cipher_turnBack rfl rfl rfl (c_turnBack (c := 5) (blk := 41) (cip1 hT hK1 hF1) rfl (by decide) (by omega) c1.2) rfl rfl rfl rfl (by decide) (fun o h2 hp => ?_)
  obtain ⟨rfl, Fx, q1, rfl⟩ := hp
  refine ⟨none, rfl, ?_⟩
  rw [dh_s7, dh_s41]
  show X g f M_Desk_cipher (0, 0) (dre g S FO BA none ct 16 16 [n0, n1, n2, n3, n4] [B0, B1, B2, B3, B4] K1 K2 IN (trnB BA K1 (cpy IN OU 0 0 16))) (0, 0) 53 _ [] _
  refine x_goto (pc := 53) (tgt := 72) C (dq D_Desk_cipher 25 rfl) (by decide) ?_
  exact x_vret (pc := 72) C (dq D_Desk_cipher 34 rfl) rfl (by decide) ⟨rfl, dok.mk ⟨q1, hF2, hWB, hTW, hSM, hJB, hSG, hCT, hMB, hOP, hnj, hnp⟩⟩

theorem d_mark0 {g : Gp} {S : Hp} {FO BA : List Nat} {ct ni no : Nat} {NL : List Nat} {BL : List (List Nat)} {K1 K2 IN OU : List Nat} {h : Hp} (hs : dst0 FO BA ct ni no NL BL K1 K2 IN OU) (hd : dok g S FO BA ct ni no NL BL K1 K2 IN OU h)   :
    Con g M_Desk_mark 6 (0, 0) [.ref (zA (gz g) 0), .int (nI 0)] h (dre g S FO BA none ct ni 16 NL BL K1 K2 IN (cmk FO K1 IN ni OU)) := by
  obtain ⟨hT, hK1, hK2, hIN, hOU, hI, hct, hni, hno⟩ := hs
  obtain ⟨nj, n0, n1, n2, n3, n4, np, PW, F1, F2, WB, TW, SM, JB, B0, B1, B2, B3, B4, SG, CT, MB, OP, rfl, rfl, ⟨hF1, hF2, hWB, hTW, hSM, hJB, hSG, hCT, hMB, hOP, hnj, hnp⟩, rfl⟩ := hd
  have hil := hIN.1
  have hol := hOU.1
  have hpl := hOP.1
  refine Con.of (by decide) rfl rfl (L := [some (.ref (zA (gz g) 0)), some (.int (nI 0))]) rfl (fun f C => ?_)
  refine x_iload_n (pc := 0) C (dq D_Desk_mark 0 rfl) rfl ?_
  refine n_ifeq_t (pc := 1) (tgt := 29) C (dq D_Desk_mark 1 rfl) (by decide) (by omega) (by omega) ?_
  refine x_aload_n (pc := 29) C (dq D_Desk_mark 13 rfl) rfl ?_
  refine x_get (pc := 30) (ci := 0) (j := 1) C (dq D_Desk_mark 14 rfl) rfl rfl rfl rfl k_fl_Desk_32 ?_
  refine x_aload_n (pc := 33) C (dq D_Desk_mark 15 rfl) rfl ?_
  refine x_get (pc := 34) (ci := 0) (j := 4) C (dq D_Desk_mark 16 rfl) rfl rfl rfl rfl k_fl_Desk_64 ?_
  refine x_aload_n (pc := 37) C (dq D_Desk_mark 17 rfl) rfl ?_
  refine x_get (pc := 38) (ci := 0) (j := 5) C (dq D_Desk_mark 18 rfl) rfl rfl rfl rfl k_fl_Desk_68 ?_
  refine x_get (pc := 41) (ci := 7) (j := 0) C (dq D_Desk_mark 19 rfl) rfl rfl rfl rfl k_fl_Desk_118 ?_
  refine x_cV (pc := 44) (ci := 5) (M := M_Marker_markRow) C (dq D_Desk_mark 20 rfl) k_ml_Desk_150 m_Marker_markRow rfl rfl rfl (c_markRow (m := 13) (c := 5) (tz := 14) (sm := 15) (jn := 16) (r := 38) (b := 39) (n := ni) (mr := 41) rfl (cip1 hT hK1 hF1) rfl rfl rfl rfl (by decide) (by decide) (by decide) hTW.1 hTW.2 hIN (by omega) (by omega) hOU.2) rfl rfl rfl rfl (by decide) (fun o h2 hp => ?_)
  obtain ⟨rfl, Fx, Tx, q1, q2, q3, rfl⟩ := hp
  refine ⟨none, rfl, ?_⟩
  rw [dh_s7, dh_s14, dh_s41]
  show X g f M_Desk_mark (0, 0) (dre g S FO BA none ct ni 16 [n0, n1, n2, n3, n4] [B0, B1, B2, B3, B4] K1 K2 IN (cmk FO K1 IN ni OU)) (0, 0) 47 _ [] _
  refine x_aload_n (pc := 47) C (dq D_Desk_mark 21 rfl) rfl ?_
  refine x_get (pc := 48) (ci := 0) (j := 5) C (dq D_Desk_mark 22 rfl) rfl rfl rfl rfl k_fl_Desk_68 ?_
  refine x_bipush (pc := 51) C (dq D_Desk_mark 23 rfl) cb_16 ?_
  refine x_put (pc := 53) (ci := 7) (j := 1) (ty := .int) C (dq D_Desk_mark 24 rfl) rfl rfl rfl rfl k_fl_Desk_90 (Or.inl rfl) (by decide +kernel) rfl rfl ?_
  simp only [List.set_cons_zero, List.set_cons_succ]
  rw [dh_s40 (k := 16)]
  exact x_vret (pc := 56) C (dq D_Desk_mark 25 rfl) rfl (by decide) ⟨rfl, dok.mk ⟨q1, hF2, hWB, ⟨q2, q3⟩, hSM, hJB, hSG, hCT, hMB, hOP, hnj, hnp⟩⟩

theorem d_mark1 {g : Gp} {S : Hp} {FO BA : List Nat} {ct ni no : Nat} {NL : List Nat} {BL : List (List Nat)} {K1 K2 IN OU : List Nat} {h : Hp} (hs : dst0 FO BA ct ni no NL BL K1 K2 IN OU) (hd : dok g S FO BA ct ni no NL BL K1 K2 IN OU h)   :
    Con g M_Desk_mark 6 (0, 0) [.ref (zA (gz g) 0), .int (nI 1)] h (fun o h' => o = .returned none ∧ ∃ JB SM SG MB : List Nat, l88 JB ∧ l16 SM ∧ l16 SG ∧ l16 MB ∧ dok g S FO BA ct ni 16 NL BL K1 K2 IN (cjo FO K1 JB SM OU BL NL ct IN ni) h') := by
  obtain ⟨hT, hK1, hK2, hIN, hOU, hI, hct, hni, hno⟩ := hs
  obtain ⟨nj, n0, n1, n2, n3, n4, np, PW, F1, F2, WB, TW, SM, JB, B0, B1, B2, B3, B4, SG, CT, MB, OP, rfl, rfl, ⟨hF1, hF2, hWB, hTW, hSM, hJB, hSG, hCT, hMB, hOP, hnj, hnp⟩, rfl⟩ := hd
  have hil := hIN.1
  have hol := hOU.1
  have hpl := hOP.1
  refine Con.of (by decide) rfl rfl (L := [some (.ref (zA (gz g) 0)), some (.int (nI 1))]) rfl (fun f C => ?_)
  refine x_iload_n (pc := 0) C (dq D_Desk_mark 0 rfl) rfl ?_
  refine n_ifeq_f (pc := 1) (tgt := 29) C (dq D_Desk_mark 1 rfl) (by decide) (by omega) (by omega) ?_
  refine x_aload_n (pc := 4) C (dq D_Desk_mark 2 rfl) rfl ?_
  refine x_get (pc := 5) (ci := 0) (j := 1) C (dq D_Desk_mark 3 rfl) rfl rfl rfl rfl k_fl_Desk_32 ?_
  refine x_aload_n (pc := 8) C (dq D_Desk_mark 4 rfl) rfl ?_
  refine x_get (pc := 9) (ci := 0) (j := 3) C (dq D_Desk_mark 5 rfl) rfl rfl rfl rfl k_fl_Desk_36 ?_
  refine x_aload_n (pc := 12) C (dq D_Desk_mark 6 rfl) rfl ?_
  refine x_get (pc := 13) (ci := 0) (j := 4) C (dq D_Desk_mark 7 rfl) rfl rfl rfl rfl k_fl_Desk_64 ?_
  refine x_aload_n (pc := 16) C (dq D_Desk_mark 8 rfl) rfl ?_
  refine x_get (pc := 17) (ci := 0) (j := 5) C (dq D_Desk_mark 9 rfl) rfl rfl rfl rfl k_fl_Desk_68 ?_
  refine x_get (pc := 20) (ci := 7) (j := 0) C (dq D_Desk_mark 10 rfl) rfl rfl rfl rfl k_fl_Desk_118 ?_
  refine x_cV (pc := 23) (ci := 5) (M := M_Marker_join) C (dq D_Desk_mark 11 rfl) k_ml_Desk_146 m_Marker_join rfl rfl rfl (c_joinA hT hK1 hF1 hTW hSM hJB hOU hIN (by omega) hI hct) rfl rfl rfl rfl (by decide) (fun o h2 hp => ?_)
  obtain ⟨rfl, j, Fx, Tx, Jx, Qx1, q1, q2, q3, q4, q5, rfl⟩ := hp
  refine ⟨none, rfl, ?_⟩
  show X g f M_Desk_mark (0, 0) (fun o h' => o = .returned none ∧ ∃ JB SM SG MB : List Nat, l88 JB ∧ l16 SM ∧ l16 SG ∧ l16 MB ∧ dok g S FO BA ct ni 16 [n0, n1, n2, n3, n4] [B0, B1, B2, B3, B4] K1 K2 IN (cjo FO K1 JB SM OU [B0, B1, B2, B3, B4] [n0, n1, n2, n3, n4] ct IN ni) h') (0, 0) 26 _ [] _
  refine x_goto (pc := 26) (tgt := 47) C (dq D_Desk_mark 12 rfl) (by decide) ?_
  refine x_aload_n (pc := 47) C (dq D_Desk_mark 21 rfl) rfl ?_
  refine x_get (pc := 48) (ci := 0) (j := 5) C (dq D_Desk_mark 22 rfl) rfl rfl rfl rfl k_fl_Desk_68 ?_
  refine x_bipush (pc := 51) C (dq D_Desk_mark 23 rfl) cb_16 ?_
  refine x_put (pc := 53) (ci := 7) (j := 1) (ty := .int) C (dq D_Desk_mark 24 rfl) rfl rfl rfl rfl k_fl_Desk_90 (Or.inl rfl) (by decide +kernel) rfl rfl ?_
  simp only [List.set_cons_zero, List.set_cons_succ]
  rw [dh_s40 (k := 16)]
  exact x_vret (pc := 56) C (dq D_Desk_mark 25 rfl) rfl (by decide) ⟨rfl, JB, SM, SG, MB, hJB, hSM, hSG, hMB, dok.mk ⟨q1, hF2, hWB, q2, q4, q3, hSG, hCT, hMB, hOP, q5, hnp⟩⟩

set_option maxHeartbeats 1000000 in
theorem d_seal0 {g : Gp} {S : Hp} {FO BA : List Nat} {ct ni no : Nat} {NL : List Nat} {BL : List (List Nat)} {K1 K2 IN OU : List Nat} {h : Hp} (hs : dst0 FO BA ct ni no NL BL K1 K2 IN OU) (hd : dok g S FO BA ct ni no NL BL K1 K2 IN OU h)  (hf : ni ≤ 64) :
    Con g M_Desk_seal 6 (0, 0) [.ref (zA (gz g) 0), .int (nI 0)] h (fun o h' => o = .returned (some (.int (nI (16 + ni)))) ∧ ∃ JB SM SG MB : List Nat, l88 JB ∧ l16 SM ∧ l16 SG ∧ l16 MB ∧ dok g S FO BA ct ni (16 + ni) NL BL K1 K2 IN ((it (ast FO K2 16) 16 (16 + ni - 16) ((cpy IN (cpy (cjo FO K1 JB SM SG BL NL ct IN ni) OU 0 0 16) 0 16 ni), ct0 (cpy IN (cpy (cjo FO K1 JB SM SG BL NL ct IN ni) OU 0 0 16) 0 16 ni), MB)).1) h') := by
  obtain ⟨hT, hK1, hK2, hIN, hOU, hI, hct, hni, hno⟩ := hs
  obtain ⟨nj, n0, n1, n2, n3, n4, np, PW, F1, F2, WB, TW, SM, JB, B0, B1, B2, B3, B4, SG, CT, MB, OP, rfl, rfl, ⟨hF1, hF2, hWB, hTW, hSM, hJB, hSG, hCT, hMB, hOP, hnj, hnp⟩, rfl⟩ := hd
  have hil := hIN.1
  have hol := hOU.1
  have hpl := hOP.1
  refine Con.of (by decide) rfl rfl (L := [some (.ref (zA (gz g) 0)), some (.int (nI 0))]) rfl (fun f C => ?_)
  refine x_iload_n (pc := 0) C (dq D_Desk_seal 0 rfl) rfl ?_
  refine n_iflt_f (pc := 1) (tgt := 13) C (dq D_Desk_seal 1 rfl) (by decide) (by omega) (by omega) ?_
  refine x_iload_n (pc := 4) C (dq D_Desk_seal 2 rfl) rfl ?_
  refine x_aload_n (pc := 5) C (dq D_Desk_seal 3 rfl) rfl ?_
  refine x_get (pc := 6) (ci := 0) (j := 2) C (dq D_Desk_seal 4 rfl) rfl rfl rfl rfl k_fl_Desk_57 ?_
  refine x_rlenN (pc := 9) (N := 3) C (dq D_Desk_seal 5 rfl) rfl rfl rfl ?_
  refine n_lt_t (pc := 10) (tgt := 23) C (dq D_Desk_seal 6 rfl) (by decide) (by omega) (by omega) ?_
  refine x_aload_n (pc := 23) C (dq D_Desk_seal 12 rfl) rfl ?_
  refine x_get (pc := 24) (ci := 0) (j := 2) C (dq D_Desk_seal 13 rfl) rfl rfl rfl rfl k_fl_Desk_57 ?_
  refine x_iload_n (pc := 27) C (dq D_Desk_seal 14 rfl) rfl ?_
  refine x_aald (pc := 28) C (dq D_Desk_seal 15 rfl) rfl rfl rfl (by simp) ?_
  refine x_aload_n (pc := 29) C (dq D_Desk_seal 16 rfl) rfl ?_
  refine x_get (pc := 30) (ci := 0) (j := 4) C (dq D_Desk_seal 17 rfl) rfl rfl rfl rfl k_fl_Desk_64 ?_
  refine x_get (pc := 33) (ci := 7) (j := 1) C (dq D_Desk_seal 18 rfl) rfl rfl rfl rfl k_fl_Desk_90 ?_
  refine x_cU1 (pc := 36) (ci := 4) (M := M_Marked_canLock) (x := ⟨"SealingDesk$Way", "canLock", "(I)Z"⟩) (owner := "SealingDesk$Way") C (dq D_Desk_seal 19 rfl) k_ml_Desk_156 k_sm_Way_canLock k_se_Way_canLock_Marked_canLock (List.mem_of_getElem? (i := 0) rfl) u_Marked_canLock ⟨by decide, by decide, by decide +kernel⟩ rfl rfl (c_Marked_canLock hni) rfl rfl rfl rfl (by decide) ?_
  rw [if_pos hf]
  refine n_ifne_t (pc := 39) (tgt := 52) C (dq D_Desk_seal 20 rfl) (by decide) (by omega) (by omega) ?_
  refine x_aload_n (pc := 52) C (dq D_Desk_seal 26 rfl) rfl ?_
  refine x_get (pc := 53) (ci := 0) (j := 2) C (dq D_Desk_seal 27 rfl) rfl rfl rfl rfl k_fl_Desk_57 ?_
  refine x_iload_n (pc := 56) C (dq D_Desk_seal 28 rfl) rfl ?_
  refine x_aald (pc := 57) C (dq D_Desk_seal 29 rfl) rfl rfl rfl (by simp) ?_
  refine x_aload_n (pc := 58) C (dq D_Desk_seal 30 rfl) rfl ?_
  refine x_get (pc := 59) (ci := 0) (j := 4) C (dq D_Desk_seal 31 rfl) rfl rfl rfl rfl k_fl_Desk_64 ?_
  refine x_aload_n (pc := 62) C (dq D_Desk_seal 32 rfl) rfl ?_
  refine x_get (pc := 63) (ci := 0) (j := 5) C (dq D_Desk_seal 33 rfl) rfl rfl rfl rfl k_fl_Desk_68 ?_
  refine x_cU (pc := 66) (ci := 4) (M := M_Marked_lock) (x := ⟨"SealingDesk$Way", "lock", "(LSealingDesk$Row;LSealingDesk$Row;)V"⟩) (owner := "SealingDesk$Way") C (dq D_Desk_seal 34 rfl) k_ml_Desk_161 k_sm_Way_lock k_se_Way_lock_Marked_lock (List.mem_of_getElem? (i := 1) rfl) u_Marked_lock ⟨by decide, by decide, by decide +kernel⟩ rfl rfl (c_Marked_lock hT hK1 hK2 hF1 hF2 hTW hSM hJB hSG hCT hMB hIN hOU hOP hI hct hf) rfl rfl rfl rfl (by decide) (fun o h2 hp => ?_)
  obtain ⟨rfl, j, Fa, Tx, Ja, Qx1, Fb, C2, M2, q1, q2, q3, q4, q5, q6, q7, q8, rfl⟩ := hp
  refine ⟨none, rfl, ?_⟩
  show X g f M_Desk_seal (0, 0) (fun o h' => o = .returned (some (.int (nI (16 + ni)))) ∧ ∃ JB SM SG MB : List Nat, l88 JB ∧ l16 SM ∧ l16 SG ∧ l16 MB ∧ dok g S FO BA ct ni (16 + ni) [n0, n1, n2, n3, n4] [B0, B1, B2, B3, B4] K1 K2 IN ((it (ast FO K2 16) 16 (16 + ni - 16) ((cpy IN (cpy (cjo FO K1 JB SM SG [B0, B1, B2, B3, B4] [n0, n1, n2, n3, n4] ct IN ni) OU 0 0 16) 0 16 ni), ct0 (cpy IN (cpy (cjo FO K1 JB SM SG [B0, B1, B2, B3, B4] [n0, n1, n2, n3, n4] ct IN ni) OU 0 0 16) 0 16 ni), MB)).1) h') (0, 0) 69 _ [] _
  obtain ⟨j1, j2⟩ := cjo_ok (ct := ct) (NL := [n0, n1, n2, n3, n4]) (n := ni) hT.1.2 hK1.2 hJB.2 hSM.2 hSG.2 (fun i hi => (hI i (by omega)).1.2) hIN.2
  refine x_aload_n (pc := 69) C (dq D_Desk_seal 35 rfl) rfl ?_
  refine x_get (pc := 70) (ci := 0) (j := 5) C (dq D_Desk_seal 36 rfl) rfl rfl rfl rfl k_fl_Desk_68 ?_
  refine x_get (pc := 73) (ci := 7) (j := 1) C (dq D_Desk_seal 37 rfl) rfl rfl rfl rfl k_fl_Desk_90 ?_
  exact x_iret (pc := 76) C (dq D_Desk_seal 38 rfl) rfl (by decide) ⟨rfl, JB, SM, SG, MB, hJB, hSM, hSG, hMB, dok.mk ⟨q1, q6, hWB, q2, q4, q3, ⟨j1.trans hSG.1, j2⟩, q7, q8, hOP, q5, hnp⟩⟩

set_option maxHeartbeats 1000000 in
theorem d_seal1 {g : Gp} {S : Hp} {FO BA : List Nat} {ct ni no : Nat} {NL : List Nat} {BL : List (List Nat)} {K1 K2 IN OU : List Nat} {h : Hp} (hs : dst0 FO BA ct ni no NL BL K1 K2 IN OU) (hd : dok g S FO BA ct ni no NL BL K1 K2 IN OU h)  (hf : ni % 8 = 0 ∧ 16 ≤ ni ∧ ni ≤ 64) :
    Con g M_Desk_seal 6 (0, 0) [.ref (zA (gz g) 0), .int (nI 1)] h (dre g S FO BA (some (.int (nI (8 + ni)))) ct ni (8 + ni) NL BL K1 K2 IN (wnd FO K1 ((8 + ni) / 8 - 1) (cpy IN (it (fls 166) 0 8 OU) 0 8 ni))) := by
  obtain ⟨hT, hK1, hK2, hIN, hOU, hI, hct, hni, hno⟩ := hs
  obtain ⟨nj, n0, n1, n2, n3, n4, np, PW, F1, F2, WB, TW, SM, JB, B0, B1, B2, B3, B4, SG, CT, MB, OP, rfl, rfl, ⟨hF1, hF2, hWB, hTW, hSM, hJB, hSG, hCT, hMB, hOP, hnj, hnp⟩, rfl⟩ := hd
  have hil := hIN.1
  have hol := hOU.1
  have hpl := hOP.1
  refine Con.of (by decide) rfl rfl (L := [some (.ref (zA (gz g) 0)), some (.int (nI 1))]) rfl (fun f C => ?_)
  refine x_iload_n (pc := 0) C (dq D_Desk_seal 0 rfl) rfl ?_
  refine n_iflt_f (pc := 1) (tgt := 13) C (dq D_Desk_seal 1 rfl) (by decide) (by omega) (by omega) ?_
  refine x_iload_n (pc := 4) C (dq D_Desk_seal 2 rfl) rfl ?_
  refine x_aload_n (pc := 5) C (dq D_Desk_seal 3 rfl) rfl ?_
  refine x_get (pc := 6) (ci := 0) (j := 2) C (dq D_Desk_seal 4 rfl) rfl rfl rfl rfl k_fl_Desk_57 ?_
  refine x_rlenN (pc := 9) (N := 3) C (dq D_Desk_seal 5 rfl) rfl rfl rfl ?_
  refine n_lt_t (pc := 10) (tgt := 23) C (dq D_Desk_seal 6 rfl) (by decide) (by omega) (by omega) ?_
  refine x_aload_n (pc := 23) C (dq D_Desk_seal 12 rfl) rfl ?_
  refine x_get (pc := 24) (ci := 0) (j := 2) C (dq D_Desk_seal 13 rfl) rfl rfl rfl rfl k_fl_Desk_57 ?_
  refine x_iload_n (pc := 27) C (dq D_Desk_seal 14 rfl) rfl ?_
  refine x_aald (pc := 28) C (dq D_Desk_seal 15 rfl) rfl rfl rfl (by simp) ?_
  refine x_aload_n (pc := 29) C (dq D_Desk_seal 16 rfl) rfl ?_
  refine x_get (pc := 30) (ci := 0) (j := 4) C (dq D_Desk_seal 17 rfl) rfl rfl rfl rfl k_fl_Desk_64 ?_
  refine x_get (pc := 33) (ci := 7) (j := 1) C (dq D_Desk_seal 18 rfl) rfl rfl rfl rfl k_fl_Desk_90 ?_
  refine x_cU1 (pc := 36) (ci := 9) (M := M_Wrapped_canLock) (x := ⟨"SealingDesk$Way", "canLock", "(I)Z"⟩) (owner := "SealingDesk$Way") C (dq D_Desk_seal 19 rfl) k_ml_Desk_156 k_sm_Way_canLock k_se_Way_canLock_Wrapped_canLock (List.mem_of_getElem? (i := 0) rfl) u_Wrapped_canLock ⟨by decide, by decide, by decide +kernel⟩ rfl rfl (c_Wrapped_canLock hni) rfl rfl rfl rfl (by decide) ?_
  rw [if_pos hf]
  refine n_ifne_t (pc := 39) (tgt := 52) C (dq D_Desk_seal 20 rfl) (by decide) (by omega) (by omega) ?_
  refine x_aload_n (pc := 52) C (dq D_Desk_seal 26 rfl) rfl ?_
  refine x_get (pc := 53) (ci := 0) (j := 2) C (dq D_Desk_seal 27 rfl) rfl rfl rfl rfl k_fl_Desk_57 ?_
  refine x_iload_n (pc := 56) C (dq D_Desk_seal 28 rfl) rfl ?_
  refine x_aald (pc := 57) C (dq D_Desk_seal 29 rfl) rfl rfl rfl (by simp) ?_
  refine x_aload_n (pc := 58) C (dq D_Desk_seal 30 rfl) rfl ?_
  refine x_get (pc := 59) (ci := 0) (j := 4) C (dq D_Desk_seal 31 rfl) rfl rfl rfl rfl k_fl_Desk_64 ?_
  refine x_aload_n (pc := 62) C (dq D_Desk_seal 32 rfl) rfl ?_
  refine x_get (pc := 63) (ci := 0) (j := 5) C (dq D_Desk_seal 33 rfl) rfl rfl rfl rfl k_fl_Desk_68 ?_
  refine x_cU (pc := 66) (ci := 9) (M := M_Wrapped_lock) (x := ⟨"SealingDesk$Way", "lock", "(LSealingDesk$Row;LSealingDesk$Row;)V"⟩) (owner := "SealingDesk$Way") C (dq D_Desk_seal 34 rfl) k_ml_Desk_161 k_sm_Way_lock k_se_Way_lock_Wrapped_lock (List.mem_of_getElem? (i := 1) rfl) u_Wrapped_lock ⟨by decide, by decide, by decide +kernel⟩ rfl rfl (c_Wrapped_lock hT hK1 hF1 hWB hIN hOU hOP (by omega)) rfl rfl rfl rfl (by decide) (fun o h2 hp => ?_)
  obtain ⟨rfl, Fx, Kx, q1, q2, rfl⟩ := hp
  refine ⟨none, rfl, ?_⟩
  show X g f M_Desk_seal (0, 0) (dre g S FO BA (some (.int (nI (8 + ni)))) ct ni (8 + ni) [n0, n1, n2, n3, n4] [B0, B1, B2, B3, B4] K1 K2 IN (wnd FO K1 ((8 + ni) / 8 - 1) (cpy IN (it (fls 166) 0 8 OU) 0 8 ni))) (0, 0) 69 _ [] _
  
  refine x_aload_n (pc := 69) C (dq D_Desk_seal 35 rfl) rfl ?_
  refine x_get (pc := 70) (ci := 0) (j := 5) C (dq D_Desk_seal 36 rfl) rfl rfl rfl rfl k_fl_Desk_68 ?_
  refine x_get (pc := 73) (ci := 7) (j := 1) C (dq D_Desk_seal 37 rfl) rfl rfl rfl rfl k_fl_Desk_90 ?_
  exact x_iret (pc := 76) C (dq D_Desk_seal 38 rfl) rfl (by decide) ⟨rfl, dok.mk ⟨q1, hF2, q2, hTW, hSM, hJB, hSG, hCT, hMB, hOP, hnj, hnp⟩⟩

set_option maxHeartbeats 1000000 in
theorem d_seal2 {g : Gp} {S : Hp} {FO BA : List Nat} {ct ni no : Nat} {NL : List Nat} {BL : List (List Nat)} {K1 K2 IN OU : List Nat} {h : Hp} (hs : dst0 FO BA ct ni no NL BL K1 K2 IN OU) (hd : dok g S FO BA ct ni no NL BL K1 K2 IN OU h)  (hf : 1 ≤ ni ∧ ni ≤ 64) :
    Con g M_Desk_seal 6 (0, 0) [.ref (zA (gz g) 0), .int (nI 2)] h (dre g S FO BA (some (.int (nI (r8 (8 + ni))))) ct ni (r8 (8 + ni)) NL BL K1 K2 IN (cpw FO K1 ni IN OU)) := by
  obtain ⟨hT, hK1, hK2, hIN, hOU, hI, hct, hni, hno⟩ := hs
  obtain ⟨nj, n0, n1, n2, n3, n4, np, PW, F1, F2, WB, TW, SM, JB, B0, B1, B2, B3, B4, SG, CT, MB, OP, rfl, rfl, ⟨hF1, hF2, hWB, hTW, hSM, hJB, hSG, hCT, hMB, hOP, hnj, hnp⟩, rfl⟩ := hd
  have hil := hIN.1
  have hol := hOU.1
  have hpl := hOP.1
  refine Con.of (by decide) rfl rfl (L := [some (.ref (zA (gz g) 0)), some (.int (nI 2))]) rfl (fun f C => ?_)
  refine x_iload_n (pc := 0) C (dq D_Desk_seal 0 rfl) rfl ?_
  refine n_iflt_f (pc := 1) (tgt := 13) C (dq D_Desk_seal 1 rfl) (by decide) (by omega) (by omega) ?_
  refine x_iload_n (pc := 4) C (dq D_Desk_seal 2 rfl) rfl ?_
  refine x_aload_n (pc := 5) C (dq D_Desk_seal 3 rfl) rfl ?_
  refine x_get (pc := 6) (ci := 0) (j := 2) C (dq D_Desk_seal 4 rfl) rfl rfl rfl rfl k_fl_Desk_57 ?_
  refine x_rlenN (pc := 9) (N := 3) C (dq D_Desk_seal 5 rfl) rfl rfl rfl ?_
  refine n_lt_t (pc := 10) (tgt := 23) C (dq D_Desk_seal 6 rfl) (by decide) (by omega) (by omega) ?_
  refine x_aload_n (pc := 23) C (dq D_Desk_seal 12 rfl) rfl ?_
  refine x_get (pc := 24) (ci := 0) (j := 2) C (dq D_Desk_seal 13 rfl) rfl rfl rfl rfl k_fl_Desk_57 ?_
  refine x_iload_n (pc := 27) C (dq D_Desk_seal 14 rfl) rfl ?_
  refine x_aald (pc := 28) C (dq D_Desk_seal 15 rfl) rfl rfl rfl (by simp) ?_
  refine x_aload_n (pc := 29) C (dq D_Desk_seal 16 rfl) rfl ?_
  refine x_get (pc := 30) (ci := 0) (j := 4) C (dq D_Desk_seal 17 rfl) rfl rfl rfl rfl k_fl_Desk_64 ?_
  refine x_get (pc := 33) (ci := 7) (j := 1) C (dq D_Desk_seal 18 rfl) rfl rfl rfl rfl k_fl_Desk_90 ?_
  refine x_cU1 (pc := 36) (ci := 6) (M := M_Padded_canLock) (x := ⟨"SealingDesk$Way", "canLock", "(I)Z"⟩) (owner := "SealingDesk$Way") C (dq D_Desk_seal 19 rfl) k_ml_Desk_156 k_sm_Way_canLock k_se_Way_canLock_Padded_canLock (List.mem_of_getElem? (i := 0) rfl) u_Padded_canLock ⟨by decide, by decide, by decide +kernel⟩ rfl rfl (c_Padded_canLock hni) rfl rfl rfl rfl (by decide) ?_
  rw [if_pos hf]
  refine n_ifne_t (pc := 39) (tgt := 52) C (dq D_Desk_seal 20 rfl) (by decide) (by omega) (by omega) ?_
  refine x_aload_n (pc := 52) C (dq D_Desk_seal 26 rfl) rfl ?_
  refine x_get (pc := 53) (ci := 0) (j := 2) C (dq D_Desk_seal 27 rfl) rfl rfl rfl rfl k_fl_Desk_57 ?_
  refine x_iload_n (pc := 56) C (dq D_Desk_seal 28 rfl) rfl ?_
  refine x_aald (pc := 57) C (dq D_Desk_seal 29 rfl) rfl rfl rfl (by simp) ?_
  refine x_aload_n (pc := 58) C (dq D_Desk_seal 30 rfl) rfl ?_
  refine x_get (pc := 59) (ci := 0) (j := 4) C (dq D_Desk_seal 31 rfl) rfl rfl rfl rfl k_fl_Desk_64 ?_
  refine x_aload_n (pc := 62) C (dq D_Desk_seal 32 rfl) rfl ?_
  refine x_get (pc := 63) (ci := 0) (j := 5) C (dq D_Desk_seal 33 rfl) rfl rfl rfl rfl k_fl_Desk_68 ?_
  refine x_cU (pc := 66) (ci := 6) (M := M_Padded_lock) (x := ⟨"SealingDesk$Way", "lock", "(LSealingDesk$Row;LSealingDesk$Row;)V"⟩) (owner := "SealingDesk$Way") C (dq D_Desk_seal 34 rfl) k_ml_Desk_161 k_sm_Way_lock k_se_Way_lock_Padded_lock (List.mem_of_getElem? (i := 1) rfl) u_Padded_lock ⟨by decide, by decide, by decide +kernel⟩ rfl rfl (c_Padded_lock hT hK1 hF1 hWB hIN hOU hOP (by omega)) rfl rfl rfl rfl (by decide) (fun o h2 hp => ?_)
  obtain ⟨rfl, Fx, Kx, q1, q2, rfl⟩ := hp
  refine ⟨none, rfl, ?_⟩
  show X g f M_Desk_seal (0, 0) (dre g S FO BA (some (.int (nI (r8 (8 + ni))))) ct ni (r8 (8 + ni)) [n0, n1, n2, n3, n4] [B0, B1, B2, B3, B4] K1 K2 IN (cpw FO K1 ni IN OU)) (0, 0) 69 _ [] _
  
  refine x_aload_n (pc := 69) C (dq D_Desk_seal 35 rfl) rfl ?_
  refine x_get (pc := 70) (ci := 0) (j := 5) C (dq D_Desk_seal 36 rfl) rfl rfl rfl rfl k_fl_Desk_68 ?_
  refine x_get (pc := 73) (ci := 7) (j := 1) C (dq D_Desk_seal 37 rfl) rfl rfl rfl rfl k_fl_Desk_90 ?_
  exact x_iret (pc := 76) C (dq D_Desk_seal 38 rfl) rfl (by decide) ⟨rfl, dok.mk ⟨q1, hF2, q2, hTW, hSM, hJB, hSG, hCT, hMB, hOP, hnj, hnp⟩⟩

set_option maxHeartbeats 1000000 in
theorem d_open0 {g : Gp} {S : Hp} {FO BA : List Nat} {ct ni no : Nat} {NL : List Nat} {BL : List (List Nat)} {K1 K2 IN OU : List Nat} {h : Hp} (hs : dst0 FO BA ct ni no NL BL K1 K2 IN OU) (hd : dok g S FO BA ct ni no NL BL K1 K2 IN OU h)  (hf : 16 ≤ ni ∧ ni ≤ 80) :
    Con g M_Desk_open 6 (0, 0) [.ref (zA (gz g) 0), .int (nI 0)] h (fun o h' => ∃ JB SM SG MB OP : List Nat, l88 JB ∧ l16 SM ∧ l16 SG ∧ l16 MB ∧ l88 OP ∧ (((it (eqs (cjo FO K1 JB SM SG BL NL ct ((it (ast FO K2 0) 0 (ni - 16 - 0) ((cpy IN OP 16 0 (ni - 16)), ct0 IN, MB)).1) (ni - 16)) IN) 0 16 true) = true ∧ o = .returned (some (.int (nI (ni - 16)))) ∧ dok g S FO BA ct ni (ni - 16) NL BL K1 K2 IN (cpy ((it (ast FO K2 0) 0 (ni - 16 - 0) ((cpy IN OP 16 0 (ni - 16)), ct0 IN, MB)).1) OU 0 0 (ni - 16)) h') ∨ ((it (eqs (cjo FO K1 JB SM SG BL NL ct ((it (ast FO K2 0) 0 (ni - 16 - 0) ((cpy IN OP 16 0 (ni - 16)), ct0 IN, MB)).1) (ni - 16)) IN) 0 16 true) = false ∧ o = .returned (some (.int (-1))) ∧ dok g S FO BA ct ni no NL BL K1 K2 IN OU h'))) := by
  obtain ⟨hT, hK1, hK2, hIN, hOU, hI, hct, hni, hno⟩ := hs
  obtain ⟨nj, n0, n1, n2, n3, n4, np, PW, F1, F2, WB, TW, SM, JB, B0, B1, B2, B3, B4, SG, CT, MB, OP, rfl, rfl, ⟨hF1, hF2, hWB, hTW, hSM, hJB, hSG, hCT, hMB, hOP, hnj, hnp⟩, rfl⟩ := hd
  have hil := hIN.1
  have hol := hOU.1
  have hpl := hOP.1
  refine Con.of (by decide) rfl rfl (L := [some (.ref (zA (gz g) 0)), some (.int (nI 0))]) rfl (fun f C => ?_)
  have c1 : l88 (cpy IN OP 16 0 (ni - 16)) := ⟨by rw [cpy_length (by omega) (by omega)]; exact hpl, cpy8 hIN.2 hOP.2⟩
  have r1 : l88 ((it (ast FO K2 0) 0 (ni - 16 - 0) ((cpy IN OP 16 0 (ni - 16)), ct0 IN, MB)).1) := (ast_all hT.1.2 hK2.2 0 0 (ni - 16 - 0) (q := ((cpy IN OP 16 0 (ni - 16)), ct0 IN, MB)) ⟨c1, ct0_ok (by omega) hIN.2, hMB⟩).1
  have r1l := r1.1
  obtain ⟨j1, j2⟩ := cjo_ok (ct := ct) (NL := [n0, n1, n2, n3, n4]) (n := ni - 16) hT.1.2 hK1.2 hJB.2 hSM.2 hSG.2 (fun i hi => (hI i (by omega)).1.2) r1.2
  refine x_iload_n (pc := 0) C (dq D_Desk_open 0 rfl) rfl ?_
  refine n_iflt_f (pc := 1) (tgt := 13) C (dq D_Desk_open 1 rfl) (by decide) (by omega) (by omega) ?_
  refine x_iload_n (pc := 4) C (dq D_Desk_open 2 rfl) rfl ?_
  refine x_aload_n (pc := 5) C (dq D_Desk_open 3 rfl) rfl ?_
  refine x_get (pc := 6) (ci := 0) (j := 2) C (dq D_Desk_open 4 rfl) rfl rfl rfl rfl k_fl_Desk_57 ?_
  refine x_rlenN (pc := 9) (N := 3) C (dq D_Desk_open 5 rfl) rfl rfl rfl ?_
  refine n_lt_t (pc := 10) (tgt := 23) C (dq D_Desk_open 6 rfl) (by decide) (by omega) (by omega) ?_
  refine x_aload_n (pc := 23) C (dq D_Desk_open 12 rfl) rfl ?_
  refine x_get (pc := 24) (ci := 0) (j := 2) C (dq D_Desk_open 13 rfl) rfl rfl rfl rfl k_fl_Desk_57 ?_
  refine x_iload_n (pc := 27) C (dq D_Desk_open 14 rfl) rfl ?_
  refine x_aald (pc := 28) C (dq D_Desk_open 15 rfl) rfl rfl rfl (by simp) ?_
  refine x_aload_n (pc := 29) C (dq D_Desk_open 16 rfl) rfl ?_
  refine x_get (pc := 30) (ci := 0) (j := 4) C (dq D_Desk_open 17 rfl) rfl rfl rfl rfl k_fl_Desk_64 ?_
  refine x_get (pc := 33) (ci := 7) (j := 1) C (dq D_Desk_open 18 rfl) rfl rfl rfl rfl k_fl_Desk_90 ?_
  refine x_cU1 (pc := 36) (ci := 4) (M := M_Marked_canUnlock) (x := ⟨"SealingDesk$Way", "canUnlock", "(I)Z"⟩) (owner := "SealingDesk$Way") C (dq D_Desk_open 19 rfl) k_ml_Desk_165 k_sm_Way_canUnlock k_se_Way_canUnlock_Marked_canUnlock (List.mem_of_getElem? (i := 2) rfl) u_Marked_canUnlock ⟨by decide, by decide, by decide +kernel⟩ rfl rfl (c_Marked_canUnlock hni) rfl rfl rfl rfl (by decide) ?_
  rw [if_pos hf]
  refine n_ifne_t (pc := 39) (tgt := 52) C (dq D_Desk_open 20 rfl) (by decide) (by omega) (by omega) ?_
  refine x_aload_n (pc := 52) C (dq D_Desk_open 26 rfl) rfl ?_
  refine x_get (pc := 53) (ci := 0) (j := 2) C (dq D_Desk_open 27 rfl) rfl rfl rfl rfl k_fl_Desk_57 ?_
  refine x_iload_n (pc := 56) C (dq D_Desk_open 28 rfl) rfl ?_
  refine x_aald (pc := 57) C (dq D_Desk_open 29 rfl) rfl rfl rfl (by simp) ?_
  refine x_aload_n (pc := 58) C (dq D_Desk_open 30 rfl) rfl ?_
  refine x_get (pc := 59) (ci := 0) (j := 4) C (dq D_Desk_open 31 rfl) rfl rfl rfl rfl k_fl_Desk_64 ?_
  refine x_aload_n (pc := 62) C (dq D_Desk_open 32 rfl) rfl ?_
  refine x_get (pc := 63) (ci := 0) (j := 6) C (dq D_Desk_open 33 rfl) rfl rfl rfl rfl k_fl_Desk_71 ?_
  refine x_cU (pc := 66) (ci := 4) (M := M_Marked_unlock) (x := ⟨"SealingDesk$Way", "unlock", "(LSealingDesk$Row;LSealingDesk$Row;)Z"⟩) (owner := "SealingDesk$Way") C (dq D_Desk_open 34 rfl) k_ml_Desk_170 k_sm_Way_unlock k_se_Way_unlock_Marked_unlock (List.mem_of_getElem? (i := 3) rfl) u_Marked_unlock ⟨by decide, by decide, by decide +kernel⟩ rfl rfl (c_Marked_unlock hT hK1 hK2 hF1 hF2 hTW hSM hJB hSG hCT hMB hIN hOU hOP hI hct hf) rfl rfl rfl rfl (by decide) (fun o h2 hp => ?_)
  obtain ⟨rfl, j, Fa, Tx, Ja, Qx1, Fb, C2, M2, q1, q2, q3, q4, q5, q6, q7, q8, rfl⟩ := hp
  refine ⟨_, rfl, ?_⟩
  cases hq : (it (eqs (cjo FO K1 JB SM SG [B0, B1, B2, B3, B4] [n0, n1, n2, n3, n4] ct ((it (ast FO K2 0) 0 (ni - 16 - 0) ((cpy IN OP 16 0 (ni - 16)), ct0 IN, MB)).1) (ni - 16)) IN) 0 16 true)
  · rw [if_neg (by decide)]
    show X g f M_Desk_open (0, 0) (fun o h' => ∃ JB SM SG MB OP : List Nat, l88 JB ∧ l16 SM ∧ l16 SG ∧ l16 MB ∧ l88 OP ∧ (((it (eqs (cjo FO K1 JB SM SG [B0, B1, B2, B3, B4] [n0, n1, n2, n3, n4] ct ((it (ast FO K2 0) 0 (ni - 16 - 0) ((cpy IN OP 16 0 (ni - 16)), ct0 IN, MB)).1) (ni - 16)) IN) 0 16 true) = true ∧ o = .returned (some (.int (nI (ni - 16)))) ∧ dok g S FO BA ct ni (ni - 16) [n0, n1, n2, n3, n4] [B0, B1, B2, B3, B4] K1 K2 IN (cpy ((it (ast FO K2 0) 0 (ni - 16 - 0) ((cpy IN OP 16 0 (ni - 16)), ct0 IN, MB)).1) OU 0 0 (ni - 16)) h') ∨ ((it (eqs (cjo FO K1 JB SM SG [B0, B1, B2, B3, B4] [n0, n1, n2, n3, n4] ct ((it (ast FO K2 0) 0 (ni - 16 - 0) ((cpy IN OP 16 0 (ni - 16)), ct0 IN, MB)).1) (ni - 16)) IN) 0 16 true) = false ∧ o = .returned (some (.int (-1))) ∧ dok g S FO BA ct ni no [n0, n1, n2, n3, n4] [B0, B1, B2, B3, B4] K1 K2 IN OU h'))) (0, 0) 69 _ [.int (nI 0)] _
    refine n_ifne_f (pc := 69) (tgt := 74) C (dq D_Desk_open 35 rfl) (by decide) (by omega) (by omega) ?_
    refine x_iconst (pc := 72) C (dq D_Desk_open 36 rfl) ci_m1 ?_
    exact x_iret (pc := 73) C (dq D_Desk_open 37 rfl) rfl (by decide) ⟨JB, SM, SG, MB, OP, hJB, hSM, hSG, hMB, hOP, Or.inr ⟨hq, rfl, dok.mk ⟨q1, q6, hWB, q2, q4, q3, ⟨j1.trans hSG.1, j2⟩, q7, q8, r1, q5, by omega⟩⟩⟩
  · rw [if_pos rfl]
    show X g f M_Desk_open (0, 0) (fun o h' => ∃ JB SM SG MB OP : List Nat, l88 JB ∧ l16 SM ∧ l16 SG ∧ l16 MB ∧ l88 OP ∧ (((it (eqs (cjo FO K1 JB SM SG [B0, B1, B2, B3, B4] [n0, n1, n2, n3, n4] ct ((it (ast FO K2 0) 0 (ni - 16 - 0) ((cpy IN OP 16 0 (ni - 16)), ct0 IN, MB)).1) (ni - 16)) IN) 0 16 true) = true ∧ o = .returned (some (.int (nI (ni - 16)))) ∧ dok g S FO BA ct ni (ni - 16) [n0, n1, n2, n3, n4] [B0, B1, B2, B3, B4] K1 K2 IN (cpy ((it (ast FO K2 0) 0 (ni - 16 - 0) ((cpy IN OP 16 0 (ni - 16)), ct0 IN, MB)).1) OU 0 0 (ni - 16)) h') ∨ ((it (eqs (cjo FO K1 JB SM SG [B0, B1, B2, B3, B4] [n0, n1, n2, n3, n4] ct ((it (ast FO K2 0) 0 (ni - 16 - 0) ((cpy IN OP 16 0 (ni - 16)), ct0 IN, MB)).1) (ni - 16)) IN) 0 16 true) = false ∧ o = .returned (some (.int (-1))) ∧ dok g S FO BA ct ni no [n0, n1, n2, n3, n4] [B0, B1, B2, B3, B4] K1 K2 IN OU h'))) (0, 0) 69 _ [.int (nI 1)] _
    refine n_ifne_t (pc := 69) (tgt := 74) C (dq D_Desk_open 35 rfl) (by decide) (by omega) (by omega) ?_
    refine x_aload_n (pc := 74) C (dq D_Desk_open 38 rfl) rfl ?_
    refine x_get (pc := 75) (ci := 0) (j := 5) C (dq D_Desk_open 39 rfl) rfl rfl rfl rfl k_fl_Desk_68 ?_
    refine x_aload_n (pc := 78) C (dq D_Desk_open 40 rfl) rfl ?_
    refine x_get (pc := 79) (ci := 0) (j := 6) C (dq D_Desk_open 41 rfl) rfl rfl rfl rfl k_fl_Desk_71 ?_
    refine x_cV0 (pc := 82) (ci := 7) (M := M_Row_become) C (dq D_Desk_open 42 rfl) k_ml_Desk_133 m_Row_become rfl rfl rfl (c_Row_become (r := 40) (b := 41) (n := no) (o := 42) (q := 43) (m := ni - 16) rfl rfl rfl rfl (by omega) (by omega)) rfl rfl rfl rfl (by decide) ?_
    rw [dh_s40, dh_s41]
    refine x_aload_n (pc := 85) C (dq D_Desk_open 43 rfl) rfl ?_
    refine x_get (pc := 86) (ci := 0) (j := 5) C (dq D_Desk_open 44 rfl) rfl rfl rfl rfl k_fl_Desk_68 ?_
    refine x_get (pc := 89) (ci := 7) (j := 1) C (dq D_Desk_open 45 rfl) rfl rfl rfl rfl k_fl_Desk_90 ?_
    exact x_iret (pc := 92) C (dq D_Desk_open 46 rfl) rfl (by decide) ⟨JB, SM, SG, MB, OP, hJB, hSM, hSG, hMB, hOP, Or.inl ⟨hq, rfl, dok.mk ⟨q1, q6, hWB, q2, q4, q3, ⟨j1.trans hSG.1, j2⟩, q7, q8, r1, q5, by omega⟩⟩⟩

set_option maxHeartbeats 1000000 in
theorem d_open1 {g : Gp} {S : Hp} {FO BA : List Nat} {ct ni no : Nat} {NL : List Nat} {BL : List (List Nat)} {K1 K2 IN OU : List Nat} {h : Hp} (hs : dst0 FO BA ct ni no NL BL K1 K2 IN OU) (hd : dok g S FO BA ct ni no NL BL K1 K2 IN OU h)  (hf : ni % 8 = 0 ∧ 24 ≤ ni ∧ ni ≤ 72) :
    Con g M_Desk_open 6 (0, 0) [.ref (zA (gz g) 0), .int (nI 1)] h (fun o h' => ∃ JB SM SG MB OP : List Nat, l88 JB ∧ l16 SM ∧ l16 SG ∧ l16 MB ∧ l88 OP ∧ (((it (eqv 166 (uwn BA K1 (ni / 8 - 1) (cpy IN OP 0 0 ni))) 0 8 true) = true ∧ o = .returned (some (.int (nI (ni - 8)))) ∧ dok g S FO BA ct ni (ni - 8) NL BL K1 K2 IN (cpy (cpy (uwn BA K1 (ni / 8 - 1) (cpy IN OP 0 0 ni)) (uwn BA K1 (ni / 8 - 1) (cpy IN OP 0 0 ni)) 8 0 (ni - 8)) OU 0 0 (ni - 8)) h') ∨ ((it (eqv 166 (uwn BA K1 (ni / 8 - 1) (cpy IN OP 0 0 ni))) 0 8 true) = false ∧ o = .returned (some (.int (-1))) ∧ dok g S FO BA ct ni no NL BL K1 K2 IN OU h'))) := by
  obtain ⟨hT, hK1, hK2, hIN, hOU, hI, hct, hni, hno⟩ := hs
  obtain ⟨nj, n0, n1, n2, n3, n4, np, PW, F1, F2, WB, TW, SM, JB, B0, B1, B2, B3, B4, SG, CT, MB, OP, rfl, rfl, ⟨hF1, hF2, hWB, hTW, hSM, hJB, hSG, hCT, hMB, hOP, hnj, hnp⟩, rfl⟩ := hd
  have hil := hIN.1
  have hol := hOU.1
  have hpl := hOP.1
  refine Con.of (by decide) rfl rfl (L := [some (.ref (zA (gz g) 0)), some (.int (nI 1))]) rfl (fun f C => ?_)
  have c1 : l88 (cpy IN OP 0 0 ni) := ⟨by rw [cpy_length (by omega) (by omega)]; exact hpl, cpy8 hIN.2 hOP.2⟩
  have z1 : l88 (uwn BA K1 (ni / 8 - 1) (cpy IN OP 0 0 ni)) := uwn_ok hT.2.2 hK1.2 (by omega) (by omega) c1
  have z1l := z1.1
  have r1 : l88 (cpy (uwn BA K1 (ni / 8 - 1) (cpy IN OP 0 0 ni)) (uwn BA K1 (ni / 8 - 1) (cpy IN OP 0 0 ni)) 8 0 (ni - 8)) := ⟨by rw [cpy_length (by omega) (by omega)]; exact z1l, cpy8 z1.2 z1.2⟩
  have r1l := r1.1
  refine x_iload_n (pc := 0) C (dq D_Desk_open 0 rfl) rfl ?_
  refine n_iflt_f (pc := 1) (tgt := 13) C (dq D_Desk_open 1 rfl) (by decide) (by omega) (by omega) ?_
  refine x_iload_n (pc := 4) C (dq D_Desk_open 2 rfl) rfl ?_
  refine x_aload_n (pc := 5) C (dq D_Desk_open 3 rfl) rfl ?_
  refine x_get (pc := 6) (ci := 0) (j := 2) C (dq D_Desk_open 4 rfl) rfl rfl rfl rfl k_fl_Desk_57 ?_
  refine x_rlenN (pc := 9) (N := 3) C (dq D_Desk_open 5 rfl) rfl rfl rfl ?_
  refine n_lt_t (pc := 10) (tgt := 23) C (dq D_Desk_open 6 rfl) (by decide) (by omega) (by omega) ?_
  refine x_aload_n (pc := 23) C (dq D_Desk_open 12 rfl) rfl ?_
  refine x_get (pc := 24) (ci := 0) (j := 2) C (dq D_Desk_open 13 rfl) rfl rfl rfl rfl k_fl_Desk_57 ?_
  refine x_iload_n (pc := 27) C (dq D_Desk_open 14 rfl) rfl ?_
  refine x_aald (pc := 28) C (dq D_Desk_open 15 rfl) rfl rfl rfl (by simp) ?_
  refine x_aload_n (pc := 29) C (dq D_Desk_open 16 rfl) rfl ?_
  refine x_get (pc := 30) (ci := 0) (j := 4) C (dq D_Desk_open 17 rfl) rfl rfl rfl rfl k_fl_Desk_64 ?_
  refine x_get (pc := 33) (ci := 7) (j := 1) C (dq D_Desk_open 18 rfl) rfl rfl rfl rfl k_fl_Desk_90 ?_
  refine x_cU1 (pc := 36) (ci := 9) (M := M_Wrapped_canUnlock) (x := ⟨"SealingDesk$Way", "canUnlock", "(I)Z"⟩) (owner := "SealingDesk$Way") C (dq D_Desk_open 19 rfl) k_ml_Desk_165 k_sm_Way_canUnlock k_se_Way_canUnlock_Wrapped_canUnlock (List.mem_of_getElem? (i := 2) rfl) u_Wrapped_canUnlock ⟨by decide, by decide, by decide +kernel⟩ rfl rfl (c_Wrapped_canUnlock hni) rfl rfl rfl rfl (by decide) ?_
  rw [if_pos hf]
  refine n_ifne_t (pc := 39) (tgt := 52) C (dq D_Desk_open 20 rfl) (by decide) (by omega) (by omega) ?_
  refine x_aload_n (pc := 52) C (dq D_Desk_open 26 rfl) rfl ?_
  refine x_get (pc := 53) (ci := 0) (j := 2) C (dq D_Desk_open 27 rfl) rfl rfl rfl rfl k_fl_Desk_57 ?_
  refine x_iload_n (pc := 56) C (dq D_Desk_open 28 rfl) rfl ?_
  refine x_aald (pc := 57) C (dq D_Desk_open 29 rfl) rfl rfl rfl (by simp) ?_
  refine x_aload_n (pc := 58) C (dq D_Desk_open 30 rfl) rfl ?_
  refine x_get (pc := 59) (ci := 0) (j := 4) C (dq D_Desk_open 31 rfl) rfl rfl rfl rfl k_fl_Desk_64 ?_
  refine x_aload_n (pc := 62) C (dq D_Desk_open 32 rfl) rfl ?_
  refine x_get (pc := 63) (ci := 0) (j := 6) C (dq D_Desk_open 33 rfl) rfl rfl rfl rfl k_fl_Desk_71 ?_
  refine x_cU (pc := 66) (ci := 9) (M := M_Wrapped_unlock) (x := ⟨"SealingDesk$Way", "unlock", "(LSealingDesk$Row;LSealingDesk$Row;)Z"⟩) (owner := "SealingDesk$Way") C (dq D_Desk_open 34 rfl) k_ml_Desk_170 k_sm_Way_unlock k_se_Way_unlock_Wrapped_unlock (List.mem_of_getElem? (i := 3) rfl) u_Wrapped_unlock ⟨by decide, by decide, by decide +kernel⟩ rfl rfl (c_Wrapped_unlock hT hK1 hF1 hWB hIN hOU hOP (by omega)) rfl rfl rfl rfl (by decide) (fun o h2 hp => ?_)
  obtain ⟨Fx, Kx, q1, q2, hp⟩ := hp
  rcases hp with ⟨hq, rfl, rfl⟩ | ⟨hq, rfl, rfl⟩
  · refine ⟨_, rfl, ?_⟩
    skip
    show X g f M_Desk_open (0, 0) (fun o h' => ∃ JB SM SG MB OP : List Nat, l88 JB ∧ l16 SM ∧ l16 SG ∧ l16 MB ∧ l88 OP ∧ (((it (eqv 166 (uwn BA K1 (ni / 8 - 1) (cpy IN OP 0 0 ni))) 0 8 true) = true ∧ o = .returned (some (.int (nI (ni - 8)))) ∧ dok g S FO BA ct ni (ni - 8) [n0, n1, n2, n3, n4] [B0, B1, B2, B3, B4] K1 K2 IN (cpy (cpy (uwn BA K1 (ni / 8 - 1) (cpy IN OP 0 0 ni)) (uwn BA K1 (ni / 8 - 1) (cpy IN OP 0 0 ni)) 8 0 (ni - 8)) OU 0 0 (ni - 8)) h') ∨ ((it (eqv 166 (uwn BA K1 (ni / 8 - 1) (cpy IN OP 0 0 ni))) 0 8 true) = false ∧ o = .returned (some (.int (-1))) ∧ dok g S FO BA ct ni no [n0, n1, n2, n3, n4] [B0, B1, B2, B3, B4] K1 K2 IN OU h'))) (0, 0) 69 _ [.int (nI 1)] _
    refine n_ifne_t (pc := 69) (tgt := 74) C (dq D_Desk_open 35 rfl) (by decide) (by omega) (by omega) ?_
    refine x_aload_n (pc := 74) C (dq D_Desk_open 38 rfl) rfl ?_
    refine x_get (pc := 75) (ci := 0) (j := 5) C (dq D_Desk_open 39 rfl) rfl rfl rfl rfl k_fl_Desk_68 ?_
    refine x_aload_n (pc := 78) C (dq D_Desk_open 40 rfl) rfl ?_
    refine x_get (pc := 79) (ci := 0) (j := 6) C (dq D_Desk_open 41 rfl) rfl rfl rfl rfl k_fl_Desk_71 ?_
    refine x_cV0 (pc := 82) (ci := 7) (M := M_Row_become) C (dq D_Desk_open 42 rfl) k_ml_Desk_133 m_Row_become rfl rfl rfl (c_Row_become (r := 40) (b := 41) (n := no) (o := 42) (q := 43) (m := (ni - 8)) rfl rfl rfl rfl (by omega) (by omega)) rfl rfl rfl rfl (by decide) ?_
    rw [dh_s40, dh_s41]
    refine x_aload_n (pc := 85) C (dq D_Desk_open 43 rfl) rfl ?_
    refine x_get (pc := 86) (ci := 0) (j := 5) C (dq D_Desk_open 44 rfl) rfl rfl rfl rfl k_fl_Desk_68 ?_
    refine x_get (pc := 89) (ci := 7) (j := 1) C (dq D_Desk_open 45 rfl) rfl rfl rfl rfl k_fl_Desk_90 ?_
    exact x_iret (pc := 92) C (dq D_Desk_open 46 rfl) rfl (by decide) ⟨JB, SM, SG, MB, OP, hJB, hSM, hSG, hMB, hOP, Or.inl ⟨hq, rfl, dok.mk ⟨q1, hF2, q2, hTW, hSM, hJB, hSG, hCT, hMB, r1, hnj, by omega⟩⟩⟩
  · refine ⟨_, rfl, ?_⟩
    show X g f M_Desk_open (0, 0) (fun o h' => ∃ JB SM SG MB OP : List Nat, l88 JB ∧ l16 SM ∧ l16 SG ∧ l16 MB ∧ l88 OP ∧ (((it (eqv 166 (uwn BA K1 (ni / 8 - 1) (cpy IN OP 0 0 ni))) 0 8 true) = true ∧ o = .returned (some (.int (nI (ni - 8)))) ∧ dok g S FO BA ct ni (ni - 8) [n0, n1, n2, n3, n4] [B0, B1, B2, B3, B4] K1 K2 IN (cpy (cpy (uwn BA K1 (ni / 8 - 1) (cpy IN OP 0 0 ni)) (uwn BA K1 (ni / 8 - 1) (cpy IN OP 0 0 ni)) 8 0 (ni - 8)) OU 0 0 (ni - 8)) h') ∨ ((it (eqv 166 (uwn BA K1 (ni / 8 - 1) (cpy IN OP 0 0 ni))) 0 8 true) = false ∧ o = .returned (some (.int (-1))) ∧ dok g S FO BA ct ni no [n0, n1, n2, n3, n4] [B0, B1, B2, B3, B4] K1 K2 IN OU h'))) (0, 0) 69 _ [.int (nI 0)] _
    refine n_ifne_f (pc := 69) (tgt := 74) C (dq D_Desk_open 35 rfl) (by decide) (by omega) (by omega) ?_
    refine x_iconst (pc := 72) C (dq D_Desk_open 36 rfl) ci_m1 ?_
    exact x_iret (pc := 73) C (dq D_Desk_open 37 rfl) rfl (by decide) ⟨JB, SM, SG, MB, OP, hJB, hSM, hSG, hMB, hOP, Or.inr ⟨hq, rfl, dok.mk ⟨q1, hF2, q2, hTW, hSM, hJB, hSG, hCT, hMB, z1, hnj, by omega⟩⟩⟩

set_option maxHeartbeats 1000000 in
theorem d_open2 {g : Gp} {S : Hp} {FO BA : List Nat} {ct ni no : Nat} {NL : List Nat} {BL : List (List Nat)} {K1 K2 IN OU : List Nat} {h : Hp} (hs : dst0 FO BA ct ni no NL BL K1 K2 IN OU) (hd : dok g S FO BA ct ni no NL BL K1 K2 IN OU h)  (hf : ni % 8 = 0 ∧ 16 ≤ ni ∧ ni ≤ 72) :
    Con g M_Desk_open 6 (0, 0) [.ref (zA (gz g) 0), .int (nI 2)] h (fun o h' => ∃ JB SM SG MB OP : List Nat, l88 JB ∧ l16 SM ∧ l16 SG ∧ l16 MB ∧ l88 OP ∧ (((cok BA K1 ni IN OP) = true ∧ o = .returned (some (.int (nI (wat (cop BA K1 ni (cpy IN OP 0 0 ni)) 4)))) ∧ dok g S FO BA ct ni (wat (cop BA K1 ni (cpy IN OP 0 0 ni)) 4) NL BL K1 K2 IN (cpy (cpy (cop BA K1 ni (cpy IN OP 0 0 ni)) (cop BA K1 ni (cpy IN OP 0 0 ni)) 8 0 (ni - 8)) OU 0 0 (wat (cop BA K1 ni (cpy IN OP 0 0 ni)) 4)) h') ∨ ((cok BA K1 ni IN OP) = false ∧ o = .returned (some (.int (-1))) ∧ dok g S FO BA ct ni no NL BL K1 K2 IN OU h'))) := by
  obtain ⟨hT, hK1, hK2, hIN, hOU, hI, hct, hni, hno⟩ := hs
  obtain ⟨nj, n0, n1, n2, n3, n4, np, PW, F1, F2, WB, TW, SM, JB, B0, B1, B2, B3, B4, SG, CT, MB, OP, rfl, rfl, ⟨hF1, hF2, hWB, hTW, hSM, hJB, hSG, hCT, hMB, hOP, hnj, hnp⟩, rfl⟩ := hd
  have hil := hIN.1
  have hol := hOU.1
  have hpl := hOP.1
  refine Con.of (by decide) rfl rfl (L := [some (.ref (zA (gz g) 0)), some (.int (nI 2))]) rfl (fun f C => ?_)
  have c1 : l88 (cpy IN OP 0 0 ni) := ⟨by rw [cpy_length (by omega) (by omega)]; exact hpl, cpy8 hIN.2 hOP.2⟩
  have z1 : l88 (cop BA K1 ni (cpy IN OP 0 0 ni)) := cop_ok hT.2.2 hK1.2 (by omega) c1
  have hwz : (cok BA K1 ni IN OP) = true → wat (cop BA K1 ni (cpy IN OP 0 0 ni)) 4 ≤ ni - 8 := by
    intro q
    unfold cok at q
    rw [Bool.and_eq_true, decide_eq_true_eq] at q
    exact q.1.2.2
  have z1l := z1.1
  have r1 : l88 (cpy (cop BA K1 ni (cpy IN OP 0 0 ni)) (cop BA K1 ni (cpy IN OP 0 0 ni)) 8 0 (ni - 8)) := ⟨by rw [cpy_length (by omega) (by omega)]; exact z1l, cpy8 z1.2 z1.2⟩
  have r1l := r1.1
  refine x_iload_n (pc := 0) C (dq D_Desk_open 0 rfl) rfl ?_
  refine n_iflt_f (pc := 1) (tgt := 13) C (dq D_Desk_open 1 rfl) (by decide) (by omega) (by omega) ?_
  refine x_iload_n (pc := 4) C (dq D_Desk_open 2 rfl) rfl ?_
  refine x_aload_n (pc := 5) C (dq D_Desk_open 3 rfl) rfl ?_
  refine x_get (pc := 6) (ci := 0) (j := 2) C (dq D_Desk_open 4 rfl) rfl rfl rfl rfl k_fl_Desk_57 ?_
  refine x_rlenN (pc := 9) (N := 3) C (dq D_Desk_open 5 rfl) rfl rfl rfl ?_
  refine n_lt_t (pc := 10) (tgt := 23) C (dq D_Desk_open 6 rfl) (by decide) (by omega) (by omega) ?_
  refine x_aload_n (pc := 23) C (dq D_Desk_open 12 rfl) rfl ?_
  refine x_get (pc := 24) (ci := 0) (j := 2) C (dq D_Desk_open 13 rfl) rfl rfl rfl rfl k_fl_Desk_57 ?_
  refine x_iload_n (pc := 27) C (dq D_Desk_open 14 rfl) rfl ?_
  refine x_aald (pc := 28) C (dq D_Desk_open 15 rfl) rfl rfl rfl (by simp) ?_
  refine x_aload_n (pc := 29) C (dq D_Desk_open 16 rfl) rfl ?_
  refine x_get (pc := 30) (ci := 0) (j := 4) C (dq D_Desk_open 17 rfl) rfl rfl rfl rfl k_fl_Desk_64 ?_
  refine x_get (pc := 33) (ci := 7) (j := 1) C (dq D_Desk_open 18 rfl) rfl rfl rfl rfl k_fl_Desk_90 ?_
  refine x_cU1 (pc := 36) (ci := 6) (M := M_Padded_canUnlock) (x := ⟨"SealingDesk$Way", "canUnlock", "(I)Z"⟩) (owner := "SealingDesk$Way") C (dq D_Desk_open 19 rfl) k_ml_Desk_165 k_sm_Way_canUnlock k_se_Way_canUnlock_Padded_canUnlock (List.mem_of_getElem? (i := 2) rfl) u_Padded_canUnlock ⟨by decide, by decide, by decide +kernel⟩ rfl rfl (c_Padded_canUnlock hni) rfl rfl rfl rfl (by decide) ?_
  rw [if_pos hf]
  refine n_ifne_t (pc := 39) (tgt := 52) C (dq D_Desk_open 20 rfl) (by decide) (by omega) (by omega) ?_
  refine x_aload_n (pc := 52) C (dq D_Desk_open 26 rfl) rfl ?_
  refine x_get (pc := 53) (ci := 0) (j := 2) C (dq D_Desk_open 27 rfl) rfl rfl rfl rfl k_fl_Desk_57 ?_
  refine x_iload_n (pc := 56) C (dq D_Desk_open 28 rfl) rfl ?_
  refine x_aald (pc := 57) C (dq D_Desk_open 29 rfl) rfl rfl rfl (by simp) ?_
  refine x_aload_n (pc := 58) C (dq D_Desk_open 30 rfl) rfl ?_
  refine x_get (pc := 59) (ci := 0) (j := 4) C (dq D_Desk_open 31 rfl) rfl rfl rfl rfl k_fl_Desk_64 ?_
  refine x_aload_n (pc := 62) C (dq D_Desk_open 32 rfl) rfl ?_
  refine x_get (pc := 63) (ci := 0) (j := 6) C (dq D_Desk_open 33 rfl) rfl rfl rfl rfl k_fl_Desk_71 ?_
  refine x_cU (pc := 66) (ci := 6) (M := M_Padded_unlock) (x := ⟨"SealingDesk$Way", "unlock", "(LSealingDesk$Row;LSealingDesk$Row;)Z"⟩) (owner := "SealingDesk$Way") C (dq D_Desk_open 34 rfl) k_ml_Desk_170 k_sm_Way_unlock k_se_Way_unlock_Padded_unlock (List.mem_of_getElem? (i := 3) rfl) u_Padded_unlock ⟨by decide, by decide, by decide +kernel⟩ rfl rfl (c_Padded_unlock hT hK1 hF1 hWB hIN hOU hOP (by omega)) rfl rfl rfl rfl (by decide) (fun o h2 hp => ?_)
  obtain ⟨Fx, Kx, q1, q2, hp⟩ := hp
  rcases hp with ⟨hq, rfl, rfl⟩ | ⟨hq, rfl, rfl⟩
  · refine ⟨_, rfl, ?_⟩
    have hw4 := hwz hq
    show X g f M_Desk_open (0, 0) (fun o h' => ∃ JB SM SG MB OP : List Nat, l88 JB ∧ l16 SM ∧ l16 SG ∧ l16 MB ∧ l88 OP ∧ (((cok BA K1 ni IN OP) = true ∧ o = .returned (some (.int (nI (wat (cop BA K1 ni (cpy IN OP 0 0 ni)) 4)))) ∧ dok g S FO BA ct ni (wat (cop BA K1 ni (cpy IN OP 0 0 ni)) 4) [n0, n1, n2, n3, n4] [B0, B1, B2, B3, B4] K1 K2 IN (cpy (cpy (cop BA K1 ni (cpy IN OP 0 0 ni)) (cop BA K1 ni (cpy IN OP 0 0 ni)) 8 0 (ni - 8)) OU 0 0 (wat (cop BA K1 ni (cpy IN OP 0 0 ni)) 4)) h') ∨ ((cok BA K1 ni IN OP) = false ∧ o = .returned (some (.int (-1))) ∧ dok g S FO BA ct ni no [n0, n1, n2, n3, n4] [B0, B1, B2, B3, B4] K1 K2 IN OU h'))) (0, 0) 69 _ [.int (nI 1)] _
    refine n_ifne_t (pc := 69) (tgt := 74) C (dq D_Desk_open 35 rfl) (by decide) (by omega) (by omega) ?_
    refine x_aload_n (pc := 74) C (dq D_Desk_open 38 rfl) rfl ?_
    refine x_get (pc := 75) (ci := 0) (j := 5) C (dq D_Desk_open 39 rfl) rfl rfl rfl rfl k_fl_Desk_68 ?_
    refine x_aload_n (pc := 78) C (dq D_Desk_open 40 rfl) rfl ?_
    refine x_get (pc := 79) (ci := 0) (j := 6) C (dq D_Desk_open 41 rfl) rfl rfl rfl rfl k_fl_Desk_71 ?_
    refine x_cV0 (pc := 82) (ci := 7) (M := M_Row_become) C (dq D_Desk_open 42 rfl) k_ml_Desk_133 m_Row_become rfl rfl rfl (c_Row_become (r := 40) (b := 41) (n := no) (o := 42) (q := 43) (m := (wat (cop BA K1 ni (cpy IN OP 0 0 ni)) 4)) rfl rfl rfl rfl (by omega) (by omega)) rfl rfl rfl rfl (by decide) ?_
    rw [dh_s40, dh_s41]
    refine x_aload_n (pc := 85) C (dq D_Desk_open 43 rfl) rfl ?_
    refine x_get (pc := 86) (ci := 0) (j := 5) C (dq D_Desk_open 44 rfl) rfl rfl rfl rfl k_fl_Desk_68 ?_
    refine x_get (pc := 89) (ci := 7) (j := 1) C (dq D_Desk_open 45 rfl) rfl rfl rfl rfl k_fl_Desk_90 ?_
    exact x_iret (pc := 92) C (dq D_Desk_open 46 rfl) rfl (by decide) ⟨JB, SM, SG, MB, OP, hJB, hSM, hSG, hMB, hOP, Or.inl ⟨hq, rfl, dok.mk ⟨q1, hF2, q2, hTW, hSM, hJB, hSG, hCT, hMB, r1, hnj, by omega⟩⟩⟩
  · refine ⟨_, rfl, ?_⟩
    show X g f M_Desk_open (0, 0) (fun o h' => ∃ JB SM SG MB OP : List Nat, l88 JB ∧ l16 SM ∧ l16 SG ∧ l16 MB ∧ l88 OP ∧ (((cok BA K1 ni IN OP) = true ∧ o = .returned (some (.int (nI (wat (cop BA K1 ni (cpy IN OP 0 0 ni)) 4)))) ∧ dok g S FO BA ct ni (wat (cop BA K1 ni (cpy IN OP 0 0 ni)) 4) [n0, n1, n2, n3, n4] [B0, B1, B2, B3, B4] K1 K2 IN (cpy (cpy (cop BA K1 ni (cpy IN OP 0 0 ni)) (cop BA K1 ni (cpy IN OP 0 0 ni)) 8 0 (ni - 8)) OU 0 0 (wat (cop BA K1 ni (cpy IN OP 0 0 ni)) 4)) h') ∨ ((cok BA K1 ni IN OP) = false ∧ o = .returned (some (.int (-1))) ∧ dok g S FO BA ct ni no [n0, n1, n2, n3, n4] [B0, B1, B2, B3, B4] K1 K2 IN OU h'))) (0, 0) 69 _ [.int (nI 0)] _
    refine n_ifne_f (pc := 69) (tgt := 74) C (dq D_Desk_open 35 rfl) (by decide) (by omega) (by omega) ?_
    refine x_iconst (pc := 72) C (dq D_Desk_open 36 rfl) ci_m1 ?_
    exact x_iret (pc := 73) C (dq D_Desk_open 37 rfl) rfl (by decide) ⟨JB, SM, SG, MB, OP, hJB, hSM, hSG, hMB, hOP, Or.inr ⟨hq, rfl, dok.mk ⟨q1, hF2, q2, hTW, hSM, hJB, hSG, hCT, hMB, r1, hnj, by omega⟩⟩⟩

theorem d_size {g : Gp} {S : Hp} {FO BA : List Nat} {ct ni no : Nat} {NL : List Nat} {BL : List (List Nat)} {K1 K2 IN OU : List Nat} {h : Hp} (hs : dst0 FO BA ct ni no NL BL K1 K2 IN OU) (hd : dok g S FO BA ct ni no NL BL K1 K2 IN OU h)   :
    Con g M_Desk_size 6 (0, 0) [.ref (zA (gz g) 0)] h (dre g S FO BA (some (.int (nI no))) ct ni no NL BL K1 K2 IN OU) := by
  obtain ⟨hT, hK1, hK2, hIN, hOU, hI, hct, hni, hno⟩ := hs
  obtain ⟨nj, n0, n1, n2, n3, n4, np, PW, F1, F2, WB, TW, SM, JB, B0, B1, B2, B3, B4, SG, CT, MB, OP, rfl, rfl, ⟨hF1, hF2, hWB, hTW, hSM, hJB, hSG, hCT, hMB, hOP, hnj, hnp⟩, rfl⟩ := hd
  have hil := hIN.1
  have hol := hOU.1
  have hpl := hOP.1
  refine Con.of (by decide) rfl rfl (L := [some (.ref (zA (gz g) 0))]) rfl (fun f C => ?_)
  refine x_aload_n (pc := 0) C (dq D_Desk_size 0 rfl) rfl ?_
  refine x_get (pc := 1) (ci := 0) (j := 5) C (dq D_Desk_size 1 rfl) rfl rfl rfl rfl k_fl_Desk_68 ?_
  refine x_get (pc := 4) (ci := 7) (j := 1) C (dq D_Desk_size 2 rfl) rfl rfl rfl rfl k_fl_Desk_90 ?_
  exact x_iret (pc := 7) C (dq D_Desk_size 3 rfl) rfl (by decide) ⟨rfl, dok.mk ⟨hF1, hF2, hWB, hTW, hSM, hJB, hSG, hCT, hMB, hOP, hnj, hnp⟩⟩

theorem d_at {g : Gp} {S : Hp} {FO BA : List Nat} {ct ni no : Nat} {NL : List Nat} {BL : List (List Nat)} {K1 K2 IN OU : List Nat} {h : Hp} (hs : dst0 FO BA ct ni no NL BL K1 K2 IN OU) (hd : dok g S FO BA ct ni no NL BL K1 K2 IN OU h) {k : Nat} (hk : k < no) :
    Con g M_Desk_at 6 (0, 0) [.ref (zA (gz g) 0), .int (nI k)] h (dre g S FO BA (some (.int (nI (OU.getD k 0)))) ct ni no NL BL K1 K2 IN OU) := by
  obtain ⟨hT, hK1, hK2, hIN, hOU, hI, hct, hni, hno⟩ := hs
  obtain ⟨nj, n0, n1, n2, n3, n4, np, PW, F1, F2, WB, TW, SM, JB, B0, B1, B2, B3, B4, SG, CT, MB, OP, rfl, rfl, ⟨hF1, hF2, hWB, hTW, hSM, hJB, hSG, hCT, hMB, hOP, hnj, hnp⟩, rfl⟩ := hd
  have hil := hIN.1
  have hol := hOU.1
  have hpl := hOP.1
  refine Con.of (by decide) rfl rfl (L := [some (.ref (zA (gz g) 0)), some (.int (nI k))]) rfl (fun f C => ?_)
  refine x_aload_n (pc := 0) C (dq D_Desk_at 0 rfl) rfl ?_
  refine x_get (pc := 1) (ci := 0) (j := 5) C (dq D_Desk_at 1 rfl) rfl rfl rfl rfl k_fl_Desk_68 ?_
  refine x_iload_n (pc := 4) C (dq D_Desk_at 2 rfl) rfl ?_
  refine x_cV1 (pc := 5) (ci := 7) (M := M_Row_has) C (dq D_Desk_at 3 rfl) k_ml_Desk_110 m_Row_has rfl rfl rfl (c_Row_has (r := 40) (b := 41) (n := no) (x := nI k) rfl) rfl rfl rfl rfl (by decide) ?_
  rw [has1 hk (by omega)]
  refine n_ifne_t (pc := 8) (tgt := 21) C (dq D_Desk_at 4 rfl) (by decide) (by omega) (by omega) ?_
  refine x_aload_n (pc := 21) C (dq D_Desk_at 10 rfl) rfl ?_
  refine x_get (pc := 22) (ci := 0) (j := 5) C (dq D_Desk_at 11 rfl) rfl rfl rfl rfl k_fl_Desk_68 ?_
  refine x_get (pc := 25) (ci := 7) (j := 0) C (dq D_Desk_at 12 rfl) rfl rfl rfl rfl k_fl_Desk_118 ?_
  refine x_iload_n (pc := 28) C (dq D_Desk_at 13 rfl) rfl ?_
  refine x_iald (pc := 29) C (dq D_Desk_at 14 rfl) rfl (by (try simp only [List.length_set]); omega) ?_
  exact x_iret (pc := 30) C (dq D_Desk_at 15 rfl) rfl (by decide) ⟨rfl, dok.mk ⟨hF1, hF2, hWB, hTW, hSM, hJB, hSG, hCT, hMB, hOP, hnj, hnp⟩⟩

theorem d_take {g : Gp} {S : Hp} {FO BA : List Nat} {ct ni no : Nat} {NL : List Nat} {BL : List (List Nat)} {K1 K2 IN OU : List Nat} {h : Hp} (hs : dst0 FO BA ct ni no NL BL K1 K2 IN OU) (hd : dok g S FO BA ct ni no NL BL K1 K2 IN OU h)   :
    Con g M_Desk_take 6 (0, 0) [.ref (zA (gz g) 0)] h (dre g S FO BA (some (.int (nI no))) ct no no NL BL K1 K2 (cpy OU IN 0 0 no) OU) := by
  obtain ⟨hT, hK1, hK2, hIN, hOU, hI, hct, hni, hno⟩ := hs
  obtain ⟨nj, n0, n1, n2, n3, n4, np, PW, F1, F2, WB, TW, SM, JB, B0, B1, B2, B3, B4, SG, CT, MB, OP, rfl, rfl, ⟨hF1, hF2, hWB, hTW, hSM, hJB, hSG, hCT, hMB, hOP, hnj, hnp⟩, rfl⟩ := hd
  have hil := hIN.1
  have hol := hOU.1
  have hpl := hOP.1
  refine Con.of (by decide) rfl rfl (L := [some (.ref (zA (gz g) 0))]) rfl (fun f C => ?_)
  refine x_aload_n (pc := 0) C (dq D_Desk_take 0 rfl) rfl ?_
  refine x_get (pc := 1) (ci := 0) (j := 4) C (dq D_Desk_take 1 rfl) rfl rfl rfl rfl k_fl_Desk_64 ?_
  refine x_aload_n (pc := 4) C (dq D_Desk_take 2 rfl) rfl ?_
  refine x_get (pc := 5) (ci := 0) (j := 5) C (dq D_Desk_take 3 rfl) rfl rfl rfl rfl k_fl_Desk_68 ?_
  refine x_cV0 (pc := 8) (ci := 7) (M := M_Row_become) C (dq D_Desk_take 4 rfl) k_ml_Desk_133 m_Row_become rfl rfl rfl (c_Row_become (r := 38) (b := 39) (n := ni) (o := 40) (q := 41) (m := no) rfl rfl rfl rfl (by omega) (by omega)) rfl rfl rfl rfl (by decide) ?_
  rw [dh_s38, dh_s39]
  refine x_aload_n (pc := 11) C (dq D_Desk_take 5 rfl) rfl ?_
  refine x_get (pc := 12) (ci := 0) (j := 4) C (dq D_Desk_take 6 rfl) rfl rfl rfl rfl k_fl_Desk_64 ?_
  refine x_get (pc := 15) (ci := 7) (j := 1) C (dq D_Desk_take 7 rfl) rfl rfl rfl rfl k_fl_Desk_90 ?_
  exact x_iret (pc := 18) C (dq D_Desk_take 8 rfl) rfl (by decide) ⟨rfl, dok.mk ⟨hF1, hF2, hWB, hTW, hSM, hJB, hSG, hCT, hMB, hOP, hnj, hnp⟩⟩
