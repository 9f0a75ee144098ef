/-! The law's methods that call the desk and catch what it throws. -/
def ll (v : Int64) : Nat → Int64 := fun k => if k = 0 then v else 0
/-- the row of one long -/
def lc (g : Gp) (v : Int64) : va_E := .inl (gC g 1, 1, .inr (.inl (ll v)))
section XL
variable {g : Gp} {f : Fm} {md : MD} {fr : Nat} {mc : Nat × Nat} {Post : Outcome → Hp → Prop} {n : Nat × Nat} {pc : Nat} {L : List (Option Value)} {st : List Value} {h : Hp}
theorem x_lald {a : Nat} {v : Int64} (C : Cx g f md fr mc) (d : decode md.2.1 pc = .ok (.laload, 1)) (ha : h[a]? = some (lc g v)) (k : X g f md mc Post n (pc + 1) L (.long v :: st) h) : X g f md mc Post n pc L (.int (nI 0) :: .ref (zA (gz g) a) :: st) h :=
  fun H locs ls hR hS hl => va_lald C.exec C.code C.K hR.1 a 1 (wl_get ha) rfl (vp_in_nI (by omega) (by omega)) d (by rw [nI_clamp (by omega)]; exact k H locs ls hR hS hl)
theorem x_last {a : Nat} {v x : Int64} (C : Cx g f md fr mc) (d : decode md.2.1 pc = .ok (.lastore, 1)) (ha : h[a]? = some (lc g v)) (k : X g f md mc Post n (pc + 1) L st (h.set a (lc g x))) : X g f md mc Post n pc L (.long x :: .int (nI 0) :: .ref (zA (gz g) a) :: st) h := by
  intro H locs ls hR hS hl
  refine W.last C.exec C.code (hR.1 a _ (wl_get ha)) ((C.K.2 1 _ rfl).1 1 (fun j => .long (ll v j))) (fun q => by cases q) (by show ¬ (nI 0 < 0 ∨ (arrV _ _ _).slots.size ≤ _); rw [arrV_size]; exact vp_in_nI (show 0 < 1 by omega) (show 1 < 2 ^ 31 by omega)) rfl rfl d fun H1 e z oq => ?_
  refine k H1 _ ls (hR.put ha ?_ z oq) (hS.put z oq (zA_zle g a)) hl
  show H1[zA (gz g) a]? = some (vp_cell (gC g 1) (1, .inr (.inl (ll x))))
  rw [e, vp_cell_l, vp_cell_l, arrV_store, nI_clamp (by omega)]
  congr 2
  funext q
  by_cases hq : q = 0
  · subst hq
    simp [updV, ll]
  · simp [updV, ll, hq]
theorem ll_zero : (fun _ => (0 : Int64)) = ll 0 := by
  funext k
  unfold ll
  split <;> rfl
theorem x_newl (C : Cx g f md fr mc) (d : decode md.2.1 pc = .ok (.newarray .long, 2)) (hlt : h.length < 60) (hm : n.1 + 1 ≤ mc.1 ∧ n.2 + 1 ≤ mc.2) (k : X g f md mc Post (n.1 + 1, n.2 + 1) (pc + 2) L (.ref (zA (gz g) h.length) :: st) (h ++ [lc g 0])) : X g f md mc Post n pc L (.int (nI 1) :: st) h := by
  intro H locs ls hR hS hl
  refine va_newaK (atype := .long) C.exec C.code (C.ts _ k_ac_long) rfl d rfl (nI_pos (by omega)) (nI_clamp (by omega)) (by decide) (by rw [C.room]; exact hm.1) (by rw [C.room]; exact hm.2) (hR.2.2 hlt) fun H1 cA e1 z1 o1 hAr hNm => ?_
  have hcA : cA = gC g 1 := Option.some.inj (hNm.symm.trans (C.K.2 1 _ rfl).2)
  subst hcA
  refine k H1 locs ls (Rl.push hlt hR ?_ (by rw [z1, hR.2.2 hlt]) (fun q hq => o1 q (by rw [← hR.2.2 hlt]; exact hq))) (hS.grow (by rw [z1, hR.2.2 hlt]) (fun q hq => o1 q (by rw [← hR.2.2 hlt]; exact hq))) hl
  show H1[zA (gz g) h.length]? = some (vp_cell (gC g 1) (1, .inr (.inl (ll 0))))
  rw [← ll_zero, vp_cell_l]
  exact e1
end XL
theorem xw_IO : Cond.castable R_IndexOutOfBoundsException R_IndexOutOfBoundsException ∈ XW := List.mem_append_left _ (by simp [Bundle.ownAtoms])
theorem xw_IA : Cond.castable R_IllegalArgumentException R_IllegalArgumentException ∈ XW := List.mem_append_right _ (List.mem_append_left _ (by simp [Bundle.ownAtoms]))
theorem xw_IS : Cond.castable R_IllegalStateException R_IllegalStateException ∈ XW := List.mem_append_right _ (List.mem_append_right _ (by simp [Bundle.ownAtoms]))
/-- behind a call that answered: the answer lies in the row of one long -/
def wok (g : Gp) (Post : Outcome → Hp → Prop) : Outcome → Hp → Prop := fun o h' => o = .returned (some (.int (nI 0))) ∧ ∃ (r : Int32) (h1 : Hp), Post (.returned (some (.int r))) h1 ∧ h' = h1.set 59 (lc g r.toInt64)
def wov (Post : Outcome → Hp → Prop) : Outcome → Hp → Prop := fun o h' => o = .returned (some (.int (nI 0))) ∧ Post (.returned none) h'
/-- the end is an answer, and the row of one long stands -/
def wan (g : Gp) (Post : Outcome → Hp → Prop) : Prop := ∀ o h', Post o h' → (∃ r, o = .returned (some (.int r))) ∧ ∃ v, h'[59]? = some (lc g v)

theorem k_cw_Law_key : Cond.codeWith y_Law_key b_Law_key 7 (some .int) [(0, 11, 14, 13)] ∈ tb := tb_i 332 (by decide +kernel) (by decide +kernel)
theorem m_Law_key : mSW M_Law_key [(0, 11, 14, 13)] 6 := ⟨k_st_Law_key, k_in_Law, k_cw_Law_key, ⟨by decide, by decide, by decide +kernel⟩⟩
theorem w_key_ok {g : Gp} {h : Hp} {vs : List Value} {y0 y1 y2 y3 y4 : Int32} {Post : Outcome → Hp → Prop} (ha : h[0]? = some (.inr (0, vs))) (hc : Con g M_Desk_key 6 (0, 0) [.ref (zA (gz g) 0), .int y0, .int y1, .int y2, .int y3, .int y4] h Post) (hpo : ∀ o h', Post o h' → o = .returned none) : ConW g M_Law_key [(0, 11, 14, 13)] 7 (1, 6) [.ref (zA (gz g) 0), .int y0, .int y1, .int y2, .int y3, .int y4] h (wov Post) := by
  refine ConW.of (by decide) rfl rfl (L := [some (.ref (zA (gz g) 0)), some (.int y0), some (.int y1), some (.int y2), some (.int y3), some (.int y4), none]) rfl (fun f C hx htab => ?_)
  refine x_aload_n (pc := 0) C (dq D_Law_key 0 rfl) rfl ?_
  refine x_iload_n (pc := 1) C (dq D_Law_key 1 rfl) rfl ?_
  refine x_iload_n (pc := 2) C (dq D_Law_key 2 rfl) rfl ?_
  refine x_iload_n (pc := 3) C (dq D_Law_key 3 rfl) rfl ?_
  refine x_iload (pc := 4) C (dq D_Law_key 4 rfl) rfl ?_
  refine x_iload (pc := 6) C (dq D_Law_key 5 rfl) rfl ?_
  refine x_cV (pc := 8) (ci := 0) (M := M_Desk_key) C (dq D_Law_key 6 rfl) k_ml_Law_7 m_Desk_key rfl rfl (ha) (hc) rfl rfl rfl rfl (by decide) (fun o h2 hp => ?_)
  obtain rfl := hpo _ _ hp
  refine ⟨_, rfl, ?_⟩
  show X g f M_Law_key (1, 6) _ (0, 0) 11 _ [] _
  refine x_goto (pc := 11) (tgt := 18) C (dq D_Law_key 7 rfl) (by decide) ?_
  refine x_iconst (pc := 18) C (dq D_Law_key 11 rfl) ci_0 ?_
  exact x_iret (pc := 19) C (dq D_Law_key 12 rfl) rfl (by decide) ⟨rfl, hp⟩

theorem w_key_1 {g : Gp} {h : Hp} {vs : List Value} {y0 y1 y2 y3 y4 : Int32} (ha : h[0]? = some (.inr (0, vs))) (hc : Thr g M_Desk_key 6 R_IndexOutOfBoundsException [.ref (zA (gz g) 0), .int y0, .int y1, .int y2, .int y3, .int y4] h) : ConW g M_Law_key [(0, 11, 14, 13)] 7 (1, 6) [.ref (zA (gz g) 0), .int y0, .int y1, .int y2, .int y3, .int y4] h (Ret (some (.int (nI 1))) h) := by
  refine ConW.of (by decide) rfl rfl (L := [some (.ref (zA (gz g) 0)), some (.int y0), some (.int y1), some (.int y2), some (.int y3), some (.int y4), none]) rfl (fun f C hx htab => ?_)
  refine x_aload_n (pc := 0) C (dq D_Law_key 0 rfl) rfl ?_
  refine x_iload_n (pc := 1) C (dq D_Law_key 1 rfl) rfl ?_
  refine x_iload_n (pc := 2) C (dq D_Law_key 2 rfl) rfl ?_
  refine x_iload_n (pc := 3) C (dq D_Law_key 3 rfl) rfl ?_
  refine x_iload (pc := 4) C (dq D_Law_key 4 rfl) rfl ?_
  refine x_iload (pc := 6) C (dq D_Law_key 5 rfl) rfl ?_
  refine x_try1 (pc := 8) (ci := 0) (M := M_Desk_key) C (dq D_Law_key 6 rfl) k_ml_Law_7 m_Desk_key rfl rfl ha hc hx htab (by decide) (by decide) k_cl_Law_13 xw_IO rfl rfl rfl rfl (by decide) (fun x => ?_)
  refine x_astore (i := 6) (pc := 14) C (dq D_Law_key 8 rfl) rfl rfl rfl ?_
  simp only [List.set_cons_zero, List.set_cons_succ]
  refine x_iconst (pc := 16) C (dq D_Law_key 9 rfl) ci_1 ?_
  exact x_iret (pc := 17) C (dq D_Law_key 10 rfl) rfl (by decide) ⟨rfl, rfl⟩

theorem k_cw_Law_feed : Cond.codeWith y_Law_feed b_Law_feed 5 (some .int) [(0, 10, 13, 19), (0, 10, 17, 21)] ∈ tb := tb_i 409 (by decide +kernel) (by decide +kernel)
theorem m_Law_feed : mSW M_Law_feed [(0, 10, 13, 19), (0, 10, 17, 21)] 4 := ⟨k_st_Law_feed, k_in_Law, k_cw_Law_feed, ⟨by decide, by decide, by decide +kernel⟩⟩
theorem w_feed_ok {g : Gp} {h : Hp} {vs : List Value} {y0 y1 : Int32} {Post : Outcome → Hp → Prop} (ha : h[0]? = some (.inr (0, vs))) (hc : Con g M_Desk_feed 6 (0, 0) [.ref (zA (gz g) 0), .int y0, .int y1] h Post) (hpo : wan g Post) : ConW g M_Law_feed [(0, 10, 13, 19), (0, 10, 17, 21)] 7 (1, 6) [.ref (zA (gz g) 0), .int y0, .int y1, .ref (zA (gz g) 59)] h (wok g Post) := by
  refine ConW.of (by decide) rfl rfl (L := [some (.ref (zA (gz g) 0)), some (.int y0), some (.int y1), some (.ref (zA (gz g) 59)), none]) rfl (fun f C hx htab => ?_)
  refine x_aload_n (pc := 0) C (dq D_Law_feed 0 rfl) rfl ?_
  refine x_iconst (pc := 1) C (dq D_Law_feed 1 rfl) ci_0 ?_
  refine x_aload_n (pc := 2) C (dq D_Law_feed 2 rfl) rfl ?_
  refine x_iload_n (pc := 3) C (dq D_Law_feed 3 rfl) rfl ?_
  refine x_iload_n (pc := 4) C (dq D_Law_feed 4 rfl) rfl ?_
  refine x_cV (pc := 5) (ci := 0) (M := M_Desk_feed) C (dq D_Law_feed 5 rfl) k_ml_Law_15 m_Desk_feed rfl rfl (ha) (hc) rfl rfl rfl rfl (by decide) (fun o h2 hp => ?_)
  obtain ⟨⟨r, rfl⟩, v, hv⟩ := hpo _ _ hp
  refine ⟨_, rfl, ?_⟩
  show X g f M_Law_feed (1, 6) _ (0, 0) 8 _ (.int r :: .int (nI 0) :: .ref (zA (gz g) 59) :: []) _
  refine x_i2l (pc := 8) C (dq D_Law_feed 6 rfl) rfl ?_
  refine x_last (pc := 9) C (dq D_Law_feed 7 rfl) (hv) ?_
  refine x_goto (pc := 10) (tgt := 21) C (dq D_Law_feed 8 rfl) (by decide) ?_
  refine x_iconst (pc := 21) C (dq D_Law_feed 15 rfl) ci_0 ?_
  exact x_iret (pc := 22) C (dq D_Law_feed 16 rfl) rfl (by decide) ⟨rfl, r, _, hp, rfl⟩

theorem w_feed_1 {g : Gp} {h : Hp} {vs : List Value} {y0 y1 : Int32} (ha : h[0]? = some (.inr (0, vs))) (hc : Thr g M_Desk_feed 6 R_IllegalArgumentException [.ref (zA (gz g) 0), .int y0, .int y1] h) : ConW g M_Law_feed [(0, 10, 13, 19), (0, 10, 17, 21)] 7 (1, 6) [.ref (zA (gz g) 0), .int y0, .int y1, .ref (zA (gz g) 59)] h (Ret (some (.int (nI 1))) h) := by
  refine ConW.of (by decide) rfl rfl (L := [some (.ref (zA (gz g) 0)), some (.int y0), some (.int y1), some (.ref (zA (gz g) 59)), none]) rfl (fun f C hx htab => ?_)
  refine x_aload_n (pc := 0) C (dq D_Law_feed 0 rfl) rfl ?_
  refine x_iconst (pc := 1) C (dq D_Law_feed 1 rfl) ci_0 ?_
  refine x_aload_n (pc := 2) C (dq D_Law_feed 2 rfl) rfl ?_
  refine x_iload_n (pc := 3) C (dq D_Law_feed 3 rfl) rfl ?_
  refine x_iload_n (pc := 4) C (dq D_Law_feed 4 rfl) rfl ?_
  refine x_try1 (pc := 5) (ci := 0) (M := M_Desk_feed) C (dq D_Law_feed 5 rfl) k_ml_Law_15 m_Desk_feed rfl rfl ha hc hx htab (by decide) (by decide) k_cl_Law_19 xw_IA rfl rfl rfl rfl (by decide) (fun x => ?_)
  refine x_astore (i := 4) (pc := 13) C (dq D_Law_feed 9 rfl) rfl rfl rfl ?_
  simp only [List.set_cons_zero, List.set_cons_succ]
  refine x_iconst (pc := 15) C (dq D_Law_feed 10 rfl) ci_1 ?_
  exact x_iret (pc := 16) C (dq D_Law_feed 11 rfl) rfl (by decide) ⟨rfl, rfl⟩

theorem w_feed_2 {g : Gp} {h : Hp} {vs : List Value} {y0 y1 : Int32} (ha : h[0]? = some (.inr (0, vs))) (hc : Thr g M_Desk_feed 6 R_IllegalStateException [.ref (zA (gz g) 0), .int y0, .int y1] h) : ConW g M_Law_feed [(0, 10, 13, 19), (0, 10, 17, 21)] 7 (1, 6) [.ref (zA (gz g) 0), .int y0, .int y1, .ref (zA (gz g) 59)] h (Ret (some (.int (nI 2))) h) := by
  refine ConW.of (by decide) rfl rfl (L := [some (.ref (zA (gz g) 0)), some (.int y0), some (.int y1), some (.ref (zA (gz g) 59)), none]) rfl (fun f C hx htab => ?_)
  refine x_aload_n (pc := 0) C (dq D_Law_feed 0 rfl) rfl ?_
  refine x_iconst (pc := 1) C (dq D_Law_feed 1 rfl) ci_0 ?_
  refine x_aload_n (pc := 2) C (dq D_Law_feed 2 rfl) rfl ?_
  refine x_iload_n (pc := 3) C (dq D_Law_feed 3 rfl) rfl ?_
  refine x_iload_n (pc := 4) C (dq D_Law_feed 4 rfl) rfl ?_
  refine x_try2 (pc := 5) (ci := 0) (M := M_Desk_feed) C (dq D_Law_feed 5 rfl) k_ml_Law_15 m_Desk_feed rfl rfl ha hc hx htab (by decide) (by decide) (by decide) (by decide) k_cl_Law_19 k_cl_Law_21 xw_IS (by simp [XN]) rfl rfl rfl rfl (by decide) (fun x => ?_)
  refine x_astore (i := 4) (pc := 17) C (dq D_Law_feed 12 rfl) rfl rfl rfl ?_
  simp only [List.set_cons_zero, List.set_cons_succ]
  refine x_iconst (pc := 19) C (dq D_Law_feed 13 rfl) ci_2 ?_
  exact x_iret (pc := 20) C (dq D_Law_feed 14 rfl) rfl (by decide) ⟨rfl, rfl⟩

theorem k_cw_Law_alter : Cond.codeWith y_Law_alter b_Law_alter 4 (some .int) [(0, 6, 9, 13), (0, 6, 12, 19)] ∈ tb := tb_i 452 (by decide +kernel) (by decide +kernel)
theorem m_Law_alter : mSW M_Law_alter [(0, 6, 9, 13), (0, 6, 12, 19)] 3 := ⟨k_st_Law_alter, k_in_Law, k_cw_Law_alter, ⟨by decide, by decide, by decide +kernel⟩⟩
theorem w_alter_ok {g : Gp} {h : Hp} {vs : List Value} {y0 y1 : Int32} {Post : Outcome → Hp → Prop} (ha : h[0]? = some (.inr (0, vs))) (hc : Con g M_Desk_alter 6 (0, 0) [.ref (zA (gz g) 0), .int y0, .int y1] h Post) (hpo : ∀ o h', Post o h' → o = .returned none) : ConW g M_Law_alter [(0, 6, 9, 13), (0, 6, 12, 19)] 7 (1, 6) [.ref (zA (gz g) 0), .int y0, .int y1] h (wov Post) := by
  refine ConW.of (by decide) rfl rfl (L := [some (.ref (zA (gz g) 0)), some (.int y0), some (.int y1), none]) rfl (fun f C hx htab => ?_)
  refine x_aload_n (pc := 0) C (dq D_Law_alter 0 rfl) rfl ?_
  refine x_iload_n (pc := 1) C (dq D_Law_alter 1 rfl) rfl ?_
  refine x_iload_n (pc := 2) C (dq D_Law_alter 2 rfl) rfl ?_
  refine x_cV (pc := 3) (ci := 0) (M := M_Desk_alter) C (dq D_Law_alter 3 rfl) k_ml_Law_23 m_Desk_alter rfl rfl (ha) (hc) rfl rfl rfl rfl (by decide) (fun o h2 hp => ?_)
  obtain rfl := hpo _ _ hp
  refine ⟨_, rfl, ?_⟩
  show X g f M_Law_alter (1, 6) _ (0, 0) 6 _ [] _
  refine x_goto (pc := 6) (tgt := 15) C (dq D_Law_alter 4 rfl) (by decide) ?_
  refine x_iconst (pc := 15) C (dq D_Law_alter 11 rfl) ci_0 ?_
  exact x_iret (pc := 16) C (dq D_Law_alter 12 rfl) rfl (by decide) ⟨rfl, hp⟩

theorem w_alter_1 {g : Gp} {h : Hp} {vs : List Value} {y0 y1 : Int32} (ha : h[0]? = some (.inr (0, vs))) (hc : Thr g M_Desk_alter 6 R_IndexOutOfBoundsException [.ref (zA (gz g) 0), .int y0, .int y1] h) : ConW g M_Law_alter [(0, 6, 9, 13), (0, 6, 12, 19)] 7 (1, 6) [.ref (zA (gz g) 0), .int y0, .int y1] h (Ret (some (.int (nI 1))) h) := by
  refine ConW.of (by decide) rfl rfl (L := [some (.ref (zA (gz g) 0)), some (.int y0), some (.int y1), none]) rfl (fun f C hx htab => ?_)
  refine x_aload_n (pc := 0) C (dq D_Law_alter 0 rfl) rfl ?_
  refine x_iload_n (pc := 1) C (dq D_Law_alter 1 rfl) rfl ?_
  refine x_iload_n (pc := 2) C (dq D_Law_alter 2 rfl) rfl ?_
  refine x_try1 (pc := 3) (ci := 0) (M := M_Desk_alter) C (dq D_Law_alter 3 rfl) k_ml_Law_23 m_Desk_alter rfl rfl ha hc hx htab (by decide) (by decide) k_cl_Law_13 xw_IO rfl rfl rfl rfl (by decide) (fun x => ?_)
  refine x_astore_n (i := 3) (pc := 9) C (dq D_Law_alter 5 rfl) rfl rfl rfl ?_
  simp only [List.set_cons_zero, List.set_cons_succ]
  refine x_iconst (pc := 10) C (dq D_Law_alter 6 rfl) ci_1 ?_
  exact x_iret (pc := 11) C (dq D_Law_alter 7 rfl) rfl (by decide) ⟨rfl, rfl⟩

theorem w_alter_2 {g : Gp} {h : Hp} {vs : List Value} {y0 y1 : Int32} (ha : h[0]? = some (.inr (0, vs))) (hc : Thr g M_Desk_alter 6 R_IllegalArgumentException [.ref (zA (gz g) 0), .int y0, .int y1] h) : ConW g M_Law_alter [(0, 6, 9, 13), (0, 6, 12, 19)] 7 (1, 6) [.ref (zA (gz g) 0), .int y0, .int y1] h (Ret (some (.int (nI 2))) h) := by
  refine ConW.of (by decide) rfl rfl (L := [some (.ref (zA (gz g) 0)), some (.int y0), some (.int y1), none]) rfl (fun f C hx htab => ?_)
  refine x_aload_n (pc := 0) C (dq D_Law_alter 0 rfl) rfl ?_
  refine x_iload_n (pc := 1) C (dq D_Law_alter 1 rfl) rfl ?_
  refine x_iload_n (pc := 2) C (dq D_Law_alter 2 rfl) rfl ?_
  refine x_try2 (pc := 3) (ci := 0) (M := M_Desk_alter) C (dq D_Law_alter 3 rfl) k_ml_Law_23 m_Desk_alter rfl rfl ha hc hx htab (by decide) (by decide) (by decide) (by decide) k_cl_Law_13 k_cl_Law_19 xw_IA (by simp [XN]) rfl rfl rfl rfl (by decide) (fun x => ?_)
  refine x_astore_n (i := 3) (pc := 12) C (dq D_Law_alter 8 rfl) rfl rfl rfl ?_
  simp only [List.set_cons_zero, List.set_cons_succ]
  refine x_iconst (pc := 13) C (dq D_Law_alter 9 rfl) ci_2 ?_
  exact x_iret (pc := 14) C (dq D_Law_alter 10 rfl) rfl (by decide) ⟨rfl, rfl⟩

theorem k_cw_Law_item : Cond.codeWith y_Law_item b_Law_item 3 (some .int) [(0, 8, 11, 19), (0, 8, 14, 21)] ∈ tb := tb_i 465 (by decide +kernel) (by decide +kernel)
theorem m_Law_item : mSW M_Law_item [(0, 8, 11, 19), (0, 8, 14, 21)] 2 := ⟨k_st_Law_item, k_in_Law, k_cw_Law_item, ⟨by decide, by decide, by decide +kernel⟩⟩
theorem w_item_ok {g : Gp} {h : Hp} {vs : List Value} {Post : Outcome → Hp → Prop} (ha : h[0]? = some (.inr (0, vs))) (hc : Con g M_Desk_item 6 (0, 0) [.ref (zA (gz g) 0)] h Post) (hpo : wan g Post) : ConW g M_Law_item [(0, 8, 11, 19), (0, 8, 14, 21)] 7 (1, 6) [.ref (zA (gz g) 0), .ref (zA (gz g) 59)] h (wok g Post) := by
  refine ConW.of (by decide) rfl rfl (L := [some (.ref (zA (gz g) 0)), some (.ref (zA (gz g) 59)), none]) rfl (fun f C hx htab => ?_)
  refine x_aload_n (pc := 0) C (dq D_Law_item 0 rfl) rfl ?_
  refine x_iconst (pc := 1) C (dq D_Law_item 1 rfl) ci_0 ?_
  refine x_aload_n (pc := 2) C (dq D_Law_item 2 rfl) rfl ?_
  refine x_cV (pc := 3) (ci := 0) (M := M_Desk_item) C (dq D_Law_item 3 rfl) k_ml_Law_27 m_Desk_item rfl rfl (ha) (hc) rfl rfl rfl rfl (by decide) (fun o h2 hp => ?_)
  obtain ⟨⟨r, rfl⟩, v, hv⟩ := hpo _ _ hp
  refine ⟨_, rfl, ?_⟩
  show X g f M_Law_item (1, 6) _ (0, 0) 6 _ (.int r :: .int (nI 0) :: .ref (zA (gz g) 59) :: []) _
  refine x_i2l (pc := 6) C (dq D_Law_item 4 rfl) rfl ?_
  refine x_last (pc := 7) C (dq D_Law_item 5 rfl) (hv) ?_
  refine x_goto (pc := 8) (tgt := 17) C (dq D_Law_item 6 rfl) (by decide) ?_
  refine x_iconst (pc := 17) C (dq D_Law_item 13 rfl) ci_0 ?_
  exact x_iret (pc := 18) C (dq D_Law_item 14 rfl) rfl (by decide) ⟨rfl, r, _, hp, rfl⟩

theorem w_item_1 {g : Gp} {h : Hp} {vs : List Value} (ha : h[0]? = some (.inr (0, vs))) (hc : Thr g M_Desk_item 6 R_IllegalArgumentException [.ref (zA (gz g) 0)] h) : ConW g M_Law_item [(0, 8, 11, 19), (0, 8, 14, 21)] 7 (1, 6) [.ref (zA (gz g) 0), .ref (zA (gz g) 59)] h (Ret (some (.int (nI 1))) h) := by
  refine ConW.of (by decide) rfl rfl (L := [some (.ref (zA (gz g) 0)), some (.ref (zA (gz g) 59)), none]) rfl (fun f C hx htab => ?_)
  refine x_aload_n (pc := 0) C (dq D_Law_item 0 rfl) rfl ?_
  refine x_iconst (pc := 1) C (dq D_Law_item 1 rfl) ci_0 ?_
  refine x_aload_n (pc := 2) C (dq D_Law_item 2 rfl) rfl ?_
  refine x_try1 (pc := 3) (ci := 0) (M := M_Desk_item) C (dq D_Law_item 3 rfl) k_ml_Law_27 m_Desk_item rfl rfl ha hc hx htab (by decide) (by decide) k_cl_Law_19 xw_IA rfl rfl rfl rfl (by decide) (fun x => ?_)
  refine x_astore_n (i := 2) (pc := 11) C (dq D_Law_item 7 rfl) rfl rfl rfl ?_
  simp only [List.set_cons_zero, List.set_cons_succ]
  refine x_iconst (pc := 12) C (dq D_Law_item 8 rfl) ci_1 ?_
  exact x_iret (pc := 13) C (dq D_Law_item 9 rfl) rfl (by decide) ⟨rfl, rfl⟩

theorem w_item_2 {g : Gp} {h : Hp} {vs : List Value} (ha : h[0]? = some (.inr (0, vs))) (hc : Thr g M_Desk_item 6 R_IllegalStateException [.ref (zA (gz g) 0)] h) : ConW g M_Law_item [(0, 8, 11, 19), (0, 8, 14, 21)] 7 (1, 6) [.ref (zA (gz g) 0), .ref (zA (gz g) 59)] h (Ret (some (.int (nI 2))) h) := by
  refine ConW.of (by decide) rfl rfl (L := [some (.ref (zA (gz g) 0)), some (.ref (zA (gz g) 59)), none]) rfl (fun f C hx htab => ?_)
  refine x_aload_n (pc := 0) C (dq D_Law_item 0 rfl) rfl ?_
  refine x_iconst (pc := 1) C (dq D_Law_item 1 rfl) ci_0 ?_
  refine x_aload_n (pc := 2) C (dq D_Law_item 2 rfl) rfl ?_
  refine x_try2 (pc := 3) (ci := 0) (M := M_Desk_item) C (dq D_Law_item 3 rfl) k_ml_Law_27 m_Desk_item rfl rfl ha hc hx htab (by decide) (by decide) (by decide) (by decide) k_cl_Law_19 k_cl_Law_21 xw_IS (by simp [XN]) rfl rfl rfl rfl (by decide) (fun x => ?_)
  refine x_astore_n (i := 2) (pc := 14) C (dq D_Law_item 10 rfl) rfl rfl rfl ?_
  simp only [List.set_cons_zero, List.set_cons_succ]
  refine x_iconst (pc := 15) C (dq D_Law_item 11 rfl) ci_2 ?_
  exact x_iret (pc := 16) C (dq D_Law_item 12 rfl) rfl (by decide) ⟨rfl, rfl⟩

theorem k_cw_Law_cipher : Cond.codeWith y_Law_cipher b_Law_cipher 3 (some .int) [(0, 5, 8, 19)] ∈ tb := tb_i 474 (by decide +kernel) (by decide +kernel)
theorem m_Law_cipher : mSW M_Law_cipher [(0, 5, 8, 19)] 2 := ⟨k_st_Law_cipher, k_in_Law, k_cw_Law_cipher, ⟨by decide, by decide, by decide +kernel⟩⟩
theorem w_cipher_ok {g : Gp} {h : Hp} {vs : List Value} {y0 : Int32} {Post : Outcome → Hp → Prop} (ha : h[0]? = some (.inr (0, vs))) (hc : Con g M_Desk_cipher 6 (0, 0) [.ref (zA (gz g) 0), .int y0] h Post) (hpo : ∀ o h', Post o h' → o = .returned none) : ConW g M_Law_cipher [(0, 5, 8, 19)] 7 (1, 6) [.ref (zA (gz g) 0), .int y0] h (wov Post) := by
  refine ConW.of (by decide) rfl rfl (L := [some (.ref (zA (gz g) 0)), some (.int y0), none]) rfl (fun f C hx htab => ?_)
  refine x_aload_n (pc := 0) C (dq D_Law_cipher 0 rfl) rfl ?_
  refine x_iload_n (pc := 1) C (dq D_Law_cipher 1 rfl) rfl ?_
  refine x_cV (pc := 2) (ci := 0) (M := M_Desk_cipher) C (dq D_Law_cipher 2 rfl) k_ml_Law_31 m_Desk_cipher rfl rfl (ha) (hc) rfl rfl rfl rfl (by decide) (fun o h2 hp => ?_)
  obtain rfl := hpo _ _ hp
  refine ⟨_, rfl, ?_⟩
  show X g f M_Law_cipher (1, 6) _ (0, 0) 5 _ [] _
  refine x_goto (pc := 5) (tgt := 11) C (dq D_Law_cipher 3 rfl) (by decide) ?_
  refine x_iconst (pc := 11) C (dq D_Law_cipher 7 rfl) ci_0 ?_
  exact x_iret (pc := 12) C (dq D_Law_cipher 8 rfl) rfl (by decide) ⟨rfl, hp⟩

theorem w_cipher_1 {g : Gp} {h : Hp} {vs : List Value} {y0 : Int32} (ha : h[0]? = some (.inr (0, vs))) (hc : Thr g M_Desk_cipher 6 R_IllegalArgumentException [.ref (zA (gz g) 0), .int y0] h) : ConW g M_Law_cipher [(0, 5, 8, 19)] 7 (1, 6) [.ref (zA (gz g) 0), .int y0] h (Ret (some (.int (nI 1))) h) := by
  refine ConW.of (by decide) rfl rfl (L := [some (.ref (zA (gz g) 0)), some (.int y0), none]) rfl (fun f C hx htab => ?_)
  refine x_aload_n (pc := 0) C (dq D_Law_cipher 0 rfl) rfl ?_
  refine x_iload_n (pc := 1) C (dq D_Law_cipher 1 rfl) rfl ?_
  refine x_try1 (pc := 2) (ci := 0) (M := M_Desk_cipher) C (dq D_Law_cipher 2 rfl) k_ml_Law_31 m_Desk_cipher rfl rfl ha hc hx htab (by decide) (by decide) k_cl_Law_19 xw_IA rfl rfl rfl rfl (by decide) (fun x => ?_)
  refine x_astore_n (i := 2) (pc := 8) C (dq D_Law_cipher 4 rfl) rfl rfl rfl ?_
  simp only [List.set_cons_zero, List.set_cons_succ]
  refine x_iconst (pc := 9) C (dq D_Law_cipher 5 rfl) ci_1 ?_
  exact x_iret (pc := 10) C (dq D_Law_cipher 6 rfl) rfl (by decide) ⟨rfl, rfl⟩

theorem k_cw_Law_seal : Cond.codeWith y_Law_seal b_Law_seal 4 (some .int) [(0, 9, 12, 13), (0, 9, 15, 19)] ∈ tb := tb_i 494 (by decide +kernel) (by decide +kernel)
theorem m_Law_seal : mSW M_Law_seal [(0, 9, 12, 13), (0, 9, 15, 19)] 3 := ⟨k_st_Law_seal, k_in_Law, k_cw_Law_seal, ⟨by decide, by decide, by decide +kernel⟩⟩
theorem w_seal_ok {g : Gp} {h : Hp} {vs : List Value} {y0 : Int32} {Post : Outcome → Hp → Prop} (ha : h[0]? = some (.inr (0, vs))) (hc : Con g M_Desk_seal 6 (0, 0) [.ref (zA (gz g) 0), .int y0] h Post) (hpo : wan g Post) : ConW g M_Law_seal [(0, 9, 12, 13), (0, 9, 15, 19)] 7 (1, 6) [.ref (zA (gz g) 0), .int y0, .ref (zA (gz g) 59)] h (wok g Post) := by
  refine ConW.of (by decide) rfl rfl (L := [some (.ref (zA (gz g) 0)), some (.int y0), some (.ref (zA (gz g) 59)), none]) rfl (fun f C hx htab => ?_)
  refine x_aload_n (pc := 0) C (dq D_Law_seal 0 rfl) rfl ?_
  refine x_iconst (pc := 1) C (dq D_Law_seal 1 rfl) ci_0 ?_
  refine x_aload_n (pc := 2) C (dq D_Law_seal 2 rfl) rfl ?_
  refine x_iload_n (pc := 3) C (dq D_Law_seal 3 rfl) rfl ?_
  refine x_cV (pc := 4) (ci := 0) (M := M_Desk_seal) C (dq D_Law_seal 4 rfl) k_ml_Law_35 m_Desk_seal rfl rfl (ha) (hc) rfl rfl rfl rfl (by decide) (fun o h2 hp => ?_)
  obtain ⟨⟨r, rfl⟩, v, hv⟩ := hpo _ _ hp
  refine ⟨_, rfl, ?_⟩
  show X g f M_Law_seal (1, 6) _ (0, 0) 7 _ (.int r :: .int (nI 0) :: .ref (zA (gz g) 59) :: []) _
  refine x_i2l (pc := 7) C (dq D_Law_seal 5 rfl) rfl ?_
  refine x_last (pc := 8) C (dq D_Law_seal 6 rfl) (hv) ?_
  refine x_goto (pc := 9) (tgt := 18) C (dq D_Law_seal 7 rfl) (by decide) ?_
  refine x_iconst (pc := 18) C (dq D_Law_seal 14 rfl) ci_0 ?_
  exact x_iret (pc := 19) C (dq D_Law_seal 15 rfl) rfl (by decide) ⟨rfl, r, _, hp, rfl⟩

theorem w_seal_1 {g : Gp} {h : Hp} {vs : List Value} {y0 : Int32} (ha : h[0]? = some (.inr (0, vs))) (hc : Thr g M_Desk_seal 6 R_IndexOutOfBoundsException [.ref (zA (gz g) 0), .int y0] h) : ConW g M_Law_seal [(0, 9, 12, 13), (0, 9, 15, 19)] 7 (1, 6) [.ref (zA (gz g) 0), .int y0, .ref (zA (gz g) 59)] h (Ret (some (.int (nI 1))) h) := by
  refine ConW.of (by decide) rfl rfl (L := [some (.ref (zA (gz g) 0)), some (.int y0), some (.ref (zA (gz g) 59)), none]) rfl (fun f C hx htab => ?_)
  refine x_aload_n (pc := 0) C (dq D_Law_seal 0 rfl) rfl ?_
  refine x_iconst (pc := 1) C (dq D_Law_seal 1 rfl) ci_0 ?_
  refine x_aload_n (pc := 2) C (dq D_Law_seal 2 rfl) rfl ?_
  refine x_iload_n (pc := 3) C (dq D_Law_seal 3 rfl) rfl ?_
  refine x_try1 (pc := 4) (ci := 0) (M := M_Desk_seal) C (dq D_Law_seal 4 rfl) k_ml_Law_35 m_Desk_seal rfl rfl ha hc hx htab (by decide) (by decide) k_cl_Law_13 xw_IO rfl rfl rfl rfl (by decide) (fun x => ?_)
  refine x_astore_n (i := 3) (pc := 12) C (dq D_Law_seal 8 rfl) rfl rfl rfl ?_
  simp only [List.set_cons_zero, List.set_cons_succ]
  refine x_iconst (pc := 13) C (dq D_Law_seal 9 rfl) ci_1 ?_
  exact x_iret (pc := 14) C (dq D_Law_seal 10 rfl) rfl (by decide) ⟨rfl, rfl⟩

theorem w_seal_2 {g : Gp} {h : Hp} {vs : List Value} {y0 : Int32} (ha : h[0]? = some (.inr (0, vs))) (hc : Thr g M_Desk_seal 6 R_IllegalArgumentException [.ref (zA (gz g) 0), .int y0] h) : ConW g M_Law_seal [(0, 9, 12, 13), (0, 9, 15, 19)] 7 (1, 6) [.ref (zA (gz g) 0), .int y0, .ref (zA (gz g) 59)] h (Ret (some (.int (nI 2))) h) := by
  refine ConW.of (by decide) rfl rfl (L := [some (.ref (zA (gz g) 0)), some (.int y0), some (.ref (zA (gz g) 59)), none]) rfl (fun f C hx htab => ?_)
  refine x_aload_n (pc := 0) C (dq D_Law_seal 0 rfl) rfl ?_
  refine x_iconst (pc := 1) C (dq D_Law_seal 1 rfl) ci_0 ?_
  refine x_aload_n (pc := 2) C (dq D_Law_seal 2 rfl) rfl ?_
  refine x_iload_n (pc := 3) C (dq D_Law_seal 3 rfl) rfl ?_
  refine x_try2 (pc := 4) (ci := 0) (M := M_Desk_seal) C (dq D_Law_seal 4 rfl) k_ml_Law_35 m_Desk_seal rfl rfl ha hc hx htab (by decide) (by decide) (by decide) (by decide) k_cl_Law_13 k_cl_Law_19 xw_IA (by simp [XN]) rfl rfl rfl rfl (by decide) (fun x => ?_)
  refine x_astore_n (i := 3) (pc := 15) C (dq D_Law_seal 11 rfl) rfl rfl rfl ?_
  simp only [List.set_cons_zero, List.set_cons_succ]
  refine x_iconst (pc := 16) C (dq D_Law_seal 12 rfl) ci_2 ?_
  exact x_iret (pc := 17) C (dq D_Law_seal 13 rfl) rfl (by decide) ⟨rfl, rfl⟩

theorem k_cw_Law_open : Cond.codeWith y_Law_open b_Law_open 4 (some .int) [(0, 9, 12, 13), (0, 9, 15, 19)] ∈ tb := tb_i 575 (by decide +kernel) (by decide +kernel)
theorem m_Law_open : mSW M_Law_open [(0, 9, 12, 13), (0, 9, 15, 19)] 3 := ⟨k_st_Law_open, k_in_Law, k_cw_Law_open, ⟨by decide, by decide, by decide +kernel⟩⟩
theorem w_open_ok {g : Gp} {h : Hp} {vs : List Value} {y0 : Int32} {Post : Outcome → Hp → Prop} (ha : h[0]? = some (.inr (0, vs))) (hc : Con g M_Desk_open 6 (0, 0) [.ref (zA (gz g) 0), .int y0] h Post) (hpo : wan g Post) : ConW g M_Law_open [(0, 9, 12, 13), (0, 9, 15, 19)] 7 (1, 6) [.ref (zA (gz g) 0), .int y0, .ref (zA (gz g) 59)] h (wok g Post) := by
  refine ConW.of (by decide) rfl rfl (L := [some (.ref (zA (gz g) 0)), some (.int y0), some (.ref (zA (gz g) 59)), none]) rfl (fun f C hx htab => ?_)
  refine x_aload_n (pc := 0) C (dq D_Law_open 0 rfl) rfl ?_
  refine x_iconst (pc := 1) C (dq D_Law_open 1 rfl) ci_0 ?_
  refine x_aload_n (pc := 2) C (dq D_Law_open 2 rfl) rfl ?_
  refine x_iload_n (pc := 3) C (dq D_Law_open 3 rfl) rfl ?_
  refine x_cV (pc := 4) (ci := 0) (M := M_Desk_open) C (dq D_Law_open 4 rfl) k_ml_Law_39 m_Desk_open rfl rfl (ha) (hc) rfl rfl rfl rfl (by decide) (fun o h2 hp => ?_)
  obtain ⟨⟨r, rfl⟩, v, hv⟩ := hpo _ _ hp
  refine ⟨_, rfl, ?_⟩
  show X g f M_Law_open (1, 6) _ (0, 0) 7 _ (.int r :: .int (nI 0) :: .ref (zA (gz g) 59) :: []) _
  refine x_i2l (pc := 7) C (dq D_Law_open 5 rfl) rfl ?_
  refine x_last (pc := 8) C (dq D_Law_open 6 rfl) (hv) ?_
  refine x_goto (pc := 9) (tgt := 18) C (dq D_Law_open 7 rfl) (by decide) ?_
  refine x_iconst (pc := 18) C (dq D_Law_open 14 rfl) ci_0 ?_
  exact x_iret (pc := 19) C (dq D_Law_open 15 rfl) rfl (by decide) ⟨rfl, r, _, hp, rfl⟩

theorem w_open_1 {g : Gp} {h : Hp} {vs : List Value} {y0 : Int32} (ha : h[0]? = some (.inr (0, vs))) (hc : Thr g M_Desk_open 6 R_IndexOutOfBoundsException [.ref (zA (gz g) 0), .int y0] h) : ConW g M_Law_open [(0, 9, 12, 13), (0, 9, 15, 19)] 7 (1, 6) [.ref (zA (gz g) 0), .int y0, .ref (zA (gz g) 59)] h (Ret (some (.int (nI 1))) h) := by
  refine ConW.of (by decide) rfl rfl (L := [some (.ref (zA (gz g) 0)), some (.int y0), some (.ref (zA (gz g) 59)), none]) rfl (fun f C hx htab => ?_)
  refine x_aload_n (pc := 0) C (dq D_Law_open 0 rfl) rfl ?_
  refine x_iconst (pc := 1) C (dq D_Law_open 1 rfl) ci_0 ?_
  refine x_aload_n (pc := 2) C (dq D_Law_open 2 rfl) rfl ?_
  refine x_iload_n (pc := 3) C (dq D_Law_open 3 rfl) rfl ?_
  refine x_try1 (pc := 4) (ci := 0) (M := M_Desk_open) C (dq D_Law_open 4 rfl) k_ml_Law_39 m_Desk_open rfl rfl ha hc hx htab (by decide) (by decide) k_cl_Law_13 xw_IO rfl rfl rfl rfl (by decide) (fun x => ?_)
  refine x_astore_n (i := 3) (pc := 12) C (dq D_Law_open 8 rfl) rfl rfl rfl ?_
  simp only [List.set_cons_zero, List.set_cons_succ]
  refine x_iconst (pc := 13) C (dq D_Law_open 9 rfl) ci_1 ?_
  exact x_iret (pc := 14) C (dq D_Law_open 10 rfl) rfl (by decide) ⟨rfl, rfl⟩

theorem w_open_2 {g : Gp} {h : Hp} {vs : List Value} {y0 : Int32} (ha : h[0]? = some (.inr (0, vs))) (hc : Thr g M_Desk_open 6 R_IllegalArgumentException [.ref (zA (gz g) 0), .int y0] h) : ConW g M_Law_open [(0, 9, 12, 13), (0, 9, 15, 19)] 7 (1, 6) [.ref (zA (gz g) 0), .int y0, .ref (zA (gz g) 59)] h (Ret (some (.int (nI 2))) h) := by
  refine ConW.of (by decide) rfl rfl (L := [some (.ref (zA (gz g) 0)), some (.int y0), some (.ref (zA (gz g) 59)), none]) rfl (fun f C hx htab => ?_)
  refine x_aload_n (pc := 0) C (dq D_Law_open 0 rfl) rfl ?_
  refine x_iconst (pc := 1) C (dq D_Law_open 1 rfl) ci_0 ?_
  refine x_aload_n (pc := 2) C (dq D_Law_open 2 rfl) rfl ?_
  refine x_iload_n (pc := 3) C (dq D_Law_open 3 rfl) rfl ?_
  refine x_try2 (pc := 4) (ci := 0) (M := M_Desk_open) C (dq D_Law_open 4 rfl) k_ml_Law_39 m_Desk_open rfl rfl ha hc hx htab (by decide) (by decide) (by decide) (by decide) k_cl_Law_13 k_cl_Law_19 xw_IA (by simp [XN]) rfl rfl rfl rfl (by decide) (fun x => ?_)
  refine x_astore_n (i := 3) (pc := 15) C (dq D_Law_open 11 rfl) rfl rfl rfl ?_
  simp only [List.set_cons_zero, List.set_cons_succ]
  refine x_iconst (pc := 16) C (dq D_Law_open 12 rfl) ci_2 ?_
  exact x_iret (pc := 17) C (dq D_Law_open 13 rfl) rfl (by decide) ⟨rfl, rfl⟩

theorem k_cw_Law_at : Cond.codeWith y_Law_at b_Law_at 4 (some .int) [(0, 9, 12, 13)] ∈ tb := tb_i 626 (by decide +kernel) (by decide +kernel)
theorem m_Law_at : mSW M_Law_at [(0, 9, 12, 13)] 3 := ⟨k_st_Law_at, k_in_Law, k_cw_Law_at, ⟨by decide, by decide, by decide +kernel⟩⟩
theorem w_at_ok {g : Gp} {h : Hp} {vs : List Value} {y0 : Int32} {Post : Outcome → Hp → Prop} (ha : h[0]? = some (.inr (0, vs))) (hc : Con g M_Desk_at 6 (0, 0) [.ref (zA (gz g) 0), .int y0] h Post) (hpo : wan g Post) : ConW g M_Law_at [(0, 9, 12, 13)] 7 (1, 6) [.ref (zA (gz g) 0), .int y0, .ref (zA (gz g) 59)] h (wok g Post) := by
  refine ConW.of (by decide) rfl rfl (L := [some (.ref (zA (gz g) 0)), some (.int y0), some (.ref (zA (gz g) 59)), none]) rfl (fun f C hx htab => ?_)
  refine x_aload_n (pc := 0) C (dq D_Law_at 0 rfl) rfl ?_
  refine x_iconst (pc := 1) C (dq D_Law_at 1 rfl) ci_0 ?_
  refine x_aload_n (pc := 2) C (dq D_Law_at 2 rfl) rfl ?_
  refine x_iload_n (pc := 3) C (dq D_Law_at 3 rfl) rfl ?_
  refine x_cV (pc := 4) (ci := 0) (M := M_Desk_at) C (dq D_Law_at 4 rfl) k_ml_Law_42 m_Desk_at rfl rfl (ha) (hc) rfl rfl rfl rfl (by decide) (fun o h2 hp => ?_)
  obtain ⟨⟨r, rfl⟩, v, hv⟩ := hpo _ _ hp
  refine ⟨_, rfl, ?_⟩
  show X g f M_Law_at (1, 6) _ (0, 0) 7 _ (.int r :: .int (nI 0) :: .ref (zA (gz g) 59) :: []) _
  refine x_i2l (pc := 7) C (dq D_Law_at 5 rfl) rfl ?_
  refine x_last (pc := 8) C (dq D_Law_at 6 rfl) (hv) ?_
  refine x_goto (pc := 9) (tgt := 15) C (dq D_Law_at 7 rfl) (by decide) ?_
  refine x_iconst (pc := 15) C (dq D_Law_at 11 rfl) ci_0 ?_
  exact x_iret (pc := 16) C (dq D_Law_at 12 rfl) rfl (by decide) ⟨rfl, r, _, hp, rfl⟩

theorem w_at_1 {g : Gp} {h : Hp} {vs : List Value} {y0 : Int32} (ha : h[0]? = some (.inr (0, vs))) (hc : Thr g M_Desk_at 6 R_IndexOutOfBoundsException [.ref (zA (gz g) 0), .int y0] h) : ConW g M_Law_at [(0, 9, 12, 13)] 7 (1, 6) [.ref (zA (gz g) 0), .int y0, .ref (zA (gz g) 59)] h (Ret (some (.int (nI 1))) h) := by
  refine ConW.of (by decide) rfl rfl (L := [some (.ref (zA (gz g) 0)), some (.int y0), some (.ref (zA (gz g) 59)), none]) rfl (fun f C hx htab => ?_)
  refine x_aload_n (pc := 0) C (dq D_Law_at 0 rfl) rfl ?_
  refine x_iconst (pc := 1) C (dq D_Law_at 1 rfl) ci_0 ?_
  refine x_aload_n (pc := 2) C (dq D_Law_at 2 rfl) rfl ?_
  refine x_iload_n (pc := 3) C (dq D_Law_at 3 rfl) rfl ?_
  refine x_try1 (pc := 4) (ci := 0) (M := M_Desk_at) C (dq D_Law_at 4 rfl) k_ml_Law_42 m_Desk_at rfl rfl ha hc hx htab (by decide) (by decide) k_cl_Law_13 xw_IO rfl rfl rfl rfl (by decide) (fun x => ?_)
  refine x_astore_n (i := 3) (pc := 12) C (dq D_Law_at 8 rfl) rfl rfl rfl ?_
  simp only [List.set_cons_zero, List.set_cons_succ]
  refine x_iconst (pc := 13) C (dq D_Law_at 9 rfl) ci_1 ?_
  exact x_iret (pc := 14) C (dq D_Law_at 10 rfl) rfl (by decide) ⟨rfl, rfl⟩
