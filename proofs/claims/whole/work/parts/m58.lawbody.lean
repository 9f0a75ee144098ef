/-! The law's own body. -/
abbrev M_law : MD := (x, code, 7, ret)
def DL_law : List (Nat × Instr × Nat) := [(0, .new 8, 3), (3, .dup, 1), (4, .invokespecial 45, 3), (7, .astore_n 1, 1), (8, .new 46, 3), (11, .dup, 1), (12, .invokespecial 48, 3), (15, .astore_n 2, 1), (16, .iconst 1, 1), (17, .newarray .long, 2), (19, .astore_n 3, 1), (20, .iconst 0, 1), (21, .istore 4, 2), (23, .iload 4, 2), (25, .aload_n 0, 1), (26, .arraylength, 1), (27, .bipush 6, 2), (29, .isub, 1), (30, .if_icmp .gt 637, 3), (33, .aload_n 0, 1), (34, .iload 4, 2), (36, .iaload, 1), (37, .bipush 15, 2), (39, .iand, 1), (40, .tableswitch 621 0 12 #[68, 152, 220, 231, 279, 323, 336, 388, 427, 483, 539, 552, 608], 68), (108, .aload_n 1, 1), (109, .aload_n 0, 1), (110, .iload 4, 2), (112, .iconst 1, 1), (113, .iadd, 1), (114, .iaload, 1), (115, .aload_n 0, 1), (116, .iload 4, 2), (118, .iconst 2, 1), (119, .iadd, 1), (120, .iaload, 1), (121, .aload_n 0, 1), (122, .iload 4, 2), (124, .iconst 3, 1), (125, .iadd, 1), (126, .iaload, 1), (127, .aload_n 0, 1), (128, .iload 4, 2), (130, .iconst 4, 1), (131, .iadd, 1), (132, .iaload, 1), (133, .aload_n 0, 1), (134, .iload 4, 2), (136, .iconst 5, 1), (137, .iadd, 1), (138, .iaload, 1), (139, .invokestatic 49, 3), (142, .istore 5, 2), (144, .aload_n 2, 1), (145, .aload_n 0, 1), (146, .iload 4, 2), (148, .iconst 1, 1), (149, .iadd, 1), (150, .iaload, 1), (151, .aload_n 0, 1), (152, .iload 4, 2), (154, .iconst 2, 1), (155, .iadd, 1), (156, .iaload, 1), (157, .aload_n 0, 1), (158, .iload 4, 2), (160, .iconst 3, 1), (161, .iadd, 1), (162, .iaload, 1), (163, .aload_n 0, 1), (164, .iload 4, 2), (166, .iconst 4, 1), (167, .iadd, 1), (168, .iaload, 1), (169, .aload_n 0, 1), (170, .iload 4, 2), (172, .iconst 5, 1), (173, .iadd, 1), (174, .iaload, 1), (175, .invokevirtual 54, 3), (178, .aload_n 2, 1), (179, .invokevirtual 55, 3), (182, .iload 5, 2), (184, .if_icmp .eq 5, 3), (187, .iconst 0, 1), (188, .ireturn, 1), (189, .goto 472, 3), (192, .aload_n 1, 1), (193, .aload_n 0, 1), (194, .iload 4, 2), (196, .iconst 1, 1), (197, .iadd, 1), (198, .iaload, 1), (199, .aload_n 0, 1), (200, .iload 4, 2), (202, .iconst 2, 1), (203, .iadd, 1), (204, .iaload, 1), (205, .aload_n 3, 1), (206, .invokestatic 58, 3), (209, .istore 5, 2), (211, .aload_n 2, 1), (212, .aload_n 0, 1), (213, .iload 4, 2), (215, .iconst 1, 1), (216, .iadd, 1), (217, .iaload, 1), (218, .aload_n 0, 1), (219, .iload 4, 2), (221, .iconst 2, 1), (222, .iadd, 1), (223, .iaload, 1), (224, .invokevirtual 61, 3), (227, .istore 6, 2), (229, .aload_n 2, 1), (230, .invokevirtual 55, 3), (233, .iload 5, 2), (235, .if_icmp .eq 5, 3), (238, .iconst 0, 1), (239, .ireturn, 1), (240, .iload 5, 2), (242, .ifCond .ne 15, 3), (245, .aload_n 3, 1), (246, .iconst 0, 1), (247, .laload, 1), (248, .iload 6, 2), (250, .i2l, 1), (251, .lcmp, 1), (252, .ifCond .eq 5, 3), (255, .iconst 0, 1), (256, .ireturn, 1), (257, .goto 404, 3), (260, .aload_n 1, 1), (261, .invokevirtual 62, 3), (264, .aload_n 2, 1), (265, .invokevirtual 65, 3), (268, .goto 393, 3), (271, .aload_n 1, 1), (272, .aload_n 0, 1), (273, .iload 4, 2), (275, .iconst 1, 1), (276, .iadd, 1), (277, .iaload, 1), (278, .aload_n 0, 1), (279, .iload 4, 2), (281, .iconst 2, 1), (282, .iadd, 1), (283, .iaload, 1), (284, .invokestatic 66, 3), (287, .istore 5, 2), (289, .aload_n 2, 1), (290, .aload_n 0, 1), (291, .iload 4, 2), (293, .iconst 1, 1), (294, .iadd, 1), (295, .iaload, 1), (296, .aload_n 0, 1), (297, .iload 4, 2), (299, .iconst 2, 1), (300, .iadd, 1), (301, .iaload, 1), (302, .invokevirtual 69, 3), (305, .aload_n 2, 1), (306, .invokevirtual 55, 3), (309, .iload 5, 2), (311, .if_icmp .eq 5, 3), (314, .iconst 0, 1), (315, .ireturn, 1), (316, .goto 345, 3), (319, .aload_n 1, 1), (320, .aload_n 3, 1), (321, .invokestatic 70, 3), (324, .istore 5, 2), (326, .aload_n 2, 1), (327, .invokevirtual 73, 3), (330, .istore 6, 2), (332, .aload_n 2, 1), (333, .invokevirtual 55, 3), (336, .iload 5, 2), (338, .if_icmp .eq 5, 3), (341, .iconst 0, 1), (342, .ireturn, 1), (343, .iload 5, 2), (345, .ifCond .ne 15, 3), (348, .aload_n 3, 1), (349, .iconst 0, 1), (350, .laload, 1), (351, .iload 6, 2), (353, .i2l, 1), (354, .lcmp, 1), (355, .ifCond .eq 5, 3), (358, .iconst 0, 1), (359, .ireturn, 1), (360, .goto 301, 3), (363, .aload_n 1, 1), (364, .invokevirtual 74, 3), (367, .aload_n 2, 1), (368, .invokevirtual 77, 3), (371, .if_icmp .eq 290, 3), (374, .iconst 0, 1), (375, .ireturn, 1), (376, .aload_n 1, 1), (377, .aload_n 0, 1), (378, .iload 4, 2), (380, .iconst 1, 1), (381, .iadd, 1), (382, .iaload, 1), (383, .ifCond .eq 7, 3), (386, .iconst 1, 1), (387, .goto 4, 3), (390, .iconst 0, 1), (391, .invokestatic 78, 3), (394, .istore 5, 2), (396, .aload_n 2, 1), (397, .aload_n 0, 1), (398, .iload 4, 2), (400, .iconst 1, 1), (401, .iadd, 1), (402, .iaload, 1), (403, .ifCond .eq 7, 3), (406, .iconst 1, 1), (407, .goto 4, 3), (410, .iconst 0, 1), (411, .invokevirtual 81, 3), (414, .aload_n 2, 1), (415, .invokevirtual 55, 3), (418, .iload 5, 2), (420, .if_icmp .eq 5, 3), (423, .iconst 0, 1), (424, .ireturn, 1), (425, .goto 236, 3), (428, .aload_n 1, 1), (429, .aload_n 0, 1), (430, .iload 4, 2), (432, .iconst 1, 1), (433, .iadd, 1), (434, .iaload, 1), (435, .ifCond .eq 7, 3), (438, .iconst 1, 1), (439, .goto 4, 3), (442, .iconst 0, 1), (443, .invokevirtual 82, 3), (446, .aload_n 2, 1), (447, .aload_n 0, 1), (448, .iload 4, 2), (450, .iconst 1, 1), (451, .iadd, 1), (452, .iaload, 1), (453, .ifCond .eq 7, 3), (456, .iconst 1, 1), (457, .goto 4, 3), (460, .iconst 0, 1), (461, .invokevirtual 85, 3), (464, .goto 197, 3), (467, .aload_n 1, 1), (468, .aload_n 0, 1), (469, .iload 4, 2), (471, .iconst 1, 1), (472, .iadd, 1), (473, .iaload, 1), (474, .aload_n 3, 1), (475, .invokestatic 86, 3), (478, .istore 5, 2), (480, .aload_n 2, 1), (481, .aload_n 0, 1), (482, .iload 4, 2), (484, .iconst 1, 1), (485, .iadd, 1), (486, .iaload, 1), (487, .invokevirtual 89, 3), (490, .istore 6, 2), (492, .aload_n 2, 1), (493, .invokevirtual 55, 3), (496, .iload 5, 2), (498, .if_icmp .eq 5, 3), (501, .iconst 0, 1), (502, .ireturn, 1), (503, .iload 5, 2), (505, .ifCond .ne 15, 3), (508, .aload_n 3, 1), (509, .iconst 0, 1), (510, .laload, 1), (511, .iload 6, 2), (513, .i2l, 1), (514, .lcmp, 1), (515, .ifCond .eq 5, 3), (518, .iconst 0, 1), (519, .ireturn, 1), (520, .goto 141, 3), (523, .aload_n 1, 1), (524, .aload_n 0, 1), (525, .iload 4, 2), (527, .iconst 1, 1), (528, .iadd, 1), (529, .iaload, 1), (530, .aload_n 3, 1), (531, .invokestatic 90, 3), (534, .istore 5, 2), (536, .aload_n 2, 1), (537, .aload_n 0, 1), (538, .iload 4, 2), (540, .iconst 1, 1), (541, .iadd, 1), (542, .iaload, 1), (543, .invokevirtual 92, 3), (546, .istore 6, 2), (548, .aload_n 2, 1), (549, .invokevirtual 55, 3), (552, .iload 5, 2), (554, .if_icmp .eq 5, 3), (557, .iconst 0, 1), (558, .ireturn, 1), (559, .iload 5, 2), (561, .ifCond .ne 15, 3), (564, .aload_n 3, 1), (565, .iconst 0, 1), (566, .laload, 1), (567, .iload 6, 2), (569, .i2l, 1), (570, .lcmp, 1), (571, .ifCond .eq 5, 3), (574, .iconst 0, 1), (575, .ireturn, 1), (576, .goto 85, 3), (579, .aload_n 1, 1), (580, .invokevirtual 93, 3), (583, .aload_n 2, 1), (584, .invokevirtual 96, 3), (587, .if_icmp .eq 74, 3), (590, .iconst 0, 1), (591, .ireturn, 1), (592, .aload_n 1, 1), (593, .aload_n 0, 1), (594, .iload 4, 2), (596, .iconst 1, 1), (597, .iadd, 1), (598, .iaload, 1), (599, .aload_n 3, 1), (600, .invokestatic 97, 3), (603, .istore 5, 2), (605, .aload_n 2, 1), (606, .aload_n 0, 1), (607, .iload 4, 2), (609, .iconst 1, 1), (610, .iadd, 1), (611, .iaload, 1), (612, .invokevirtual 99, 3), (615, .istore 6, 2), (617, .aload_n 2, 1), (618, .invokevirtual 55, 3), (621, .iload 5, 2), (623, .if_icmp .eq 5, 3), (626, .iconst 0, 1), (627, .ireturn, 1), (628, .iload 5, 2), (630, .ifCond .ne 15, 3), (633, .aload_n 3, 1), (634, .iconst 0, 1), (635, .laload, 1), (636, .iload 6, 2), (638, .i2l, 1), (639, .lcmp, 1), (640, .ifCond .eq 5, 3), (643, .iconst 0, 1), (644, .ireturn, 1), (645, .goto 16, 3), (648, .aload_n 1, 1), (649, .invokevirtual 100, 3), (652, .aload_n 2, 1), (653, .invokevirtual 103, 3), (656, .if_icmp .eq 5, 3), (659, .iconst 0, 1), (660, .ireturn, 1), (661, .iinc 4 6, 3), (664, .goto (-641), 3), (667, .iconst 1, 1), (668, .ireturn, 1)]
set_option maxRecDepth 100000 in
theorem D_law : DL_law.all (fun q => decide (decode code q.1 = .ok (q.2.1, q.2.2))) = true := by decide +kernel
abbrev mcL : Nat × Nat := (601024, 7293034)
def PL : Outcome → Hp → Prop := fun o _ => o = .returned (some (.int (nI 1)))
theorem sub6 : ∀ L, L < 6 → nI L - nI 6 < nI (6 * 0) := by decide +kernel
theorem lg_self (v : Int64) : lg_cmp v v = nI 0 := by
  simp [lg_cmp, nI_0]
theorem mcA {n : Nat × Nat} (h1 : n.1 ≤ 1000) (h2 : n.2 ≤ 10000) : n.1 + (1, 6).1 ≤ mcL.1 ∧ n.2 + (1, 6).2 ≤ mcL.2 := by
  constructor
  · show n.1 + 1 ≤ 601024
    omega
  · show n.2 + 6 ≤ 7293034
    omega
theorem mcB {n : Nat × Nat} (h1 : n.1 ≤ 1000) (h2 : n.2 ≤ 10000) : (n.1 + (1, 6).1, n.2 + (1, 6).2).1 ≤ mcL.1 ∧ (n.1 + (1, 6).1, n.2 + (1, 6).2).2 ≤ mcL.2 := mcA h1 h2
theorem mcC {n : Nat × Nat} (h1 : n.1 ≤ 1000) (h2 : n.2 ≤ 10000) : n.1 ≤ mcL.1 ∧ n.2 ≤ mcL.2 := by
  constructor
  · show n.1 ≤ 601024
    omega
  · show n.2 ≤ 7293034
    omega
section XLW
variable {g : Gp} {f : Fm} {md : MD} {fr : Nat} {mc : Nat × Nat} {Post : Outcome → Hp → Prop} {n : Nat × Nat} {pc : Nat} {Lo : List (Option Value)} {st : List Value} {h : Hp} {b L : Nat} {xs : Nat → Int32}
theorem x_sld {i : Nat} (C : Cx g f md fr mc) (hX : va_X b L xs (fS f) (fS f).heap) (hb : b < gz g) (hL : L ≤ 3072) (d : decode md.2.1 pc = .ok (.iaload, 1)) (hi : i < L) (k : X g f md mc Post n (pc + 1) Lo (.int (xs i) :: st) h) : X g f md mc Post n pc Lo (.int (nI i) :: .ref b :: st) h := by
  intro H locs ls hR hS hl
  refine va_sld C.exec C.code hX (Nat.lt_of_lt_of_le hb C.z) (show ¬ gz g ≤ b by omega) hS (vp_in_nI hi (by omega)) d ?_
  rw [nI_clamp (by omega)]
  exact k H locs ls hR hS hl
theorem x_slen (C : Cx g f md fr mc) (hX : va_X b L xs (fS f) (fS f).heap) (hb : b < gz g) (d : decode md.2.1 pc = .ok (.arraylength, 1)) (k : X g f md mc Post n (pc + 1) Lo (.int (nI L) :: st) h) : X g f md mc Post n pc Lo (.ref b :: st) h :=
  fun H locs ls hR hS hl => va_slen C.exec C.code hX (Nat.lt_of_lt_of_le hb C.z) (show ¬ gz g ≤ b by omega) hS d (k H locs ls hR hS hl)
theorem x_tabIn {dflt : Int} {offs : Array Int} {len t tgt : Nat} {off : Int} (C : Cx g f md fr mc) (d : decode md.2.1 pc = .ok (.tableswitch dflt 0 12 offs, len)) (ht : t ≤ 12) (ho : offs[t]? = some off) (he : (pc : Int) + off = (tgt : Int)) (k : X g f md mc Post n tgt Lo st h) : X g f md mc Post n pc Lo (.int (nI t) :: st) h := by
  intro H locs ls hR hS hl
  have e : (nI t).toInt = (t : Int) := nI_toInt (by omega)
  refine lv_tableIn C.exec C.code (off := off) d (by rw [e]; omega) (by rw [e]; omega) ?_ he (k H locs ls hR hS hl)
  rw [e, show ((t : Int) - 0).toNat = t by omega]
  exact ho
theorem x_tabOut {dflt : Int} {offs : Array Int} {len t tgt : Nat} (C : Cx g f md fr mc) (d : decode md.2.1 pc = .ok (.tableswitch dflt 0 12 offs, len)) (ht : 12 < t) (h16 : t < 16) (he : (pc : Int) + dflt = (tgt : Int)) (k : X g f md mc Post n tgt Lo st h) : X g f md mc Post n pc Lo (.int (nI t) :: st) h := by
  intro H locs ls hR hS hl
  have e : (nI t).toInt = (t : Int) := nI_toInt (by omega)
  exact lv_tableOut C.exec C.code d (by rw [e]; omega) he (k H locs ls hR hS hl)
end XLW

set_option maxHeartbeats 2000000 in
theorem law_0 {g : Gp} {f : Fm} {b L : Nat} {xs : Nat → Int32} {FO BA : List Nat} (C : Cx g f M_law 10 mcL) (hno : noTr g) (hx : ext g (fS f)) (hX : va_X b L xs (fS f) (fS f).heap) (hb : b < gz g) (hL : L ≤ 3072) {j cd : Nat} {v : Int64} {h : Hp} {l5 l6 : Option Value} {n : Nat × Nat} (hj : 6 * j + 6 ≤ L) (hJ : JSc g FO BA cd v h) (hn1 : n.1 ≤ 1000) (hn2 : n.2 ≤ 10000) (KK : ∀ (cd : Nat) (v : Int64) (h : Hp) (l5 l6 : Option Value) (n' : Nat × Nat), JSc g FO BA cd v h → n'.1 ≤ n.1 + (1, 6).1 → n'.2 ≤ n.2 + (1, 6).2 → X g f M_law mcL PL n' 661 [some (.ref b), some (.ref (zA (gz g) 0)), some (.ref (zA (gz g) 44)), some (.ref (zA (gz g) 59)), some (.int (nI (6 * j))), l5, l6] [] h) : X g f M_law mcL PL n 108 [some (.ref b), some (.ref (zA (gz g) 0)), some (.ref (zA (gz g) 44)), some (.ref (zA (gz g) 59)), some (.int (nI (6 * j))), l5, l6] [] h := by
  refine x_aload_n (pc := 108) C (dq D_law 25 rfl) rfl ?_
  refine x_aload_n (pc := 109) C (dq D_law 26 rfl) rfl ?_
  refine x_iload (pc := 110) C (dq D_law 27 rfl) rfl ?_
  refine x_iconst (pc := 112) C (dq D_law 28 rfl) ci_1 ?_
  refine n_iadd (pc := 113) C (dq D_law 29 rfl) ?_
  refine x_sld (pc := 114) C hX hb hL (dq D_law 30 rfl) (by omega) ?_
  refine x_aload_n (pc := 115) C (dq D_law 31 rfl) rfl ?_
  refine x_iload (pc := 116) C (dq D_law 32 rfl) rfl ?_
  refine x_iconst (pc := 118) C (dq D_law 33 rfl) ci_2 ?_
  refine n_iadd (pc := 119) C (dq D_law 34 rfl) ?_
  refine x_sld (pc := 120) C hX hb hL (dq D_law 35 rfl) (by omega) ?_
  refine x_aload_n (pc := 121) C (dq D_law 36 rfl) rfl ?_
  refine x_iload (pc := 122) C (dq D_law 37 rfl) rfl ?_
  refine x_iconst (pc := 124) C (dq D_law 38 rfl) ci_3 ?_
  refine n_iadd (pc := 125) C (dq D_law 39 rfl) ?_
  refine x_sld (pc := 126) C hX hb hL (dq D_law 40 rfl) (by omega) ?_
  refine x_aload_n (pc := 127) C (dq D_law 41 rfl) rfl ?_
  refine x_iload (pc := 128) C (dq D_law 42 rfl) rfl ?_
  refine x_iconst (pc := 130) C (dq D_law 43 rfl) ci_4 ?_
  refine n_iadd (pc := 131) C (dq D_law 44 rfl) ?_
  refine x_sld (pc := 132) C hX hb hL (dq D_law 45 rfl) (by omega) ?_
  refine x_aload_n (pc := 133) C (dq D_law 46 rfl) rfl ?_
  refine x_iload (pc := 134) C (dq D_law 47 rfl) rfl ?_
  refine x_iconst (pc := 136) C (dq D_law 48 rfl) ci_5 ?_
  refine n_iadd (pc := 137) C (dq D_law 49 rfl) ?_
  refine x_sld (pc := 138) C hX hb hL (dq D_law 50 rfl) (by omega) ?_
  refine x_callSW (pc := 139) (M := M_Law_key) C hx (dq D_law 51 rfl) k_ml_Law_49 m_Law_key (o_key hno hJ) rfl rfl rfl (by decide) (mcA hn1 hn2) (fun o h1 hp => ?_)
  obtain ⟨kk, hk2, rfl, ⟨vs1, hv1⟩, hmc⟩ := hp
  refine ⟨_, rfl, ?_⟩
  show X g f M_law mcL PL (n.1 + (1, 6).1, n.2 + (1, 6).2) 142 _ (.int (nI kk) :: []) h1
  refine x_istore (i := 5) (pc := 142) C (dq D_law 52 rfl) rfl rfl rfl ?_
  simp only [List.set_cons_zero, List.set_cons_succ]
  refine x_aload_n (pc := 144) C (dq D_law 53 rfl) rfl ?_
  refine x_aload_n (pc := 145) C (dq D_law 54 rfl) rfl ?_
  refine x_iload (pc := 146) C (dq D_law 55 rfl) rfl ?_
  refine x_iconst (pc := 148) C (dq D_law 56 rfl) ci_1 ?_
  refine n_iadd (pc := 149) C (dq D_law 57 rfl) ?_
  refine x_sld (pc := 150) C hX hb hL (dq D_law 58 rfl) (by omega) ?_
  refine x_aload_n (pc := 151) C (dq D_law 59 rfl) rfl ?_
  refine x_iload (pc := 152) C (dq D_law 60 rfl) rfl ?_
  refine x_iconst (pc := 154) C (dq D_law 61 rfl) ci_2 ?_
  refine n_iadd (pc := 155) C (dq D_law 62 rfl) ?_
  refine x_sld (pc := 156) C hX hb hL (dq D_law 63 rfl) (by omega) ?_
  refine x_aload_n (pc := 157) C (dq D_law 64 rfl) rfl ?_
  refine x_iload (pc := 158) C (dq D_law 65 rfl) rfl ?_
  refine x_iconst (pc := 160) C (dq D_law 66 rfl) ci_3 ?_
  refine n_iadd (pc := 161) C (dq D_law 67 rfl) ?_
  refine x_sld (pc := 162) C hX hb hL (dq D_law 68 rfl) (by omega) ?_
  refine x_aload_n (pc := 163) C (dq D_law 69 rfl) rfl ?_
  refine x_iload (pc := 164) C (dq D_law 70 rfl) rfl ?_
  refine x_iconst (pc := 166) C (dq D_law 71 rfl) ci_4 ?_
  refine n_iadd (pc := 167) C (dq D_law 72 rfl) ?_
  refine x_sld (pc := 168) C hX hb hL (dq D_law 73 rfl) (by omega) ?_
  refine x_aload_n (pc := 169) C (dq D_law 74 rfl) rfl ?_
  refine x_iload (pc := 170) C (dq D_law 75 rfl) rfl ?_
  refine x_iconst (pc := 172) C (dq D_law 76 rfl) ci_5 ?_
  refine n_iadd (pc := 173) C (dq D_law 77 rfl) ?_
  refine x_sld (pc := 174) C hX hb hL (dq D_law 78 rfl) (by omega) ?_
  refine x_cV (pc := 175) (ci := 1) (M := M_Model_key) C (dq D_law 79 rfl) k_ml_Law_54 m_Model_key rfl rfl hv1 hmc rfl rfl rfl (by decide) (mcB hn1 hn2) (fun o h2 hp => ?_)
  obtain ⟨rfl, v2, hJ2⟩ := hp
  refine ⟨none, rfl, ?_⟩
  obtain ⟨vs2, hv2⟩ := hJ2.r44
  show X g f M_law mcL PL (n.1 + (1, 6).1, n.2 + (1, 6).2) 178 _ [] h2
  refine x_aload_n (pc := 178) C (dq D_law 80 rfl) rfl ?_
  refine x_cV1 (pc := 179) (ci := 1) (M := M_Model_thrown) C (dq D_law 81 rfl) k_ml_Law_55 m_Model_thrown rfl rfl hv2 hJ2.thrown rfl rfl rfl (by decide) (mcB hn1 hn2) ?_
  refine x_iload (pc := 182) C (dq D_law 82 rfl) rfl ?_
  refine n_eq_t (pc := 184) (tgt := 189) C (dq D_law 83 rfl) (by decide) ⟨by omega, by omega⟩ rfl ?_
  refine x_goto (pc := 189) (tgt := 661) C (dq D_law 86 rfl) (by decide) ?_
  exact KK _ _ _ _ _ _ hJ2 (Nat.le_refl _) (Nat.le_refl _)
set_option maxHeartbeats 2000000 in
theorem law_1 {g : Gp} {f : Fm} {b L : Nat} {xs : Nat → Int32} {FO BA : List Nat} (C : Cx g f M_law 10 mcL) (hno : noTr g) (hx : ext g (fS f)) (hX : va_X b L xs (fS f) (fS f).heap) (hb : b < gz g) (hL : L ≤ 3072) {j cd : Nat} {v : Int64} {h : Hp} {l5 l6 : Option Value} {n : Nat × Nat} (hj : 6 * j + 6 ≤ L) (hJ : JSc g FO BA cd v h) (hn1 : n.1 ≤ 1000) (hn2 : n.2 ≤ 10000) (KK : ∀ (cd : Nat) (v : Int64) (h : Hp) (l5 l6 : Option Value) (n' : Nat × Nat), JSc g FO BA cd v h → n'.1 ≤ n.1 + (1, 6).1 → n'.2 ≤ n.2 + (1, 6).2 → X g f M_law mcL PL n' 661 [some (.ref b), some (.ref (zA (gz g) 0)), some (.ref (zA (gz g) 44)), some (.ref (zA (gz g) 59)), some (.int (nI (6 * j))), l5, l6] [] h) : X g f M_law mcL PL n 192 [some (.ref b), some (.ref (zA (gz g) 0)), some (.ref (zA (gz g) 44)), some (.ref (zA (gz g) 59)), some (.int (nI (6 * j))), l5, l6] [] h := by
  refine x_aload_n (pc := 192) C (dq D_law 87 rfl) rfl ?_
  refine x_aload_n (pc := 193) C (dq D_law 88 rfl) rfl ?_
  refine x_iload (pc := 194) C (dq D_law 89 rfl) rfl ?_
  refine x_iconst (pc := 196) C (dq D_law 90 rfl) ci_1 ?_
  refine n_iadd (pc := 197) C (dq D_law 91 rfl) ?_
  refine x_sld (pc := 198) C hX hb hL (dq D_law 92 rfl) (by omega) ?_
  refine x_aload_n (pc := 199) C (dq D_law 93 rfl) rfl ?_
  refine x_iload (pc := 200) C (dq D_law 94 rfl) rfl ?_
  refine x_iconst (pc := 202) C (dq D_law 95 rfl) ci_2 ?_
  refine n_iadd (pc := 203) C (dq D_law 96 rfl) ?_
  refine x_sld (pc := 204) C hX hb hL (dq D_law 97 rfl) (by omega) ?_
  refine x_aload_n (pc := 205) C (dq D_law 98 rfl) rfl ?_
  refine x_callSW (pc := 206) (M := M_Law_feed) C hx (dq D_law 99 rfl) k_ml_Law_58 m_Law_feed (o_feed hno hJ) rfl rfl rfl (by decide) (mcA hn1 hn2) (fun o h1 hp => ?_)
  obtain ⟨kk, hk2, rfl, ⟨vs1, hv1⟩, hmc⟩ := hp
  refine ⟨_, rfl, ?_⟩
  show X g f M_law mcL PL (n.1 + (1, 6).1, n.2 + (1, 6).2) 209 _ (.int (nI kk) :: []) h1
  refine x_istore (i := 5) (pc := 209) C (dq D_law 100 rfl) rfl rfl rfl ?_
  simp only [List.set_cons_zero, List.set_cons_succ]
  refine x_aload_n (pc := 211) C (dq D_law 101 rfl) rfl ?_
  refine x_aload_n (pc := 212) C (dq D_law 102 rfl) rfl ?_
  refine x_iload (pc := 213) C (dq D_law 103 rfl) rfl ?_
  refine x_iconst (pc := 215) C (dq D_law 104 rfl) ci_1 ?_
  refine n_iadd (pc := 216) C (dq D_law 105 rfl) ?_
  refine x_sld (pc := 217) C hX hb hL (dq D_law 106 rfl) (by omega) ?_
  refine x_aload_n (pc := 218) C (dq D_law 107 rfl) rfl ?_
  refine x_iload (pc := 219) C (dq D_law 108 rfl) rfl ?_
  refine x_iconst (pc := 221) C (dq D_law 109 rfl) ci_2 ?_
  refine n_iadd (pc := 222) C (dq D_law 110 rfl) ?_
  refine x_sld (pc := 223) C hX hb hL (dq D_law 111 rfl) (by omega) ?_
  refine x_cV (pc := 224) (ci := 1) (M := M_Model_feed) C (dq D_law 112 rfl) k_ml_Law_61 m_Model_feed rfl rfl hv1 hmc rfl rfl rfl (by decide) (mcB hn1 hn2) (fun o h2 hp => ?_)
  obtain ⟨y, v2, rfl, hJ2, hvy⟩ := hp
  refine ⟨_, rfl, ?_⟩
  obtain ⟨vs2, hv2⟩ := hJ2.r44
  show X g f M_law mcL PL (n.1 + (1, 6).1, n.2 + (1, 6).2) 227 _ (.int y :: []) h2
  refine x_istore (i := 6) (pc := 227) C (dq D_law 113 rfl) rfl rfl rfl ?_
  simp only [List.set_cons_zero, List.set_cons_succ]
  refine x_aload_n (pc := 229) C (dq D_law 114 rfl) rfl ?_
  refine x_cV1 (pc := 230) (ci := 1) (M := M_Model_thrown) C (dq D_law 115 rfl) k_ml_Law_55 m_Model_thrown rfl rfl hv2 hJ2.thrown rfl rfl rfl (by decide) (mcB hn1 hn2) ?_
  refine x_iload (pc := 233) C (dq D_law 116 rfl) rfl ?_
  refine n_eq_t (pc := 235) (tgt := 240) C (dq D_law 117 rfl) (by decide) ⟨by omega, by omega⟩ rfl ?_
  refine x_iload (pc := 240) C (dq D_law 120 rfl) rfl ?_
  by_cases hk0 : kk = 0
  · subst hk0
    refine n_ifne_f (pc := 242) (tgt := 257) C (dq D_law 121 rfl) (by decide) (by omega) rfl ?_
    refine x_aload_n (pc := 245) C (dq D_law 122 rfl) rfl ?_
    refine x_iconst (pc := 246) C (dq D_law 123 rfl) ci_0 ?_
    refine x_lald (pc := 247) C (dq D_law 124 rfl) (hJ2.r59) ?_
    refine x_iload (pc := 248) C (dq D_law 125 rfl) rfl ?_
    refine x_i2l (pc := 250) C (dq D_law 126 rfl) (hvy rfl).symm ?_
    refine x_lcmp (pc := 251) C (dq D_law 127 rfl) ?_
    rw [lg_self]
    refine n_ifeq_t (pc := 252) (tgt := 257) C (dq D_law 128 rfl) (by decide) (by omega) rfl ?_
    refine x_goto (pc := 257) (tgt := 661) C (dq D_law 131 rfl) (by decide) ?_
    exact KK _ _ _ _ _ _ hJ2 (Nat.le_refl _) (Nat.le_refl _)
  · refine n_ifne_t (pc := 242) (tgt := 257) C (dq D_law 121 rfl) (by decide) (by omega) hk0 ?_
    refine x_goto (pc := 257) (tgt := 661) C (dq D_law 131 rfl) (by decide) ?_
    exact KK _ _ _ _ _ _ hJ2 (Nat.le_refl _) (Nat.le_refl _)
set_option maxHeartbeats 2000000 in
theorem law_2 {g : Gp} {f : Fm} {b L : Nat} {xs : Nat → Int32} {FO BA : List Nat} (C : Cx g f M_law 10 mcL) (hno : noTr g) (hx : ext g (fS f)) (hX : va_X b L xs (fS f) (fS f).heap) (hb : b < gz g) (hL : L ≤ 3072) {j cd : Nat} {v : Int64} {h : Hp} {l5 l6 : Option Value} {n : Nat × Nat} (hj : 6 * j + 6 ≤ L) (hJ : JSc g FO BA cd v h) (hn1 : n.1 ≤ 1000) (hn2 : n.2 ≤ 10000) (KK : ∀ (cd : Nat) (v : Int64) (h : Hp) (l5 l6 : Option Value) (n' : Nat × Nat), JSc g FO BA cd v h → n'.1 ≤ n.1 + (1, 6).1 → n'.2 ≤ n.2 + (1, 6).2 → X g f M_law mcL PL n' 661 [some (.ref b), some (.ref (zA (gz g) 0)), some (.ref (zA (gz g) 44)), some (.ref (zA (gz g) 59)), some (.int (nI (6 * j))), l5, l6] [] h) : X g f M_law mcL PL n 260 [some (.ref b), some (.ref (zA (gz g) 0)), some (.ref (zA (gz g) 44)), some (.ref (zA (gz g) 59)), some (.int (nI (6 * j))), l5, l6] [] h := by
  refine x_aload_n (pc := 260) C (dq D_law 132 rfl) rfl ?_
  obtain ⟨vs0, hv0⟩ := hJ.r0
  refine x_cV (pc := 261) (ci := 0) (M := M_Desk_drop) C (dq D_law 133 rfl) k_ml_Law_62 m_Desk_drop rfl rfl hv0 (o_drop hJ) rfl rfl rfl (by decide) (mcC hn1 hn2) (fun o h1 hp => ?_)
  obtain ⟨rfl, ⟨vs1, hv1⟩, hmc⟩ := hp
  refine ⟨none, rfl, ?_⟩
  show X g f M_law mcL PL n 264 _ [] h1
  refine x_aload_n (pc := 264) C (dq D_law 134 rfl) rfl ?_
  refine x_cV (pc := 265) (ci := 1) (M := M_Model_drop) C (dq D_law 135 rfl) k_ml_Law_65 m_Model_drop rfl rfl hv1 hmc rfl rfl rfl (by decide) (mcC hn1 hn2) (fun o h2 hp => ?_)
  obtain ⟨rfl, v2, hJ2⟩ := hp
  refine ⟨none, rfl, ?_⟩
  show X g f M_law mcL PL n 268 _ [] h2
  refine x_goto (pc := 268) (tgt := 661) C (dq D_law 136 rfl) (by decide) ?_
  exact KK _ _ _ _ _ _ hJ2 (Nat.le_add_right _ _) (Nat.le_add_right _ _)
set_option maxHeartbeats 2000000 in
theorem law_3 {g : Gp} {f : Fm} {b L : Nat} {xs : Nat → Int32} {FO BA : List Nat} (C : Cx g f M_law 10 mcL) (hno : noTr g) (hx : ext g (fS f)) (hX : va_X b L xs (fS f) (fS f).heap) (hb : b < gz g) (hL : L ≤ 3072) {j cd : Nat} {v : Int64} {h : Hp} {l5 l6 : Option Value} {n : Nat × Nat} (hj : 6 * j + 6 ≤ L) (hJ : JSc g FO BA cd v h) (hn1 : n.1 ≤ 1000) (hn2 : n.2 ≤ 10000) (KK : ∀ (cd : Nat) (v : Int64) (h : Hp) (l5 l6 : Option Value) (n' : Nat × Nat), JSc g FO BA cd v h → n'.1 ≤ n.1 + (1, 6).1 → n'.2 ≤ n.2 + (1, 6).2 → X g f M_law mcL PL n' 661 [some (.ref b), some (.ref (zA (gz g) 0)), some (.ref (zA (gz g) 44)), some (.ref (zA (gz g) 59)), some (.int (nI (6 * j))), l5, l6] [] h) : X g f M_law mcL PL n 271 [some (.ref b), some (.ref (zA (gz g) 0)), some (.ref (zA (gz g) 44)), some (.ref (zA (gz g) 59)), some (.int (nI (6 * j))), l5, l6] [] h := by
  refine x_aload_n (pc := 271) C (dq D_law 137 rfl) rfl ?_
  refine x_aload_n (pc := 272) C (dq D_law 138 rfl) rfl ?_
  refine x_iload (pc := 273) C (dq D_law 139 rfl) rfl ?_
  refine x_iconst (pc := 275) C (dq D_law 140 rfl) ci_1 ?_
  refine n_iadd (pc := 276) C (dq D_law 141 rfl) ?_
  refine x_sld (pc := 277) C hX hb hL (dq D_law 142 rfl) (by omega) ?_
  refine x_aload_n (pc := 278) C (dq D_law 143 rfl) rfl ?_
  refine x_iload (pc := 279) C (dq D_law 144 rfl) rfl ?_
  refine x_iconst (pc := 281) C (dq D_law 145 rfl) ci_2 ?_
  refine n_iadd (pc := 282) C (dq D_law 146 rfl) ?_
  refine x_sld (pc := 283) C hX hb hL (dq D_law 147 rfl) (by omega) ?_
  refine x_callSW (pc := 284) (M := M_Law_alter) C hx (dq D_law 148 rfl) k_ml_Law_66 m_Law_alter (o_alter hno hJ) rfl rfl rfl (by decide) (mcA hn1 hn2) (fun o h1 hp => ?_)
  obtain ⟨kk, hk2, rfl, ⟨vs1, hv1⟩, hmc⟩ := hp
  refine ⟨_, rfl, ?_⟩
  show X g f M_law mcL PL (n.1 + (1, 6).1, n.2 + (1, 6).2) 287 _ (.int (nI kk) :: []) h1
  refine x_istore (i := 5) (pc := 287) C (dq D_law 149 rfl) rfl rfl rfl ?_
  simp only [List.set_cons_zero, List.set_cons_succ]
  refine x_aload_n (pc := 289) C (dq D_law 150 rfl) rfl ?_
  refine x_aload_n (pc := 290) C (dq D_law 151 rfl) rfl ?_
  refine x_iload (pc := 291) C (dq D_law 152 rfl) rfl ?_
  refine x_iconst (pc := 293) C (dq D_law 153 rfl) ci_1 ?_
  refine n_iadd (pc := 294) C (dq D_law 154 rfl) ?_
  refine x_sld (pc := 295) C hX hb hL (dq D_law 155 rfl) (by omega) ?_
  refine x_aload_n (pc := 296) C (dq D_law 156 rfl) rfl ?_
  refine x_iload (pc := 297) C (dq D_law 157 rfl) rfl ?_
  refine x_iconst (pc := 299) C (dq D_law 158 rfl) ci_2 ?_
  refine n_iadd (pc := 300) C (dq D_law 159 rfl) ?_
  refine x_sld (pc := 301) C hX hb hL (dq D_law 160 rfl) (by omega) ?_
  refine x_cV (pc := 302) (ci := 1) (M := M_Model_alter) C (dq D_law 161 rfl) k_ml_Law_69 m_Model_alter rfl rfl hv1 hmc rfl rfl rfl (by decide) (mcB hn1 hn2) (fun o h2 hp => ?_)
  obtain ⟨rfl, v2, hJ2⟩ := hp
  refine ⟨none, rfl, ?_⟩
  obtain ⟨vs2, hv2⟩ := hJ2.r44
  show X g f M_law mcL PL (n.1 + (1, 6).1, n.2 + (1, 6).2) 305 _ [] h2
  refine x_aload_n (pc := 305) C (dq D_law 162 rfl) rfl ?_
  refine x_cV1 (pc := 306) (ci := 1) (M := M_Model_thrown) C (dq D_law 163 rfl) k_ml_Law_55 m_Model_thrown rfl rfl hv2 hJ2.thrown rfl rfl rfl (by decide) (mcB hn1 hn2) ?_
  refine x_iload (pc := 309) C (dq D_law 164 rfl) rfl ?_
  refine n_eq_t (pc := 311) (tgt := 316) C (dq D_law 165 rfl) (by decide) ⟨by omega, by omega⟩ rfl ?_
  refine x_goto (pc := 316) (tgt := 661) C (dq D_law 168 rfl) (by decide) ?_
  exact KK _ _ _ _ _ _ hJ2 (Nat.le_refl _) (Nat.le_refl _)
set_option maxHeartbeats 2000000 in
theorem law_4 {g : Gp} {f : Fm} {b L : Nat} {xs : Nat → Int32} {FO BA : List Nat} (C : Cx g f M_law 10 mcL) (hno : noTr g) (hx : ext g (fS f)) (hX : va_X b L xs (fS f) (fS f).heap) (hb : b < gz g) (hL : L ≤ 3072) {j cd : Nat} {v : Int64} {h : Hp} {l5 l6 : Option Value} {n : Nat × Nat} (hj : 6 * j + 6 ≤ L) (hJ : JSc g FO BA cd v h) (hn1 : n.1 ≤ 1000) (hn2 : n.2 ≤ 10000) (KK : ∀ (cd : Nat) (v : Int64) (h : Hp) (l5 l6 : Option Value) (n' : Nat × Nat), JSc g FO BA cd v h → n'.1 ≤ n.1 + (1, 6).1 → n'.2 ≤ n.2 + (1, 6).2 → X g f M_law mcL PL n' 661 [some (.ref b), some (.ref (zA (gz g) 0)), some (.ref (zA (gz g) 44)), some (.ref (zA (gz g) 59)), some (.int (nI (6 * j))), l5, l6] [] h) : X g f M_law mcL PL n 319 [some (.ref b), some (.ref (zA (gz g) 0)), some (.ref (zA (gz g) 44)), some (.ref (zA (gz g) 59)), some (.int (nI (6 * j))), l5, l6] [] h := by
  refine x_aload_n (pc := 319) C (dq D_law 169 rfl) rfl ?_
  refine x_aload_n (pc := 320) C (dq D_law 170 rfl) rfl ?_
  refine x_callSW (pc := 321) (M := M_Law_item) C hx (dq D_law 171 rfl) k_ml_Law_70 m_Law_item (o_item hno hJ) rfl rfl rfl (by decide) (mcA hn1 hn2) (fun o h1 hp => ?_)
  obtain ⟨kk, hk2, rfl, ⟨vs1, hv1⟩, hmc⟩ := hp
  refine ⟨_, rfl, ?_⟩
  show X g f M_law mcL PL (n.1 + (1, 6).1, n.2 + (1, 6).2) 324 _ (.int (nI kk) :: []) h1
  refine x_istore (i := 5) (pc := 324) C (dq D_law 172 rfl) rfl rfl rfl ?_
  simp only [List.set_cons_zero, List.set_cons_succ]
  refine x_aload_n (pc := 326) C (dq D_law 173 rfl) rfl ?_
  refine x_cV (pc := 327) (ci := 1) (M := M_Model_item) C (dq D_law 174 rfl) k_ml_Law_73 m_Model_item rfl rfl hv1 hmc rfl rfl rfl (by decide) (mcB hn1 hn2) (fun o h2 hp => ?_)
  obtain ⟨y, v2, rfl, hJ2, hvy⟩ := hp
  refine ⟨_, rfl, ?_⟩
  obtain ⟨vs2, hv2⟩ := hJ2.r44
  show X g f M_law mcL PL (n.1 + (1, 6).1, n.2 + (1, 6).2) 330 _ (.int y :: []) h2
  refine x_istore (i := 6) (pc := 330) C (dq D_law 175 rfl) rfl rfl rfl ?_
  simp only [List.set_cons_zero, List.set_cons_succ]
  refine x_aload_n (pc := 332) C (dq D_law 176 rfl) rfl ?_
  refine x_cV1 (pc := 333) (ci := 1) (M := M_Model_thrown) C (dq D_law 177 rfl) k_ml_Law_55 m_Model_thrown rfl rfl hv2 hJ2.thrown rfl rfl rfl (by decide) (mcB hn1 hn2) ?_
  refine x_iload (pc := 336) C (dq D_law 178 rfl) rfl ?_
  refine n_eq_t (pc := 338) (tgt := 343) C (dq D_law 179 rfl) (by decide) ⟨by omega, by omega⟩ rfl ?_
  refine x_iload (pc := 343) C (dq D_law 182 rfl) rfl ?_
  by_cases hk0 : kk = 0
  · subst hk0
    refine n_ifne_f (pc := 345) (tgt := 360) C (dq D_law 183 rfl) (by decide) (by omega) rfl ?_
    refine x_aload_n (pc := 348) C (dq D_law 184 rfl) rfl ?_
    refine x_iconst (pc := 349) C (dq D_law 185 rfl) ci_0 ?_
    refine x_lald (pc := 350) C (dq D_law 186 rfl) (hJ2.r59) ?_
    refine x_iload (pc := 351) C (dq D_law 187 rfl) rfl ?_
    refine x_i2l (pc := 353) C (dq D_law 188 rfl) (hvy rfl).symm ?_
    refine x_lcmp (pc := 354) C (dq D_law 189 rfl) ?_
    rw [lg_self]
    refine n_ifeq_t (pc := 355) (tgt := 360) C (dq D_law 190 rfl) (by decide) (by omega) rfl ?_
    refine x_goto (pc := 360) (tgt := 661) C (dq D_law 193 rfl) (by decide) ?_
    exact KK _ _ _ _ _ _ hJ2 (Nat.le_refl _) (Nat.le_refl _)
  · refine n_ifne_t (pc := 345) (tgt := 360) C (dq D_law 183 rfl) (by decide) (by omega) hk0 ?_
    refine x_goto (pc := 360) (tgt := 661) C (dq D_law 193 rfl) (by decide) ?_
    exact KK _ _ _ _ _ _ hJ2 (Nat.le_refl _) (Nat.le_refl _)
set_option maxHeartbeats 2000000 in
theorem law_5 {g : Gp} {f : Fm} {b L : Nat} {xs : Nat → Int32} {FO BA : List Nat} (C : Cx g f M_law 10 mcL) (hno : noTr g) (hx : ext g (fS f)) (hX : va_X b L xs (fS f) (fS f).heap) (hb : b < gz g) (hL : L ≤ 3072) {j cd : Nat} {v : Int64} {h : Hp} {l5 l6 : Option Value} {n : Nat × Nat} (hj : 6 * j + 6 ≤ L) (hJ : JSc g FO BA cd v h) (hn1 : n.1 ≤ 1000) (hn2 : n.2 ≤ 10000) (KK : ∀ (cd : Nat) (v : Int64) (h : Hp) (l5 l6 : Option Value) (n' : Nat × Nat), JSc g FO BA cd v h → n'.1 ≤ n.1 + (1, 6).1 → n'.2 ≤ n.2 + (1, 6).2 → X g f M_law mcL PL n' 661 [some (.ref b), some (.ref (zA (gz g) 0)), some (.ref (zA (gz g) 44)), some (.ref (zA (gz g) 59)), some (.int (nI (6 * j))), l5, l6] [] h) : X g f M_law mcL PL n 363 [some (.ref b), some (.ref (zA (gz g) 0)), some (.ref (zA (gz g) 44)), some (.ref (zA (gz g) 59)), some (.int (nI (6 * j))), l5, l6] [] h := by
  refine x_aload_n (pc := 363) C (dq D_law 194 rfl) rfl ?_
  obtain ⟨vs0, hv0⟩ := hJ.r0
  refine x_cV (pc := 364) (ci := 0) (M := M_Desk_forget) C (dq D_law 195 rfl) k_ml_Law_74 m_Desk_forget rfl rfl hv0 (o_forget hJ) rfl rfl rfl (by decide) (mcC hn1 hn2) (fun o h1 hp => ?_)
  obtain ⟨kk, hk2, rfl, ⟨vs1, hv1⟩, hmc⟩ := hp
  refine ⟨_, rfl, ?_⟩
  show X g f M_law mcL PL n 367 _ (.int (nI kk) :: []) h1
  refine x_aload_n (pc := 367) C (dq D_law 196 rfl) rfl ?_
  refine x_cV (pc := 368) (ci := 1) (M := M_Model_forget) C (dq D_law 197 rfl) k_ml_Law_77 m_Model_forget rfl rfl hv1 hmc rfl rfl rfl (by decide) (mcC hn1 hn2) (fun o h2 hp => ?_)
  obtain ⟨rfl, v2, hJ2⟩ := hp
  refine ⟨_, rfl, ?_⟩
  show X g f M_law mcL PL n 371 _ (.int (nI kk) :: .int (nI kk) :: []) h2
  refine n_eq_t (pc := 371) (tgt := 661) C (dq D_law 198 rfl) (by decide) ⟨by omega, by omega⟩ rfl ?_
  exact KK _ _ _ _ _ _ hJ2 (Nat.le_add_right _ _) (Nat.le_add_right _ _)
set_option maxHeartbeats 2000000 in
theorem law_6z {g : Gp} {f : Fm} {b L : Nat} {xs : Nat → Int32} {FO BA : List Nat} (C : Cx g f M_law 10 mcL) (hno : noTr g) (hx : ext g (fS f)) (hX : va_X b L xs (fS f) (fS f).heap) (hb : b < gz g) (hL : L ≤ 3072) {j cd : Nat} {v : Int64} {h : Hp} {l5 l6 : Option Value} {n : Nat × Nat} (hj : 6 * j + 6 ≤ L) (hJ : JSc g FO BA cd v h) (hn1 : n.1 ≤ 1000) (hn2 : n.2 ≤ 10000) (hz : xs (6 * j + 1) = 0) (KK : ∀ (cd : Nat) (v : Int64) (h : Hp) (l5 l6 : Option Value) (n' : Nat × Nat), JSc g FO BA cd v h → n'.1 ≤ n.1 + (1, 6).1 → n'.2 ≤ n.2 + (1, 6).2 → X g f M_law mcL PL n' 661 [some (.ref b), some (.ref (zA (gz g) 0)), some (.ref (zA (gz g) 44)), some (.ref (zA (gz g) 59)), some (.int (nI (6 * j))), l5, l6] [] h) : X g f M_law mcL PL n 376 [some (.ref b), some (.ref (zA (gz g) 0)), some (.ref (zA (gz g) 44)), some (.ref (zA (gz g) 59)), some (.int (nI (6 * j))), l5, l6] [] h := by
  refine x_aload_n (pc := 376) C (dq D_law 201 rfl) rfl ?_
  refine x_aload_n (pc := 377) C (dq D_law 202 rfl) rfl ?_
  refine x_iload (pc := 378) C (dq D_law 203 rfl) rfl ?_
  refine x_iconst (pc := 380) C (dq D_law 204 rfl) ci_1 ?_
  refine n_iadd (pc := 381) C (dq D_law 205 rfl) ?_
  refine x_sld (pc := 382) C hX hb hL (dq D_law 206 rfl) (by omega) ?_
  refine x_ifeq (pc := 383) (tgt := 390) C (dq D_law 207 rfl) (by decide) (fun _ => ?_) (fun q => absurd hz q)
  refine x_iconst (pc := 390) C (dq D_law 210 rfl) ci_0 ?_
  refine x_callSW (pc := 391) (M := M_Law_cipher) C hx (dq D_law 211 rfl) k_ml_Law_78 m_Law_cipher (o_cipher (bk := 0) (by omega) hno hJ) rfl rfl rfl (by decide) (mcA hn1 hn2) (fun o h1 hp => ?_)
  obtain ⟨kk, hk2, rfl, ⟨vs1, hv1⟩, hmc⟩ := hp
  refine ⟨_, rfl, ?_⟩
  show X g f M_law mcL PL (n.1 + (1, 6).1, n.2 + (1, 6).2) 394 _ (.int (nI kk) :: []) h1
  refine x_istore (i := 5) (pc := 394) C (dq D_law 212 rfl) rfl rfl rfl ?_
  simp only [List.set_cons_zero, List.set_cons_succ]
  refine x_aload_n (pc := 396) C (dq D_law 213 rfl) rfl ?_
  refine x_aload_n (pc := 397) C (dq D_law 214 rfl) rfl ?_
  refine x_iload (pc := 398) C (dq D_law 215 rfl) rfl ?_
  refine x_iconst (pc := 400) C (dq D_law 216 rfl) ci_1 ?_
  refine n_iadd (pc := 401) C (dq D_law 217 rfl) ?_
  refine x_sld (pc := 402) C hX hb hL (dq D_law 218 rfl) (by omega) ?_
  refine x_ifeq (pc := 403) (tgt := 410) C (dq D_law 219 rfl) (by decide) (fun _ => ?_) (fun q => absurd hz q)
  refine x_iconst (pc := 410) C (dq D_law 222 rfl) ci_0 ?_
  refine x_cV (pc := 411) (ci := 1) (M := M_Model_cipher) C (dq D_law 223 rfl) k_ml_Law_81 m_Model_cipher rfl rfl hv1 hmc rfl rfl rfl (by decide) (mcB hn1 hn2) (fun o h2 hp => ?_)
  obtain ⟨rfl, v2, hJ2⟩ := hp
  refine ⟨none, rfl, ?_⟩
  obtain ⟨vs2, hv2⟩ := hJ2.r44
  show X g f M_law mcL PL (n.1 + (1, 6).1, n.2 + (1, 6).2) 414 _ [] h2
  refine x_aload_n (pc := 414) C (dq D_law 224 rfl) rfl ?_
  refine x_cV1 (pc := 415) (ci := 1) (M := M_Model_thrown) C (dq D_law 225 rfl) k_ml_Law_55 m_Model_thrown rfl rfl hv2 hJ2.thrown rfl rfl rfl (by decide) (mcB hn1 hn2) ?_
  refine x_iload (pc := 418) C (dq D_law 226 rfl) rfl ?_
  refine n_eq_t (pc := 420) (tgt := 425) C (dq D_law 227 rfl) (by decide) ⟨by omega, by omega⟩ rfl ?_
  refine x_goto (pc := 425) (tgt := 661) C (dq D_law 230 rfl) (by decide) ?_
  exact KK _ _ _ _ _ _ hJ2 (Nat.le_refl _) (Nat.le_refl _)
set_option maxHeartbeats 2000000 in
theorem law_6n {g : Gp} {f : Fm} {b L : Nat} {xs : Nat → Int32} {FO BA : List Nat} (C : Cx g f M_law 10 mcL) (hno : noTr g) (hx : ext g (fS f)) (hX : va_X b L xs (fS f) (fS f).heap) (hb : b < gz g) (hL : L ≤ 3072) {j cd : Nat} {v : Int64} {h : Hp} {l5 l6 : Option Value} {n : Nat × Nat} (hj : 6 * j + 6 ≤ L) (hJ : JSc g FO BA cd v h) (hn1 : n.1 ≤ 1000) (hn2 : n.2 ≤ 10000) (hz : ¬ xs (6 * j + 1) = 0) (KK : ∀ (cd : Nat) (v : Int64) (h : Hp) (l5 l6 : Option Value) (n' : Nat × Nat), JSc g FO BA cd v h → n'.1 ≤ n.1 + (1, 6).1 → n'.2 ≤ n.2 + (1, 6).2 → X g f M_law mcL PL n' 661 [some (.ref b), some (.ref (zA (gz g) 0)), some (.ref (zA (gz g) 44)), some (.ref (zA (gz g) 59)), some (.int (nI (6 * j))), l5, l6] [] h) : X g f M_law mcL PL n 376 [some (.ref b), some (.ref (zA (gz g) 0)), some (.ref (zA (gz g) 44)), some (.ref (zA (gz g) 59)), some (.int (nI (6 * j))), l5, l6] [] h := by
  refine x_aload_n (pc := 376) C (dq D_law 201 rfl) rfl ?_
  refine x_aload_n (pc := 377) C (dq D_law 202 rfl) rfl ?_
  refine x_iload (pc := 378) C (dq D_law 203 rfl) rfl ?_
  refine x_iconst (pc := 380) C (dq D_law 204 rfl) ci_1 ?_
  refine n_iadd (pc := 381) C (dq D_law 205 rfl) ?_
  refine x_sld (pc := 382) C hX hb hL (dq D_law 206 rfl) (by omega) ?_
  refine x_ifeq (pc := 383) (tgt := 390) C (dq D_law 207 rfl) (by decide) (fun q => absurd q hz) (fun _ => ?_)
  refine x_iconst (pc := 386) C (dq D_law 208 rfl) ci_1 ?_
  refine x_goto (pc := 387) (tgt := 391) C (dq D_law 209 rfl) (by decide) ?_
  refine x_callSW (pc := 391) (M := M_Law_cipher) C hx (dq D_law 211 rfl) k_ml_Law_78 m_Law_cipher (o_cipher (bk := 1) (by omega) hno hJ) rfl rfl rfl (by decide) (mcA hn1 hn2) (fun o h1 hp => ?_)
  obtain ⟨kk, hk2, rfl, ⟨vs1, hv1⟩, hmc⟩ := hp
  refine ⟨_, rfl, ?_⟩
  show X g f M_law mcL PL (n.1 + (1, 6).1, n.2 + (1, 6).2) 394 _ (.int (nI kk) :: []) h1
  refine x_istore (i := 5) (pc := 394) C (dq D_law 212 rfl) rfl rfl rfl ?_
  simp only [List.set_cons_zero, List.set_cons_succ]
  refine x_aload_n (pc := 396) C (dq D_law 213 rfl) rfl ?_
  refine x_aload_n (pc := 397) C (dq D_law 214 rfl) rfl ?_
  refine x_iload (pc := 398) C (dq D_law 215 rfl) rfl ?_
  refine x_iconst (pc := 400) C (dq D_law 216 rfl) ci_1 ?_
  refine n_iadd (pc := 401) C (dq D_law 217 rfl) ?_
  refine x_sld (pc := 402) C hX hb hL (dq D_law 218 rfl) (by omega) ?_
  refine x_ifeq (pc := 403) (tgt := 410) C (dq D_law 219 rfl) (by decide) (fun q => absurd q hz) (fun _ => ?_)
  refine x_iconst (pc := 406) C (dq D_law 220 rfl) ci_1 ?_
  refine x_goto (pc := 407) (tgt := 411) C (dq D_law 221 rfl) (by decide) ?_
  refine x_cV (pc := 411) (ci := 1) (M := M_Model_cipher) C (dq D_law 223 rfl) k_ml_Law_81 m_Model_cipher rfl rfl hv1 hmc rfl rfl rfl (by decide) (mcB hn1 hn2) (fun o h2 hp => ?_)
  obtain ⟨rfl, v2, hJ2⟩ := hp
  refine ⟨none, rfl, ?_⟩
  obtain ⟨vs2, hv2⟩ := hJ2.r44
  show X g f M_law mcL PL (n.1 + (1, 6).1, n.2 + (1, 6).2) 414 _ [] h2
  refine x_aload_n (pc := 414) C (dq D_law 224 rfl) rfl ?_
  refine x_cV1 (pc := 415) (ci := 1) (M := M_Model_thrown) C (dq D_law 225 rfl) k_ml_Law_55 m_Model_thrown rfl rfl hv2 hJ2.thrown rfl rfl rfl (by decide) (mcB hn1 hn2) ?_
  refine x_iload (pc := 418) C (dq D_law 226 rfl) rfl ?_
  refine n_eq_t (pc := 420) (tgt := 425) C (dq D_law 227 rfl) (by decide) ⟨by omega, by omega⟩ rfl ?_
  refine x_goto (pc := 425) (tgt := 661) C (dq D_law 230 rfl) (by decide) ?_
  exact KK _ _ _ _ _ _ hJ2 (Nat.le_refl _) (Nat.le_refl _)
set_option maxHeartbeats 2000000 in
theorem law_7z {g : Gp} {f : Fm} {b L : Nat} {xs : Nat → Int32} {FO BA : List Nat} (C : Cx g f M_law 10 mcL) (hno : noTr g) (hx : ext g (fS f)) (hX : va_X b L xs (fS f) (fS f).heap) (hb : b < gz g) (hL : L ≤ 3072) {j cd : Nat} {v : Int64} {h : Hp} {l5 l6 : Option Value} {n : Nat × Nat} (hj : 6 * j + 6 ≤ L) (hJ : JSc g FO BA cd v h) (hn1 : n.1 ≤ 1000) (hn2 : n.2 ≤ 10000) (hz : xs (6 * j + 1) = 0) (KK : ∀ (cd : Nat) (v : Int64) (h : Hp) (l5 l6 : Option Value) (n' : Nat × Nat), JSc g FO BA cd v h → n'.1 ≤ n.1 + (1, 6).1 → n'.2 ≤ n.2 + (1, 6).2 → X g f M_law mcL PL n' 661 [some (.ref b), some (.ref (zA (gz g) 0)), some (.ref (zA (gz g) 44)), some (.ref (zA (gz g) 59)), some (.int (nI (6 * j))), l5, l6] [] h) : X g f M_law mcL PL n 428 [some (.ref b), some (.ref (zA (gz g) 0)), some (.ref (zA (gz g) 44)), some (.ref (zA (gz g) 59)), some (.int (nI (6 * j))), l5, l6] [] h := by
  refine x_aload_n (pc := 428) C (dq D_law 231 rfl) rfl ?_
  refine x_aload_n (pc := 429) C (dq D_law 232 rfl) rfl ?_
  refine x_iload (pc := 430) C (dq D_law 233 rfl) rfl ?_
  refine x_iconst (pc := 432) C (dq D_law 234 rfl) ci_1 ?_
  refine n_iadd (pc := 433) C (dq D_law 235 rfl) ?_
  refine x_sld (pc := 434) C hX hb hL (dq D_law 236 rfl) (by omega) ?_
  refine x_ifeq (pc := 435) (tgt := 442) C (dq D_law 237 rfl) (by decide) (fun _ => ?_) (fun q => absurd hz q)
  refine x_iconst (pc := 442) C (dq D_law 240 rfl) ci_0 ?_
  obtain ⟨vs0, hv0⟩ := hJ.r0
  refine x_cV (pc := 443) (ci := 0) (M := M_Desk_mark) C (dq D_law 241 rfl) k_ml_Law_82 m_Desk_mark rfl rfl hv0 (o_mark (jt := 0) (by omega) hJ) rfl rfl rfl (by decide) (mcC hn1 hn2) (fun o h1 hp => ?_)
  obtain ⟨rfl, ⟨vs1, hv1⟩, hmc⟩ := hp
  refine ⟨none, rfl, ?_⟩
  show X g f M_law mcL PL n 446 _ [] h1
  refine x_aload_n (pc := 446) C (dq D_law 242 rfl) rfl ?_
  refine x_aload_n (pc := 447) C (dq D_law 243 rfl) rfl ?_
  refine x_iload (pc := 448) C (dq D_law 244 rfl) rfl ?_
  refine x_iconst (pc := 450) C (dq D_law 245 rfl) ci_1 ?_
  refine n_iadd (pc := 451) C (dq D_law 246 rfl) ?_
  refine x_sld (pc := 452) C hX hb hL (dq D_law 247 rfl) (by omega) ?_
  refine x_ifeq (pc := 453) (tgt := 460) C (dq D_law 248 rfl) (by decide) (fun _ => ?_) (fun q => absurd hz q)
  refine x_iconst (pc := 460) C (dq D_law 251 rfl) ci_0 ?_
  refine x_cV (pc := 461) (ci := 1) (M := M_Model_mark) C (dq D_law 252 rfl) k_ml_Law_85 m_Model_mark rfl rfl hv1 hmc rfl rfl rfl (by decide) (mcC hn1 hn2) (fun o h2 hp => ?_)
  obtain ⟨rfl, v2, hJ2⟩ := hp
  refine ⟨none, rfl, ?_⟩
  show X g f M_law mcL PL n 464 _ [] h2
  refine x_goto (pc := 464) (tgt := 661) C (dq D_law 253 rfl) (by decide) ?_
  exact KK _ _ _ _ _ _ hJ2 (Nat.le_add_right _ _) (Nat.le_add_right _ _)
set_option maxHeartbeats 2000000 in
theorem law_7n {g : Gp} {f : Fm} {b L : Nat} {xs : Nat → Int32} {FO BA : List Nat} (C : Cx g f M_law 10 mcL) (hno : noTr g) (hx : ext g (fS f)) (hX : va_X b L xs (fS f) (fS f).heap) (hb : b < gz g) (hL : L ≤ 3072) {j cd : Nat} {v : Int64} {h : Hp} {l5 l6 : Option Value} {n : Nat × Nat} (hj : 6 * j + 6 ≤ L) (hJ : JSc g FO BA cd v h) (hn1 : n.1 ≤ 1000) (hn2 : n.2 ≤ 10000) (hz : ¬ xs (6 * j + 1) = 0) (KK : ∀ (cd : Nat) (v : Int64) (h : Hp) (l5 l6 : Option Value) (n' : Nat × Nat), JSc g FO BA cd v h → n'.1 ≤ n.1 + (1, 6).1 → n'.2 ≤ n.2 + (1, 6).2 → X g f M_law mcL PL n' 661 [some (.ref b), some (.ref (zA (gz g) 0)), some (.ref (zA (gz g) 44)), some (.ref (zA (gz g) 59)), some (.int (nI (6 * j))), l5, l6] [] h) : X g f M_law mcL PL n 428 [some (.ref b), some (.ref (zA (gz g) 0)), some (.ref (zA (gz g) 44)), some (.ref (zA (gz g) 59)), some (.int (nI (6 * j))), l5, l6] [] h := by
  refine x_aload_n (pc := 428) C (dq D_law 231 rfl) rfl ?_
  refine x_aload_n (pc := 429) C (dq D_law 232 rfl) rfl ?_
  refine x_iload (pc := 430) C (dq D_law 233 rfl) rfl ?_
  refine x_iconst (pc := 432) C (dq D_law 234 rfl) ci_1 ?_
  refine n_iadd (pc := 433) C (dq D_law 235 rfl) ?_
  refine x_sld (pc := 434) C hX hb hL (dq D_law 236 rfl) (by omega) ?_
  refine x_ifeq (pc := 435) (tgt := 442) C (dq D_law 237 rfl) (by decide) (fun q => absurd q hz) (fun _ => ?_)
  refine x_iconst (pc := 438) C (dq D_law 238 rfl) ci_1 ?_
  refine x_goto (pc := 439) (tgt := 443) C (dq D_law 239 rfl) (by decide) ?_
  obtain ⟨vs0, hv0⟩ := hJ.r0
  refine x_cV (pc := 443) (ci := 0) (M := M_Desk_mark) C (dq D_law 241 rfl) k_ml_Law_82 m_Desk_mark rfl rfl hv0 (o_mark (jt := 1) (by omega) hJ) rfl rfl rfl (by decide) (mcC hn1 hn2) (fun o h1 hp => ?_)
  obtain ⟨rfl, ⟨vs1, hv1⟩, hmc⟩ := hp
  refine ⟨none, rfl, ?_⟩
  show X g f M_law mcL PL n 446 _ [] h1
  refine x_aload_n (pc := 446) C (dq D_law 242 rfl) rfl ?_
  refine x_aload_n (pc := 447) C (dq D_law 243 rfl) rfl ?_
  refine x_iload (pc := 448) C (dq D_law 244 rfl) rfl ?_
  refine x_iconst (pc := 450) C (dq D_law 245 rfl) ci_1 ?_
  refine n_iadd (pc := 451) C (dq D_law 246 rfl) ?_
  refine x_sld (pc := 452) C hX hb hL (dq D_law 247 rfl) (by omega) ?_
  refine x_ifeq (pc := 453) (tgt := 460) C (dq D_law 248 rfl) (by decide) (fun q => absurd q hz) (fun _ => ?_)
  refine x_iconst (pc := 456) C (dq D_law 249 rfl) ci_1 ?_
  refine x_goto (pc := 457) (tgt := 461) C (dq D_law 250 rfl) (by decide) ?_
  refine x_cV (pc := 461) (ci := 1) (M := M_Model_mark) C (dq D_law 252 rfl) k_ml_Law_85 m_Model_mark rfl rfl hv1 hmc rfl rfl rfl (by decide) (mcC hn1 hn2) (fun o h2 hp => ?_)
  obtain ⟨rfl, v2, hJ2⟩ := hp
  refine ⟨none, rfl, ?_⟩
  show X g f M_law mcL PL n 464 _ [] h2
  refine x_goto (pc := 464) (tgt := 661) C (dq D_law 253 rfl) (by decide) ?_
  exact KK _ _ _ _ _ _ hJ2 (Nat.le_add_right _ _) (Nat.le_add_right _ _)
set_option maxHeartbeats 2000000 in
theorem law_8 {g : Gp} {f : Fm} {b L : Nat} {xs : Nat → Int32} {FO BA : List Nat} (C : Cx g f M_law 10 mcL) (hno : noTr g) (hx : ext g (fS f)) (hX : va_X b L xs (fS f) (fS f).heap) (hb : b < gz g) (hL : L ≤ 3072) {j cd : Nat} {v : Int64} {h : Hp} {l5 l6 : Option Value} {n : Nat × Nat} (hj : 6 * j + 6 ≤ L) (hJ : JSc g FO BA cd v h) (hn1 : n.1 ≤ 1000) (hn2 : n.2 ≤ 10000) (KK : ∀ (cd : Nat) (v : Int64) (h : Hp) (l5 l6 : Option Value) (n' : Nat × Nat), JSc g FO BA cd v h → n'.1 ≤ n.1 + (1, 6).1 → n'.2 ≤ n.2 + (1, 6).2 → X g f M_law mcL PL n' 661 [some (.ref b), some (.ref (zA (gz g) 0)), some (.ref (zA (gz g) 44)), some (.ref (zA (gz g) 59)), some (.int (nI (6 * j))), l5, l6] [] h) : X g f M_law mcL PL n 467 [some (.ref b), some (.ref (zA (gz g) 0)), some (.ref (zA (gz g) 44)), some (.ref (zA (gz g) 59)), some (.int (nI (6 * j))), l5, l6] [] h := by
  refine x_aload_n (pc := 467) C (dq D_law 254 rfl) rfl ?_
  refine x_aload_n (pc := 468) C (dq D_law 255 rfl) rfl ?_
  refine x_iload (pc := 469) C (dq D_law 256 rfl) rfl ?_
  refine x_iconst (pc := 471) C (dq D_law 257 rfl) ci_1 ?_
  refine n_iadd (pc := 472) C (dq D_law 258 rfl) ?_
  refine x_sld (pc := 473) C hX hb hL (dq D_law 259 rfl) (by omega) ?_
  refine x_aload_n (pc := 474) C (dq D_law 260 rfl) rfl ?_
  refine x_callSW (pc := 475) (M := M_Law_seal) C hx (dq D_law 261 rfl) k_ml_Law_86 m_Law_seal (o_seal hno hJ) rfl rfl rfl (by decide) (mcA hn1 hn2) (fun o h1 hp => ?_)
  obtain ⟨kk, hk2, rfl, ⟨vs1, hv1⟩, hmc⟩ := hp
  refine ⟨_, rfl, ?_⟩
  show X g f M_law mcL PL (n.1 + (1, 6).1, n.2 + (1, 6).2) 478 _ (.int (nI kk) :: []) h1
  refine x_istore (i := 5) (pc := 478) C (dq D_law 262 rfl) rfl rfl rfl ?_
  simp only [List.set_cons_zero, List.set_cons_succ]
  refine x_aload_n (pc := 480) C (dq D_law 263 rfl) rfl ?_
  refine x_aload_n (pc := 481) C (dq D_law 264 rfl) rfl ?_
  refine x_iload (pc := 482) C (dq D_law 265 rfl) rfl ?_
  refine x_iconst (pc := 484) C (dq D_law 266 rfl) ci_1 ?_
  refine n_iadd (pc := 485) C (dq D_law 267 rfl) ?_
  refine x_sld (pc := 486) C hX hb hL (dq D_law 268 rfl) (by omega) ?_
  refine x_cV (pc := 487) (ci := 1) (M := M_Model_seal) C (dq D_law 269 rfl) k_ml_Law_89 m_Model_seal rfl rfl hv1 hmc rfl rfl rfl (by decide) (mcB hn1 hn2) (fun o h2 hp => ?_)
  obtain ⟨y, v2, rfl, hJ2, hvy⟩ := hp
  refine ⟨_, rfl, ?_⟩
  obtain ⟨vs2, hv2⟩ := hJ2.r44
  show X g f M_law mcL PL (n.1 + (1, 6).1, n.2 + (1, 6).2) 490 _ (.int y :: []) h2
  refine x_istore (i := 6) (pc := 490) C (dq D_law 270 rfl) rfl rfl rfl ?_
  simp only [List.set_cons_zero, List.set_cons_succ]
  refine x_aload_n (pc := 492) C (dq D_law 271 rfl) rfl ?_
  refine x_cV1 (pc := 493) (ci := 1) (M := M_Model_thrown) C (dq D_law 272 rfl) k_ml_Law_55 m_Model_thrown rfl rfl hv2 hJ2.thrown rfl rfl rfl (by decide) (mcB hn1 hn2) ?_
  refine x_iload (pc := 496) C (dq D_law 273 rfl) rfl ?_
  refine n_eq_t (pc := 498) (tgt := 503) C (dq D_law 274 rfl) (by decide) ⟨by omega, by omega⟩ rfl ?_
  refine x_iload (pc := 503) C (dq D_law 277 rfl) rfl ?_
  by_cases hk0 : kk = 0
  · subst hk0
    refine n_ifne_f (pc := 505) (tgt := 520) C (dq D_law 278 rfl) (by decide) (by omega) rfl ?_
    refine x_aload_n (pc := 508) C (dq D_law 279 rfl) rfl ?_
    refine x_iconst (pc := 509) C (dq D_law 280 rfl) ci_0 ?_
    refine x_lald (pc := 510) C (dq D_law 281 rfl) (hJ2.r59) ?_
    refine x_iload (pc := 511) C (dq D_law 282 rfl) rfl ?_
    refine x_i2l (pc := 513) C (dq D_law 283 rfl) (hvy rfl).symm ?_
    refine x_lcmp (pc := 514) C (dq D_law 284 rfl) ?_
    rw [lg_self]
    refine n_ifeq_t (pc := 515) (tgt := 520) C (dq D_law 285 rfl) (by decide) (by omega) rfl ?_
    refine x_goto (pc := 520) (tgt := 661) C (dq D_law 288 rfl) (by decide) ?_
    exact KK _ _ _ _ _ _ hJ2 (Nat.le_refl _) (Nat.le_refl _)
  · refine n_ifne_t (pc := 505) (tgt := 520) C (dq D_law 278 rfl) (by decide) (by omega) hk0 ?_
    refine x_goto (pc := 520) (tgt := 661) C (dq D_law 288 rfl) (by decide) ?_
    exact KK _ _ _ _ _ _ hJ2 (Nat.le_refl _) (Nat.le_refl _)
set_option maxHeartbeats 2000000 in
theorem law_9 {g : Gp} {f : Fm} {b L : Nat} {xs : Nat → Int32} {FO BA : List Nat} (C : Cx g f M_law 10 mcL) (hno : noTr g) (hx : ext g (fS f)) (hX : va_X b L xs (fS f) (fS f).heap) (hb : b < gz g) (hL : L ≤ 3072) {j cd : Nat} {v : Int64} {h : Hp} {l5 l6 : Option Value} {n : Nat × Nat} (hj : 6 * j + 6 ≤ L) (hJ : JSc g FO BA cd v h) (hn1 : n.1 ≤ 1000) (hn2 : n.2 ≤ 10000) (KK : ∀ (cd : Nat) (v : Int64) (h : Hp) (l5 l6 : Option Value) (n' : Nat × Nat), JSc g FO BA cd v h → n'.1 ≤ n.1 + (1, 6).1 → n'.2 ≤ n.2 + (1, 6).2 → X g f M_law mcL PL n' 661 [some (.ref b), some (.ref (zA (gz g) 0)), some (.ref (zA (gz g) 44)), some (.ref (zA (gz g) 59)), some (.int (nI (6 * j))), l5, l6] [] h) : X g f M_law mcL PL n 523 [some (.ref b), some (.ref (zA (gz g) 0)), some (.ref (zA (gz g) 44)), some (.ref (zA (gz g) 59)), some (.int (nI (6 * j))), l5, l6] [] h := by
  refine x_aload_n (pc := 523) C (dq D_law 289 rfl) rfl ?_
  refine x_aload_n (pc := 524) C (dq D_law 290 rfl) rfl ?_
  refine x_iload (pc := 525) C (dq D_law 291 rfl) rfl ?_
  refine x_iconst (pc := 527) C (dq D_law 292 rfl) ci_1 ?_
  refine n_iadd (pc := 528) C (dq D_law 293 rfl) ?_
  refine x_sld (pc := 529) C hX hb hL (dq D_law 294 rfl) (by omega) ?_
  refine x_aload_n (pc := 530) C (dq D_law 295 rfl) rfl ?_
  refine x_callSW (pc := 531) (M := M_Law_open) C hx (dq D_law 296 rfl) k_ml_Law_90 m_Law_open (o_open hno hJ) rfl rfl rfl (by decide) (mcA hn1 hn2) (fun o h1 hp => ?_)
  obtain ⟨kk, hk2, rfl, ⟨vs1, hv1⟩, hmc⟩ := hp
  refine ⟨_, rfl, ?_⟩
  show X g f M_law mcL PL (n.1 + (1, 6).1, n.2 + (1, 6).2) 534 _ (.int (nI kk) :: []) h1
  refine x_istore (i := 5) (pc := 534) C (dq D_law 297 rfl) rfl rfl rfl ?_
  simp only [List.set_cons_zero, List.set_cons_succ]
  refine x_aload_n (pc := 536) C (dq D_law 298 rfl) rfl ?_
  refine x_aload_n (pc := 537) C (dq D_law 299 rfl) rfl ?_
  refine x_iload (pc := 538) C (dq D_law 300 rfl) rfl ?_
  refine x_iconst (pc := 540) C (dq D_law 301 rfl) ci_1 ?_
  refine n_iadd (pc := 541) C (dq D_law 302 rfl) ?_
  refine x_sld (pc := 542) C hX hb hL (dq D_law 303 rfl) (by omega) ?_
  refine x_cV (pc := 543) (ci := 1) (M := M_Model_open) C (dq D_law 304 rfl) k_ml_Law_92 m_Model_open rfl rfl hv1 hmc rfl rfl rfl (by decide) (mcB hn1 hn2) (fun o h2 hp => ?_)
  obtain ⟨y, v2, rfl, hJ2, hvy⟩ := hp
  refine ⟨_, rfl, ?_⟩
  obtain ⟨vs2, hv2⟩ := hJ2.r44
  show X g f M_law mcL PL (n.1 + (1, 6).1, n.2 + (1, 6).2) 546 _ (.int y :: []) h2
  refine x_istore (i := 6) (pc := 546) C (dq D_law 305 rfl) rfl rfl rfl ?_
  simp only [List.set_cons_zero, List.set_cons_succ]
  refine x_aload_n (pc := 548) C (dq D_law 306 rfl) rfl ?_
  refine x_cV1 (pc := 549) (ci := 1) (M := M_Model_thrown) C (dq D_law 307 rfl) k_ml_Law_55 m_Model_thrown rfl rfl hv2 hJ2.thrown rfl rfl rfl (by decide) (mcB hn1 hn2) ?_
  refine x_iload (pc := 552) C (dq D_law 308 rfl) rfl ?_
  refine n_eq_t (pc := 554) (tgt := 559) C (dq D_law 309 rfl) (by decide) ⟨by omega, by omega⟩ rfl ?_
  refine x_iload (pc := 559) C (dq D_law 312 rfl) rfl ?_
  by_cases hk0 : kk = 0
  · subst hk0
    refine n_ifne_f (pc := 561) (tgt := 576) C (dq D_law 313 rfl) (by decide) (by omega) rfl ?_
    refine x_aload_n (pc := 564) C (dq D_law 314 rfl) rfl ?_
    refine x_iconst (pc := 565) C (dq D_law 315 rfl) ci_0 ?_
    refine x_lald (pc := 566) C (dq D_law 316 rfl) (hJ2.r59) ?_
    refine x_iload (pc := 567) C (dq D_law 317 rfl) rfl ?_
    refine x_i2l (pc := 569) C (dq D_law 318 rfl) (hvy rfl).symm ?_
    refine x_lcmp (pc := 570) C (dq D_law 319 rfl) ?_
    rw [lg_self]
    refine n_ifeq_t (pc := 571) (tgt := 576) C (dq D_law 320 rfl) (by decide) (by omega) rfl ?_
    refine x_goto (pc := 576) (tgt := 661) C (dq D_law 323 rfl) (by decide) ?_
    exact KK _ _ _ _ _ _ hJ2 (Nat.le_refl _) (Nat.le_refl _)
  · refine n_ifne_t (pc := 561) (tgt := 576) C (dq D_law 313 rfl) (by decide) (by omega) hk0 ?_
    refine x_goto (pc := 576) (tgt := 661) C (dq D_law 323 rfl) (by decide) ?_
    exact KK _ _ _ _ _ _ hJ2 (Nat.le_refl _) (Nat.le_refl _)
set_option maxHeartbeats 2000000 in
theorem law_10 {g : Gp} {f : Fm} {b L : Nat} {xs : Nat → Int32} {FO BA : List Nat} (C : Cx g f M_law 10 mcL) (hno : noTr g) (hx : ext g (fS f)) (hX : va_X b L xs (fS f) (fS f).heap) (hb : b < gz g) (hL : L ≤ 3072) {j cd : Nat} {v : Int64} {h : Hp} {l5 l6 : Option Value} {n : Nat × Nat} (hj : 6 * j + 6 ≤ L) (hJ : JSc g FO BA cd v h) (hn1 : n.1 ≤ 1000) (hn2 : n.2 ≤ 10000) (KK : ∀ (cd : Nat) (v : Int64) (h : Hp) (l5 l6 : Option Value) (n' : Nat × Nat), JSc g FO BA cd v h → n'.1 ≤ n.1 + (1, 6).1 → n'.2 ≤ n.2 + (1, 6).2 → X g f M_law mcL PL n' 661 [some (.ref b), some (.ref (zA (gz g) 0)), some (.ref (zA (gz g) 44)), some (.ref (zA (gz g) 59)), some (.int (nI (6 * j))), l5, l6] [] h) : X g f M_law mcL PL n 579 [some (.ref b), some (.ref (zA (gz g) 0)), some (.ref (zA (gz g) 44)), some (.ref (zA (gz g) 59)), some (.int (nI (6 * j))), l5, l6] [] h := by
  refine x_aload_n (pc := 579) C (dq D_law 324 rfl) rfl ?_
  obtain ⟨vs0, hv0⟩ := hJ.r0
  refine x_cV (pc := 580) (ci := 0) (M := M_Desk_size) C (dq D_law 325 rfl) k_ml_Law_93 m_Desk_size rfl rfl hv0 (o_size hJ) rfl rfl rfl (by decide) (mcC hn1 hn2) (fun o h1 hp => ?_)
  obtain ⟨kk, hk2, rfl, ⟨vs1, hv1⟩, hmc⟩ := hp
  refine ⟨_, rfl, ?_⟩
  show X g f M_law mcL PL n 583 _ (.int (nI kk) :: []) h1
  refine x_aload_n (pc := 583) C (dq D_law 326 rfl) rfl ?_
  refine x_cV (pc := 584) (ci := 1) (M := M_Model_size) C (dq D_law 327 rfl) k_ml_Law_96 m_Model_size rfl rfl hv1 hmc rfl rfl rfl (by decide) (mcC hn1 hn2) (fun o h2 hp => ?_)
  obtain ⟨rfl, v2, hJ2⟩ := hp
  refine ⟨_, rfl, ?_⟩
  show X g f M_law mcL PL n 587 _ (.int (nI kk) :: .int (nI kk) :: []) h2
  refine n_eq_t (pc := 587) (tgt := 661) C (dq D_law 328 rfl) (by decide) ⟨by omega, by omega⟩ rfl ?_
  exact KK _ _ _ _ _ _ hJ2 (Nat.le_add_right _ _) (Nat.le_add_right _ _)
set_option maxHeartbeats 2000000 in
theorem law_11 {g : Gp} {f : Fm} {b L : Nat} {xs : Nat → Int32} {FO BA : List Nat} (C : Cx g f M_law 10 mcL) (hno : noTr g) (hx : ext g (fS f)) (hX : va_X b L xs (fS f) (fS f).heap) (hb : b < gz g) (hL : L ≤ 3072) {j cd : Nat} {v : Int64} {h : Hp} {l5 l6 : Option Value} {n : Nat × Nat} (hj : 6 * j + 6 ≤ L) (hJ : JSc g FO BA cd v h) (hn1 : n.1 ≤ 1000) (hn2 : n.2 ≤ 10000) (KK : ∀ (cd : Nat) (v : Int64) (h : Hp) (l5 l6 : Option Value) (n' : Nat × Nat), JSc g FO BA cd v h → n'.1 ≤ n.1 + (1, 6).1 → n'.2 ≤ n.2 + (1, 6).2 → X g f M_law mcL PL n' 661 [some (.ref b), some (.ref (zA (gz g) 0)), some (.ref (zA (gz g) 44)), some (.ref (zA (gz g) 59)), some (.int (nI (6 * j))), l5, l6] [] h) : X g f M_law mcL PL n 592 [some (.ref b), some (.ref (zA (gz g) 0)), some (.ref (zA (gz g) 44)), some (.ref (zA (gz g) 59)), some (.int (nI (6 * j))), l5, l6] [] h := by
  refine x_aload_n (pc := 592) C (dq D_law 331 rfl) rfl ?_
  refine x_aload_n (pc := 593) C (dq D_law 332 rfl) rfl ?_
  refine x_iload (pc := 594) C (dq D_law 333 rfl) rfl ?_
  refine x_iconst (pc := 596) C (dq D_law 334 rfl) ci_1 ?_
  refine n_iadd (pc := 597) C (dq D_law 335 rfl) ?_
  refine x_sld (pc := 598) C hX hb hL (dq D_law 336 rfl) (by omega) ?_
  refine x_aload_n (pc := 599) C (dq D_law 337 rfl) rfl ?_
  refine x_callSW (pc := 600) (M := M_Law_at) C hx (dq D_law 338 rfl) k_ml_Law_97 m_Law_at (o_at hno hJ) rfl rfl rfl (by decide) (mcA hn1 hn2) (fun o h1 hp => ?_)
  obtain ⟨kk, hk2, rfl, ⟨vs1, hv1⟩, hmc⟩ := hp
  refine ⟨_, rfl, ?_⟩
  show X g f M_law mcL PL (n.1 + (1, 6).1, n.2 + (1, 6).2) 603 _ (.int (nI kk) :: []) h1
  refine x_istore (i := 5) (pc := 603) C (dq D_law 339 rfl) rfl rfl rfl ?_
  simp only [List.set_cons_zero, List.set_cons_succ]
  refine x_aload_n (pc := 605) C (dq D_law 340 rfl) rfl ?_
  refine x_aload_n (pc := 606) C (dq D_law 341 rfl) rfl ?_
  refine x_iload (pc := 607) C (dq D_law 342 rfl) rfl ?_
  refine x_iconst (pc := 609) C (dq D_law 343 rfl) ci_1 ?_
  refine n_iadd (pc := 610) C (dq D_law 344 rfl) ?_
  refine x_sld (pc := 611) C hX hb hL (dq D_law 345 rfl) (by omega) ?_
  refine x_cV (pc := 612) (ci := 1) (M := M_Model_at) C (dq D_law 346 rfl) k_ml_Law_99 m_Model_at rfl rfl hv1 hmc rfl rfl rfl (by decide) (mcB hn1 hn2) (fun o h2 hp => ?_)
  obtain ⟨y, v2, rfl, hJ2, hvy⟩ := hp
  refine ⟨_, rfl, ?_⟩
  obtain ⟨vs2, hv2⟩ := hJ2.r44
  show X g f M_law mcL PL (n.1 + (1, 6).1, n.2 + (1, 6).2) 615 _ (.int y :: []) h2
  refine x_istore (i := 6) (pc := 615) C (dq D_law 347 rfl) rfl rfl rfl ?_
  simp only [List.set_cons_zero, List.set_cons_succ]
  refine x_aload_n (pc := 617) C (dq D_law 348 rfl) rfl ?_
  refine x_cV1 (pc := 618) (ci := 1) (M := M_Model_thrown) C (dq D_law 349 rfl) k_ml_Law_55 m_Model_thrown rfl rfl hv2 hJ2.thrown rfl rfl rfl (by decide) (mcB hn1 hn2) ?_
  refine x_iload (pc := 621) C (dq D_law 350 rfl) rfl ?_
  refine n_eq_t (pc := 623) (tgt := 628) C (dq D_law 351 rfl) (by decide) ⟨by omega, by omega⟩ rfl ?_
  refine x_iload (pc := 628) C (dq D_law 354 rfl) rfl ?_
  by_cases hk0 : kk = 0
  · subst hk0
    refine n_ifne_f (pc := 630) (tgt := 645) C (dq D_law 355 rfl) (by decide) (by omega) rfl ?_
    refine x_aload_n (pc := 633) C (dq D_law 356 rfl) rfl ?_
    refine x_iconst (pc := 634) C (dq D_law 357 rfl) ci_0 ?_
    refine x_lald (pc := 635) C (dq D_law 358 rfl) (hJ2.r59) ?_
    refine x_iload (pc := 636) C (dq D_law 359 rfl) rfl ?_
    refine x_i2l (pc := 638) C (dq D_law 360 rfl) (hvy rfl).symm ?_
    refine x_lcmp (pc := 639) C (dq D_law 361 rfl) ?_
    rw [lg_self]
    refine n_ifeq_t (pc := 640) (tgt := 645) C (dq D_law 362 rfl) (by decide) (by omega) rfl ?_
    refine x_goto (pc := 645) (tgt := 661) C (dq D_law 365 rfl) (by decide) ?_
    exact KK _ _ _ _ _ _ hJ2 (Nat.le_refl _) (Nat.le_refl _)
  · refine n_ifne_t (pc := 630) (tgt := 645) C (dq D_law 355 rfl) (by decide) (by omega) hk0 ?_
    refine x_goto (pc := 645) (tgt := 661) C (dq D_law 365 rfl) (by decide) ?_
    exact KK _ _ _ _ _ _ hJ2 (Nat.le_refl _) (Nat.le_refl _)
set_option maxHeartbeats 2000000 in
theorem law_12 {g : Gp} {f : Fm} {b L : Nat} {xs : Nat → Int32} {FO BA : List Nat} (C : Cx g f M_law 10 mcL) (hno : noTr g) (hx : ext g (fS f)) (hX : va_X b L xs (fS f) (fS f).heap) (hb : b < gz g) (hL : L ≤ 3072) {j cd : Nat} {v : Int64} {h : Hp} {l5 l6 : Option Value} {n : Nat × Nat} (hj : 6 * j + 6 ≤ L) (hJ : JSc g FO BA cd v h) (hn1 : n.1 ≤ 1000) (hn2 : n.2 ≤ 10000) (KK : ∀ (cd : Nat) (v : Int64) (h : Hp) (l5 l6 : Option Value) (n' : Nat × Nat), JSc g FO BA cd v h → n'.1 ≤ n.1 + (1, 6).1 → n'.2 ≤ n.2 + (1, 6).2 → X g f M_law mcL PL n' 661 [some (.ref b), some (.ref (zA (gz g) 0)), some (.ref (zA (gz g) 44)), some (.ref (zA (gz g) 59)), some (.int (nI (6 * j))), l5, l6] [] h) : X g f M_law mcL PL n 648 [some (.ref b), some (.ref (zA (gz g) 0)), some (.ref (zA (gz g) 44)), some (.ref (zA (gz g) 59)), some (.int (nI (6 * j))), l5, l6] [] h := by
  refine x_aload_n (pc := 648) C (dq D_law 366 rfl) rfl ?_
  obtain ⟨vs0, hv0⟩ := hJ.r0
  refine x_cV (pc := 649) (ci := 0) (M := M_Desk_take) C (dq D_law 367 rfl) k_ml_Law_100 m_Desk_take rfl rfl hv0 (o_take hJ) rfl rfl rfl (by decide) (mcC hn1 hn2) (fun o h1 hp => ?_)
  obtain ⟨kk, hk2, rfl, ⟨vs1, hv1⟩, hmc⟩ := hp
  refine ⟨_, rfl, ?_⟩
  show X g f M_law mcL PL n 652 _ (.int (nI kk) :: []) h1
  refine x_aload_n (pc := 652) C (dq D_law 368 rfl) rfl ?_
  refine x_cV (pc := 653) (ci := 1) (M := M_Model_take) C (dq D_law 369 rfl) k_ml_Law_103 m_Model_take rfl rfl hv1 hmc rfl rfl rfl (by decide) (mcC hn1 hn2) (fun o h2 hp => ?_)
  obtain ⟨rfl, v2, hJ2⟩ := hp
  refine ⟨_, rfl, ?_⟩
  show X g f M_law mcL PL n 656 _ (.int (nI kk) :: .int (nI kk) :: []) h2
  refine n_eq_t (pc := 656) (tgt := 661) C (dq D_law 370 rfl) (by decide) ⟨by omega, by omega⟩ rfl ?_
  exact KK _ _ _ _ _ _ hJ2 (Nat.le_add_right _ _) (Nat.le_add_right _ _)
theorem law_loop {g : Gp} {f : Fm} {b L : Nat} {xs : Nat → Int32} {FO BA : List Nat} (C : Cx g f M_law 10 mcL) (hno : noTr g) (hx : ext g (fS f)) (hX : va_X b L xs (fS f) (fS f).heap) (hb : b < gz g) (hL : L ≤ 3072) : ∀ (d j cd : Nat) (v : Int64) (h : Hp) (l5 l6 : Option Value) (n : Nat × Nat), 6 * j ≤ L → L < 6 * j + d → JSc g FO BA cd v h → n.1 ≤ 100 + j → n.2 ≤ 5000 + 6 * j → X g f M_law mcL PL n 23 [some (.ref b), some (.ref (zA (gz g) 0)), some (.ref (zA (gz g) 44)), some (.ref (zA (gz g) 59)), some (.int (nI (6 * j))), l5, l6] [] h := by
  intro d
  induction d with
  | zero => exact fun j cd v h l5 l6 n h1 h2 => by omega
  | succ d ih =>
    intro j cd v h l5 l6 n h1 h2 hJ hn1 hn2
    refine x_iload (pc := 23) C (dq D_law 13 rfl) rfl ?_
    refine x_aload_n (pc := 25) C (dq D_law 14 rfl) rfl ?_
    refine x_slen (pc := 26) C hX hb (dq D_law 15 rfl) ?_
    refine x_bipush (pc := 27) C (dq D_law 16 rfl) cb_6 ?_
    by_cases hj : 6 * j + 6 ≤ L
    · refine n_isub (pc := 29) C (dq D_law 17 rfl) (by omega) ?_
      refine n_gt_f (pc := 30) (tgt := 667) C (dq D_law 18 rfl) (by decide) ⟨by omega, by omega⟩ (by omega) ?_
      refine x_aload_n (pc := 33) C (dq D_law 19 rfl) rfl ?_
      refine x_iload (pc := 34) C (dq D_law 20 rfl) rfl ?_
      refine x_sld (pc := 36) C hX hb hL (dq D_law 21 rfl) (by omega) ?_
      obtain ⟨w, hw, e0⟩ := i32_nI (xs (6 * j))
      rw [e0]
      refine x_bipush (pc := 37) C (dq D_law 22 rfl) cb_15 ?_
      refine n_iand (pc := 39) C (dq D_law 23 rfl) ?_
      have KK : ∀ (cd : Nat) (v : Int64) (h : Hp) (l5 l6 : Option Value) (n' : Nat × Nat), JSc g FO BA cd v h → n'.1 ≤ n.1 + (1, 6).1 → n'.2 ≤ n.2 + (1, 6).2 → X g f M_law mcL PL n' 661 [some (.ref b), some (.ref (zA (gz g) 0)), some (.ref (zA (gz g) 44)), some (.ref (zA (gz g) 59)), some (.int (nI (6 * j))), l5, l6] [] h := by
        intro cd2 v2 h2 k5 k6 n' hJ2 a1 a2
        have a1' : n'.1 ≤ n.1 + 1 := a1
        have a2' : n'.2 ≤ n.2 + 6 := a2
        refine x_iinc (pc := 661) C (dq D_law 373 rfl) rfl (ii_6 _) rfl rfl ?_
        simp only [List.set_cons_zero, List.set_cons_succ]
        refine x_goto (pc := 664) (tgt := 23) C (dq D_law 374 rfl) (by decide) ?_
        exact ih (j + 1) cd2 v2 h2 k5 k6 n' (by omega) (by omega) hJ2 (by omega) (by omega)
      have ht : w &&& 15 < 16 := Nat.lt_of_le_of_lt Nat.and_le_right (by omega)
      generalize w &&& 15 = t at ht
      have m1 : n.1 ≤ 1000 := by omega
      have m2 : n.2 ≤ 10000 := by omega
      rcases (show t = 0 ∨ t = 1 ∨ t = 2 ∨ t = 3 ∨ t = 4 ∨ t = 5 ∨ t = 6 ∨ t = 7 ∨ t = 8 ∨ t = 9 ∨ t = 10 ∨ t = 11 ∨ t = 12 ∨ 12 < t by omega) with rfl | rfl | rfl | rfl | rfl | rfl | rfl | rfl | rfl | rfl | rfl | rfl | rfl | hgt
      · refine x_tabIn (pc := 40) (tgt := 108) C (dq D_law 24 rfl) (by omega) rfl (by decide) ?_
        exact law_0 C hno hx hX hb hL hj hJ m1 m2 KK
      · refine x_tabIn (pc := 40) (tgt := 192) C (dq D_law 24 rfl) (by omega) rfl (by decide) ?_
        exact law_1 C hno hx hX hb hL hj hJ m1 m2 KK
      · refine x_tabIn (pc := 40) (tgt := 260) C (dq D_law 24 rfl) (by omega) rfl (by decide) ?_
        exact law_2 C hno hx hX hb hL hj hJ m1 m2 KK
      · refine x_tabIn (pc := 40) (tgt := 271) C (dq D_law 24 rfl) (by omega) rfl (by decide) ?_
        exact law_3 C hno hx hX hb hL hj hJ m1 m2 KK
      · refine x_tabIn (pc := 40) (tgt := 319) C (dq D_law 24 rfl) (by omega) rfl (by decide) ?_
        exact law_4 C hno hx hX hb hL hj hJ m1 m2 KK
      · refine x_tabIn (pc := 40) (tgt := 363) C (dq D_law 24 rfl) (by omega) rfl (by decide) ?_
        exact law_5 C hno hx hX hb hL hj hJ m1 m2 KK
      · refine x_tabIn (pc := 40) (tgt := 376) C (dq D_law 24 rfl) (by omega) rfl (by decide) ?_
        by_cases hz : xs (6 * j + 1) = 0
        · exact law_6z C hno hx hX hb hL hj hJ m1 m2 hz KK
        · exact law_6n C hno hx hX hb hL hj hJ m1 m2 hz KK
      · refine x_tabIn (pc := 40) (tgt := 428) C (dq D_law 24 rfl) (by omega) rfl (by decide) ?_
        by_cases hz : xs (6 * j + 1) = 0
        · exact law_7z C hno hx hX hb hL hj hJ m1 m2 hz KK
        · exact law_7n C hno hx hX hb hL hj hJ m1 m2 hz KK
      · refine x_tabIn (pc := 40) (tgt := 467) C (dq D_law 24 rfl) (by omega) rfl (by decide) ?_
        exact law_8 C hno hx hX hb hL hj hJ m1 m2 KK
      · refine x_tabIn (pc := 40) (tgt := 523) C (dq D_law 24 rfl) (by omega) rfl (by decide) ?_
        exact law_9 C hno hx hX hb hL hj hJ m1 m2 KK
      · refine x_tabIn (pc := 40) (tgt := 579) C (dq D_law 24 rfl) (by omega) rfl (by decide) ?_
        exact law_10 C hno hx hX hb hL hj hJ m1 m2 KK
      · refine x_tabIn (pc := 40) (tgt := 592) C (dq D_law 24 rfl) (by omega) rfl (by decide) ?_
        exact law_11 C hno hx hX hb hL hj hJ m1 m2 KK
      · refine x_tabIn (pc := 40) (tgt := 648) C (dq D_law 24 rfl) (by omega) rfl (by decide) ?_
        exact law_12 C hno hx hX hb hL hj hJ m1 m2 KK
      · refine x_tabOut (pc := 40) (tgt := 661) C (dq D_law 24 rfl) hgt ht (by decide) ?_
        exact KK _ _ _ _ _ _ hJ (Nat.le_add_right _ _) (Nat.le_add_right _ _)
    · by_cases h6 : 6 ≤ L
      · refine n_isub (pc := 29) C (dq D_law 17 rfl) (by omega) ?_
        refine n_gt_t (pc := 30) (tgt := 667) C (dq D_law 18 rfl) (by decide) ⟨by omega, by omega⟩ (by omega) ?_
        refine x_iconst (pc := 667) C (dq D_law 375 rfl) ci_1 ?_
        exact x_zret (pc := 668) C (dq D_law 376 rfl) rfl rfl (mcC (by omega) (by omega)) rfl
      · have hj0 : j = 0 := by omega
        subst hj0
        refine x_isub (pc := 29) C (dq D_law 17 rfl) ?_
        refine x_gt (pc := 30) (tgt := 667) C (dq D_law 18 rfl) (by decide) (fun _ => ?_) (fun q => absurd (sub6 L (by omega)) q)
        refine x_iconst (pc := 667) C (dq D_law 375 rfl) ci_1 ?_
        exact x_zret (pc := 668) C (dq D_law 376 rfl) rfl rfl (mcC (by omega) (by omega)) rfl
