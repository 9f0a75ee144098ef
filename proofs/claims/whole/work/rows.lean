section
-- ===== PART A: goes FIRST, ahead of the names: the tables' words, and 'selects' of the private methods out of them =====
/-- a private method of a class that the tables say can be made, by its rows of tables_1 -/
def lw_okq (q : MethodName × Nat) : Prop := (q.1.cls ≠ "java/lang/invoke/MethodHandle" ∧ q.1.cls ≠ "java/lang/invoke/VarHandle") ∧ Cond.instantiable q.1.cls q.2 ∈ tables_1 ∧ Cond.privateMethod q.1 ∈ tables_1 ∧ Cond.instanceMethod q.1 ∈ tables_1
theorem lw_p0 : lw_okq (⟨"SealingDesk$Tables", "enter", "(II)V"⟩, 2) := ⟨⟨by decide +kernel, by decide +kernel⟩, List.mem_of_getElem? (i := 30) (by decide +kernel), List.mem_of_getElem? (i := 39) (by decide +kernel), List.mem_of_getElem? (i := 40) (by decide +kernel)⟩
theorem lw_p1 : lw_okq (⟨"SealingDesk$Cipher", "expandFrom", "(II)V"⟩, 3) := ⟨⟨by decide +kernel, by decide +kernel⟩, List.mem_of_getElem? (i := 56) (by decide +kernel), List.mem_of_getElem? (i := 69) (by decide +kernel), List.mem_of_getElem? (i := 70) (by decide +kernel)⟩
theorem lw_p2 : lw_okq (⟨"SealingDesk$Cipher", "addRoundKey", "([II)V"⟩, 3) := ⟨⟨by decide +kernel, by decide +kernel⟩, List.mem_of_getElem? (i := 56) (by decide +kernel), List.mem_of_getElem? (i := 285) (by decide +kernel), List.mem_of_getElem? (i := 286) (by decide +kernel)⟩
theorem lw_p3 : lw_okq (⟨"SealingDesk$Cipher", "substitute", "([I)V"⟩, 3) := ⟨⟨by decide +kernel, by decide +kernel⟩, List.mem_of_getElem? (i := 56) (by decide +kernel), List.mem_of_getElem? (i := 289) (by decide +kernel), List.mem_of_getElem? (i := 290) (by decide +kernel)⟩
theorem lw_p4 : lw_okq (⟨"java/lang/Throwable", "fillInStackTrace", "(I)Ljava/lang/Throwable;"⟩, 6) := ⟨⟨by decide +kernel, by decide +kernel⟩, List.mem_of_getElem? (i := 377) (by decide +kernel), List.mem_of_getElem? (i := 375) (by decide +kernel), List.mem_of_getElem? (i := 376) (by decide +kernel)⟩
theorem lw_p5 : lw_okq (⟨"SealingDesk$Cipher", "substituteBack", "([I)V"⟩, 3) := ⟨⟨by decide +kernel, by decide +kernel⟩, List.mem_of_getElem? (i := 56) (by decide +kernel), List.mem_of_getElem? (i := 488) (by decide +kernel), List.mem_of_getElem? (i := 489) (by decide +kernel)⟩
theorem lw_p6 : lw_okq (⟨"SealingDesk$Marked", "addStream", "(LSealingDesk$Row;I[I)V"⟩, 6) := ⟨⟨by decide +kernel, by decide +kernel⟩, List.mem_of_getElem? (i := 164) (by decide +kernel), List.mem_of_getElem? (i := 526) (by decide +kernel), List.mem_of_getElem? (i := 527) (by decide +kernel)⟩
theorem lw_p7 : lw_okq (⟨"SealingDesk$Marked", "nextBlock", "()V"⟩, 6) := ⟨⟨by decide +kernel, by decide +kernel⟩, List.mem_of_getElem? (i := 164) (by decide +kernel), List.mem_of_getElem? (i := 531) (by decide +kernel), List.mem_of_getElem? (i := 532) (by decide +kernel)⟩
theorem lw_p8 : lw_okq (⟨"SealingDesk$Wrapping", "lift", "(LSealingDesk$Row;I)V"⟩, 2) := ⟨⟨by decide +kernel, by decide +kernel⟩, List.mem_of_getElem? (i := 84) (by decide +kernel), List.mem_of_getElem? (i := 553) (by decide +kernel), List.mem_of_getElem? (i := 554) (by decide +kernel)⟩
theorem lw_p9 : lw_okq (⟨"SealingDesk$Wrapping", "addNumber", "(I)V"⟩, 2) := ⟨⟨by decide +kernel, by decide +kernel⟩, List.mem_of_getElem? (i := 84) (by decide +kernel), List.mem_of_getElem? (i := 559) (by decide +kernel), List.mem_of_getElem? (i := 560) (by decide +kernel)⟩
theorem lw_p10 : lw_okq (⟨"SealingDesk$Wrapping", "lay", "(LSealingDesk$Row;I)V"⟩, 2) := ⟨⟨by decide +kernel, by decide +kernel⟩, List.mem_of_getElem? (i := 84) (by decide +kernel), List.mem_of_getElem? (i := 563) (by decide +kernel), List.mem_of_getElem? (i := 564) (by decide +kernel)⟩
theorem lw_p11 : lw_okq (⟨"SealingDeskModel", "expand", "(IIIII)V"⟩, 20) := ⟨⟨by decide +kernel, by decide +kernel⟩, List.mem_of_getElem? (i := 633) (by decide +kernel), List.mem_of_getElem? (i := 648) (by decide +kernel), List.mem_of_getElem? (i := 649) (by decide +kernel)⟩
theorem lw_p12 : lw_okq (⟨"SealingDeskModel", "changed", "(I)I"⟩, 20) := ⟨⟨by decide +kernel, by decide +kernel⟩, List.mem_of_getElem? (i := 633) (by decide +kernel), List.mem_of_getElem? (i := 652) (by decide +kernel), List.mem_of_getElem? (i := 653) (by decide +kernel)⟩
theorem lw_p13 : lw_okq (⟨"SealingDeskModel", "begin", "()V"⟩, 20) := ⟨⟨by decide +kernel, by decide +kernel⟩, List.mem_of_getElem? (i := 633) (by decide +kernel), List.mem_of_getElem? (i := 749) (by decide +kernel), List.mem_of_getElem? (i := 750) (by decide +kernel)⟩
theorem lw_p14 : lw_okq (⟨"SealingDeskModel", "single", "(Z)V"⟩, 20) := ⟨⟨by decide +kernel, by decide +kernel⟩, List.mem_of_getElem? (i := 633) (by decide +kernel), List.mem_of_getElem? (i := 753) (by decide +kernel), List.mem_of_getElem? (i := 754) (by decide +kernel)⟩
theorem lw_p15 : lw_okq (⟨"SealingDeskModel", "decipher", "(I)V"⟩, 20) := ⟨⟨by decide +kernel, by decide +kernel⟩, List.mem_of_getElem? (i := 633) (by decide +kernel), List.mem_of_getElem? (i := 757) (by decide +kernel), List.mem_of_getElem? (i := 758) (by decide +kernel)⟩
def lw_privs_1 : List (MethodName × Nat) := [(⟨"SealingDesk$Tables", "enter", "(II)V"⟩, 2), (⟨"SealingDesk$Cipher", "expandFrom", "(II)V"⟩, 3), (⟨"SealingDesk$Cipher", "addRoundKey", "([II)V"⟩, 3), (⟨"SealingDesk$Cipher", "substitute", "([I)V"⟩, 3), (⟨"java/lang/Throwable", "fillInStackTrace", "(I)Ljava/lang/Throwable;"⟩, 6), (⟨"SealingDesk$Cipher", "substituteBack", "([I)V"⟩, 3), (⟨"SealingDesk$Marked", "addStream", "(LSealingDesk$Row;I[I)V"⟩, 6), (⟨"SealingDesk$Marked", "nextBlock", "()V"⟩, 6), (⟨"SealingDesk$Wrapping", "lift", "(LSealingDesk$Row;I)V"⟩, 2), (⟨"SealingDesk$Wrapping", "addNumber", "(I)V"⟩, 2), (⟨"SealingDesk$Wrapping", "lay", "(LSealingDesk$Row;I)V"⟩, 2), (⟨"SealingDeskModel", "expand", "(IIIII)V"⟩, 20), (⟨"SealingDeskModel", "changed", "(I)I"⟩, 20), (⟨"SealingDeskModel", "begin", "()V"⟩, 20), (⟨"SealingDeskModel", "single", "(Z)V"⟩, 20), (⟨"SealingDeskModel", "decipher", "(I)V"⟩, 20)]
theorem lw_r1 : ∀ q ∈ lw_privs_1, lw_okq q := List.forall_mem_cons.mpr ⟨lw_p0, List.forall_mem_cons.mpr ⟨lw_p1, List.forall_mem_cons.mpr ⟨lw_p2, List.forall_mem_cons.mpr ⟨lw_p3, List.forall_mem_cons.mpr ⟨lw_p4, List.forall_mem_cons.mpr ⟨lw_p5, List.forall_mem_cons.mpr ⟨lw_p6, List.forall_mem_cons.mpr ⟨lw_p7, List.forall_mem_cons.mpr ⟨lw_p8, List.forall_mem_cons.mpr ⟨lw_p9, List.forall_mem_cons.mpr ⟨lw_p10, List.forall_mem_cons.mpr ⟨lw_p11, List.forall_mem_cons.mpr ⟨lw_p12, List.forall_mem_cons.mpr ⟨lw_p13, List.forall_mem_cons.mpr ⟨lw_p14, List.forall_mem_cons.mpr ⟨lw_p15, fun _ h => absurd h List.not_mem_nil⟩⟩⟩⟩⟩⟩⟩⟩⟩⟩⟩⟩⟩⟩⟩⟩
theorem lw_p16 : lw_okq (⟨"SealingDeskModel", "addKey", "(II)V"⟩, 20) := ⟨⟨by decide +kernel, by decide +kernel⟩, List.mem_of_getElem? (i := 633) (by decide +kernel), List.mem_of_getElem? (i := 761) (by decide +kernel), List.mem_of_getElem? (i := 762) (by decide +kernel)⟩
theorem lw_p17 : lw_okq (⟨"SealingDeskModel", "encipher", "(I)V"⟩, 20) := ⟨⟨by decide +kernel, by decide +kernel⟩, List.mem_of_getElem? (i := 633) (by decide +kernel), List.mem_of_getElem? (i := 765) (by decide +kernel), List.mem_of_getElem? (i := 766) (by decide +kernel)⟩
theorem lw_p18 : lw_okq (⟨"SealingDeskModel", "show", "()I"⟩, 20) := ⟨⟨by decide +kernel, by decide +kernel⟩, List.mem_of_getElem? (i := 633) (by decide +kernel), List.mem_of_getElem? (i := 769) (by decide +kernel), List.mem_of_getElem? (i := 770) (by decide +kernel)⟩
theorem lw_p19 : lw_okq (⟨"SealingDeskModel", "markJointly", "()V"⟩, 20) := ⟨⟨by decide +kernel, by decide +kernel⟩, List.mem_of_getElem? (i := 633) (by decide +kernel), List.mem_of_getElem? (i := 777) (by decide +kernel), List.mem_of_getElem? (i := 778) (by decide +kernel)⟩
theorem lw_p20 : lw_okq (⟨"SealingDeskModel", "markText", "()V"⟩, 20) := ⟨⟨by decide +kernel, by decide +kernel⟩, List.mem_of_getElem? (i := 633) (by decide +kernel), List.mem_of_getElem? (i := 781) (by decide +kernel), List.mem_of_getElem? (i := 782) (by decide +kernel)⟩
theorem lw_p21 : lw_okq (⟨"SealingDeskModel", "doubleBlock", "()V"⟩, 20) := ⟨⟨by decide +kernel, by decide +kernel⟩, List.mem_of_getElem? (i := 633) (by decide +kernel), List.mem_of_getElem? (i := 785) (by decide +kernel), List.mem_of_getElem? (i := 786) (by decide +kernel)⟩
theorem lw_p22 : lw_okq (⟨"SealingDeskModel", "doubleSum", "()V"⟩, 20) := ⟨⟨by decide +kernel, by decide +kernel⟩, List.mem_of_getElem? (i := 633) (by decide +kernel), List.mem_of_getElem? (i := 792) (by decide +kernel), List.mem_of_getElem? (i := 793) (by decide +kernel)⟩
theorem lw_p23 : lw_okq (⟨"SealingDeskModel", "sealMarked", "()V"⟩, 20) := ⟨⟨by decide +kernel, by decide +kernel⟩, List.mem_of_getElem? (i := 633) (by decide +kernel), List.mem_of_getElem? (i := 800) (by decide +kernel), List.mem_of_getElem? (i := 801) (by decide +kernel)⟩
theorem lw_p24 : lw_okq (⟨"SealingDeskModel", "cross", "()V"⟩, 20) := ⟨⟨by decide +kernel, by decide +kernel⟩, List.mem_of_getElem? (i := 633) (by decide +kernel), List.mem_of_getElem? (i := 804) (by decide +kernel), List.mem_of_getElem? (i := 805) (by decide +kernel)⟩
theorem lw_p25 : lw_okq (⟨"SealingDeskModel", "front", "(II)V"⟩, 20) := ⟨⟨by decide +kernel, by decide +kernel⟩, List.mem_of_getElem? (i := 633) (by decide +kernel), List.mem_of_getElem? (i := 809) (by decide +kernel), List.mem_of_getElem? (i := 810) (by decide +kernel)⟩
theorem lw_p26 : lw_okq (⟨"SealingDeskModel", "wrap", "()V"⟩, 20) := ⟨⟨by decide +kernel, by decide +kernel⟩, List.mem_of_getElem? (i := 633) (by decide +kernel), List.mem_of_getElem? (i := 813) (by decide +kernel), List.mem_of_getElem? (i := 814) (by decide +kernel)⟩
theorem lw_p27 : lw_okq (⟨"SealingDeskModel", "number", "(I)V"⟩, 20) := ⟨⟨by decide +kernel, by decide +kernel⟩, List.mem_of_getElem? (i := 633) (by decide +kernel), List.mem_of_getElem? (i := 817) (by decide +kernel), List.mem_of_getElem? (i := 818) (by decide +kernel)⟩
theorem lw_p28 : lw_okq (⟨"SealingDeskModel", "sealPadded", "()V"⟩, 20) := ⟨⟨by decide +kernel, by decide +kernel⟩, List.mem_of_getElem? (i := 633) (by decide +kernel), List.mem_of_getElem? (i := 821) (by decide +kernel), List.mem_of_getElem? (i := 822) (by decide +kernel)⟩
theorem lw_p29 : lw_okq (⟨"SealingDeskModel", "openMarked", "()Z"⟩, 20) := ⟨⟨by decide +kernel, by decide +kernel⟩, List.mem_of_getElem? (i := 633) (by decide +kernel), List.mem_of_getElem? (i := 829) (by decide +kernel), List.mem_of_getElem? (i := 830) (by decide +kernel)⟩
theorem lw_p30 : lw_okq (⟨"SealingDeskModel", "openWrapped", "()Z"⟩, 20) := ⟨⟨by decide +kernel, by decide +kernel⟩, List.mem_of_getElem? (i := 633) (by decide +kernel), List.mem_of_getElem? (i := 833) (by decide +kernel), List.mem_of_getElem? (i := 834) (by decide +kernel)⟩
theorem lw_p31 : lw_okq (⟨"SealingDeskModel", "unwrap", "()V"⟩, 20) := ⟨⟨by decide +kernel, by decide +kernel⟩, List.mem_of_getElem? (i := 633) (by decide +kernel), List.mem_of_getElem? (i := 837) (by decide +kernel), List.mem_of_getElem? (i := 838) (by decide +kernel)⟩
def lw_privs_2 : List (MethodName × Nat) := [(⟨"SealingDeskModel", "addKey", "(II)V"⟩, 20), (⟨"SealingDeskModel", "encipher", "(I)V"⟩, 20), (⟨"SealingDeskModel", "show", "()I"⟩, 20), (⟨"SealingDeskModel", "markJointly", "()V"⟩, 20), (⟨"SealingDeskModel", "markText", "()V"⟩, 20), (⟨"SealingDeskModel", "doubleBlock", "()V"⟩, 20), (⟨"SealingDeskModel", "doubleSum", "()V"⟩, 20), (⟨"SealingDeskModel", "sealMarked", "()V"⟩, 20), (⟨"SealingDeskModel", "cross", "()V"⟩, 20), (⟨"SealingDeskModel", "front", "(II)V"⟩, 20), (⟨"SealingDeskModel", "wrap", "()V"⟩, 20), (⟨"SealingDeskModel", "number", "(I)V"⟩, 20), (⟨"SealingDeskModel", "sealPadded", "()V"⟩, 20), (⟨"SealingDeskModel", "openMarked", "()Z"⟩, 20), (⟨"SealingDeskModel", "openWrapped", "()Z"⟩, 20), (⟨"SealingDeskModel", "unwrap", "()V"⟩, 20)]
theorem lw_r2 : ∀ q ∈ lw_privs_2, lw_okq q := List.forall_mem_cons.mpr ⟨lw_p16, List.forall_mem_cons.mpr ⟨lw_p17, List.forall_mem_cons.mpr ⟨lw_p18, List.forall_mem_cons.mpr ⟨lw_p19, List.forall_mem_cons.mpr ⟨lw_p20, List.forall_mem_cons.mpr ⟨lw_p21, List.forall_mem_cons.mpr ⟨lw_p22, List.forall_mem_cons.mpr ⟨lw_p23, List.forall_mem_cons.mpr ⟨lw_p24, List.forall_mem_cons.mpr ⟨lw_p25, List.forall_mem_cons.mpr ⟨lw_p26, List.forall_mem_cons.mpr ⟨lw_p27, List.forall_mem_cons.mpr ⟨lw_p28, List.forall_mem_cons.mpr ⟨lw_p29, List.forall_mem_cons.mpr ⟨lw_p30, List.forall_mem_cons.mpr ⟨lw_p31, fun _ h => absurd h List.not_mem_nil⟩⟩⟩⟩⟩⟩⟩⟩⟩⟩⟩⟩⟩⟩⟩⟩
theorem lw_p32 : lw_okq (⟨"SealingDeskModel", "dropFront", "()V"⟩, 20) := ⟨⟨by decide +kernel, by decide +kernel⟩, List.mem_of_getElem? (i := 633) (by decide +kernel), List.mem_of_getElem? (i := 841) (by decide +kernel), List.mem_of_getElem? (i := 842) (by decide +kernel)⟩
theorem lw_p33 : lw_okq (⟨"SealingDeskModel", "openPadded", "()Z"⟩, 20) := ⟨⟨by decide +kernel, by decide +kernel⟩, List.mem_of_getElem? (i := 633) (by decide +kernel), List.mem_of_getElem? (i := 845) (by decide +kernel), List.mem_of_getElem? (i := 846) (by decide +kernel)⟩
def lw_privs_3 : List (MethodName × Nat) := [(⟨"SealingDeskModel", "dropFront", "()V"⟩, 20), (⟨"SealingDeskModel", "openPadded", "()Z"⟩, 20)]
theorem lw_r3 : ∀ q ∈ lw_privs_3, lw_okq q := List.forall_mem_cons.mpr ⟨lw_p32, List.forall_mem_cons.mpr ⟨lw_p33, fun _ h => absurd h List.not_mem_nil⟩⟩
def lw_privs : List (MethodName × Nat) := lw_privs_1 ++ (lw_privs_2 ++ (lw_privs_3))
def lw_tbl : List Cond := k2_sels lw_privs ++ tables_1
theorem lw_privs_ok : ∀ q ∈ lw_privs, lw_okq q := by
  show ∀ q ∈ lw_privs_1 ++ (lw_privs_2 ++ (lw_privs_3)), lw_okq q
  exact List.forall_mem_append.mpr ⟨lw_r1, List.forall_mem_append.mpr ⟨lw_r2, lw_r3⟩⟩
-- ===== end of PART A; then your names; then what follows =====
/-- the good words of the tables -/
def tb : List Cond := lw_tbl.filter goodWord
theorem tb_i {w : Cond} (i : Nat) (h : tables_1[i]? = some w) (g : goodWord w = true) : w ∈ tb := List.mem_filter.mpr ⟨List.mem_append_right _ (List.mem_of_getElem? h), g⟩
theorem tb_p {y : MethodName} {n : Nat} (i : Nat) (h : lw_privs[i]? = some (y, n)) : Cond.selects y.cls y y ∈ tb := List.mem_filter.mpr ⟨List.mem_append_left _ (List.mem_map.mpr ⟨(y, n), List.mem_of_getElem? h, rfl⟩), rfl⟩
end
section
def R_Desk : String := "SealingDesk"
def F_Desk : u_T := fun k => match k with
  | 0 => ("SealingDesk", "ciphers", "[LSealingDesk$Cipher;", true)
  | 1 => ("SealingDesk", "marker", "LSealingDesk$Marker;", true)
  | 2 => ("SealingDesk", "ways", "[LSealingDesk$Way;", true)
  | 3 => ("SealingDesk", "items", "LSealingDesk$Items;", true)
  | 4 => ("SealingDesk", "input", "LSealingDesk$Row;", true)
  | 5 => ("SealingDesk", "output", "LSealingDesk$Row;", true)
  | _ => ("SealingDesk", "opened", "LSealingDesk$Row;", true)
def t_Desk : Nat → FieldType := fun k => match k with
  | 0 => .array (.object "SealingDesk$Cipher")
  | 1 => .object "SealingDesk$Marker"
  | 2 => .array (.object "SealingDesk$Way")
  | 3 => .object "SealingDesk$Items"
  | 4 => .object "SealingDesk$Row"
  | 5 => .object "SealingDesk$Row"
  | _ => .object "SealingDesk$Row"
theorem n_Desk : ∀ a, a < 7 → ∀ b, b < 7 → a ≠ b → (F_Desk a).2.1 ≠ (F_Desk b).2.1 := by decide +kernel
theorem t_Desk_ok : ∀ k, k < 7 → parseFieldDescriptor (F_Desk k).2.2.1 = some (t_Desk k) := by decide +kernel
def R_Model : String := "SealingDeskModel"
def F_Model : u_T := fun k => match k with
  | 0 => ("SealingDeskModel", "code", "I", false)
  | 1 => ("SealingDeskModel", "words", "[I", true)
  | 2 => ("SealingDeskModel", "table", "[I", true)
  | 3 => ("SealingDeskModel", "untable", "[I", true)
  | 4 => ("SealingDeskModel", "inputs", "I", false)
  | 5 => ("SealingDeskModel", "input", "[I", true)
  | 6 => ("SealingDeskModel", "outputs", "I", false)
  | 7 => ("SealingDeskModel", "output", "[I", true)
  | 8 => ("SealingDeskModel", "items", "I", false)
  | 9 => ("SealingDeskModel", "itemSize", "[I", true)
  | 10 => ("SealingDeskModel", "itemBytes", "[I", true)
  | 11 => ("SealingDeskModel", "block", "[I", true)
  | 12 => ("SealingDeskModel", "moved", "[I", true)
  | 13 => ("SealingDeskModel", "rows", "I", false)
  | 14 => ("SealingDeskModel", "row", "[I", true)
  | 15 => ("SealingDeskModel", "longs", "I", false)
  | 16 => ("SealingDeskModel", "text", "[I", true)
  | 17 => ("SealingDeskModel", "made", "[I", true)
  | 18 => ("SealingDeskModel", "sum", "[I", true)
  | _ => ("SealingDeskModel", "kept", "[I", true)
def t_Model : Nat → FieldType := fun k => match k with
  | 0 => .int
  | 1 => .array .int
  | 2 => .array .int
  | 3 => .array .int
  | 4 => .int
  | 5 => .array .int
  | 6 => .int
  | 7 => .array .int
  | 8 => .int
  | 9 => .array .int
  | 10 => .array .int
  | 11 => .array .int
  | 12 => .array .int
  | 13 => .int
  | 14 => .array .int
  | 15 => .int
  | 16 => .array .int
  | 17 => .array .int
  | 18 => .array .int
  | _ => .array .int
theorem n_Model : ∀ a, a < 20 → ∀ b, b < 20 → a ≠ b → (F_Model a).2.1 ≠ (F_Model b).2.1 := by decide +kernel
theorem t_Model_ok : ∀ k, k < 20 → parseFieldDescriptor (F_Model k).2.2.1 = some (t_Model k) := by decide +kernel
def R_Cipher : String := "SealingDesk$Cipher"
def F_Cipher : u_T := fun k => match k with
  | 0 => ("SealingDesk$Cipher", "tables", "LSealingDesk$Tables;", true)
  | 1 => ("SealingDesk$Cipher", "roundKeys", "[I", true)
  | _ => ("SealingDesk$Cipher", "before", "[I", true)
def t_Cipher : Nat → FieldType := fun k => match k with
  | 0 => .object "SealingDesk$Tables"
  | 1 => .array .int
  | _ => .array .int
theorem n_Cipher : ∀ a, a < 3 → ∀ b, b < 3 → a ≠ b → (F_Cipher a).2.1 ≠ (F_Cipher b).2.1 := by decide +kernel
theorem t_Cipher_ok : ∀ k, k < 3 → parseFieldDescriptor (F_Cipher k).2.2.1 = some (t_Cipher k) := by decide +kernel
def R_Items : String := "SealingDesk$Items"
def F_Items : u_T := fun k => match k with
  | 0 => ("SealingDesk$Items", "rows", "[LSealingDesk$Row;", true)
  | _ => ("SealingDesk$Items", "count", "I", false)
def t_Items : Nat → FieldType := fun k => match k with
  | 0 => .array (.object "SealingDesk$Row")
  | _ => .int
theorem n_Items : ∀ a, a < 2 → ∀ b, b < 2 → a ≠ b → (F_Items a).2.1 ≠ (F_Items b).2.1 := by decide +kernel
theorem t_Items_ok : ∀ k, k < 2 → parseFieldDescriptor (F_Items k).2.2.1 = some (t_Items k) := by decide +kernel
def R_Marked : String := "SealingDesk$Marked"
def F_Marked : u_T := fun k => match k with
  | 0 => ("SealingDesk$Marked", "marker", "LSealingDesk$Marker;", true)
  | 1 => ("SealingDesk$Marked", "items", "LSealingDesk$Items;", true)
  | 2 => ("SealingDesk$Marked", "cipher", "LSealingDesk$Cipher;", true)
  | 3 => ("SealingDesk$Marked", "sign", "[I", true)
  | 4 => ("SealingDesk$Marked", "counter", "[I", true)
  | _ => ("SealingDesk$Marked", "block", "[I", true)
def t_Marked : Nat → FieldType := fun k => match k with
  | 0 => .object "SealingDesk$Marker"
  | 1 => .object "SealingDesk$Items"
  | 2 => .object "SealingDesk$Cipher"
  | 3 => .array .int
  | 4 => .array .int
  | _ => .array .int
theorem n_Marked : ∀ a, a < 6 → ∀ b, b < 6 → a ≠ b → (F_Marked a).2.1 ≠ (F_Marked b).2.1 := by decide +kernel
theorem t_Marked_ok : ∀ k, k < 6 → parseFieldDescriptor (F_Marked k).2.2.1 = some (t_Marked k) := by decide +kernel
def R_Marker : String := "SealingDesk$Marker"
def F_Marker : u_T := fun k => match k with
  | 0 => ("SealingDesk$Marker", "cipher", "LSealingDesk$Cipher;", true)
  | 1 => ("SealingDesk$Marker", "twist", "[I", true)
  | 2 => ("SealingDesk$Marker", "sum", "[I", true)
  | _ => ("SealingDesk$Marker", "joined", "LSealingDesk$Row;", true)
def t_Marker : Nat → FieldType := fun k => match k with
  | 0 => .object "SealingDesk$Cipher"
  | 1 => .array .int
  | 2 => .array .int
  | _ => .object "SealingDesk$Row"
theorem n_Marker : ∀ a, a < 4 → ∀ b, b < 4 → a ≠ b → (F_Marker a).2.1 ≠ (F_Marker b).2.1 := by decide +kernel
theorem t_Marker_ok : ∀ k, k < 4 → parseFieldDescriptor (F_Marker k).2.2.1 = some (t_Marker k) := by decide +kernel
def R_Padded : String := "SealingDesk$Padded"
def F_Padded : u_T := fun k => match k with
  | 0 => ("SealingDesk$Padded", "wrapping", "LSealingDesk$Wrapping;", true)
  | _ => ("SealingDesk$Padded", "cipher", "LSealingDesk$Cipher;", true)
def t_Padded : Nat → FieldType := fun k => match k with
  | 0 => .object "SealingDesk$Wrapping"
  | _ => .object "SealingDesk$Cipher"
theorem n_Padded : ∀ a, a < 2 → ∀ b, b < 2 → a ≠ b → (F_Padded a).2.1 ≠ (F_Padded b).2.1 := by decide +kernel
theorem t_Padded_ok : ∀ k, k < 2 → parseFieldDescriptor (F_Padded k).2.2.1 = some (t_Padded k) := by decide +kernel
def R_Row : String := "SealingDesk$Row"
def F_Row : u_T := fun k => match k with
  | 0 => ("SealingDesk$Row", "bytes", "[I", true)
  | _ => ("SealingDesk$Row", "length", "I", false)
def t_Row : Nat → FieldType := fun k => match k with
  | 0 => .array .int
  | _ => .int
theorem n_Row : ∀ a, a < 2 → ∀ b, b < 2 → a ≠ b → (F_Row a).2.1 ≠ (F_Row b).2.1 := by decide +kernel
theorem t_Row_ok : ∀ k, k < 2 → parseFieldDescriptor (F_Row k).2.2.1 = some (t_Row k) := by decide +kernel
def R_Tables : String := "SealingDesk$Tables"
def F_Tables : u_T := fun k => match k with
  | 0 => ("SealingDesk$Tables", "forth", "[I", true)
  | _ => ("SealingDesk$Tables", "back", "[I", true)
def t_Tables : Nat → FieldType := fun k => match k with
  | 0 => .array .int
  | _ => .array .int
theorem n_Tables : ∀ a, a < 2 → ∀ b, b < 2 → a ≠ b → (F_Tables a).2.1 ≠ (F_Tables b).2.1 := by decide +kernel
theorem t_Tables_ok : ∀ k, k < 2 → parseFieldDescriptor (F_Tables k).2.2.1 = some (t_Tables k) := by decide +kernel
def R_Way : String := "SealingDesk$Way"
def F_Way : u_T := fun k => match k with
  | _ => ("", "", "", false)
def t_Way : Nat → FieldType := fun k => match k with
  | _ => .int
theorem n_Way : ∀ a, a < 0 → ∀ b, b < 0 → a ≠ b → (F_Way a).2.1 ≠ (F_Way b).2.1 := by decide +kernel
theorem t_Way_ok : ∀ k, k < 0 → parseFieldDescriptor (F_Way k).2.2.1 = some (t_Way k) := by decide +kernel
def R_Wrapped : String := "SealingDesk$Wrapped"
def F_Wrapped : u_T := fun k => match k with
  | _ => ("SealingDesk$Wrapped", "wrapping", "LSealingDesk$Wrapping;", true)
def t_Wrapped : Nat → FieldType := fun k => match k with
  | _ => .object "SealingDesk$Wrapping"
theorem n_Wrapped : ∀ a, a < 1 → ∀ b, b < 1 → a ≠ b → (F_Wrapped a).2.1 ≠ (F_Wrapped b).2.1 := by decide +kernel
theorem t_Wrapped_ok : ∀ k, k < 1 → parseFieldDescriptor (F_Wrapped k).2.2.1 = some (t_Wrapped k) := by decide +kernel
def R_Wrapping : String := "SealingDesk$Wrapping"
def F_Wrapping : u_T := fun k => match k with
  | 0 => ("SealingDesk$Wrapping", "cipher", "LSealingDesk$Cipher;", true)
  | _ => ("SealingDesk$Wrapping", "block", "[I", true)
def t_Wrapping : Nat → FieldType := fun k => match k with
  | 0 => .object "SealingDesk$Cipher"
  | _ => .array .int
theorem n_Wrapping : ∀ a, a < 2 → ∀ b, b < 2 → a ≠ b → (F_Wrapping a).2.1 ≠ (F_Wrapping b).2.1 := by decide +kernel
theorem t_Wrapping_ok : ∀ k, k < 2 → parseFieldDescriptor (F_Wrapping k).2.2.1 = some (t_Wrapping k) := by decide +kernel
def R_Law : String := "SealingDeskLaw"
def F_Law : u_T := fun k => match k with
  | _ => ("", "", "", false)
def t_Law : Nat → FieldType := fun k => match k with
  | _ => .int
theorem n_Law : ∀ a, a < 0 → ∀ b, b < 0 → a ≠ b → (F_Law a).2.1 ≠ (F_Law b).2.1 := by decide +kernel
theorem t_Law_ok : ∀ k, k < 0 → parseFieldDescriptor (F_Law k).2.2.1 = some (t_Law k) := by decide +kernel
def R_Arrays : String := "java/util/Arrays"
def R_System : String := "java/lang/System"
def R_Throwable : String := "java/lang/Throwable"
def R_Exception : String := "java/lang/Exception"
def R_RuntimeException : String := "java/lang/RuntimeException"
def R_IllegalArgumentException : String := "java/lang/IllegalArgumentException"
def R_IllegalStateException : String := "java/lang/IllegalStateException"
def R_IndexOutOfBoundsException : String := "java/lang/IndexOutOfBoundsException"
abbrev b_Desk_init : ByteArray := prog_1_method_1_code
def y_Desk_init : MethodName := ⟨R_Desk, "<init>", "()V"⟩
abbrev b_Object_init : ByteArray := object_method_1_code
def y_Object_init : MethodName := ⟨"java/lang/Object", "<init>", "()V"⟩
abbrev b_Tables_init : ByteArray := prog_8_method_1_code
def y_Tables_init : MethodName := ⟨R_Tables, "<init>", "()V"⟩
abbrev b_Tables_twice : ByteArray := prog_8_method_4_code
def y_Tables_twice : MethodName := ⟨R_Tables, "twice", "(I)I"⟩
abbrev b_Tables_enter : ByteArray := prog_8_method_2_code
def y_Tables_enter : MethodName := ⟨R_Tables, "enter", "(II)V"⟩
abbrev b_Tables_turnLeft : ByteArray := prog_8_method_3_code
def y_Tables_turnLeft : MethodName := ⟨R_Tables, "turnLeft", "(II)I"⟩
abbrev b_Cipher_init : ByteArray := prog_2_method_1_code
def y_Cipher_init : MethodName := ⟨R_Cipher, "<init>", "(LSealingDesk$Tables;)V"⟩
abbrev b_Cipher_use : ByteArray := prog_2_method_2_code
def y_Cipher_use : MethodName := ⟨R_Cipher, "use", "(IIII)V"⟩
abbrev b_Desk_byteOf : ByteArray := prog_1_method_15_code
def y_Desk_byteOf : MethodName := ⟨R_Desk, "byteOf", "(II)I"⟩
abbrev b_Cipher_expandFrom : ByteArray := prog_2_method_3_code
def y_Cipher_expandFrom : MethodName := ⟨R_Cipher, "expandFrom", "(II)V"⟩
abbrev b_Wrapping_init : ByteArray := prog_11_method_1_code
def y_Wrapping_init : MethodName := ⟨R_Wrapping, "<init>", "(LSealingDesk$Cipher;)V"⟩
abbrev b_Marker_init : ByteArray := prog_5_method_1_code
def y_Marker_init : MethodName := ⟨R_Marker, "<init>", "(LSealingDesk$Cipher;)V"⟩
abbrev b_Row_init : ByteArray := prog_7_method_1_code
def y_Row_init : MethodName := ⟨R_Row, "<init>", "()V"⟩
abbrev b_Items_init : ByteArray := prog_3_method_1_code
def y_Items_init : MethodName := ⟨R_Items, "<init>", "()V"⟩
abbrev b_Marked_init : ByteArray := prog_4_method_1_code
def y_Marked_init : MethodName := ⟨R_Marked, "<init>", "(LSealingDesk$Marker;LSealingDesk$Items;LSealingDesk$Cipher;)V"⟩
abbrev b_Way_init : ByteArray := prog_9_method_1_code
def y_Way_init : MethodName := ⟨R_Way, "<init>", "()V"⟩
abbrev b_Wrapped_init : ByteArray := prog_10_method_1_code
def y_Wrapped_init : MethodName := ⟨R_Wrapped, "<init>", "(LSealingDesk$Wrapping;)V"⟩
abbrev b_Padded_init : ByteArray := prog_6_method_1_code
def y_Padded_init : MethodName := ⟨R_Padded, "<init>", "(LSealingDesk$Wrapping;LSealingDesk$Cipher;)V"⟩
abbrev b_Desk_drop : ByteArray := prog_1_method_4_code
def y_Desk_drop : MethodName := ⟨R_Desk, "drop", "()V"⟩
abbrev b_Row_clear : ByteArray := prog_7_method_3_code
def y_Row_clear : MethodName := ⟨R_Row, "clear", "()V"⟩
abbrev b_Desk_forget : ByteArray := prog_1_method_7_code
def y_Desk_forget : MethodName := ⟨R_Desk, "forget", "()I"⟩
abbrev b_Desk_mark : ByteArray := prog_1_method_9_code
def y_Desk_mark : MethodName := ⟨R_Desk, "mark", "(Z)V"⟩
abbrev b_Marker_join : ByteArray := prog_5_method_3_code
def y_Marker_join : MethodName := ⟨R_Marker, "join", "(LSealingDesk$Items;LSealingDesk$Row;[I)V"⟩
abbrev b_Row_addZeros : ByteArray := prog_7_method_6_code
def y_Row_addZeros : MethodName := ⟨R_Row, "addZeros", "(I)V"⟩
abbrev b_Row_add : ByteArray := prog_7_method_4_code
def y_Row_add : MethodName := ⟨R_Row, "add", "(I)V"⟩
abbrev b_Marker_markRow : ByteArray := prog_5_method_2_code
def y_Marker_markRow : MethodName := ⟨R_Marker, "markRow", "(LSealingDesk$Row;[I)V"⟩
abbrev b_Arrays_fill : ByteArray := prog_22_method_104_code
def y_Arrays_fill : MethodName := ⟨R_Arrays, "fill", "([IIII)V"⟩
abbrev b_Arrays_rangeCheck : ByteArray := prog_22_method_30_code
def y_Arrays_rangeCheck : MethodName := ⟨R_Arrays, "rangeCheck", "(III)V"⟩
abbrev b_Marker_addTo : ByteArray := prog_5_method_4_code
def y_Marker_addTo : MethodName := ⟨R_Marker, "addTo", "([I[III)V"⟩
abbrev b_Cipher_turn : ByteArray := prog_2_method_4_code
def y_Cipher_turn : MethodName := ⟨R_Cipher, "turn", "([I)V"⟩
abbrev b_Cipher_addRoundKey : ByteArray := prog_2_method_6_code
def y_Cipher_addRoundKey : MethodName := ⟨R_Cipher, "addRoundKey", "([II)V"⟩
abbrev b_Cipher_substitute : ByteArray := prog_2_method_7_code
def y_Cipher_substitute : MethodName := ⟨R_Cipher, "substitute", "([I)V"⟩
abbrev b_Cipher_placeBefore : ByteArray := prog_2_method_9_code
def y_Cipher_placeBefore : MethodName := ⟨R_Cipher, "placeBefore", "(I)I"⟩
abbrev b_Cipher_mix : ByteArray := prog_2_method_10_code
def y_Cipher_mix : MethodName := ⟨R_Cipher, "mix", "([I)V"⟩
abbrev b_Arrays_fill1 : ByteArray := prog_22_method_103_code
def y_Arrays_fill1 : MethodName := ⟨R_Arrays, "fill", "([II)V"⟩
abbrev b_Marker_doubleBlock : ByteArray := prog_5_method_6_code
def y_Marker_doubleBlock : MethodName := ⟨R_Marker, "doubleBlock", "([I)V"⟩
abbrev b_Row_become : ByteArray := prog_7_method_7_code
def y_Row_become : MethodName := ⟨R_Row, "become", "(LSealingDesk$Row;)V"⟩
abbrev b_Row_becomeRest : ByteArray := prog_7_method_8_code
def y_Row_becomeRest : MethodName := ⟨R_Row, "becomeRest", "(LSealingDesk$Row;I)V"⟩
abbrev b_Marker_addToEnd : ByteArray := prog_5_method_5_code
def y_Marker_addToEnd : MethodName := ⟨R_Marker, "addToEnd", "(LSealingDesk$Row;[I)V"⟩
abbrev b_Desk_size : ByteArray := prog_1_method_12_code
def y_Desk_size : MethodName := ⟨R_Desk, "size", "()I"⟩
abbrev b_Desk_take : ByteArray := prog_1_method_14_code
def y_Desk_take : MethodName := ⟨R_Desk, "take", "()I"⟩
abbrev b_Law_key : ByteArray := method_3_code
def y_Law_key : MethodName := ⟨R_Law, "key", "(LSealingDesk;IIIII)I"⟩
abbrev b_Desk_key : ByteArray := prog_1_method_2_code
def y_Desk_key : MethodName := ⟨R_Desk, "key", "(IIIII)V"⟩
abbrev b_Throwable_init : ByteArray := prog_21_method_1_code
def y_Throwable_init : MethodName := ⟨R_Throwable, "<init>", "()V"⟩
abbrev b_Throwable_fillInStackTrace : ByteArray := prog_21_method_18_code
def y_Throwable_fillInStackTrace : MethodName := ⟨R_Throwable, "fillInStackTrace", "()Ljava/lang/Throwable;"⟩
abbrev b_IndexOutOfBoundsException_init : ByteArray := prog_17_method_2_code
def y_IndexOutOfBoundsException_init : MethodName := ⟨R_IndexOutOfBoundsException, "<init>", "(Ljava/lang/String;)V"⟩
abbrev b_RuntimeException_init : ByteArray := prog_18_method_2_code
def y_RuntimeException_init : MethodName := ⟨R_RuntimeException, "<init>", "(Ljava/lang/String;)V"⟩
abbrev b_Exception_init : ByteArray := prog_14_method_2_code
def y_Exception_init : MethodName := ⟨R_Exception, "<init>", "(Ljava/lang/String;)V"⟩
abbrev b_Throwable_init1 : ByteArray := prog_21_method_2_code
def y_Throwable_init1 : MethodName := ⟨R_Throwable, "<init>", "(Ljava/lang/String;)V"⟩
abbrev b_Law_feed : ByteArray := method_4_code
def y_Law_feed : MethodName := ⟨R_Law, "feed", "(LSealingDesk;II[J)I"⟩
abbrev b_Desk_feed : ByteArray := prog_1_method_3_code
def y_Desk_feed : MethodName := ⟨R_Desk, "feed", "(II)I"⟩
abbrev b_IllegalArgumentException_init : ByteArray := prog_15_method_2_code
def y_IllegalArgumentException_init : MethodName := ⟨R_IllegalArgumentException, "<init>", "(Ljava/lang/String;)V"⟩
abbrev b_IllegalStateException_init : ByteArray := prog_16_method_2_code
def y_IllegalStateException_init : MethodName := ⟨R_IllegalStateException, "<init>", "(Ljava/lang/String;)V"⟩
abbrev b_Law_alter : ByteArray := method_5_code
def y_Law_alter : MethodName := ⟨R_Law, "alter", "(LSealingDesk;II)I"⟩
abbrev b_Desk_alter : ByteArray := prog_1_method_5_code
def y_Desk_alter : MethodName := ⟨R_Desk, "alter", "(II)V"⟩
abbrev b_Row_has : ByteArray := prog_7_method_2_code
def y_Row_has : MethodName := ⟨R_Row, "has", "(I)Z"⟩
abbrev b_Law_item : ByteArray := method_6_code
def y_Law_item : MethodName := ⟨R_Law, "item", "(LSealingDesk;[J)I"⟩
abbrev b_Desk_item : ByteArray := prog_1_method_6_code
def y_Desk_item : MethodName := ⟨R_Desk, "item", "()I"⟩
abbrev b_Law_cipher : ByteArray := method_7_code
def y_Law_cipher : MethodName := ⟨R_Law, "cipher", "(LSealingDesk;Z)I"⟩
abbrev b_Desk_cipher : ByteArray := prog_1_method_8_code
def y_Desk_cipher : MethodName := ⟨R_Desk, "cipher", "(Z)V"⟩
abbrev b_Cipher_turnBack : ByteArray := prog_2_method_5_code
def y_Cipher_turnBack : MethodName := ⟨R_Cipher, "turnBack", "([I)V"⟩
abbrev b_Cipher_unmix : ByteArray := prog_2_method_11_code
def y_Cipher_unmix : MethodName := ⟨R_Cipher, "unmix", "([I)V"⟩
abbrev b_Cipher_substituteBack : ByteArray := prog_2_method_8_code
def y_Cipher_substituteBack : MethodName := ⟨R_Cipher, "substituteBack", "([I)V"⟩
abbrev b_Law_seal : ByteArray := method_8_code
def y_Law_seal : MethodName := ⟨R_Law, "seal", "(LSealingDesk;I[J)I"⟩
abbrev b_Desk_seal : ByteArray := prog_1_method_10_code
def y_Desk_seal : MethodName := ⟨R_Desk, "seal", "(I)I"⟩
abbrev b_Marked_canLock : ByteArray := prog_4_method_2_code
def y_Marked_canLock : MethodName := ⟨R_Marked, "canLock", "(I)Z"⟩
abbrev b_Padded_canLock : ByteArray := prog_6_method_2_code
def y_Padded_canLock : MethodName := ⟨R_Padded, "canLock", "(I)Z"⟩
abbrev b_Wrapped_canLock : ByteArray := prog_10_method_2_code
def y_Wrapped_canLock : MethodName := ⟨R_Wrapped, "canLock", "(I)Z"⟩
abbrev b_Marked_lock : ByteArray := prog_4_method_4_code
def y_Marked_lock : MethodName := ⟨R_Marked, "lock", "(LSealingDesk$Row;LSealingDesk$Row;)V"⟩
abbrev b_Row_addAll : ByteArray := prog_7_method_5_code
def y_Row_addAll : MethodName := ⟨R_Row, "addAll", "([II)V"⟩
abbrev b_Marked_addStream : ByteArray := prog_4_method_6_code
def y_Marked_addStream : MethodName := ⟨R_Marked, "addStream", "(LSealingDesk$Row;I[I)V"⟩
abbrev b_Marked_nextBlock : ByteArray := prog_4_method_7_code
def y_Marked_nextBlock : MethodName := ⟨R_Marked, "nextBlock", "()V"⟩
abbrev b_Padded_lock : ByteArray := prog_6_method_4_code
def y_Padded_lock : MethodName := ⟨R_Padded, "lock", "(LSealingDesk$Row;LSealingDesk$Row;)V"⟩
abbrev b_Padded_addWord : ByteArray := prog_6_method_7_code
def y_Padded_addWord : MethodName := ⟨R_Padded, "addWord", "(LSealingDesk$Row;I)V"⟩
abbrev b_Wrapping_wind : ByteArray := prog_11_method_2_code
def y_Wrapping_wind : MethodName := ⟨R_Wrapping, "wind", "(LSealingDesk$Row;)V"⟩
abbrev b_Wrapping_lift : ByteArray := prog_11_method_4_code
def y_Wrapping_lift : MethodName := ⟨R_Wrapping, "lift", "(LSealingDesk$Row;I)V"⟩
abbrev b_Wrapping_addNumber : ByteArray := prog_11_method_6_code
def y_Wrapping_addNumber : MethodName := ⟨R_Wrapping, "addNumber", "(I)V"⟩
abbrev b_Wrapping_lay : ByteArray := prog_11_method_5_code
def y_Wrapping_lay : MethodName := ⟨R_Wrapping, "lay", "(LSealingDesk$Row;I)V"⟩
abbrev b_Wrapped_lock : ByteArray := prog_10_method_4_code
def y_Wrapped_lock : MethodName := ⟨R_Wrapped, "lock", "(LSealingDesk$Row;LSealingDesk$Row;)V"⟩
abbrev b_Law_open : ByteArray := method_9_code
def y_Law_open : MethodName := ⟨R_Law, "open", "(LSealingDesk;I[J)I"⟩
abbrev b_Desk_open : ByteArray := prog_1_method_11_code
def y_Desk_open : MethodName := ⟨R_Desk, "open", "(I)I"⟩
abbrev b_Marked_canUnlock : ByteArray := prog_4_method_3_code
def y_Marked_canUnlock : MethodName := ⟨R_Marked, "canUnlock", "(I)Z"⟩
abbrev b_Padded_canUnlock : ByteArray := prog_6_method_3_code
def y_Padded_canUnlock : MethodName := ⟨R_Padded, "canUnlock", "(I)Z"⟩
abbrev b_Wrapped_canUnlock : ByteArray := prog_10_method_3_code
def y_Wrapped_canUnlock : MethodName := ⟨R_Wrapped, "canUnlock", "(I)Z"⟩
abbrev b_Marked_unlock : ByteArray := prog_4_method_5_code
def y_Marked_unlock : MethodName := ⟨R_Marked, "unlock", "(LSealingDesk$Row;LSealingDesk$Row;)Z"⟩
abbrev b_Padded_unlock : ByteArray := prog_6_method_5_code
def y_Padded_unlock : MethodName := ⟨R_Padded, "unlock", "(LSealingDesk$Row;LSealingDesk$Row;)Z"⟩
abbrev b_Wrapping_unwind : ByteArray := prog_11_method_3_code
def y_Wrapping_unwind : MethodName := ⟨R_Wrapping, "unwind", "(LSealingDesk$Row;)V"⟩
abbrev b_Padded_wordAt : ByteArray := prog_6_method_8_code
def y_Padded_wordAt : MethodName := ⟨R_Padded, "wordAt", "(LSealingDesk$Row;I)I"⟩
abbrev b_Padded_cutZeros : ByteArray := prog_6_method_6_code
def y_Padded_cutZeros : MethodName := ⟨R_Padded, "cutZeros", "(LSealingDesk$Row;I)Z"⟩
abbrev b_Wrapped_unlock : ByteArray := prog_10_method_5_code
def y_Wrapped_unlock : MethodName := ⟨R_Wrapped, "unlock", "(LSealingDesk$Row;LSealingDesk$Row;)Z"⟩
abbrev b_Law_at : ByteArray := method_10_code
def y_Law_at : MethodName := ⟨R_Law, "at", "(LSealingDesk;I[J)I"⟩
abbrev b_Desk_at : ByteArray := prog_1_method_13_code
def y_Desk_at : MethodName := ⟨R_Desk, "at", "(I)I"⟩
abbrev b_Model_init : ByteArray := prog_13_method_1_code
def y_Model_init : MethodName := ⟨R_Model, "<init>", "()V"⟩
abbrev b_Model_power : ByteArray := prog_13_method_4_code
def y_Model_power : MethodName := ⟨R_Model, "power", "(I)I"⟩
abbrev b_Model_product : ByteArray := prog_13_method_3_code
def y_Model_product : MethodName := ⟨R_Model, "product", "(II)I"⟩
abbrev b_Model_around : ByteArray := prog_13_method_5_code
def y_Model_around : MethodName := ⟨R_Model, "around", "(II)I"⟩
abbrev b_Model_expand : ByteArray := prog_13_method_7_code
def y_Model_expand : MethodName := ⟨R_Model, "expand", "(IIIII)V"⟩
abbrev b_Model_changed : ByteArray := prog_13_method_6_code
def y_Model_changed : MethodName := ⟨R_Model, "changed", "(I)I"⟩
abbrev b_Model_thrown : ByteArray := prog_13_method_2_code
def y_Model_thrown : MethodName := ⟨R_Model, "thrown", "()I"⟩
abbrev b_Model_key : ByteArray := prog_13_method_28_code
def y_Model_key : MethodName := ⟨R_Model, "key", "(IIIII)V"⟩
abbrev b_Model_feed : ByteArray := prog_13_method_29_code
def y_Model_feed : MethodName := ⟨R_Model, "feed", "(II)I"⟩
abbrev b_Model_drop : ByteArray := prog_13_method_30_code
def y_Model_drop : MethodName := ⟨R_Model, "drop", "()V"⟩
abbrev b_Model_alter : ByteArray := prog_13_method_31_code
def y_Model_alter : MethodName := ⟨R_Model, "alter", "(II)V"⟩
abbrev b_Model_item : ByteArray := prog_13_method_32_code
def y_Model_item : MethodName := ⟨R_Model, "item", "()I"⟩
abbrev b_Model_forget : ByteArray := prog_13_method_33_code
def y_Model_forget : MethodName := ⟨R_Model, "forget", "()I"⟩
abbrev b_Model_cipher : ByteArray := prog_13_method_36_code
def y_Model_cipher : MethodName := ⟨R_Model, "cipher", "(Z)V"⟩
abbrev b_Model_begin : ByteArray := prog_13_method_34_code
def y_Model_begin : MethodName := ⟨R_Model, "begin", "()V"⟩
abbrev b_Model_single : ByteArray := prog_13_method_22_code
def y_Model_single : MethodName := ⟨R_Model, "single", "(Z)V"⟩
abbrev b_Model_decipher : ByteArray := prog_13_method_10_code
def y_Model_decipher : MethodName := ⟨R_Model, "decipher", "(I)V"⟩
abbrev b_Model_addKey : ByteArray := prog_13_method_8_code
def y_Model_addKey : MethodName := ⟨R_Model, "addKey", "(II)V"⟩
abbrev b_Model_encipher : ByteArray := prog_13_method_9_code
def y_Model_encipher : MethodName := ⟨R_Model, "encipher", "(I)V"⟩
abbrev b_Model_show : ByteArray := prog_13_method_35_code
def y_Model_show : MethodName := ⟨R_Model, "show", "()I"⟩
abbrev b_Model_mark : ByteArray := prog_13_method_37_code
def y_Model_mark : MethodName := ⟨R_Model, "mark", "(Z)V"⟩
abbrev b_Model_markJointly : ByteArray := prog_13_method_15_code
def y_Model_markJointly : MethodName := ⟨R_Model, "markJointly", "()V"⟩
abbrev b_Model_markText : ByteArray := prog_13_method_14_code
def y_Model_markText : MethodName := ⟨R_Model, "markText", "()V"⟩
abbrev b_Model_doubleBlock : ByteArray := prog_13_method_13_code
def y_Model_doubleBlock : MethodName := ⟨R_Model, "doubleBlock", "()V"⟩
abbrev b_Model_bitBehind : ByteArray := prog_13_method_11_code
def y_Model_bitBehind : MethodName := ⟨R_Model, "bitBehind", "(II)I"⟩
abbrev b_Model_doubleSum : ByteArray := prog_13_method_12_code
def y_Model_doubleSum : MethodName := ⟨R_Model, "doubleSum", "()V"⟩
abbrev b_Model_seal : ByteArray := prog_13_method_38_code
def y_Model_seal : MethodName := ⟨R_Model, "seal", "(I)I"⟩
abbrev b_Model_sealMarked : ByteArray := prog_13_method_17_code
def y_Model_sealMarked : MethodName := ⟨R_Model, "sealMarked", "()V"⟩
abbrev b_Model_cross : ByteArray := prog_13_method_16_code
def y_Model_cross : MethodName := ⟨R_Model, "cross", "()V"⟩
abbrev b_Model_front : ByteArray := prog_13_method_23_code
def y_Model_front : MethodName := ⟨R_Model, "front", "(II)V"⟩
abbrev b_Model_wrap : ByteArray := prog_13_method_20_code
def y_Model_wrap : MethodName := ⟨R_Model, "wrap", "()V"⟩
abbrev b_Model_number : ByteArray := prog_13_method_19_code
def y_Model_number : MethodName := ⟨R_Model, "number", "(I)V"⟩
abbrev b_Model_sealPadded : ByteArray := prog_13_method_25_code
def y_Model_sealPadded : MethodName := ⟨R_Model, "sealPadded", "()V"⟩
abbrev b_Model_open : ByteArray := prog_13_method_39_code
def y_Model_open : MethodName := ⟨R_Model, "open", "(I)I"⟩
abbrev b_Model_openMarked : ByteArray := prog_13_method_18_code
def y_Model_openMarked : MethodName := ⟨R_Model, "openMarked", "()Z"⟩
abbrev b_Model_openWrapped : ByteArray := prog_13_method_26_code
def y_Model_openWrapped : MethodName := ⟨R_Model, "openWrapped", "()Z"⟩
abbrev b_Model_unwrap : ByteArray := prog_13_method_21_code
def y_Model_unwrap : MethodName := ⟨R_Model, "unwrap", "()V"⟩
abbrev b_Model_dropFront : ByteArray := prog_13_method_24_code
def y_Model_dropFront : MethodName := ⟨R_Model, "dropFront", "()V"⟩
abbrev b_Model_openPadded : ByteArray := prog_13_method_27_code
def y_Model_openPadded : MethodName := ⟨R_Model, "openPadded", "()Z"⟩
abbrev b_Model_size : ByteArray := prog_13_method_40_code
def y_Model_size : MethodName := ⟨R_Model, "size", "()I"⟩
abbrev b_Model_at : ByteArray := prog_13_method_41_code
def y_Model_at : MethodName := ⟨R_Model, "at", "(I)I"⟩
abbrev b_Model_take : ByteArray := prog_13_method_42_code
def y_Model_take : MethodName := ⟨R_Model, "take", "()I"⟩
/-- the classes whose objects a world holds, by their places: 0 Desk, 1 Model, 2 Cipher, 3 Items, 4 Marked, 5 Marker, 6 Padded, 7 Row, 8 Tables, 9 Wrapped, 10 Wrapping -/
abbrev Cls : List vw_C := [(R_Desk, F_Desk, 7), (R_Model, F_Model, 20), (R_Cipher, F_Cipher, 3), (R_Items, F_Items, 2), (R_Marked, F_Marked, 6), (R_Marker, F_Marker, 4), (R_Padded, F_Padded, 2), (R_Row, F_Row, 2), (R_Tables, F_Tables, 2), (R_Wrapped, F_Wrapped, 1), (R_Wrapping, F_Wrapping, 2)]
abbrev M_Desk_init : MethodName × ByteArray × Nat × Option FieldType := (y_Desk_init, b_Desk_init, 7, none)
abbrev M_Object_init : MethodName × ByteArray × Nat × Option FieldType := (y_Object_init, b_Object_init, 1, none)
abbrev M_Tables_init : MethodName × ByteArray × Nat × Option FieldType := (y_Tables_init, b_Tables_init, 3, none)
abbrev M_Tables_twice : MethodName × ByteArray × Nat × Option FieldType := (y_Tables_twice, b_Tables_twice, 1, (some .int))
abbrev M_Tables_enter : MethodName × ByteArray × Nat × Option FieldType := (y_Tables_enter, b_Tables_enter, 4, none)
abbrev M_Tables_turnLeft : MethodName × ByteArray × Nat × Option FieldType := (y_Tables_turnLeft, b_Tables_turnLeft, 2, (some .int))
abbrev M_Cipher_init : MethodName × ByteArray × Nat × Option FieldType := (y_Cipher_init, b_Cipher_init, 2, none)
abbrev M_Cipher_use : MethodName × ByteArray × Nat × Option FieldType := (y_Cipher_use, b_Cipher_use, 7, none)
abbrev M_Desk_byteOf : MethodName × ByteArray × Nat × Option FieldType := (y_Desk_byteOf, b_Desk_byteOf, 2, (some .int))
abbrev M_Cipher_expandFrom : MethodName × ByteArray × Nat × Option FieldType := (y_Cipher_expandFrom, b_Cipher_expandFrom, 5, none)
abbrev M_Wrapping_init : MethodName × ByteArray × Nat × Option FieldType := (y_Wrapping_init, b_Wrapping_init, 2, none)
abbrev M_Marker_init : MethodName × ByteArray × Nat × Option FieldType := (y_Marker_init, b_Marker_init, 2, none)
abbrev M_Row_init : MethodName × ByteArray × Nat × Option FieldType := (y_Row_init, b_Row_init, 1, none)
abbrev M_Items_init : MethodName × ByteArray × Nat × Option FieldType := (y_Items_init, b_Items_init, 2, none)
abbrev M_Marked_init : MethodName × ByteArray × Nat × Option FieldType := (y_Marked_init, b_Marked_init, 4, none)
abbrev M_Way_init : MethodName × ByteArray × Nat × Option FieldType := (y_Way_init, b_Way_init, 1, none)
abbrev M_Wrapped_init : MethodName × ByteArray × Nat × Option FieldType := (y_Wrapped_init, b_Wrapped_init, 2, none)
abbrev M_Padded_init : MethodName × ByteArray × Nat × Option FieldType := (y_Padded_init, b_Padded_init, 3, none)
abbrev M_Desk_drop : MethodName × ByteArray × Nat × Option FieldType := (y_Desk_drop, b_Desk_drop, 1, none)
abbrev M_Row_clear : MethodName × ByteArray × Nat × Option FieldType := (y_Row_clear, b_Row_clear, 1, none)
abbrev M_Desk_forget : MethodName × ByteArray × Nat × Option FieldType := (y_Desk_forget, b_Desk_forget, 2, (some .int))
abbrev M_Desk_mark : MethodName × ByteArray × Nat × Option FieldType := (y_Desk_mark, b_Desk_mark, 2, none)
abbrev M_Marker_join : MethodName × ByteArray × Nat × Option FieldType := (y_Marker_join, b_Marker_join, 5, none)
abbrev M_Row_addZeros : MethodName × ByteArray × Nat × Option FieldType := (y_Row_addZeros, b_Row_addZeros, 3, none)
abbrev M_Row_add : MethodName × ByteArray × Nat × Option FieldType := (y_Row_add, b_Row_add, 2, none)
abbrev M_Marker_markRow : MethodName × ByteArray × Nat × Option FieldType := (y_Marker_markRow, b_Marker_markRow, 5, none)
abbrev M_Arrays_fill : MethodName × ByteArray × Nat × Option FieldType := (y_Arrays_fill, b_Arrays_fill, 5, none)
abbrev M_Arrays_rangeCheck : MethodName × ByteArray × Nat × Option FieldType := (y_Arrays_rangeCheck, b_Arrays_rangeCheck, 3, none)
abbrev M_Marker_addTo : MethodName × ByteArray × Nat × Option FieldType := (y_Marker_addTo, b_Marker_addTo, 5, none)
abbrev M_Cipher_turn : MethodName × ByteArray × Nat × Option FieldType := (y_Cipher_turn, b_Cipher_turn, 3, none)
abbrev M_Cipher_addRoundKey : MethodName × ByteArray × Nat × Option FieldType := (y_Cipher_addRoundKey, b_Cipher_addRoundKey, 4, none)
abbrev M_Cipher_substitute : MethodName × ByteArray × Nat × Option FieldType := (y_Cipher_substitute, b_Cipher_substitute, 3, none)
abbrev M_Cipher_placeBefore : MethodName × ByteArray × Nat × Option FieldType := (y_Cipher_placeBefore, b_Cipher_placeBefore, 1, (some .int))
abbrev M_Cipher_mix : MethodName × ByteArray × Nat × Option FieldType := (y_Cipher_mix, b_Cipher_mix, 7, none)
abbrev M_Arrays_fill1 : MethodName × ByteArray × Nat × Option FieldType := (y_Arrays_fill1, b_Arrays_fill1, 4, none)
abbrev M_Marker_doubleBlock : MethodName × ByteArray × Nat × Option FieldType := (y_Marker_doubleBlock, b_Marker_doubleBlock, 3, none)
abbrev M_Row_become : MethodName × ByteArray × Nat × Option FieldType := (y_Row_become, b_Row_become, 2, none)
abbrev M_Row_becomeRest : MethodName × ByteArray × Nat × Option FieldType := (y_Row_becomeRest, b_Row_becomeRest, 3, none)
abbrev M_Marker_addToEnd : MethodName × ByteArray × Nat × Option FieldType := (y_Marker_addToEnd, b_Marker_addToEnd, 4, none)
abbrev M_Desk_size : MethodName × ByteArray × Nat × Option FieldType := (y_Desk_size, b_Desk_size, 1, (some .int))
abbrev M_Desk_take : MethodName × ByteArray × Nat × Option FieldType := (y_Desk_take, b_Desk_take, 1, (some .int))
abbrev M_Law_key : MethodName × ByteArray × Nat × Option FieldType := (y_Law_key, b_Law_key, 7, (some .int))
abbrev M_Desk_key : MethodName × ByteArray × Nat × Option FieldType := (y_Desk_key, b_Desk_key, 6, none)
abbrev M_Throwable_init : MethodName × ByteArray × Nat × Option FieldType := (y_Throwable_init, b_Throwable_init, 1, none)
abbrev M_Throwable_fillInStackTrace : MethodName × ByteArray × Nat × Option FieldType := (y_Throwable_fillInStackTrace, b_Throwable_fillInStackTrace, 1, (some (.object "java/lang/Throwable")))
abbrev M_IndexOutOfBoundsException_init : MethodName × ByteArray × Nat × Option FieldType := (y_IndexOutOfBoundsException_init, b_IndexOutOfBoundsException_init, 2, none)
abbrev M_RuntimeException_init : MethodName × ByteArray × Nat × Option FieldType := (y_RuntimeException_init, b_RuntimeException_init, 2, none)
abbrev M_Exception_init : MethodName × ByteArray × Nat × Option FieldType := (y_Exception_init, b_Exception_init, 2, none)
abbrev M_Throwable_init1 : MethodName × ByteArray × Nat × Option FieldType := (y_Throwable_init1, b_Throwable_init1, 2, none)
abbrev M_Law_feed : MethodName × ByteArray × Nat × Option FieldType := (y_Law_feed, b_Law_feed, 5, (some .int))
abbrev M_Desk_feed : MethodName × ByteArray × Nat × Option FieldType := (y_Desk_feed, b_Desk_feed, 4, (some .int))
abbrev M_IllegalArgumentException_init : MethodName × ByteArray × Nat × Option FieldType := (y_IllegalArgumentException_init, b_IllegalArgumentException_init, 2, none)
abbrev M_IllegalStateException_init : MethodName × ByteArray × Nat × Option FieldType := (y_IllegalStateException_init, b_IllegalStateException_init, 2, none)
abbrev M_Law_alter : MethodName × ByteArray × Nat × Option FieldType := (y_Law_alter, b_Law_alter, 4, (some .int))
abbrev M_Desk_alter : MethodName × ByteArray × Nat × Option FieldType := (y_Desk_alter, b_Desk_alter, 3, none)
abbrev M_Row_has : MethodName × ByteArray × Nat × Option FieldType := (y_Row_has, b_Row_has, 2, (some .boolean))
abbrev M_Law_item : MethodName × ByteArray × Nat × Option FieldType := (y_Law_item, b_Law_item, 3, (some .int))
abbrev M_Desk_item : MethodName × ByteArray × Nat × Option FieldType := (y_Desk_item, b_Desk_item, 1, (some .int))
abbrev M_Law_cipher : MethodName × ByteArray × Nat × Option FieldType := (y_Law_cipher, b_Law_cipher, 3, (some .int))
abbrev M_Desk_cipher : MethodName × ByteArray × Nat × Option FieldType := (y_Desk_cipher, b_Desk_cipher, 2, none)
abbrev M_Cipher_turnBack : MethodName × ByteArray × Nat × Option FieldType := (y_Cipher_turnBack, b_Cipher_turnBack, 3, none)
abbrev M_Cipher_unmix : MethodName × ByteArray × Nat × Option FieldType := (y_Cipher_unmix, b_Cipher_unmix, 1, none)
abbrev M_Cipher_substituteBack : MethodName × ByteArray × Nat × Option FieldType := (y_Cipher_substituteBack, b_Cipher_substituteBack, 3, none)
abbrev M_Law_seal : MethodName × ByteArray × Nat × Option FieldType := (y_Law_seal, b_Law_seal, 4, (some .int))
abbrev M_Desk_seal : MethodName × ByteArray × Nat × Option FieldType := (y_Desk_seal, b_Desk_seal, 2, (some .int))
abbrev M_Marked_canLock : MethodName × ByteArray × Nat × Option FieldType := (y_Marked_canLock, b_Marked_canLock, 2, (some .boolean))
abbrev M_Padded_canLock : MethodName × ByteArray × Nat × Option FieldType := (y_Padded_canLock, b_Padded_canLock, 2, (some .boolean))
abbrev M_Wrapped_canLock : MethodName × ByteArray × Nat × Option FieldType := (y_Wrapped_canLock, b_Wrapped_canLock, 2, (some .boolean))
abbrev M_Marked_lock : MethodName × ByteArray × Nat × Option FieldType := (y_Marked_lock, b_Marked_lock, 3, none)
abbrev M_Row_addAll : MethodName × ByteArray × Nat × Option FieldType := (y_Row_addAll, b_Row_addAll, 3, none)
abbrev M_Marked_addStream : MethodName × ByteArray × Nat × Option FieldType := (y_Marked_addStream, b_Marked_addStream, 6, none)
abbrev M_Marked_nextBlock : MethodName × ByteArray × Nat × Option FieldType := (y_Marked_nextBlock, b_Marked_nextBlock, 4, none)
abbrev M_Padded_lock : MethodName × ByteArray × Nat × Option FieldType := (y_Padded_lock, b_Padded_lock, 3, none)
abbrev M_Padded_addWord : MethodName × ByteArray × Nat × Option FieldType := (y_Padded_addWord, b_Padded_addWord, 3, none)
abbrev M_Wrapping_wind : MethodName × ByteArray × Nat × Option FieldType := (y_Wrapping_wind, b_Wrapping_wind, 5, none)
abbrev M_Wrapping_lift : MethodName × ByteArray × Nat × Option FieldType := (y_Wrapping_lift, b_Wrapping_lift, 3, none)
abbrev M_Wrapping_addNumber : MethodName × ByteArray × Nat × Option FieldType := (y_Wrapping_addNumber, b_Wrapping_addNumber, 2, none)
abbrev M_Wrapping_lay : MethodName × ByteArray × Nat × Option FieldType := (y_Wrapping_lay, b_Wrapping_lay, 3, none)
abbrev M_Wrapped_lock : MethodName × ByteArray × Nat × Option FieldType := (y_Wrapped_lock, b_Wrapped_lock, 4, none)
abbrev M_Law_open : MethodName × ByteArray × Nat × Option FieldType := (y_Law_open, b_Law_open, 4, (some .int))
abbrev M_Desk_open : MethodName × ByteArray × Nat × Option FieldType := (y_Desk_open, b_Desk_open, 2, (some .int))
abbrev M_Marked_canUnlock : MethodName × ByteArray × Nat × Option FieldType := (y_Marked_canUnlock, b_Marked_canUnlock, 2, (some .boolean))
abbrev M_Padded_canUnlock : MethodName × ByteArray × Nat × Option FieldType := (y_Padded_canUnlock, b_Padded_canUnlock, 2, (some .boolean))
abbrev M_Wrapped_canUnlock : MethodName × ByteArray × Nat × Option FieldType := (y_Wrapped_canUnlock, b_Wrapped_canUnlock, 2, (some .boolean))
abbrev M_Marked_unlock : MethodName × ByteArray × Nat × Option FieldType := (y_Marked_unlock, b_Marked_unlock, 4, (some .boolean))
abbrev M_Padded_unlock : MethodName × ByteArray × Nat × Option FieldType := (y_Padded_unlock, b_Padded_unlock, 5, (some .boolean))
abbrev M_Wrapping_unwind : MethodName × ByteArray × Nat × Option FieldType := (y_Wrapping_unwind, b_Wrapping_unwind, 5, none)
abbrev M_Padded_wordAt : MethodName × ByteArray × Nat × Option FieldType := (y_Padded_wordAt, b_Padded_wordAt, 4, (some .int))
abbrev M_Padded_cutZeros : MethodName × ByteArray × Nat × Option FieldType := (y_Padded_cutZeros, b_Padded_cutZeros, 3, (some .boolean))
abbrev M_Wrapped_unlock : MethodName × ByteArray × Nat × Option FieldType := (y_Wrapped_unlock, b_Wrapped_unlock, 4, (some .boolean))
abbrev M_Law_at : MethodName × ByteArray × Nat × Option FieldType := (y_Law_at, b_Law_at, 4, (some .int))
abbrev M_Desk_at : MethodName × ByteArray × Nat × Option FieldType := (y_Desk_at, b_Desk_at, 2, (some .int))
abbrev M_Model_init : MethodName × ByteArray × Nat × Option FieldType := (y_Model_init, b_Model_init, 4, none)
abbrev M_Model_power : MethodName × ByteArray × Nat × Option FieldType := (y_Model_power, b_Model_power, 4, (some .int))
abbrev M_Model_product : MethodName × ByteArray × Nat × Option FieldType := (y_Model_product, b_Model_product, 4, (some .int))
abbrev M_Model_around : MethodName × ByteArray × Nat × Option FieldType := (y_Model_around, b_Model_around, 2, (some .int))
abbrev M_Model_expand : MethodName × ByteArray × Nat × Option FieldType := (y_Model_expand, b_Model_expand, 9, none)
abbrev M_Model_changed : MethodName × ByteArray × Nat × Option FieldType := (y_Model_changed, b_Model_changed, 2, (some .int))
abbrev M_Model_thrown : MethodName × ByteArray × Nat × Option FieldType := (y_Model_thrown, b_Model_thrown, 1, (some .int))
abbrev M_Model_key : MethodName × ByteArray × Nat × Option FieldType := (y_Model_key, b_Model_key, 6, none)
abbrev M_Model_feed : MethodName × ByteArray × Nat × Option FieldType := (y_Model_feed, b_Model_feed, 4, (some .int))
abbrev M_Model_drop : MethodName × ByteArray × Nat × Option FieldType := (y_Model_drop, b_Model_drop, 1, none)
abbrev M_Model_alter : MethodName × ByteArray × Nat × Option FieldType := (y_Model_alter, b_Model_alter, 3, none)
abbrev M_Model_item : MethodName × ByteArray × Nat × Option FieldType := (y_Model_item, b_Model_item, 2, (some .int))
abbrev M_Model_forget : MethodName × ByteArray × Nat × Option FieldType := (y_Model_forget, b_Model_forget, 2, (some .int))
abbrev M_Model_cipher : MethodName × ByteArray × Nat × Option FieldType := (y_Model_cipher, b_Model_cipher, 3, none)
abbrev M_Model_begin : MethodName × ByteArray × Nat × Option FieldType := (y_Model_begin, b_Model_begin, 2, none)
abbrev M_Model_single : MethodName × ByteArray × Nat × Option FieldType := (y_Model_single, b_Model_single, 3, none)
abbrev M_Model_decipher : MethodName × ByteArray × Nat × Option FieldType := (y_Model_decipher, b_Model_decipher, 6, none)
abbrev M_Model_addKey : MethodName × ByteArray × Nat × Option FieldType := (y_Model_addKey, b_Model_addKey, 4, none)
abbrev M_Model_encipher : MethodName × ByteArray × Nat × Option FieldType := (y_Model_encipher, b_Model_encipher, 6, none)
abbrev M_Model_show : MethodName × ByteArray × Nat × Option FieldType := (y_Model_show, b_Model_show, 2, (some .int))
abbrev M_Model_mark : MethodName × ByteArray × Nat × Option FieldType := (y_Model_mark, b_Model_mark, 3, none)
abbrev M_Model_markJointly : MethodName × ByteArray × Nat × Option FieldType := (y_Model_markJointly, b_Model_markJointly, 3, none)
abbrev M_Model_markText : MethodName × ByteArray × Nat × Option FieldType := (y_Model_markText, b_Model_markText, 5, none)
abbrev M_Model_doubleBlock : MethodName × ByteArray × Nat × Option FieldType := (y_Model_doubleBlock, b_Model_doubleBlock, 3, none)
abbrev M_Model_bitBehind : MethodName × ByteArray × Nat × Option FieldType := (y_Model_bitBehind, b_Model_bitBehind, 2, (some .int))
abbrev M_Model_doubleSum : MethodName × ByteArray × Nat × Option FieldType := (y_Model_doubleSum, b_Model_doubleSum, 3, none)
abbrev M_Model_seal : MethodName × ByteArray × Nat × Option FieldType := (y_Model_seal, b_Model_seal, 3, (some .int))
abbrev M_Model_sealMarked : MethodName × ByteArray × Nat × Option FieldType := (y_Model_sealMarked, b_Model_sealMarked, 2, none)
abbrev M_Model_cross : MethodName × ByteArray × Nat × Option FieldType := (y_Model_cross, b_Model_cross, 7, none)
abbrev M_Model_front : MethodName × ByteArray × Nat × Option FieldType := (y_Model_front, b_Model_front, 4, none)
abbrev M_Model_wrap : MethodName × ByteArray × Nat × Option FieldType := (y_Model_wrap, b_Model_wrap, 5, none)
abbrev M_Model_number : MethodName × ByteArray × Nat × Option FieldType := (y_Model_number, b_Model_number, 2, none)
abbrev M_Model_sealPadded : MethodName × ByteArray × Nat × Option FieldType := (y_Model_sealPadded, b_Model_sealPadded, 3, none)
abbrev M_Model_open : MethodName × ByteArray × Nat × Option FieldType := (y_Model_open, b_Model_open, 4, (some .int))
abbrev M_Model_openMarked : MethodName × ByteArray × Nat × Option FieldType := (y_Model_openMarked, b_Model_openMarked, 3, (some .boolean))
abbrev M_Model_openWrapped : MethodName × ByteArray × Nat × Option FieldType := (y_Model_openWrapped, b_Model_openWrapped, 3, (some .boolean))
abbrev M_Model_unwrap : MethodName × ByteArray × Nat × Option FieldType := (y_Model_unwrap, b_Model_unwrap, 5, none)
abbrev M_Model_dropFront : MethodName × ByteArray × Nat × Option FieldType := (y_Model_dropFront, b_Model_dropFront, 2, none)
abbrev M_Model_openPadded : MethodName × ByteArray × Nat × Option FieldType := (y_Model_openPadded, b_Model_openPadded, 4, (some .boolean))
abbrev M_Model_size : MethodName × ByteArray × Nat × Option FieldType := (y_Model_size, b_Model_size, 1, (some .int))
abbrev M_Model_at : MethodName × ByteArray × Nat × Option FieldType := (y_Model_at, b_Model_at, 2, (some .int))
abbrev M_Model_take : MethodName × ByteArray × Nat × Option FieldType := (y_Model_take, b_Model_take, 2, (some .int))
def nwM : List (String × Nat × MethodName × String) := [(R_Cipher, 26, y_Desk_byteOf, R_Desk), (R_Marker, 20, y_Row_init, R_Desk), (R_Items, 21, y_Row_init, R_Desk), (R_Marked, 3, y_Way_init, R_Desk), (R_Wrapped, 3, y_Way_init, R_Desk), (R_Padded, 3, y_Way_init, R_Desk), (R_Desk, 63, y_Row_init, R_Desk), (R_Padded, 77, y_Desk_byteOf, R_Desk)]
def nwD : List MethodName := [⟨"SealingDesk$Way", "canLock", "(I)Z"⟩, ⟨"SealingDesk$Way", "lock", "(LSealingDesk$Row;LSealingDesk$Row;)V"⟩, ⟨"SealingDesk$Way", "canUnlock", "(I)Z"⟩, ⟨"SealingDesk$Way", "unlock", "(LSealingDesk$Row;LSealingDesk$Row;)Z"⟩]
def nwA : List String := [R_Row, R_Cipher, R_Way]
theorem q_ml_Cipher_26 : (R_Cipher, 26, y_Desk_byteOf, R_Desk) ∈ nwM := List.mem_of_getElem? (i := 0) rfl
theorem q_ml_Marker_20 : (R_Marker, 20, y_Row_init, R_Desk) ∈ nwM := List.mem_of_getElem? (i := 1) rfl
theorem q_ml_Items_21 : (R_Items, 21, y_Row_init, R_Desk) ∈ nwM := List.mem_of_getElem? (i := 2) rfl
theorem q_ml_Marked_3 : (R_Marked, 3, y_Way_init, R_Desk) ∈ nwM := List.mem_of_getElem? (i := 3) rfl
theorem q_ml_Wrapped_3 : (R_Wrapped, 3, y_Way_init, R_Desk) ∈ nwM := List.mem_of_getElem? (i := 4) rfl
theorem q_ml_Padded_3 : (R_Padded, 3, y_Way_init, R_Desk) ∈ nwM := List.mem_of_getElem? (i := 5) rfl
theorem q_ml_Desk_63 : (R_Desk, 63, y_Row_init, R_Desk) ∈ nwM := List.mem_of_getElem? (i := 6) rfl
theorem q_ml_Padded_77 : (R_Padded, 77, y_Desk_byteOf, R_Desk) ∈ nwM := List.mem_of_getElem? (i := 7) rfl
end
section
theorem k_in_Law : Cond.initialized R_Law ∈ tb := tb_i 0 (by decide +kernel) (by decide +kernel)
theorem k_in_Desk : Cond.initialized R_Desk ∈ tb := tb_i 1 (by decide +kernel) (by decide +kernel)
theorem k_in_Tables : Cond.initialized R_Tables ∈ tb := tb_i 2 (by decide +kernel) (by decide +kernel)
theorem k_in_Cipher : Cond.initialized R_Cipher ∈ tb := tb_i 3 (by decide +kernel) (by decide +kernel)
theorem k_in_Wrapping : Cond.initialized R_Wrapping ∈ tb := tb_i 4 (by decide +kernel) (by decide +kernel)
theorem k_in_Marker : Cond.initialized R_Marker ∈ tb := tb_i 5 (by decide +kernel) (by decide +kernel)
theorem k_in_Row : Cond.initialized R_Row ∈ tb := tb_i 6 (by decide +kernel) (by decide +kernel)
theorem k_in_Items : Cond.initialized R_Items ∈ tb := tb_i 7 (by decide +kernel) (by decide +kernel)
theorem k_in_Way : Cond.initialized R_Way ∈ tb := tb_i 8 (by decide +kernel) (by decide +kernel)
theorem k_in_Marked : Cond.initialized R_Marked ∈ tb := tb_i 9 (by decide +kernel) (by decide +kernel)
theorem k_in_Wrapped : Cond.initialized R_Wrapped ∈ tb := tb_i 10 (by decide +kernel) (by decide +kernel)
theorem k_in_Padded : Cond.initialized R_Padded ∈ tb := tb_i 11 (by decide +kernel) (by decide +kernel)
theorem k_in_Model : Cond.initialized R_Model ∈ tb := tb_i 12 (by decide +kernel) (by decide +kernel)
theorem k_in_Throwable : Cond.initialized R_Throwable ∈ tb := tb_i 13 (by decide +kernel) (by decide +kernel)
theorem k_in_Exception : Cond.initialized R_Exception ∈ tb := tb_i 14 (by decide +kernel) (by decide +kernel)
theorem k_in_RuntimeException : Cond.initialized R_RuntimeException ∈ tb := tb_i 15 (by decide +kernel) (by decide +kernel)
theorem k_in_IndexOutOfBoundsException : Cond.initialized R_IndexOutOfBoundsException ∈ tb := tb_i 16 (by decide +kernel) (by decide +kernel)
theorem k_in_IllegalArgumentException : Cond.initialized R_IllegalArgumentException ∈ tb := tb_i 17 (by decide +kernel) (by decide +kernel)
theorem k_in_IllegalStateException : Cond.initialized R_IllegalStateException ∈ tb := tb_i 18 (by decide +kernel) (by decide +kernel)
theorem k_in_System : Cond.initialized R_System ∈ tb := tb_i 19 (by decide +kernel) (by decide +kernel)
theorem k_in_Arrays : Cond.initialized R_Arrays ∈ tb := tb_i 20 (by decide +kernel) (by decide +kernel)
theorem k_cl_Law_8 : Cond.classLink R_Law 8 R_Desk ∈ tb := tb_i 21 (by decide +kernel) (by decide +kernel)
theorem k_it_Desk : Cond.instantiable R_Desk 7 ∈ tb := tb_i 22 (by decide +kernel) (by decide +kernel)
theorem k_ml_Law_45 : Cond.methodLink R_Law 45 y_Desk_init ∈ tb := tb_i 23 (by decide +kernel) (by decide +kernel)
theorem k_im_Desk_init : Cond.instanceMethod y_Desk_init ∈ tb := tb_i 24 (by decide +kernel) (by decide +kernel)
theorem k_cd_Desk_init : Cond.code y_Desk_init b_Desk_init 7 none ∈ tb := tb_i 25 (by decide +kernel) (by decide +kernel)
theorem k_ml_Desk_1 : Cond.methodLink R_Desk 1 y_Object_init ∈ tb := tb_i 26 (by decide +kernel) (by decide +kernel)
theorem k_im_Object_init : Cond.instanceMethod y_Object_init ∈ tb := tb_i 27 (by decide +kernel) (by decide +kernel)
theorem k_cd_Object_init : Cond.code y_Object_init b_Object_init 1 none ∈ tb := tb_i 28 (by decide +kernel) (by decide +kernel)
theorem k_cl_Desk_7 : Cond.classLink R_Desk 7 R_Tables ∈ tb := tb_i 29 (by decide +kernel) (by decide +kernel)
theorem k_it_Tables : Cond.instantiable R_Tables 2 ∈ tb := tb_i 30 (by decide +kernel) (by decide +kernel)
theorem k_ml_Desk_9 : Cond.methodLink R_Desk 9 y_Tables_init ∈ tb := tb_i 31 (by decide +kernel) (by decide +kernel)
theorem k_im_Tables_init : Cond.instanceMethod y_Tables_init ∈ tb := tb_i 32 (by decide +kernel) (by decide +kernel)
theorem k_cd_Tables_init : Cond.code y_Tables_init b_Tables_init 3 none ∈ tb := tb_i 33 (by decide +kernel) (by decide +kernel)
theorem k_ml_Tables_1 : Cond.methodLink R_Tables 1 y_Object_init ∈ tb := tb_i 34 (by decide +kernel) (by decide +kernel)
theorem k_ml_Tables_16 : Cond.methodLink R_Tables 16 y_Tables_twice ∈ tb := tb_i 35 (by decide +kernel) (by decide +kernel)
theorem k_st_Tables_twice : Cond.static y_Tables_twice ∈ tb := tb_i 36 (by decide +kernel) (by decide +kernel)
theorem k_cd_Tables_twice : Cond.code y_Tables_twice b_Tables_twice 1 (some .int) ∈ tb := tb_i 37 (by decide +kernel) (by decide +kernel)
theorem k_ml_Tables_20 : Cond.methodLink R_Tables 20 y_Tables_enter ∈ tb := tb_i 38 (by decide +kernel) (by decide +kernel)
theorem k_im_Tables_enter : Cond.instanceMethod y_Tables_enter ∈ tb := tb_i 40 (by decide +kernel) (by decide +kernel)
theorem k_cd_Tables_enter : Cond.code y_Tables_enter b_Tables_enter 4 none ∈ tb := tb_i 41 (by decide +kernel) (by decide +kernel)
theorem k_ml_Tables_24 : Cond.methodLink R_Tables 24 y_Tables_turnLeft ∈ tb := tb_i 42 (by decide +kernel) (by decide +kernel)
theorem k_st_Tables_turnLeft : Cond.static y_Tables_turnLeft ∈ tb := tb_i 43 (by decide +kernel) (by decide +kernel)
theorem k_cd_Tables_turnLeft : Cond.code y_Tables_turnLeft b_Tables_turnLeft 2 (some .int) ∈ tb := tb_i 44 (by decide +kernel) (by decide +kernel)
theorem k_fl_Tables_7 : Cond.fieldLink R_Tables 7 "SealingDesk$Tables" "forth" "[I" ∈ tb := tb_i 45 (by decide +kernel) (by decide +kernel)
theorem k_fl_Cipher_40 : Cond.fieldLink R_Cipher 40 "SealingDesk$Tables" "forth" "[I" ∈ tb := tb_i 46 (by decide +kernel) (by decide +kernel)
theorem k_fl_Tables_13 : Cond.fieldLink R_Tables 13 "SealingDesk$Tables" "back" "[I" ∈ tb := tb_i 47 (by decide +kernel) (by decide +kernel)
theorem k_fl_Cipher_69 : Cond.fieldLink R_Cipher 69 "SealingDesk$Tables" "back" "[I" ∈ tb := tb_i 48 (by decide +kernel) (by decide +kernel)
theorem k_ly_Tables_forth : Cond.laysFinal R_Tables "SealingDesk$Tables" "forth" "[I" ∈ tb := tb_i 49 (by decide +kernel) (by decide +kernel)
theorem k_ly_Tables_back : Cond.laysFinal R_Tables "SealingDesk$Tables" "back" "[I" ∈ tb := tb_i 51 (by decide +kernel) (by decide +kernel)
theorem k_su_Tables : Cond.superclass R_Tables "java/lang/Object" ∈ tb := tb_i 53 (by decide +kernel) (by decide +kernel)
theorem k_ac_int : Cond.arrayClass .int ∈ tb := tb_i 54 (by decide +kernel) (by decide +kernel)
theorem k_cl_Desk_10 : Cond.classLink R_Desk 10 R_Cipher ∈ tb := tb_i 55 (by decide +kernel) (by decide +kernel)
theorem k_it_Cipher : Cond.instantiable R_Cipher 3 ∈ tb := tb_i 56 (by decide +kernel) (by decide +kernel)
theorem k_ml_Desk_12 : Cond.methodLink R_Desk 12 y_Cipher_init ∈ tb := tb_i 57 (by decide +kernel) (by decide +kernel)
theorem k_im_Cipher_init : Cond.instanceMethod y_Cipher_init ∈ tb := tb_i 58 (by decide +kernel) (by decide +kernel)
theorem k_cd_Cipher_init : Cond.code y_Cipher_init b_Cipher_init 2 none ∈ tb := tb_i 59 (by decide +kernel) (by decide +kernel)
theorem k_ml_Cipher_3 : Cond.methodLink R_Cipher 3 y_Object_init ∈ tb := tb_i 60 (by decide +kernel) (by decide +kernel)
theorem k_ml_Cipher_22 : Cond.methodLink R_Cipher 22 y_Cipher_use ∈ tb := tb_i 61 (by decide +kernel) (by decide +kernel)
theorem k_im_Cipher_use : Cond.instanceMethod y_Cipher_use ∈ tb := tb_i 62 (by decide +kernel) (by decide +kernel)
theorem k_se_Cipher_use_Cipher_use : Cond.selects R_Cipher y_Cipher_use y_Cipher_use ∈ tb := tb_i 63 (by decide +kernel) (by decide +kernel)
theorem k_cd_Cipher_use : Cond.code y_Cipher_use b_Cipher_use 7 none ∈ tb := tb_i 64 (by decide +kernel) (by decide +kernel)
theorem k_st_Desk_byteOf : Cond.static y_Desk_byteOf ∈ tb := tb_i 66 (by decide +kernel) (by decide +kernel)
theorem k_cd_Desk_byteOf : Cond.code y_Desk_byteOf b_Desk_byteOf 2 (some .int) ∈ tb := tb_i 67 (by decide +kernel) (by decide +kernel)
theorem k_ml_Cipher_30 : Cond.methodLink R_Cipher 30 y_Cipher_expandFrom ∈ tb := tb_i 68 (by decide +kernel) (by decide +kernel)
theorem k_im_Cipher_expandFrom : Cond.instanceMethod y_Cipher_expandFrom ∈ tb := tb_i 70 (by decide +kernel) (by decide +kernel)
theorem k_cd_Cipher_expandFrom : Cond.code y_Cipher_expandFrom b_Cipher_expandFrom 5 none ∈ tb := tb_i 71 (by decide +kernel) (by decide +kernel)
theorem k_ml_Cipher_34 : Cond.methodLink R_Cipher 34 y_Tables_twice ∈ tb := tb_i 72 (by decide +kernel) (by decide +kernel)
theorem k_fl_Cipher_18 : Cond.fieldLink R_Cipher 18 "SealingDesk$Cipher" "tables" "LSealingDesk$Tables;" ∈ tb := tb_i 73 (by decide +kernel) (by decide +kernel)
theorem k_fl_Cipher_11 : Cond.fieldLink R_Cipher 11 "SealingDesk$Cipher" "roundKeys" "[I" ∈ tb := tb_i 74 (by decide +kernel) (by decide +kernel)
theorem k_fl_Cipher_15 : Cond.fieldLink R_Cipher 15 "SealingDesk$Cipher" "before" "[I" ∈ tb := tb_i 75 (by decide +kernel) (by decide +kernel)
theorem k_ly_Cipher_tables : Cond.laysFinal R_Cipher "SealingDesk$Cipher" "tables" "LSealingDesk$Tables;" ∈ tb := tb_i 76 (by decide +kernel) (by decide +kernel)
theorem k_ly_Cipher_roundKeys : Cond.laysFinal R_Cipher "SealingDesk$Cipher" "roundKeys" "[I" ∈ tb := tb_i 78 (by decide +kernel) (by decide +kernel)
theorem k_ly_Cipher_before : Cond.laysFinal R_Cipher "SealingDesk$Cipher" "before" "[I" ∈ tb := tb_i 80 (by decide +kernel) (by decide +kernel)
theorem k_su_Cipher : Cond.superclass R_Cipher "java/lang/Object" ∈ tb := tb_i 82 (by decide +kernel) (by decide +kernel)
theorem k_cl_Desk_15 : Cond.classLink R_Desk 15 R_Wrapping ∈ tb := tb_i 83 (by decide +kernel) (by decide +kernel)
theorem k_it_Wrapping : Cond.instantiable R_Wrapping 2 ∈ tb := tb_i 84 (by decide +kernel) (by decide +kernel)
theorem k_ml_Desk_17 : Cond.methodLink R_Desk 17 y_Wrapping_init ∈ tb := tb_i 85 (by decide +kernel) (by decide +kernel)
theorem k_im_Wrapping_init : Cond.instanceMethod y_Wrapping_init ∈ tb := tb_i 86 (by decide +kernel) (by decide +kernel)
theorem k_cd_Wrapping_init : Cond.code y_Wrapping_init b_Wrapping_init 2 none ∈ tb := tb_i 87 (by decide +kernel) (by decide +kernel)
theorem k_ml_Wrapping_3 : Cond.methodLink R_Wrapping 3 y_Object_init ∈ tb := tb_i 88 (by decide +kernel) (by decide +kernel)
theorem k_fl_Wrapping_15 : Cond.fieldLink R_Wrapping 15 "SealingDesk$Wrapping" "cipher" "LSealingDesk$Cipher;" ∈ tb := tb_i 89 (by decide +kernel) (by decide +kernel)
theorem k_fl_Wrapping_9 : Cond.fieldLink R_Wrapping 9 "SealingDesk$Wrapping" "block" "[I" ∈ tb := tb_i 90 (by decide +kernel) (by decide +kernel)
theorem k_ly_Wrapping_cipher : Cond.laysFinal R_Wrapping "SealingDesk$Wrapping" "cipher" "LSealingDesk$Cipher;" ∈ tb := tb_i 91 (by decide +kernel) (by decide +kernel)
theorem k_ly_Wrapping_block : Cond.laysFinal R_Wrapping "SealingDesk$Wrapping" "block" "[I" ∈ tb := tb_i 93 (by decide +kernel) (by decide +kernel)
theorem k_su_Wrapping : Cond.superclass R_Wrapping "java/lang/Object" ∈ tb := tb_i 95 (by decide +kernel) (by decide +kernel)
theorem k_cl_Desk_20 : Cond.classLink R_Desk 20 R_Marker ∈ tb := tb_i 96 (by decide +kernel) (by decide +kernel)
theorem k_it_Marker : Cond.instantiable R_Marker 4 ∈ tb := tb_i 97 (by decide +kernel) (by decide +kernel)
theorem k_ml_Desk_22 : Cond.methodLink R_Desk 22 y_Marker_init ∈ tb := tb_i 98 (by decide +kernel) (by decide +kernel)
theorem k_im_Marker_init : Cond.instanceMethod y_Marker_init ∈ tb := tb_i 99 (by decide +kernel) (by decide +kernel)
theorem k_cd_Marker_init : Cond.code y_Marker_init b_Marker_init 2 none ∈ tb := tb_i 100 (by decide +kernel) (by decide +kernel)
theorem k_ml_Marker_3 : Cond.methodLink R_Marker 3 y_Object_init ∈ tb := tb_i 101 (by decide +kernel) (by decide +kernel)
theorem k_cl_Marker_18 : Cond.classLink R_Marker 18 R_Row ∈ tb := tb_i 102 (by decide +kernel) (by decide +kernel)
theorem k_it_Row : Cond.instantiable R_Row 2 ∈ tb := tb_i 103 (by decide +kernel) (by decide +kernel)
theorem k_im_Row_init : Cond.instanceMethod y_Row_init ∈ tb := tb_i 105 (by decide +kernel) (by decide +kernel)
theorem k_cd_Row_init : Cond.code y_Row_init b_Row_init 1 none ∈ tb := tb_i 106 (by decide +kernel) (by decide +kernel)
theorem k_ml_Row_3 : Cond.methodLink R_Row 3 y_Object_init ∈ tb := tb_i 107 (by decide +kernel) (by decide +kernel)
theorem k_fl_Row_9 : Cond.fieldLink R_Row 9 "SealingDesk$Row" "bytes" "[I" ∈ tb := tb_i 108 (by decide +kernel) (by decide +kernel)
theorem k_fl_Marker_39 : Cond.fieldLink R_Marker 39 "SealingDesk$Row" "bytes" "[I" ∈ tb := tb_i 109 (by decide +kernel) (by decide +kernel)
theorem k_fl_Wrapping_45 : Cond.fieldLink R_Wrapping 45 "SealingDesk$Row" "bytes" "[I" ∈ tb := tb_i 110 (by decide +kernel) (by decide +kernel)
theorem k_fl_Padded_33 : Cond.fieldLink R_Padded 33 "SealingDesk$Row" "bytes" "[I" ∈ tb := tb_i 111 (by decide +kernel) (by decide +kernel)
theorem k_fl_Wrapped_28 : Cond.fieldLink R_Wrapped 28 "SealingDesk$Row" "bytes" "[I" ∈ tb := tb_i 112 (by decide +kernel) (by decide +kernel)
theorem k_fl_Marked_48 : Cond.fieldLink R_Marked 48 "SealingDesk$Row" "bytes" "[I" ∈ tb := tb_i 113 (by decide +kernel) (by decide +kernel)
theorem k_fl_Desk_118 : Cond.fieldLink R_Desk 118 "SealingDesk$Row" "bytes" "[I" ∈ tb := tb_i 114 (by decide +kernel) (by decide +kernel)
theorem k_fl_Row_15 : Cond.fieldLink R_Row 15 "SealingDesk$Row" "length" "I" ∈ tb := tb_i 115 (by decide +kernel) (by decide +kernel)
theorem k_fl_Marker_29 : Cond.fieldLink R_Marker 29 "SealingDesk$Row" "length" "I" ∈ tb := tb_i 116 (by decide +kernel) (by decide +kernel)
theorem k_fl_Wrapping_19 : Cond.fieldLink R_Wrapping 19 "SealingDesk$Row" "length" "I" ∈ tb := tb_i 117 (by decide +kernel) (by decide +kernel)
theorem k_fl_Desk_90 : Cond.fieldLink R_Desk 90 "SealingDesk$Row" "length" "I" ∈ tb := tb_i 118 (by decide +kernel) (by decide +kernel)
theorem k_fl_Padded_29 : Cond.fieldLink R_Padded 29 "SealingDesk$Row" "length" "I" ∈ tb := tb_i 119 (by decide +kernel) (by decide +kernel)
theorem k_fl_Wrapped_32 : Cond.fieldLink R_Wrapped 32 "SealingDesk$Row" "length" "I" ∈ tb := tb_i 120 (by decide +kernel) (by decide +kernel)
theorem k_fl_Marked_51 : Cond.fieldLink R_Marked 51 "SealingDesk$Row" "length" "I" ∈ tb := tb_i 121 (by decide +kernel) (by decide +kernel)
theorem k_ly_Row_bytes : Cond.laysFinal R_Row "SealingDesk$Row" "bytes" "[I" ∈ tb := tb_i 122 (by decide +kernel) (by decide +kernel)
theorem k_ly_Row_length : Cond.lays R_Row "SealingDesk$Row" "length" "I" ∈ tb := tb_i 124 (by decide +kernel) (by decide +kernel)
theorem k_su_Row : Cond.superclass R_Row "java/lang/Object" ∈ tb := tb_i 126 (by decide +kernel) (by decide +kernel)
theorem k_fl_Marker_25 : Cond.fieldLink R_Marker 25 "SealingDesk$Marker" "cipher" "LSealingDesk$Cipher;" ∈ tb := tb_i 127 (by decide +kernel) (by decide +kernel)
theorem k_fl_Marker_9 : Cond.fieldLink R_Marker 9 "SealingDesk$Marker" "twist" "[I" ∈ tb := tb_i 128 (by decide +kernel) (by decide +kernel)
theorem k_fl_Marker_15 : Cond.fieldLink R_Marker 15 "SealingDesk$Marker" "sum" "[I" ∈ tb := tb_i 129 (by decide +kernel) (by decide +kernel)
theorem k_fl_Marker_21 : Cond.fieldLink R_Marker 21 "SealingDesk$Marker" "joined" "LSealingDesk$Row;" ∈ tb := tb_i 130 (by decide +kernel) (by decide +kernel)
theorem k_ly_Marker_cipher : Cond.laysFinal R_Marker "SealingDesk$Marker" "cipher" "LSealingDesk$Cipher;" ∈ tb := tb_i 131 (by decide +kernel) (by decide +kernel)
theorem k_ly_Marker_twist : Cond.laysFinal R_Marker "SealingDesk$Marker" "twist" "[I" ∈ tb := tb_i 133 (by decide +kernel) (by decide +kernel)
theorem k_ly_Marker_sum : Cond.laysFinal R_Marker "SealingDesk$Marker" "sum" "[I" ∈ tb := tb_i 135 (by decide +kernel) (by decide +kernel)
theorem k_ly_Marker_joined : Cond.laysFinal R_Marker "SealingDesk$Marker" "joined" "LSealingDesk$Row;" ∈ tb := tb_i 137 (by decide +kernel) (by decide +kernel)
theorem k_su_Marker : Cond.superclass R_Marker "java/lang/Object" ∈ tb := tb_i 139 (by decide +kernel) (by decide +kernel)
theorem k_cl_Desk_23 : Cond.classLink R_Desk 23 R_Items ∈ tb := tb_i 140 (by decide +kernel) (by decide +kernel)
theorem k_it_Items : Cond.instantiable R_Items 2 ∈ tb := tb_i 141 (by decide +kernel) (by decide +kernel)
theorem k_ml_Desk_25 : Cond.methodLink R_Desk 25 y_Items_init ∈ tb := tb_i 142 (by decide +kernel) (by decide +kernel)
theorem k_im_Items_init : Cond.instanceMethod y_Items_init ∈ tb := tb_i 143 (by decide +kernel) (by decide +kernel)
theorem k_cd_Items_init : Cond.code y_Items_init b_Items_init 2 none ∈ tb := tb_i 144 (by decide +kernel) (by decide +kernel)
theorem k_ml_Items_3 : Cond.methodLink R_Items 3 y_Object_init ∈ tb := tb_i 145 (by decide +kernel) (by decide +kernel)
theorem k_cl_Items_9 : Cond.classLink R_Items 9 R_Row ∈ tb := tb_i 146 (by decide +kernel) (by decide +kernel)
theorem k_fl_Items_11 : Cond.fieldLink R_Items 11 "SealingDesk$Items" "rows" "[LSealingDesk$Row;" ∈ tb := tb_i 149 (by decide +kernel) (by decide +kernel)
theorem k_fl_Marker_74 : Cond.fieldLink R_Marker 74 "SealingDesk$Items" "rows" "[LSealingDesk$Row;" ∈ tb := tb_i 150 (by decide +kernel) (by decide +kernel)
theorem k_fl_Desk_129 : Cond.fieldLink R_Desk 129 "SealingDesk$Items" "rows" "[LSealingDesk$Row;" ∈ tb := tb_i 151 (by decide +kernel) (by decide +kernel)
theorem k_fl_Items_17 : Cond.fieldLink R_Items 17 "SealingDesk$Items" "count" "I" ∈ tb := tb_i 152 (by decide +kernel) (by decide +kernel)
theorem k_fl_Marker_69 : Cond.fieldLink R_Marker 69 "SealingDesk$Items" "count" "I" ∈ tb := tb_i 153 (by decide +kernel) (by decide +kernel)
theorem k_fl_Desk_124 : Cond.fieldLink R_Desk 124 "SealingDesk$Items" "count" "I" ∈ tb := tb_i 154 (by decide +kernel) (by decide +kernel)
theorem k_ly_Items_rows : Cond.laysFinal R_Items "SealingDesk$Items" "rows" "[LSealingDesk$Row;" ∈ tb := tb_i 155 (by decide +kernel) (by decide +kernel)
theorem k_ly_Items_count : Cond.lays R_Items "SealingDesk$Items" "count" "I" ∈ tb := tb_i 157 (by decide +kernel) (by decide +kernel)
theorem k_su_Items : Cond.superclass R_Items "java/lang/Object" ∈ tb := tb_i 159 (by decide +kernel) (by decide +kernel)
theorem k_cl_Desk_40 : Cond.classLink R_Desk 40 R_Way ∈ tb := tb_i 161 (by decide +kernel) (by decide +kernel)
theorem k_cl_Desk_42 : Cond.classLink R_Desk 42 R_Marked ∈ tb := tb_i 163 (by decide +kernel) (by decide +kernel)
theorem k_it_Marked : Cond.instantiable R_Marked 6 ∈ tb := tb_i 164 (by decide +kernel) (by decide +kernel)
theorem k_ml_Desk_44 : Cond.methodLink R_Desk 44 y_Marked_init ∈ tb := tb_i 165 (by decide +kernel) (by decide +kernel)
theorem k_im_Marked_init : Cond.instanceMethod y_Marked_init ∈ tb := tb_i 166 (by decide +kernel) (by decide +kernel)
theorem k_cd_Marked_init : Cond.code y_Marked_init b_Marked_init 4 none ∈ tb := tb_i 167 (by decide +kernel) (by decide +kernel)
theorem k_im_Way_init : Cond.instanceMethod y_Way_init ∈ tb := tb_i 169 (by decide +kernel) (by decide +kernel)
theorem k_cd_Way_init : Cond.code y_Way_init b_Way_init 1 none ∈ tb := tb_i 170 (by decide +kernel) (by decide +kernel)
theorem k_ml_Way_1 : Cond.methodLink R_Way 1 y_Object_init ∈ tb := tb_i 171 (by decide +kernel) (by decide +kernel)
theorem k_fl_Marked_21 : Cond.fieldLink R_Marked 21 "SealingDesk$Marked" "marker" "LSealingDesk$Marker;" ∈ tb := tb_i 172 (by decide +kernel) (by decide +kernel)
theorem k_fl_Marked_25 : Cond.fieldLink R_Marked 25 "SealingDesk$Marked" "items" "LSealingDesk$Items;" ∈ tb := tb_i 173 (by decide +kernel) (by decide +kernel)
theorem k_fl_Marked_29 : Cond.fieldLink R_Marked 29 "SealingDesk$Marked" "cipher" "LSealingDesk$Cipher;" ∈ tb := tb_i 174 (by decide +kernel) (by decide +kernel)
theorem k_fl_Marked_9 : Cond.fieldLink R_Marked 9 "SealingDesk$Marked" "sign" "[I" ∈ tb := tb_i 175 (by decide +kernel) (by decide +kernel)
theorem k_fl_Marked_15 : Cond.fieldLink R_Marked 15 "SealingDesk$Marked" "counter" "[I" ∈ tb := tb_i 176 (by decide +kernel) (by decide +kernel)
theorem k_fl_Marked_18 : Cond.fieldLink R_Marked 18 "SealingDesk$Marked" "block" "[I" ∈ tb := tb_i 177 (by decide +kernel) (by decide +kernel)
theorem k_ly_Marked_marker : Cond.laysFinal R_Marked "SealingDesk$Marked" "marker" "LSealingDesk$Marker;" ∈ tb := tb_i 178 (by decide +kernel) (by decide +kernel)
theorem k_ly_Marked_items : Cond.laysFinal R_Marked "SealingDesk$Marked" "items" "LSealingDesk$Items;" ∈ tb := tb_i 180 (by decide +kernel) (by decide +kernel)
theorem k_ly_Marked_cipher : Cond.laysFinal R_Marked "SealingDesk$Marked" "cipher" "LSealingDesk$Cipher;" ∈ tb := tb_i 182 (by decide +kernel) (by decide +kernel)
theorem k_ly_Marked_sign : Cond.laysFinal R_Marked "SealingDesk$Marked" "sign" "[I" ∈ tb := tb_i 184 (by decide +kernel) (by decide +kernel)
theorem k_ly_Marked_counter : Cond.laysFinal R_Marked "SealingDesk$Marked" "counter" "[I" ∈ tb := tb_i 186 (by decide +kernel) (by decide +kernel)
theorem k_ly_Marked_block : Cond.laysFinal R_Marked "SealingDesk$Marked" "block" "[I" ∈ tb := tb_i 188 (by decide +kernel) (by decide +kernel)
theorem k_su_Marked : Cond.superclass R_Marked R_Way ∈ tb := tb_i 190 (by decide +kernel) (by decide +kernel)
theorem k_cl_Desk_47 : Cond.classLink R_Desk 47 R_Wrapped ∈ tb := tb_i 191 (by decide +kernel) (by decide +kernel)
theorem k_it_Wrapped : Cond.instantiable R_Wrapped 1 ∈ tb := tb_i 192 (by decide +kernel) (by decide +kernel)
theorem k_ml_Desk_49 : Cond.methodLink R_Desk 49 y_Wrapped_init ∈ tb := tb_i 193 (by decide +kernel) (by decide +kernel)
theorem k_im_Wrapped_init : Cond.instanceMethod y_Wrapped_init ∈ tb := tb_i 194 (by decide +kernel) (by decide +kernel)
theorem k_cd_Wrapped_init : Cond.code y_Wrapped_init b_Wrapped_init 2 none ∈ tb := tb_i 195 (by decide +kernel) (by decide +kernel)
theorem k_fl_Wrapped_9 : Cond.fieldLink R_Wrapped 9 "SealingDesk$Wrapped" "wrapping" "LSealingDesk$Wrapping;" ∈ tb := tb_i 197 (by decide +kernel) (by decide +kernel)
theorem k_ly_Wrapped_wrapping : Cond.laysFinal R_Wrapped "SealingDesk$Wrapped" "wrapping" "LSealingDesk$Wrapping;" ∈ tb := tb_i 198 (by decide +kernel) (by decide +kernel)
theorem k_su_Wrapped : Cond.superclass R_Wrapped R_Way ∈ tb := tb_i 200 (by decide +kernel) (by decide +kernel)
theorem k_cl_Desk_52 : Cond.classLink R_Desk 52 R_Padded ∈ tb := tb_i 201 (by decide +kernel) (by decide +kernel)
theorem k_it_Padded : Cond.instantiable R_Padded 2 ∈ tb := tb_i 202 (by decide +kernel) (by decide +kernel)
theorem k_ml_Desk_54 : Cond.methodLink R_Desk 54 y_Padded_init ∈ tb := tb_i 203 (by decide +kernel) (by decide +kernel)
theorem k_im_Padded_init : Cond.instanceMethod y_Padded_init ∈ tb := tb_i 204 (by decide +kernel) (by decide +kernel)
theorem k_cd_Padded_init : Cond.code y_Padded_init b_Padded_init 3 none ∈ tb := tb_i 205 (by decide +kernel) (by decide +kernel)
theorem k_fl_Padded_9 : Cond.fieldLink R_Padded 9 "SealingDesk$Padded" "wrapping" "LSealingDesk$Wrapping;" ∈ tb := tb_i 207 (by decide +kernel) (by decide +kernel)
theorem k_fl_Padded_15 : Cond.fieldLink R_Padded 15 "SealingDesk$Padded" "cipher" "LSealingDesk$Cipher;" ∈ tb := tb_i 208 (by decide +kernel) (by decide +kernel)
theorem k_ly_Padded_wrapping : Cond.laysFinal R_Padded "SealingDesk$Padded" "wrapping" "LSealingDesk$Wrapping;" ∈ tb := tb_i 209 (by decide +kernel) (by decide +kernel)
theorem k_ly_Padded_cipher : Cond.laysFinal R_Padded "SealingDesk$Padded" "cipher" "LSealingDesk$Cipher;" ∈ tb := tb_i 211 (by decide +kernel) (by decide +kernel)
theorem k_su_Padded : Cond.superclass R_Padded R_Way ∈ tb := tb_i 213 (by decide +kernel) (by decide +kernel)
theorem k_cl_Desk_61 : Cond.classLink R_Desk 61 R_Row ∈ tb := tb_i 214 (by decide +kernel) (by decide +kernel)
theorem k_fl_Desk_26 : Cond.fieldLink R_Desk 26 "SealingDesk" "ciphers" "[LSealingDesk$Cipher;" ∈ tb := tb_i 216 (by decide +kernel) (by decide +kernel)
theorem k_fl_Desk_32 : Cond.fieldLink R_Desk 32 "SealingDesk" "marker" "LSealingDesk$Marker;" ∈ tb := tb_i 217 (by decide +kernel) (by decide +kernel)
theorem k_fl_Desk_57 : Cond.fieldLink R_Desk 57 "SealingDesk" "ways" "[LSealingDesk$Way;" ∈ tb := tb_i 218 (by decide +kernel) (by decide +kernel)
theorem k_fl_Desk_36 : Cond.fieldLink R_Desk 36 "SealingDesk" "items" "LSealingDesk$Items;" ∈ tb := tb_i 219 (by decide +kernel) (by decide +kernel)
theorem k_fl_Desk_64 : Cond.fieldLink R_Desk 64 "SealingDesk" "input" "LSealingDesk$Row;" ∈ tb := tb_i 220 (by decide +kernel) (by decide +kernel)
theorem k_fl_Desk_68 : Cond.fieldLink R_Desk 68 "SealingDesk" "output" "LSealingDesk$Row;" ∈ tb := tb_i 221 (by decide +kernel) (by decide +kernel)
theorem k_fl_Desk_71 : Cond.fieldLink R_Desk 71 "SealingDesk" "opened" "LSealingDesk$Row;" ∈ tb := tb_i 222 (by decide +kernel) (by decide +kernel)
theorem k_ly_Desk_ciphers : Cond.laysFinal R_Desk "SealingDesk" "ciphers" "[LSealingDesk$Cipher;" ∈ tb := tb_i 223 (by decide +kernel) (by decide +kernel)
theorem k_ly_Desk_marker : Cond.laysFinal R_Desk "SealingDesk" "marker" "LSealingDesk$Marker;" ∈ tb := tb_i 225 (by decide +kernel) (by decide +kernel)
theorem k_ly_Desk_ways : Cond.laysFinal R_Desk "SealingDesk" "ways" "[LSealingDesk$Way;" ∈ tb := tb_i 227 (by decide +kernel) (by decide +kernel)
theorem k_ly_Desk_items : Cond.laysFinal R_Desk "SealingDesk" "items" "LSealingDesk$Items;" ∈ tb := tb_i 229 (by decide +kernel) (by decide +kernel)
theorem k_ly_Desk_input : Cond.laysFinal R_Desk "SealingDesk" "input" "LSealingDesk$Row;" ∈ tb := tb_i 231 (by decide +kernel) (by decide +kernel)
theorem k_ly_Desk_output : Cond.laysFinal R_Desk "SealingDesk" "output" "LSealingDesk$Row;" ∈ tb := tb_i 233 (by decide +kernel) (by decide +kernel)
theorem k_ly_Desk_opened : Cond.laysFinal R_Desk "SealingDesk" "opened" "LSealingDesk$Row;" ∈ tb := tb_i 235 (by decide +kernel) (by decide +kernel)
theorem k_su_Desk : Cond.superclass R_Desk "java/lang/Object" ∈ tb := tb_i 237 (by decide +kernel) (by decide +kernel)
theorem k_ml_Law_62 : Cond.methodLink R_Law 62 y_Desk_drop ∈ tb := tb_i 238 (by decide +kernel) (by decide +kernel)
theorem k_im_Desk_drop : Cond.instanceMethod y_Desk_drop ∈ tb := tb_i 239 (by decide +kernel) (by decide +kernel)
theorem k_se_Desk_drop_Desk_drop : Cond.selects R_Desk y_Desk_drop y_Desk_drop ∈ tb := tb_i 240 (by decide +kernel) (by decide +kernel)
theorem k_cd_Desk_drop : Cond.code y_Desk_drop b_Desk_drop 1 none ∈ tb := tb_i 241 (by decide +kernel) (by decide +kernel)
theorem k_ml_Desk_107 : Cond.methodLink R_Desk 107 y_Row_clear ∈ tb := tb_i 242 (by decide +kernel) (by decide +kernel)
theorem k_im_Row_clear : Cond.instanceMethod y_Row_clear ∈ tb := tb_i 243 (by decide +kernel) (by decide +kernel)
theorem k_se_Row_clear_Row_clear : Cond.selects R_Row y_Row_clear y_Row_clear ∈ tb := tb_i 244 (by decide +kernel) (by decide +kernel)
theorem k_cd_Row_clear : Cond.code y_Row_clear b_Row_clear 1 none ∈ tb := tb_i 245 (by decide +kernel) (by decide +kernel)
theorem k_ml_Law_74 : Cond.methodLink R_Law 74 y_Desk_forget ∈ tb := tb_i 246 (by decide +kernel) (by decide +kernel)
theorem k_im_Desk_forget : Cond.instanceMethod y_Desk_forget ∈ tb := tb_i 247 (by decide +kernel) (by decide +kernel)
theorem k_se_Desk_forget_Desk_forget : Cond.selects R_Desk y_Desk_forget y_Desk_forget ∈ tb := tb_i 248 (by decide +kernel) (by decide +kernel)
theorem k_cd_Desk_forget : Cond.code y_Desk_forget b_Desk_forget 2 (some .int) ∈ tb := tb_i 249 (by decide +kernel) (by decide +kernel)
theorem k_ml_Law_82 : Cond.methodLink R_Law 82 y_Desk_mark ∈ tb := tb_i 250 (by decide +kernel) (by decide +kernel)
theorem k_im_Desk_mark : Cond.instanceMethod y_Desk_mark ∈ tb := tb_i 251 (by decide +kernel) (by decide +kernel)
theorem k_se_Desk_mark_Desk_mark : Cond.selects R_Desk y_Desk_mark y_Desk_mark ∈ tb := tb_i 252 (by decide +kernel) (by decide +kernel)
theorem k_cd_Desk_mark : Cond.code y_Desk_mark b_Desk_mark 2 none ∈ tb := tb_i 253 (by decide +kernel) (by decide +kernel)
theorem k_ml_Desk_146 : Cond.methodLink R_Desk 146 y_Marker_join ∈ tb := tb_i 254 (by decide +kernel) (by decide +kernel)
theorem k_im_Marker_join : Cond.instanceMethod y_Marker_join ∈ tb := tb_i 255 (by decide +kernel) (by decide +kernel)
theorem k_se_Marker_join_Marker_join : Cond.selects R_Marker y_Marker_join y_Marker_join ∈ tb := tb_i 256 (by decide +kernel) (by decide +kernel)
theorem k_cd_Marker_join : Cond.code y_Marker_join b_Marker_join 5 none ∈ tb := tb_i 257 (by decide +kernel) (by decide +kernel)
theorem k_ml_Marker_58 : Cond.methodLink R_Marker 58 y_Row_clear ∈ tb := tb_i 258 (by decide +kernel) (by decide +kernel)
theorem k_ml_Marker_61 : Cond.methodLink R_Marker 61 y_Row_addZeros ∈ tb := tb_i 259 (by decide +kernel) (by decide +kernel)
theorem k_im_Row_addZeros : Cond.instanceMethod y_Row_addZeros ∈ tb := tb_i 260 (by decide +kernel) (by decide +kernel)
theorem k_se_Row_addZeros_Row_addZeros : Cond.selects R_Row y_Row_addZeros y_Row_addZeros ∈ tb := tb_i 261 (by decide +kernel) (by decide +kernel)
theorem k_cd_Row_addZeros : Cond.code y_Row_addZeros b_Row_addZeros 3 none ∈ tb := tb_i 262 (by decide +kernel) (by decide +kernel)
theorem k_ml_Row_25 : Cond.methodLink R_Row 25 y_Row_add ∈ tb := tb_i 263 (by decide +kernel) (by decide +kernel)
theorem k_im_Row_add : Cond.instanceMethod y_Row_add ∈ tb := tb_i 264 (by decide +kernel) (by decide +kernel)
theorem k_se_Row_add_Row_add : Cond.selects R_Row y_Row_add y_Row_add ∈ tb := tb_i 265 (by decide +kernel) (by decide +kernel)
theorem k_cd_Row_add : Cond.code y_Row_add b_Row_add 2 none ∈ tb := tb_i 266 (by decide +kernel) (by decide +kernel)
theorem k_ml_Marker_65 : Cond.methodLink R_Marker 65 y_Marker_markRow ∈ tb := tb_i 267 (by decide +kernel) (by decide +kernel)
theorem k_im_Marker_markRow : Cond.instanceMethod y_Marker_markRow ∈ tb := tb_i 268 (by decide +kernel) (by decide +kernel)
theorem k_se_Marker_markRow_Marker_markRow : Cond.selects R_Marker y_Marker_markRow y_Marker_markRow ∈ tb := tb_i 269 (by decide +kernel) (by decide +kernel)
theorem k_cd_Marker_markRow : Cond.code y_Marker_markRow b_Marker_markRow 5 none ∈ tb := tb_i 270 (by decide +kernel) (by decide +kernel)
theorem k_ml_Marker_33 : Cond.methodLink R_Marker 33 y_Arrays_fill ∈ tb := tb_i 271 (by decide +kernel) (by decide +kernel)
theorem k_st_Arrays_fill : Cond.static y_Arrays_fill ∈ tb := tb_i 272 (by decide +kernel) (by decide +kernel)
theorem k_cd_Arrays_fill : Cond.code y_Arrays_fill b_Arrays_fill 5 none ∈ tb := tb_i 273 (by decide +kernel) (by decide +kernel)
theorem k_ml_Arrays_13 : Cond.methodLink R_Arrays 13 y_Arrays_rangeCheck ∈ tb := tb_i 274 (by decide +kernel) (by decide +kernel)
theorem k_st_Arrays_rangeCheck : Cond.static y_Arrays_rangeCheck ∈ tb := tb_i 275 (by decide +kernel) (by decide +kernel)
theorem k_cd_Arrays_rangeCheck : Cond.code y_Arrays_rangeCheck b_Arrays_rangeCheck 3 none ∈ tb := tb_i 276 (by decide +kernel) (by decide +kernel)
theorem k_ml_Marker_42 : Cond.methodLink R_Marker 42 y_Marker_addTo ∈ tb := tb_i 277 (by decide +kernel) (by decide +kernel)
theorem k_st_Marker_addTo : Cond.static y_Marker_addTo ∈ tb := tb_i 278 (by decide +kernel) (by decide +kernel)
theorem k_cd_Marker_addTo : Cond.code y_Marker_addTo b_Marker_addTo 5 none ∈ tb := tb_i 279 (by decide +kernel) (by decide +kernel)
theorem k_ml_Marker_46 : Cond.methodLink R_Marker 46 y_Cipher_turn ∈ tb := tb_i 280 (by decide +kernel) (by decide +kernel)
theorem k_im_Cipher_turn : Cond.instanceMethod y_Cipher_turn ∈ tb := tb_i 281 (by decide +kernel) (by decide +kernel)
theorem k_se_Cipher_turn_Cipher_turn : Cond.selects R_Cipher y_Cipher_turn y_Cipher_turn ∈ tb := tb_i 282 (by decide +kernel) (by decide +kernel)
theorem k_cd_Cipher_turn : Cond.code y_Cipher_turn b_Cipher_turn 3 none ∈ tb := tb_i 283 (by decide +kernel) (by decide +kernel)
theorem k_ml_Cipher_43 : Cond.methodLink R_Cipher 43 y_Cipher_addRoundKey ∈ tb := tb_i 284 (by decide +kernel) (by decide +kernel)
theorem k_im_Cipher_addRoundKey : Cond.instanceMethod y_Cipher_addRoundKey ∈ tb := tb_i 286 (by decide +kernel) (by decide +kernel)
theorem k_cd_Cipher_addRoundKey : Cond.code y_Cipher_addRoundKey b_Cipher_addRoundKey 4 none ∈ tb := tb_i 287 (by decide +kernel) (by decide +kernel)
theorem k_ml_Cipher_47 : Cond.methodLink R_Cipher 47 y_Cipher_substitute ∈ tb := tb_i 288 (by decide +kernel) (by decide +kernel)
theorem k_im_Cipher_substitute : Cond.instanceMethod y_Cipher_substitute ∈ tb := tb_i 290 (by decide +kernel) (by decide +kernel)
theorem k_cd_Cipher_substitute : Cond.code y_Cipher_substitute b_Cipher_substitute 3 none ∈ tb := tb_i 291 (by decide +kernel) (by decide +kernel)
theorem k_ml_Cipher_60 : Cond.methodLink R_Cipher 60 ⟨"java/lang/System", "arraycopy", "(Ljava/lang/Object;ILjava/lang/Object;II)V"⟩ ∈ tb := tb_i 292 (by decide +kernel) (by decide +kernel)
theorem k_st_System_arraycopy : Cond.static ⟨"java/lang/System", "arraycopy", "(Ljava/lang/Object;ILjava/lang/Object;II)V"⟩ ∈ tb := tb_i 293 (by decide +kernel) (by decide +kernel)
theorem k_nt_System_arraycopy : Cond.native ⟨"java/lang/System", "arraycopy", "(Ljava/lang/Object;ILjava/lang/Object;II)V"⟩ ∈ tb := tb_i 294 (by decide +kernel) (by decide +kernel)
theorem k_ml_Cipher_66 : Cond.methodLink R_Cipher 66 y_Cipher_placeBefore ∈ tb := tb_i 295 (by decide +kernel) (by decide +kernel)
theorem k_st_Cipher_placeBefore : Cond.static y_Cipher_placeBefore ∈ tb := tb_i 296 (by decide +kernel) (by decide +kernel)
theorem k_cd_Cipher_placeBefore : Cond.code y_Cipher_placeBefore b_Cipher_placeBefore 1 (some .int) ∈ tb := tb_i 297 (by decide +kernel) (by decide +kernel)
theorem k_ml_Cipher_51 : Cond.methodLink R_Cipher 51 y_Cipher_mix ∈ tb := tb_i 298 (by decide +kernel) (by decide +kernel)
theorem k_st_Cipher_mix : Cond.static y_Cipher_mix ∈ tb := tb_i 299 (by decide +kernel) (by decide +kernel)
theorem k_cd_Cipher_mix : Cond.code y_Cipher_mix b_Cipher_mix 7 none ∈ tb := tb_i 300 (by decide +kernel) (by decide +kernel)
theorem k_ml_Marker_52 : Cond.methodLink R_Marker 52 y_Arrays_fill1 ∈ tb := tb_i 301 (by decide +kernel) (by decide +kernel)
theorem k_st_Arrays_fill1 : Cond.static y_Arrays_fill1 ∈ tb := tb_i 302 (by decide +kernel) (by decide +kernel)
theorem k_cd_Arrays_fill1 : Cond.code y_Arrays_fill1 b_Arrays_fill1 4 none ∈ tb := tb_i 303 (by decide +kernel) (by decide +kernel)
theorem k_ml_Marker_55 : Cond.methodLink R_Marker 55 y_Marker_doubleBlock ∈ tb := tb_i 304 (by decide +kernel) (by decide +kernel)
theorem k_st_Marker_doubleBlock : Cond.static y_Marker_doubleBlock ∈ tb := tb_i 305 (by decide +kernel) (by decide +kernel)
theorem k_cd_Marker_doubleBlock : Cond.code y_Marker_doubleBlock b_Marker_doubleBlock 3 none ∈ tb := tb_i 306 (by decide +kernel) (by decide +kernel)
theorem k_ml_Marker_78 : Cond.methodLink R_Marker 78 y_Row_become ∈ tb := tb_i 307 (by decide +kernel) (by decide +kernel)
theorem k_im_Row_become : Cond.instanceMethod y_Row_become ∈ tb := tb_i 308 (by decide +kernel) (by decide +kernel)
theorem k_se_Row_become_Row_become : Cond.selects R_Row y_Row_become y_Row_become ∈ tb := tb_i 309 (by decide +kernel) (by decide +kernel)
theorem k_cd_Row_become : Cond.code y_Row_become b_Row_become 2 none ∈ tb := tb_i 310 (by decide +kernel) (by decide +kernel)
theorem k_ml_Row_29 : Cond.methodLink R_Row 29 y_Row_becomeRest ∈ tb := tb_i 311 (by decide +kernel) (by decide +kernel)
theorem k_im_Row_becomeRest : Cond.instanceMethod y_Row_becomeRest ∈ tb := tb_i 312 (by decide +kernel) (by decide +kernel)
theorem k_se_Row_becomeRest_Row_becomeRest : Cond.selects R_Row y_Row_becomeRest y_Row_becomeRest ∈ tb := tb_i 313 (by decide +kernel) (by decide +kernel)
theorem k_cd_Row_becomeRest : Cond.code y_Row_becomeRest b_Row_becomeRest 3 none ∈ tb := tb_i 314 (by decide +kernel) (by decide +kernel)
theorem k_ml_Row_19 : Cond.methodLink R_Row 19 ⟨"java/lang/System", "arraycopy", "(Ljava/lang/Object;ILjava/lang/Object;II)V"⟩ ∈ tb := tb_i 315 (by decide +kernel) (by decide +kernel)
theorem k_ml_Marker_82 : Cond.methodLink R_Marker 82 y_Row_add ∈ tb := tb_i 316 (by decide +kernel) (by decide +kernel)
theorem k_ml_Marker_85 : Cond.methodLink R_Marker 85 y_Marker_addToEnd ∈ tb := tb_i 317 (by decide +kernel) (by decide +kernel)
theorem k_st_Marker_addToEnd : Cond.static y_Marker_addToEnd ∈ tb := tb_i 318 (by decide +kernel) (by decide +kernel)
theorem k_cd_Marker_addToEnd : Cond.code y_Marker_addToEnd b_Marker_addToEnd 4 none ∈ tb := tb_i 319 (by decide +kernel) (by decide +kernel)
theorem k_ml_Desk_150 : Cond.methodLink R_Desk 150 y_Marker_markRow ∈ tb := tb_i 320 (by decide +kernel) (by decide +kernel)
theorem k_ml_Law_93 : Cond.methodLink R_Law 93 y_Desk_size ∈ tb := tb_i 321 (by decide +kernel) (by decide +kernel)
theorem k_im_Desk_size : Cond.instanceMethod y_Desk_size ∈ tb := tb_i 322 (by decide +kernel) (by decide +kernel)
theorem k_se_Desk_size_Desk_size : Cond.selects R_Desk y_Desk_size y_Desk_size ∈ tb := tb_i 323 (by decide +kernel) (by decide +kernel)
theorem k_cd_Desk_size : Cond.code y_Desk_size b_Desk_size 1 (some .int) ∈ tb := tb_i 324 (by decide +kernel) (by decide +kernel)
theorem k_ml_Law_100 : Cond.methodLink R_Law 100 y_Desk_take ∈ tb := tb_i 325 (by decide +kernel) (by decide +kernel)
theorem k_im_Desk_take : Cond.instanceMethod y_Desk_take ∈ tb := tb_i 326 (by decide +kernel) (by decide +kernel)
theorem k_se_Desk_take_Desk_take : Cond.selects R_Desk y_Desk_take y_Desk_take ∈ tb := tb_i 327 (by decide +kernel) (by decide +kernel)
theorem k_cd_Desk_take : Cond.code y_Desk_take b_Desk_take 1 (some .int) ∈ tb := tb_i 328 (by decide +kernel) (by decide +kernel)
theorem k_ml_Desk_133 : Cond.methodLink R_Desk 133 y_Row_become ∈ tb := tb_i 329 (by decide +kernel) (by decide +kernel)
theorem k_ml_Law_49 : Cond.methodLink R_Law 49 y_Law_key ∈ tb := tb_i 330 (by decide +kernel) (by decide +kernel)
theorem k_st_Law_key : Cond.static y_Law_key ∈ tb := tb_i 331 (by decide +kernel) (by decide +kernel)
theorem k_cl_Law_13 : Cond.classLink R_Law 13 R_IndexOutOfBoundsException ∈ tb := tb_i 333 (by decide +kernel) (by decide +kernel)
theorem k_ml_Law_7 : Cond.methodLink R_Law 7 y_Desk_key ∈ tb := tb_i 334 (by decide +kernel) (by decide +kernel)
theorem k_im_Desk_key : Cond.instanceMethod y_Desk_key ∈ tb := tb_i 335 (by decide +kernel) (by decide +kernel)
theorem k_se_Desk_key_Desk_key : Cond.selects R_Desk y_Desk_key y_Desk_key ∈ tb := tb_i 336 (by decide +kernel) (by decide +kernel)
theorem k_cd_Desk_key : Cond.code y_Desk_key b_Desk_key 6 none ∈ tb := tb_i 337 (by decide +kernel) (by decide +kernel)
theorem k_cl_Desk_74 : Cond.classLink R_Desk 74 R_IndexOutOfBoundsException ∈ tb := tb_i 338 (by decide +kernel) (by decide +kernel)
theorem k_it_IndexOutOfBoundsException : Cond.instantiable R_IndexOutOfBoundsException 6 ∈ tb := tb_i 339 (by decide +kernel) (by decide +kernel)
theorem k_se_Throwable_fillInStackTrace_Throwable_fillInStackTrace_IndexOutOfBoundsException : Cond.selects R_IndexOutOfBoundsException ⟨"java/lang/Throwable", "fillInStackTrace", "(I)Ljava/lang/Throwable;"⟩ ⟨"java/lang/Throwable", "fillInStackTrace", "(I)Ljava/lang/Throwable;"⟩ ∈ tb := tb_i 347 (by decide +kernel) (by decide +kernel)
theorem k_ly_IndexOutOfBoundsException_cause : Cond.lays R_IndexOutOfBoundsException "java/lang/Throwable" "cause" "Ljava/lang/Throwable;" ∈ tb := tb_i 349 (by decide +kernel) (by decide +kernel)
theorem k_ly_Throwable_cause : Cond.lays R_Throwable "java/lang/Throwable" "cause" "Ljava/lang/Throwable;" ∈ tb := tb_i 350 (by decide +kernel) (by decide +kernel)
theorem k_ly_IndexOutOfBoundsException_stackTrace : Cond.lays R_IndexOutOfBoundsException "java/lang/Throwable" "stackTrace" "[Ljava/lang/StackTraceElement;" ∈ tb := tb_i 351 (by decide +kernel) (by decide +kernel)
theorem k_ly_Throwable_stackTrace : Cond.lays R_Throwable "java/lang/Throwable" "stackTrace" "[Ljava/lang/StackTraceElement;" ∈ tb := tb_i 352 (by decide +kernel) (by decide +kernel)
theorem k_ly_IndexOutOfBoundsException_suppressedExceptions : Cond.lays R_IndexOutOfBoundsException "java/lang/Throwable" "suppressedExceptions" "Ljava/util/List;" ∈ tb := tb_i 353 (by decide +kernel) (by decide +kernel)
theorem k_ly_Throwable_suppressedExceptions : Cond.lays R_Throwable "java/lang/Throwable" "suppressedExceptions" "Ljava/util/List;" ∈ tb := tb_i 354 (by decide +kernel) (by decide +kernel)
theorem k_ly_IndexOutOfBoundsException_detailMessage : Cond.lays R_IndexOutOfBoundsException "java/lang/Throwable" "detailMessage" "Ljava/lang/String;" ∈ tb := tb_i 355 (by decide +kernel) (by decide +kernel)
theorem k_ly_Throwable_detailMessage : Cond.lays R_Throwable "java/lang/Throwable" "detailMessage" "Ljava/lang/String;" ∈ tb := tb_i 356 (by decide +kernel) (by decide +kernel)
theorem k_ly_IndexOutOfBoundsException_backtrace : Cond.lays R_IndexOutOfBoundsException "java/lang/Throwable" "backtrace" "Ljava/lang/Object;" ∈ tb := tb_i 357 (by decide +kernel) (by decide +kernel)
theorem k_ly_Throwable_backtrace : Cond.lays R_Throwable "java/lang/Throwable" "backtrace" "Ljava/lang/Object;" ∈ tb := tb_i 358 (by decide +kernel) (by decide +kernel)
theorem k_fl_Throwable_198 : Cond.fieldLink R_Throwable 198 "java/lang/Throwable" "backtrace" "Ljava/lang/Object;" ∈ tb := tb_i 359 (by decide +kernel) (by decide +kernel)
theorem k_su_Throwable : Cond.superclass R_Throwable "java/lang/Object" ∈ tb := tb_i 360 (by decide +kernel) (by decide +kernel)
theorem k_im_Throwable_init : Cond.instanceMethod y_Throwable_init ∈ tb := tb_i 361 (by decide +kernel) (by decide +kernel)
theorem k_cd_Throwable_init : Cond.code y_Throwable_init b_Throwable_init 1 none ∈ tb := tb_i 362 (by decide +kernel) (by decide +kernel)
theorem k_ml_Throwable_1 : Cond.methodLink R_Throwable 1 y_Object_init ∈ tb := tb_i 363 (by decide +kernel) (by decide +kernel)
theorem k_fl_Throwable_13 : Cond.fieldLink R_Throwable 13 "java/lang/Throwable" "UNASSIGNED_STACK" "[Ljava/lang/StackTraceElement;" ∈ tb := tb_i 364 (by decide +kernel) (by decide +kernel)
theorem k_fl_Throwable_20 : Cond.fieldLink R_Throwable 20 "java/lang/Throwable" "SUPPRESSED_SENTINEL" "Ljava/util/List;" ∈ tb := tb_i 366 (by decide +kernel) (by decide +kernel)
theorem k_ml_Throwable_27 : Cond.methodLink R_Throwable 27 y_Throwable_fillInStackTrace ∈ tb := tb_i 368 (by decide +kernel) (by decide +kernel)
theorem k_im_Throwable_fillInStackTrace : Cond.instanceMethod y_Throwable_fillInStackTrace ∈ tb := tb_i 369 (by decide +kernel) (by decide +kernel)
theorem k_sm_Throwable_fillInStackTrace : Cond.sameMethod R_Throwable R_Throwable "fillInStackTrace" "()Ljava/lang/Throwable;" ∈ tb := tb_i 370 (by decide +kernel) (by decide +kernel)
theorem k_se_Throwable_fillInStackTrace_Throwable_fillInStackTrace_IllegalArgumentException : Cond.selects R_IllegalArgumentException y_Throwable_fillInStackTrace y_Throwable_fillInStackTrace ∈ tb := tb_i 371 (by decide +kernel) (by decide +kernel)
theorem k_se_Throwable_fillInStackTrace_Throwable_fillInStackTrace_IllegalStateException : Cond.selects R_IllegalStateException y_Throwable_fillInStackTrace y_Throwable_fillInStackTrace ∈ tb := tb_i 372 (by decide +kernel) (by decide +kernel)
theorem k_ml_Throwable_202 : Cond.methodLink R_Throwable 202 ⟨"java/lang/Throwable", "fillInStackTrace", "(I)Ljava/lang/Throwable;"⟩ ∈ tb := tb_i 374 (by decide +kernel) (by decide +kernel)
theorem k_it_Throwable : Cond.instantiable R_Throwable 6 ∈ tb := tb_i 377 (by decide +kernel) (by decide +kernel)
theorem k_nt_Throwable_fillInStackTrace : Cond.native ⟨"java/lang/Throwable", "fillInStackTrace", "(I)Ljava/lang/Throwable;"⟩ ∈ tb := tb_i 378 (by decide +kernel) (by decide +kernel)
theorem k_ml_Desk_78 : Cond.methodLink R_Desk 78 y_IndexOutOfBoundsException_init ∈ tb := tb_i 380 (by decide +kernel) (by decide +kernel)
theorem k_im_IndexOutOfBoundsException_init : Cond.instanceMethod y_IndexOutOfBoundsException_init ∈ tb := tb_i 381 (by decide +kernel) (by decide +kernel)
theorem k_cd_IndexOutOfBoundsException_init : Cond.code y_IndexOutOfBoundsException_init b_IndexOutOfBoundsException_init 2 none ∈ tb := tb_i 382 (by decide +kernel) (by decide +kernel)
theorem k_ml_IndexOutOfBoundsException_7 : Cond.methodLink R_IndexOutOfBoundsException 7 y_RuntimeException_init ∈ tb := tb_i 383 (by decide +kernel) (by decide +kernel)
theorem k_im_RuntimeException_init : Cond.instanceMethod y_RuntimeException_init ∈ tb := tb_i 384 (by decide +kernel) (by decide +kernel)
theorem k_cd_RuntimeException_init : Cond.code y_RuntimeException_init b_RuntimeException_init 2 none ∈ tb := tb_i 385 (by decide +kernel) (by decide +kernel)
theorem k_ml_RuntimeException_7 : Cond.methodLink R_RuntimeException 7 y_Exception_init ∈ tb := tb_i 386 (by decide +kernel) (by decide +kernel)
theorem k_im_Exception_init : Cond.instanceMethod y_Exception_init ∈ tb := tb_i 387 (by decide +kernel) (by decide +kernel)
theorem k_cd_Exception_init : Cond.code y_Exception_init b_Exception_init 2 none ∈ tb := tb_i 388 (by decide +kernel) (by decide +kernel)
theorem k_ml_Exception_7 : Cond.methodLink R_Exception 7 y_Throwable_init1 ∈ tb := tb_i 389 (by decide +kernel) (by decide +kernel)
theorem k_im_Throwable_init1 : Cond.instanceMethod y_Throwable_init1 ∈ tb := tb_i 390 (by decide +kernel) (by decide +kernel)
theorem k_cd_Throwable_init1 : Cond.code y_Throwable_init1 b_Throwable_init1 2 none ∈ tb := tb_i 391 (by decide +kernel) (by decide +kernel)
theorem k_fl_Throwable_31 : Cond.fieldLink R_Throwable 31 "java/lang/Throwable" "detailMessage" "Ljava/lang/String;" ∈ tb := tb_i 393 (by decide +kernel) (by decide +kernel)
theorem k_fl_Throwable_7 : Cond.fieldLink R_Throwable 7 "java/lang/Throwable" "cause" "Ljava/lang/Throwable;" ∈ tb := tb_i 394 (by decide +kernel) (by decide +kernel)
theorem k_fl_Throwable_17 : Cond.fieldLink R_Throwable 17 "java/lang/Throwable" "stackTrace" "[Ljava/lang/StackTraceElement;" ∈ tb := tb_i 395 (by decide +kernel) (by decide +kernel)
theorem k_fl_Throwable_24 : Cond.fieldLink R_Throwable 24 "java/lang/Throwable" "suppressedExceptions" "Ljava/util/List;" ∈ tb := tb_i 396 (by decide +kernel) (by decide +kernel)
theorem k_ly_IndexOutOfBoundsException_depth : Cond.lays R_IndexOutOfBoundsException "java/lang/Throwable" "depth" "I" ∈ tb := tb_i 401 (by decide +kernel) (by decide +kernel)
theorem k_su_IndexOutOfBoundsException : Cond.superclass R_IndexOutOfBoundsException R_RuntimeException ∈ tb := tb_i 404 (by decide +kernel) (by decide +kernel)
theorem k_ac_byte : Cond.arrayClass .byte ∈ tb := tb_i 405 (by decide +kernel) (by decide +kernel)
theorem k_ml_Desk_81 : Cond.methodLink R_Desk 81 y_Cipher_use ∈ tb := tb_i 406 (by decide +kernel) (by decide +kernel)
theorem k_ml_Law_58 : Cond.methodLink R_Law 58 y_Law_feed ∈ tb := tb_i 407 (by decide +kernel) (by decide +kernel)
theorem k_st_Law_feed : Cond.static y_Law_feed ∈ tb := tb_i 408 (by decide +kernel) (by decide +kernel)
theorem k_cl_Law_19 : Cond.classLink R_Law 19 R_IllegalArgumentException ∈ tb := tb_i 410 (by decide +kernel) (by decide +kernel)
theorem k_cl_Law_21 : Cond.classLink R_Law 21 R_IllegalStateException ∈ tb := tb_i 411 (by decide +kernel) (by decide +kernel)
theorem k_ml_Law_15 : Cond.methodLink R_Law 15 y_Desk_feed ∈ tb := tb_i 412 (by decide +kernel) (by decide +kernel)
theorem k_im_Desk_feed : Cond.instanceMethod y_Desk_feed ∈ tb := tb_i 413 (by decide +kernel) (by decide +kernel)
theorem k_se_Desk_feed_Desk_feed : Cond.selects R_Desk y_Desk_feed y_Desk_feed ∈ tb := tb_i 414 (by decide +kernel) (by decide +kernel)
theorem k_cd_Desk_feed : Cond.code y_Desk_feed b_Desk_feed 4 (some .int) ∈ tb := tb_i 415 (by decide +kernel) (by decide +kernel)
theorem k_cl_Desk_85 : Cond.classLink R_Desk 85 R_IllegalArgumentException ∈ tb := tb_i 416 (by decide +kernel) (by decide +kernel)
theorem k_it_IllegalArgumentException : Cond.instantiable R_IllegalArgumentException 6 ∈ tb := tb_i 417 (by decide +kernel) (by decide +kernel)
theorem k_ly_IllegalArgumentException_cause : Cond.lays R_IllegalArgumentException "java/lang/Throwable" "cause" "Ljava/lang/Throwable;" ∈ tb := tb_i 420 (by decide +kernel) (by decide +kernel)
theorem k_ly_IllegalArgumentException_stackTrace : Cond.lays R_IllegalArgumentException "java/lang/Throwable" "stackTrace" "[Ljava/lang/StackTraceElement;" ∈ tb := tb_i 421 (by decide +kernel) (by decide +kernel)
theorem k_ly_IllegalArgumentException_suppressedExceptions : Cond.lays R_IllegalArgumentException "java/lang/Throwable" "suppressedExceptions" "Ljava/util/List;" ∈ tb := tb_i 422 (by decide +kernel) (by decide +kernel)
theorem k_ly_IllegalArgumentException_detailMessage : Cond.lays R_IllegalArgumentException "java/lang/Throwable" "detailMessage" "Ljava/lang/String;" ∈ tb := tb_i 423 (by decide +kernel) (by decide +kernel)
theorem k_ly_IllegalArgumentException_backtrace : Cond.lays R_IllegalArgumentException "java/lang/Throwable" "backtrace" "Ljava/lang/Object;" ∈ tb := tb_i 424 (by decide +kernel) (by decide +kernel)
theorem k_ml_Desk_89 : Cond.methodLink R_Desk 89 y_IllegalArgumentException_init ∈ tb := tb_i 426 (by decide +kernel) (by decide +kernel)
theorem k_im_IllegalArgumentException_init : Cond.instanceMethod y_IllegalArgumentException_init ∈ tb := tb_i 427 (by decide +kernel) (by decide +kernel)
theorem k_cd_IllegalArgumentException_init : Cond.code y_IllegalArgumentException_init b_IllegalArgumentException_init 2 none ∈ tb := tb_i 428 (by decide +kernel) (by decide +kernel)
theorem k_ml_IllegalArgumentException_7 : Cond.methodLink R_IllegalArgumentException 7 y_RuntimeException_init ∈ tb := tb_i 429 (by decide +kernel) (by decide +kernel)
theorem k_ly_IllegalArgumentException_depth : Cond.lays R_IllegalArgumentException "java/lang/Throwable" "depth" "I" ∈ tb := tb_i 430 (by decide +kernel) (by decide +kernel)
theorem k_su_IllegalArgumentException : Cond.superclass R_IllegalArgumentException R_RuntimeException ∈ tb := tb_i 431 (by decide +kernel) (by decide +kernel)
theorem k_cl_Desk_94 : Cond.classLink R_Desk 94 R_IllegalStateException ∈ tb := tb_i 432 (by decide +kernel) (by decide +kernel)
theorem k_it_IllegalStateException : Cond.instantiable R_IllegalStateException 6 ∈ tb := tb_i 433 (by decide +kernel) (by decide +kernel)
theorem k_ly_IllegalStateException_cause : Cond.lays R_IllegalStateException "java/lang/Throwable" "cause" "Ljava/lang/Throwable;" ∈ tb := tb_i 436 (by decide +kernel) (by decide +kernel)
theorem k_ly_IllegalStateException_stackTrace : Cond.lays R_IllegalStateException "java/lang/Throwable" "stackTrace" "[Ljava/lang/StackTraceElement;" ∈ tb := tb_i 437 (by decide +kernel) (by decide +kernel)
theorem k_ly_IllegalStateException_suppressedExceptions : Cond.lays R_IllegalStateException "java/lang/Throwable" "suppressedExceptions" "Ljava/util/List;" ∈ tb := tb_i 438 (by decide +kernel) (by decide +kernel)
theorem k_ly_IllegalStateException_detailMessage : Cond.lays R_IllegalStateException "java/lang/Throwable" "detailMessage" "Ljava/lang/String;" ∈ tb := tb_i 439 (by decide +kernel) (by decide +kernel)
theorem k_ly_IllegalStateException_backtrace : Cond.lays R_IllegalStateException "java/lang/Throwable" "backtrace" "Ljava/lang/Object;" ∈ tb := tb_i 440 (by decide +kernel) (by decide +kernel)
theorem k_ml_Desk_98 : Cond.methodLink R_Desk 98 y_IllegalStateException_init ∈ tb := tb_i 442 (by decide +kernel) (by decide +kernel)
theorem k_im_IllegalStateException_init : Cond.instanceMethod y_IllegalStateException_init ∈ tb := tb_i 443 (by decide +kernel) (by decide +kernel)
theorem k_cd_IllegalStateException_init : Cond.code y_IllegalStateException_init b_IllegalStateException_init 2 none ∈ tb := tb_i 444 (by decide +kernel) (by decide +kernel)
theorem k_ml_IllegalStateException_7 : Cond.methodLink R_IllegalStateException 7 y_RuntimeException_init ∈ tb := tb_i 445 (by decide +kernel) (by decide +kernel)
theorem k_ly_IllegalStateException_depth : Cond.lays R_IllegalStateException "java/lang/Throwable" "depth" "I" ∈ tb := tb_i 446 (by decide +kernel) (by decide +kernel)
theorem k_su_IllegalStateException : Cond.superclass R_IllegalStateException R_RuntimeException ∈ tb := tb_i 447 (by decide +kernel) (by decide +kernel)
theorem k_ml_Desk_99 : Cond.methodLink R_Desk 99 y_Desk_byteOf ∈ tb := tb_i 448 (by decide +kernel) (by decide +kernel)
theorem k_ml_Desk_103 : Cond.methodLink R_Desk 103 y_Row_add ∈ tb := tb_i 449 (by decide +kernel) (by decide +kernel)
theorem k_ml_Law_66 : Cond.methodLink R_Law 66 y_Law_alter ∈ tb := tb_i 450 (by decide +kernel) (by decide +kernel)
theorem k_st_Law_alter : Cond.static y_Law_alter ∈ tb := tb_i 451 (by decide +kernel) (by decide +kernel)
theorem k_ml_Law_23 : Cond.methodLink R_Law 23 y_Desk_alter ∈ tb := tb_i 453 (by decide +kernel) (by decide +kernel)
theorem k_im_Desk_alter : Cond.instanceMethod y_Desk_alter ∈ tb := tb_i 454 (by decide +kernel) (by decide +kernel)
theorem k_se_Desk_alter_Desk_alter : Cond.selects R_Desk y_Desk_alter y_Desk_alter ∈ tb := tb_i 455 (by decide +kernel) (by decide +kernel)
theorem k_cd_Desk_alter : Cond.code y_Desk_alter b_Desk_alter 3 none ∈ tb := tb_i 456 (by decide +kernel) (by decide +kernel)
theorem k_ml_Desk_110 : Cond.methodLink R_Desk 110 y_Row_has ∈ tb := tb_i 457 (by decide +kernel) (by decide +kernel)
theorem k_im_Row_has : Cond.instanceMethod y_Row_has ∈ tb := tb_i 458 (by decide +kernel) (by decide +kernel)
theorem k_se_Row_has_Row_has : Cond.selects R_Row y_Row_has y_Row_has ∈ tb := tb_i 459 (by decide +kernel) (by decide +kernel)
theorem k_cd_Row_has : Cond.code y_Row_has b_Row_has 2 (some .boolean) ∈ tb := tb_i 460 (by decide +kernel) (by decide +kernel)
theorem k_ml_Law_70 : Cond.methodLink R_Law 70 y_Law_item ∈ tb := tb_i 463 (by decide +kernel) (by decide +kernel)
theorem k_st_Law_item : Cond.static y_Law_item ∈ tb := tb_i 464 (by decide +kernel) (by decide +kernel)
theorem k_ml_Law_27 : Cond.methodLink R_Law 27 y_Desk_item ∈ tb := tb_i 466 (by decide +kernel) (by decide +kernel)
theorem k_im_Desk_item : Cond.instanceMethod y_Desk_item ∈ tb := tb_i 467 (by decide +kernel) (by decide +kernel)
theorem k_se_Desk_item_Desk_item : Cond.selects R_Desk y_Desk_item y_Desk_item ∈ tb := tb_i 468 (by decide +kernel) (by decide +kernel)
theorem k_cd_Desk_item : Cond.code y_Desk_item b_Desk_item 1 (some .int) ∈ tb := tb_i 469 (by decide +kernel) (by decide +kernel)
theorem k_ml_Law_78 : Cond.methodLink R_Law 78 y_Law_cipher ∈ tb := tb_i 472 (by decide +kernel) (by decide +kernel)
theorem k_st_Law_cipher : Cond.static y_Law_cipher ∈ tb := tb_i 473 (by decide +kernel) (by decide +kernel)
theorem k_ml_Law_31 : Cond.methodLink R_Law 31 y_Desk_cipher ∈ tb := tb_i 475 (by decide +kernel) (by decide +kernel)
theorem k_im_Desk_cipher : Cond.instanceMethod y_Desk_cipher ∈ tb := tb_i 476 (by decide +kernel) (by decide +kernel)
theorem k_se_Desk_cipher_Desk_cipher : Cond.selects R_Desk y_Desk_cipher y_Desk_cipher ∈ tb := tb_i 477 (by decide +kernel) (by decide +kernel)
theorem k_cd_Desk_cipher : Cond.code y_Desk_cipher b_Desk_cipher 2 none ∈ tb := tb_i 478 (by decide +kernel) (by decide +kernel)
theorem k_ml_Desk_139 : Cond.methodLink R_Desk 139 y_Cipher_turnBack ∈ tb := tb_i 480 (by decide +kernel) (by decide +kernel)
theorem k_im_Cipher_turnBack : Cond.instanceMethod y_Cipher_turnBack ∈ tb := tb_i 481 (by decide +kernel) (by decide +kernel)
theorem k_se_Cipher_turnBack_Cipher_turnBack : Cond.selects R_Cipher y_Cipher_turnBack y_Cipher_turnBack ∈ tb := tb_i 482 (by decide +kernel) (by decide +kernel)
theorem k_cd_Cipher_turnBack : Cond.code y_Cipher_turnBack b_Cipher_turnBack 3 none ∈ tb := tb_i 483 (by decide +kernel) (by decide +kernel)
theorem k_ml_Cipher_54 : Cond.methodLink R_Cipher 54 y_Cipher_unmix ∈ tb := tb_i 484 (by decide +kernel) (by decide +kernel)
theorem k_st_Cipher_unmix : Cond.static y_Cipher_unmix ∈ tb := tb_i 485 (by decide +kernel) (by decide +kernel)
theorem k_cd_Cipher_unmix : Cond.code y_Cipher_unmix b_Cipher_unmix 1 none ∈ tb := tb_i 486 (by decide +kernel) (by decide +kernel)
theorem k_ml_Cipher_57 : Cond.methodLink R_Cipher 57 y_Cipher_substituteBack ∈ tb := tb_i 487 (by decide +kernel) (by decide +kernel)
theorem k_im_Cipher_substituteBack : Cond.instanceMethod y_Cipher_substituteBack ∈ tb := tb_i 489 (by decide +kernel) (by decide +kernel)
theorem k_cd_Cipher_substituteBack : Cond.code y_Cipher_substituteBack b_Cipher_substituteBack 3 none ∈ tb := tb_i 490 (by decide +kernel) (by decide +kernel)
theorem k_ml_Desk_143 : Cond.methodLink R_Desk 143 y_Cipher_turn ∈ tb := tb_i 491 (by decide +kernel) (by decide +kernel)
theorem k_ml_Law_86 : Cond.methodLink R_Law 86 y_Law_seal ∈ tb := tb_i 492 (by decide +kernel) (by decide +kernel)
theorem k_st_Law_seal : Cond.static y_Law_seal ∈ tb := tb_i 493 (by decide +kernel) (by decide +kernel)
theorem k_ml_Law_35 : Cond.methodLink R_Law 35 y_Desk_seal ∈ tb := tb_i 495 (by decide +kernel) (by decide +kernel)
theorem k_im_Desk_seal : Cond.instanceMethod y_Desk_seal ∈ tb := tb_i 496 (by decide +kernel) (by decide +kernel)
theorem k_se_Desk_seal_Desk_seal : Cond.selects R_Desk y_Desk_seal y_Desk_seal ∈ tb := tb_i 497 (by decide +kernel) (by decide +kernel)
theorem k_cd_Desk_seal : Cond.code y_Desk_seal b_Desk_seal 2 (some .int) ∈ tb := tb_i 498 (by decide +kernel) (by decide +kernel)
theorem k_ml_Desk_156 : Cond.methodLink R_Desk 156 ⟨"SealingDesk$Way", "canLock", "(I)Z"⟩ ∈ tb := tb_i 500 (by decide +kernel) (by decide +kernel)
theorem k_sm_Way_canLock : Cond.sameMethod R_Way R_Way "canLock" "(I)Z" ∈ tb := tb_i 502 (by decide +kernel) (by decide +kernel)
theorem k_se_Way_canLock_Marked_canLock : Cond.selects R_Marked ⟨"SealingDesk$Way", "canLock", "(I)Z"⟩ y_Marked_canLock ∈ tb := tb_i 503 (by decide +kernel) (by decide +kernel)
theorem k_im_Marked_canLock : Cond.instanceMethod y_Marked_canLock ∈ tb := tb_i 504 (by decide +kernel) (by decide +kernel)
theorem k_cd_Marked_canLock : Cond.code y_Marked_canLock b_Marked_canLock 2 (some .boolean) ∈ tb := tb_i 505 (by decide +kernel) (by decide +kernel)
theorem k_se_Way_canLock_Padded_canLock : Cond.selects R_Padded ⟨"SealingDesk$Way", "canLock", "(I)Z"⟩ y_Padded_canLock ∈ tb := tb_i 506 (by decide +kernel) (by decide +kernel)
theorem k_im_Padded_canLock : Cond.instanceMethod y_Padded_canLock ∈ tb := tb_i 507 (by decide +kernel) (by decide +kernel)
theorem k_cd_Padded_canLock : Cond.code y_Padded_canLock b_Padded_canLock 2 (some .boolean) ∈ tb := tb_i 508 (by decide +kernel) (by decide +kernel)
theorem k_se_Way_canLock_Wrapped_canLock : Cond.selects R_Wrapped ⟨"SealingDesk$Way", "canLock", "(I)Z"⟩ y_Wrapped_canLock ∈ tb := tb_i 509 (by decide +kernel) (by decide +kernel)
theorem k_im_Wrapped_canLock : Cond.instanceMethod y_Wrapped_canLock ∈ tb := tb_i 510 (by decide +kernel) (by decide +kernel)
theorem k_cd_Wrapped_canLock : Cond.code y_Wrapped_canLock b_Wrapped_canLock 2 (some .boolean) ∈ tb := tb_i 511 (by decide +kernel) (by decide +kernel)
theorem k_ml_Desk_161 : Cond.methodLink R_Desk 161 ⟨"SealingDesk$Way", "lock", "(LSealingDesk$Row;LSealingDesk$Row;)V"⟩ ∈ tb := tb_i 513 (by decide +kernel) (by decide +kernel)
theorem k_sm_Way_lock : Cond.sameMethod R_Way R_Way "lock" "(LSealingDesk$Row;LSealingDesk$Row;)V" ∈ tb := tb_i 515 (by decide +kernel) (by decide +kernel)
theorem k_se_Way_lock_Marked_lock : Cond.selects R_Marked ⟨"SealingDesk$Way", "lock", "(LSealingDesk$Row;LSealingDesk$Row;)V"⟩ y_Marked_lock ∈ tb := tb_i 516 (by decide +kernel) (by decide +kernel)
theorem k_im_Marked_lock : Cond.instanceMethod y_Marked_lock ∈ tb := tb_i 517 (by decide +kernel) (by decide +kernel)
theorem k_cd_Marked_lock : Cond.code y_Marked_lock b_Marked_lock 3 none ∈ tb := tb_i 518 (by decide +kernel) (by decide +kernel)
theorem k_ml_Marked_33 : Cond.methodLink R_Marked 33 y_Marker_join ∈ tb := tb_i 519 (by decide +kernel) (by decide +kernel)
theorem k_ml_Marked_39 : Cond.methodLink R_Marked 39 y_Row_clear ∈ tb := tb_i 520 (by decide +kernel) (by decide +kernel)
theorem k_ml_Marked_44 : Cond.methodLink R_Marked 44 y_Row_addAll ∈ tb := tb_i 521 (by decide +kernel) (by decide +kernel)
theorem k_im_Row_addAll : Cond.instanceMethod y_Row_addAll ∈ tb := tb_i 522 (by decide +kernel) (by decide +kernel)
theorem k_se_Row_addAll_Row_addAll : Cond.selects R_Row y_Row_addAll y_Row_addAll ∈ tb := tb_i 523 (by decide +kernel) (by decide +kernel)
theorem k_cd_Row_addAll : Cond.code y_Row_addAll b_Row_addAll 3 none ∈ tb := tb_i 524 (by decide +kernel) (by decide +kernel)
theorem k_ml_Marked_55 : Cond.methodLink R_Marked 55 y_Marked_addStream ∈ tb := tb_i 525 (by decide +kernel) (by decide +kernel)
theorem k_im_Marked_addStream : Cond.instanceMethod y_Marked_addStream ∈ tb := tb_i 527 (by decide +kernel) (by decide +kernel)
theorem k_cd_Marked_addStream : Cond.code y_Marked_addStream b_Marked_addStream 6 none ∈ tb := tb_i 528 (by decide +kernel) (by decide +kernel)
theorem k_ml_Marked_63 : Cond.methodLink R_Marked 63 ⟨"java/lang/System", "arraycopy", "(Ljava/lang/Object;ILjava/lang/Object;II)V"⟩ ∈ tb := tb_i 529 (by decide +kernel) (by decide +kernel)
theorem k_ml_Marked_69 : Cond.methodLink R_Marked 69 y_Marked_nextBlock ∈ tb := tb_i 530 (by decide +kernel) (by decide +kernel)
theorem k_im_Marked_nextBlock : Cond.instanceMethod y_Marked_nextBlock ∈ tb := tb_i 532 (by decide +kernel) (by decide +kernel)
theorem k_cd_Marked_nextBlock : Cond.code y_Marked_nextBlock b_Marked_nextBlock 4 none ∈ tb := tb_i 533 (by decide +kernel) (by decide +kernel)
theorem k_ml_Marked_72 : Cond.methodLink R_Marked 72 y_Cipher_turn ∈ tb := tb_i 534 (by decide +kernel) (by decide +kernel)
theorem k_se_Way_lock_Padded_lock : Cond.selects R_Padded ⟨"SealingDesk$Way", "lock", "(LSealingDesk$Row;LSealingDesk$Row;)V"⟩ y_Padded_lock ∈ tb := tb_i 535 (by decide +kernel) (by decide +kernel)
theorem k_im_Padded_lock : Cond.instanceMethod y_Padded_lock ∈ tb := tb_i 536 (by decide +kernel) (by decide +kernel)
theorem k_cd_Padded_lock : Cond.code y_Padded_lock b_Padded_lock 3 none ∈ tb := tb_i 537 (by decide +kernel) (by decide +kernel)
theorem k_ml_Padded_19 : Cond.methodLink R_Padded 19 y_Row_clear ∈ tb := tb_i 538 (by decide +kernel) (by decide +kernel)
theorem k_co_Padded_24 : Cond.constant R_Padded 24 (-1504093786) ∈ tb := tb_i 539 (by decide +kernel) (by decide +kernel)
theorem k_ml_Padded_25 : Cond.methodLink R_Padded 25 y_Padded_addWord ∈ tb := tb_i 540 (by decide +kernel) (by decide +kernel)
theorem k_st_Padded_addWord : Cond.static y_Padded_addWord ∈ tb := tb_i 541 (by decide +kernel) (by decide +kernel)
theorem k_cd_Padded_addWord : Cond.code y_Padded_addWord b_Padded_addWord 3 none ∈ tb := tb_i 542 (by decide +kernel) (by decide +kernel)
theorem k_ml_Padded_81 : Cond.methodLink R_Padded 81 y_Row_add ∈ tb := tb_i 544 (by decide +kernel) (by decide +kernel)
theorem k_ml_Padded_37 : Cond.methodLink R_Padded 37 y_Row_addAll ∈ tb := tb_i 545 (by decide +kernel) (by decide +kernel)
theorem k_ml_Padded_41 : Cond.methodLink R_Padded 41 y_Row_addZeros ∈ tb := tb_i 546 (by decide +kernel) (by decide +kernel)
theorem k_ml_Padded_45 : Cond.methodLink R_Padded 45 y_Cipher_turn ∈ tb := tb_i 547 (by decide +kernel) (by decide +kernel)
theorem k_ml_Padded_51 : Cond.methodLink R_Padded 51 y_Wrapping_wind ∈ tb := tb_i 548 (by decide +kernel) (by decide +kernel)
theorem k_im_Wrapping_wind : Cond.instanceMethod y_Wrapping_wind ∈ tb := tb_i 549 (by decide +kernel) (by decide +kernel)
theorem k_se_Wrapping_wind_Wrapping_wind : Cond.selects R_Wrapping y_Wrapping_wind y_Wrapping_wind ∈ tb := tb_i 550 (by decide +kernel) (by decide +kernel)
theorem k_cd_Wrapping_wind : Cond.code y_Wrapping_wind b_Wrapping_wind 5 none ∈ tb := tb_i 551 (by decide +kernel) (by decide +kernel)
theorem k_ml_Wrapping_25 : Cond.methodLink R_Wrapping 25 y_Wrapping_lift ∈ tb := tb_i 552 (by decide +kernel) (by decide +kernel)
theorem k_im_Wrapping_lift : Cond.instanceMethod y_Wrapping_lift ∈ tb := tb_i 554 (by decide +kernel) (by decide +kernel)
theorem k_cd_Wrapping_lift : Cond.code y_Wrapping_lift b_Wrapping_lift 3 none ∈ tb := tb_i 555 (by decide +kernel) (by decide +kernel)
theorem k_ml_Wrapping_48 : Cond.methodLink R_Wrapping 48 ⟨"java/lang/System", "arraycopy", "(Ljava/lang/Object;ILjava/lang/Object;II)V"⟩ ∈ tb := tb_i 556 (by decide +kernel) (by decide +kernel)
theorem k_ml_Wrapping_29 : Cond.methodLink R_Wrapping 29 y_Cipher_turn ∈ tb := tb_i 557 (by decide +kernel) (by decide +kernel)
theorem k_ml_Wrapping_35 : Cond.methodLink R_Wrapping 35 y_Wrapping_addNumber ∈ tb := tb_i 558 (by decide +kernel) (by decide +kernel)
theorem k_im_Wrapping_addNumber : Cond.instanceMethod y_Wrapping_addNumber ∈ tb := tb_i 560 (by decide +kernel) (by decide +kernel)
theorem k_cd_Wrapping_addNumber : Cond.code y_Wrapping_addNumber b_Wrapping_addNumber 2 none ∈ tb := tb_i 561 (by decide +kernel) (by decide +kernel)
theorem k_ml_Wrapping_39 : Cond.methodLink R_Wrapping 39 y_Wrapping_lay ∈ tb := tb_i 562 (by decide +kernel) (by decide +kernel)
theorem k_im_Wrapping_lay : Cond.instanceMethod y_Wrapping_lay ∈ tb := tb_i 564 (by decide +kernel) (by decide +kernel)
theorem k_cd_Wrapping_lay : Cond.code y_Wrapping_lay b_Wrapping_lay 3 none ∈ tb := tb_i 565 (by decide +kernel) (by decide +kernel)
theorem k_se_Way_lock_Wrapped_lock : Cond.selects R_Wrapped ⟨"SealingDesk$Way", "lock", "(LSealingDesk$Row;LSealingDesk$Row;)V"⟩ y_Wrapped_lock ∈ tb := tb_i 566 (by decide +kernel) (by decide +kernel)
theorem k_im_Wrapped_lock : Cond.instanceMethod y_Wrapped_lock ∈ tb := tb_i 567 (by decide +kernel) (by decide +kernel)
theorem k_cd_Wrapped_lock : Cond.code y_Wrapped_lock b_Wrapped_lock 4 none ∈ tb := tb_i 568 (by decide +kernel) (by decide +kernel)
theorem k_ml_Wrapped_19 : Cond.methodLink R_Wrapped 19 y_Row_clear ∈ tb := tb_i 569 (by decide +kernel) (by decide +kernel)
theorem k_ml_Wrapped_24 : Cond.methodLink R_Wrapped 24 y_Row_add ∈ tb := tb_i 570 (by decide +kernel) (by decide +kernel)
theorem k_ml_Wrapped_36 : Cond.methodLink R_Wrapped 36 y_Row_addAll ∈ tb := tb_i 571 (by decide +kernel) (by decide +kernel)
theorem k_ml_Wrapped_40 : Cond.methodLink R_Wrapped 40 y_Wrapping_wind ∈ tb := tb_i 572 (by decide +kernel) (by decide +kernel)
theorem k_ml_Law_90 : Cond.methodLink R_Law 90 y_Law_open ∈ tb := tb_i 573 (by decide +kernel) (by decide +kernel)
theorem k_st_Law_open : Cond.static y_Law_open ∈ tb := tb_i 574 (by decide +kernel) (by decide +kernel)
theorem k_ml_Law_39 : Cond.methodLink R_Law 39 y_Desk_open ∈ tb := tb_i 576 (by decide +kernel) (by decide +kernel)
theorem k_im_Desk_open : Cond.instanceMethod y_Desk_open ∈ tb := tb_i 577 (by decide +kernel) (by decide +kernel)
theorem k_se_Desk_open_Desk_open : Cond.selects R_Desk y_Desk_open y_Desk_open ∈ tb := tb_i 578 (by decide +kernel) (by decide +kernel)
theorem k_cd_Desk_open : Cond.code y_Desk_open b_Desk_open 2 (some .int) ∈ tb := tb_i 579 (by decide +kernel) (by decide +kernel)
theorem k_ml_Desk_165 : Cond.methodLink R_Desk 165 ⟨"SealingDesk$Way", "canUnlock", "(I)Z"⟩ ∈ tb := tb_i 580 (by decide +kernel) (by decide +kernel)
theorem k_sm_Way_canUnlock : Cond.sameMethod R_Way R_Way "canUnlock" "(I)Z" ∈ tb := tb_i 582 (by decide +kernel) (by decide +kernel)
theorem k_se_Way_canUnlock_Marked_canUnlock : Cond.selects R_Marked ⟨"SealingDesk$Way", "canUnlock", "(I)Z"⟩ y_Marked_canUnlock ∈ tb := tb_i 583 (by decide +kernel) (by decide +kernel)
theorem k_im_Marked_canUnlock : Cond.instanceMethod y_Marked_canUnlock ∈ tb := tb_i 584 (by decide +kernel) (by decide +kernel)
theorem k_cd_Marked_canUnlock : Cond.code y_Marked_canUnlock b_Marked_canUnlock 2 (some .boolean) ∈ tb := tb_i 585 (by decide +kernel) (by decide +kernel)
theorem k_se_Way_canUnlock_Padded_canUnlock : Cond.selects R_Padded ⟨"SealingDesk$Way", "canUnlock", "(I)Z"⟩ y_Padded_canUnlock ∈ tb := tb_i 586 (by decide +kernel) (by decide +kernel)
theorem k_im_Padded_canUnlock : Cond.instanceMethod y_Padded_canUnlock ∈ tb := tb_i 587 (by decide +kernel) (by decide +kernel)
theorem k_cd_Padded_canUnlock : Cond.code y_Padded_canUnlock b_Padded_canUnlock 2 (some .boolean) ∈ tb := tb_i 588 (by decide +kernel) (by decide +kernel)
theorem k_se_Way_canUnlock_Wrapped_canUnlock : Cond.selects R_Wrapped ⟨"SealingDesk$Way", "canUnlock", "(I)Z"⟩ y_Wrapped_canUnlock ∈ tb := tb_i 589 (by decide +kernel) (by decide +kernel)
theorem k_im_Wrapped_canUnlock : Cond.instanceMethod y_Wrapped_canUnlock ∈ tb := tb_i 590 (by decide +kernel) (by decide +kernel)
theorem k_cd_Wrapped_canUnlock : Cond.code y_Wrapped_canUnlock b_Wrapped_canUnlock 2 (some .boolean) ∈ tb := tb_i 591 (by decide +kernel) (by decide +kernel)
theorem k_ml_Wrapped_15 : Cond.methodLink R_Wrapped 15 y_Wrapped_canLock ∈ tb := tb_i 592 (by decide +kernel) (by decide +kernel)
theorem k_ml_Desk_170 : Cond.methodLink R_Desk 170 ⟨"SealingDesk$Way", "unlock", "(LSealingDesk$Row;LSealingDesk$Row;)Z"⟩ ∈ tb := tb_i 594 (by decide +kernel) (by decide +kernel)
theorem k_sm_Way_unlock : Cond.sameMethod R_Way R_Way "unlock" "(LSealingDesk$Row;LSealingDesk$Row;)Z" ∈ tb := tb_i 596 (by decide +kernel) (by decide +kernel)
theorem k_se_Way_unlock_Marked_unlock : Cond.selects R_Marked ⟨"SealingDesk$Way", "unlock", "(LSealingDesk$Row;LSealingDesk$Row;)Z"⟩ y_Marked_unlock ∈ tb := tb_i 597 (by decide +kernel) (by decide +kernel)
theorem k_im_Marked_unlock : Cond.instanceMethod y_Marked_unlock ∈ tb := tb_i 598 (by decide +kernel) (by decide +kernel)
theorem k_cd_Marked_unlock : Cond.code y_Marked_unlock b_Marked_unlock 4 (some .boolean) ∈ tb := tb_i 599 (by decide +kernel) (by decide +kernel)
theorem k_ml_Marked_59 : Cond.methodLink R_Marked 59 y_Row_becomeRest ∈ tb := tb_i 600 (by decide +kernel) (by decide +kernel)
theorem k_se_Way_unlock_Padded_unlock : Cond.selects R_Padded ⟨"SealingDesk$Way", "unlock", "(LSealingDesk$Row;LSealingDesk$Row;)Z"⟩ y_Padded_unlock ∈ tb := tb_i 601 (by decide +kernel) (by decide +kernel)
theorem k_im_Padded_unlock : Cond.instanceMethod y_Padded_unlock ∈ tb := tb_i 602 (by decide +kernel) (by decide +kernel)
theorem k_cd_Padded_unlock : Cond.code y_Padded_unlock b_Padded_unlock 5 (some .boolean) ∈ tb := tb_i 603 (by decide +kernel) (by decide +kernel)
theorem k_ml_Padded_57 : Cond.methodLink R_Padded 57 y_Row_become ∈ tb := tb_i 604 (by decide +kernel) (by decide +kernel)
theorem k_ml_Padded_60 : Cond.methodLink R_Padded 60 y_Cipher_turnBack ∈ tb := tb_i 605 (by decide +kernel) (by decide +kernel)
theorem k_ml_Padded_63 : Cond.methodLink R_Padded 63 y_Wrapping_unwind ∈ tb := tb_i 606 (by decide +kernel) (by decide +kernel)
theorem k_im_Wrapping_unwind : Cond.instanceMethod y_Wrapping_unwind ∈ tb := tb_i 607 (by decide +kernel) (by decide +kernel)
theorem k_se_Wrapping_unwind_Wrapping_unwind : Cond.selects R_Wrapping y_Wrapping_unwind y_Wrapping_unwind ∈ tb := tb_i 608 (by decide +kernel) (by decide +kernel)
theorem k_cd_Wrapping_unwind : Cond.code y_Wrapping_unwind b_Wrapping_unwind 5 none ∈ tb := tb_i 609 (by decide +kernel) (by decide +kernel)
theorem k_ml_Wrapping_42 : Cond.methodLink R_Wrapping 42 y_Cipher_turnBack ∈ tb := tb_i 610 (by decide +kernel) (by decide +kernel)
theorem k_ml_Padded_66 : Cond.methodLink R_Padded 66 y_Padded_wordAt ∈ tb := tb_i 611 (by decide +kernel) (by decide +kernel)
theorem k_st_Padded_wordAt : Cond.static y_Padded_wordAt ∈ tb := tb_i 612 (by decide +kernel) (by decide +kernel)
theorem k_cd_Padded_wordAt : Cond.code y_Padded_wordAt b_Padded_wordAt 4 (some .int) ∈ tb := tb_i 613 (by decide +kernel) (by decide +kernel)
theorem k_ml_Padded_70 : Cond.methodLink R_Padded 70 y_Row_becomeRest ∈ tb := tb_i 614 (by decide +kernel) (by decide +kernel)
theorem k_ml_Padded_73 : Cond.methodLink R_Padded 73 y_Padded_cutZeros ∈ tb := tb_i 615 (by decide +kernel) (by decide +kernel)
theorem k_st_Padded_cutZeros : Cond.static y_Padded_cutZeros ∈ tb := tb_i 616 (by decide +kernel) (by decide +kernel)
theorem k_cd_Padded_cutZeros : Cond.code y_Padded_cutZeros b_Padded_cutZeros 3 (some .boolean) ∈ tb := tb_i 617 (by decide +kernel) (by decide +kernel)
theorem k_se_Way_unlock_Wrapped_unlock : Cond.selects R_Wrapped ⟨"SealingDesk$Way", "unlock", "(LSealingDesk$Row;LSealingDesk$Row;)Z"⟩ y_Wrapped_unlock ∈ tb := tb_i 618 (by decide +kernel) (by decide +kernel)
theorem k_im_Wrapped_unlock : Cond.instanceMethod y_Wrapped_unlock ∈ tb := tb_i 619 (by decide +kernel) (by decide +kernel)
theorem k_cd_Wrapped_unlock : Cond.code y_Wrapped_unlock b_Wrapped_unlock 4 (some .boolean) ∈ tb := tb_i 620 (by decide +kernel) (by decide +kernel)
theorem k_ml_Wrapped_46 : Cond.methodLink R_Wrapped 46 y_Row_become ∈ tb := tb_i 621 (by decide +kernel) (by decide +kernel)
theorem k_ml_Wrapped_49 : Cond.methodLink R_Wrapped 49 y_Wrapping_unwind ∈ tb := tb_i 622 (by decide +kernel) (by decide +kernel)
theorem k_ml_Wrapped_52 : Cond.methodLink R_Wrapped 52 y_Row_becomeRest ∈ tb := tb_i 623 (by decide +kernel) (by decide +kernel)
theorem k_ml_Law_97 : Cond.methodLink R_Law 97 y_Law_at ∈ tb := tb_i 624 (by decide +kernel) (by decide +kernel)
theorem k_st_Law_at : Cond.static y_Law_at ∈ tb := tb_i 625 (by decide +kernel) (by decide +kernel)
theorem k_ml_Law_42 : Cond.methodLink R_Law 42 y_Desk_at ∈ tb := tb_i 627 (by decide +kernel) (by decide +kernel)
theorem k_im_Desk_at : Cond.instanceMethod y_Desk_at ∈ tb := tb_i 628 (by decide +kernel) (by decide +kernel)
theorem k_se_Desk_at_Desk_at : Cond.selects R_Desk y_Desk_at y_Desk_at ∈ tb := tb_i 629 (by decide +kernel) (by decide +kernel)
theorem k_cd_Desk_at : Cond.code y_Desk_at b_Desk_at 2 (some .int) ∈ tb := tb_i 630 (by decide +kernel) (by decide +kernel)
theorem k_cl_Law_46 : Cond.classLink R_Law 46 R_Model ∈ tb := tb_i 632 (by decide +kernel) (by decide +kernel)
theorem k_it_Model : Cond.instantiable R_Model 20 ∈ tb := tb_i 633 (by decide +kernel) (by decide +kernel)
theorem k_ml_Law_48 : Cond.methodLink R_Law 48 y_Model_init ∈ tb := tb_i 634 (by decide +kernel) (by decide +kernel)
theorem k_im_Model_init : Cond.instanceMethod y_Model_init ∈ tb := tb_i 635 (by decide +kernel) (by decide +kernel)
theorem k_cd_Model_init : Cond.code y_Model_init b_Model_init 4 none ∈ tb := tb_i 636 (by decide +kernel) (by decide +kernel)
theorem k_ml_Model_1 : Cond.methodLink R_Model 1 y_Object_init ∈ tb := tb_i 637 (by decide +kernel) (by decide +kernel)
theorem k_ml_Model_52 : Cond.methodLink R_Model 52 y_Model_power ∈ tb := tb_i 638 (by decide +kernel) (by decide +kernel)
theorem k_st_Model_power : Cond.static y_Model_power ∈ tb := tb_i 639 (by decide +kernel) (by decide +kernel)
theorem k_cd_Model_power : Cond.code y_Model_power b_Model_power 4 (some .int) ∈ tb := tb_i 640 (by decide +kernel) (by decide +kernel)
theorem k_ml_Model_68 : Cond.methodLink R_Model 68 y_Model_product ∈ tb := tb_i 641 (by decide +kernel) (by decide +kernel)
theorem k_st_Model_product : Cond.static y_Model_product ∈ tb := tb_i 642 (by decide +kernel) (by decide +kernel)
theorem k_cd_Model_product : Cond.code y_Model_product b_Model_product 4 (some .int) ∈ tb := tb_i 643 (by decide +kernel) (by decide +kernel)
theorem k_ml_Model_56 : Cond.methodLink R_Model 56 y_Model_around ∈ tb := tb_i 644 (by decide +kernel) (by decide +kernel)
theorem k_st_Model_around : Cond.static y_Model_around ∈ tb := tb_i 645 (by decide +kernel) (by decide +kernel)
theorem k_cd_Model_around : Cond.code y_Model_around b_Model_around 2 (some .int) ∈ tb := tb_i 646 (by decide +kernel) (by decide +kernel)
theorem k_ml_Model_60 : Cond.methodLink R_Model 60 y_Model_expand ∈ tb := tb_i 647 (by decide +kernel) (by decide +kernel)
theorem k_im_Model_expand : Cond.instanceMethod y_Model_expand ∈ tb := tb_i 649 (by decide +kernel) (by decide +kernel)
theorem k_cd_Model_expand : Cond.code y_Model_expand b_Model_expand 9 none ∈ tb := tb_i 650 (by decide +kernel) (by decide +kernel)
theorem k_ml_Model_71 : Cond.methodLink R_Model 71 y_Model_changed ∈ tb := tb_i 651 (by decide +kernel) (by decide +kernel)
theorem k_im_Model_changed : Cond.instanceMethod y_Model_changed ∈ tb := tb_i 653 (by decide +kernel) (by decide +kernel)
theorem k_cd_Model_changed : Cond.code y_Model_changed b_Model_changed 2 (some .int) ∈ tb := tb_i 654 (by decide +kernel) (by decide +kernel)
theorem k_fl_Model_64 : Cond.fieldLink R_Model 64 "SealingDeskModel" "code" "I" ∈ tb := tb_i 655 (by decide +kernel) (by decide +kernel)
theorem k_fl_Model_7 : Cond.fieldLink R_Model 7 "SealingDeskModel" "words" "[I" ∈ tb := tb_i 656 (by decide +kernel) (by decide +kernel)
theorem k_fl_Model_13 : Cond.fieldLink R_Model 13 "SealingDeskModel" "table" "[I" ∈ tb := tb_i 657 (by decide +kernel) (by decide +kernel)
theorem k_fl_Model_16 : Cond.fieldLink R_Model 16 "SealingDeskModel" "untable" "[I" ∈ tb := tb_i 658 (by decide +kernel) (by decide +kernel)
theorem k_fl_Model_133 : Cond.fieldLink R_Model 133 "SealingDeskModel" "inputs" "I" ∈ tb := tb_i 659 (by decide +kernel) (by decide +kernel)
theorem k_fl_Model_19 : Cond.fieldLink R_Model 19 "SealingDeskModel" "input" "[I" ∈ tb := tb_i 660 (by decide +kernel) (by decide +kernel)
theorem k_fl_Model_136 : Cond.fieldLink R_Model 136 "SealingDeskModel" "outputs" "I" ∈ tb := tb_i 661 (by decide +kernel) (by decide +kernel)
theorem k_fl_Model_22 : Cond.fieldLink R_Model 22 "SealingDeskModel" "output" "[I" ∈ tb := tb_i 662 (by decide +kernel) (by decide +kernel)
theorem k_fl_Model_94 : Cond.fieldLink R_Model 94 "SealingDeskModel" "items" "I" ∈ tb := tb_i 663 (by decide +kernel) (by decide +kernel)
theorem k_fl_Model_25 : Cond.fieldLink R_Model 25 "SealingDeskModel" "itemSize" "[I" ∈ tb := tb_i 664 (by decide +kernel) (by decide +kernel)
theorem k_fl_Model_28 : Cond.fieldLink R_Model 28 "SealingDeskModel" "itemBytes" "[I" ∈ tb := tb_i 665 (by decide +kernel) (by decide +kernel)
theorem k_fl_Model_31 : Cond.fieldLink R_Model 31 "SealingDeskModel" "block" "[I" ∈ tb := tb_i 666 (by decide +kernel) (by decide +kernel)
theorem k_fl_Model_34 : Cond.fieldLink R_Model 34 "SealingDeskModel" "moved" "[I" ∈ tb := tb_i 667 (by decide +kernel) (by decide +kernel)
theorem k_fl_Model_100 : Cond.fieldLink R_Model 100 "SealingDeskModel" "rows" "I" ∈ tb := tb_i 668 (by decide +kernel) (by decide +kernel)
theorem k_fl_Model_37 : Cond.fieldLink R_Model 37 "SealingDeskModel" "row" "[I" ∈ tb := tb_i 669 (by decide +kernel) (by decide +kernel)
theorem k_fl_Model_81 : Cond.fieldLink R_Model 81 "SealingDeskModel" "longs" "I" ∈ tb := tb_i 670 (by decide +kernel) (by decide +kernel)
theorem k_fl_Model_40 : Cond.fieldLink R_Model 40 "SealingDeskModel" "text" "[I" ∈ tb := tb_i 671 (by decide +kernel) (by decide +kernel)
theorem k_fl_Model_43 : Cond.fieldLink R_Model 43 "SealingDeskModel" "made" "[I" ∈ tb := tb_i 672 (by decide +kernel) (by decide +kernel)
theorem k_fl_Model_46 : Cond.fieldLink R_Model 46 "SealingDeskModel" "sum" "[I" ∈ tb := tb_i 673 (by decide +kernel) (by decide +kernel)
theorem k_fl_Model_49 : Cond.fieldLink R_Model 49 "SealingDeskModel" "kept" "[I" ∈ tb := tb_i 674 (by decide +kernel) (by decide +kernel)
theorem k_ly_Model_code : Cond.lays R_Model "SealingDeskModel" "code" "I" ∈ tb := tb_i 675 (by decide +kernel) (by decide +kernel)
theorem k_ly_Model_words : Cond.laysFinal R_Model "SealingDeskModel" "words" "[I" ∈ tb := tb_i 677 (by decide +kernel) (by decide +kernel)
theorem k_ly_Model_table : Cond.laysFinal R_Model "SealingDeskModel" "table" "[I" ∈ tb := tb_i 679 (by decide +kernel) (by decide +kernel)
theorem k_ly_Model_untable : Cond.laysFinal R_Model "SealingDeskModel" "untable" "[I" ∈ tb := tb_i 681 (by decide +kernel) (by decide +kernel)
theorem k_ly_Model_inputs : Cond.lays R_Model "SealingDeskModel" "inputs" "I" ∈ tb := tb_i 683 (by decide +kernel) (by decide +kernel)
theorem k_ly_Model_input : Cond.laysFinal R_Model "SealingDeskModel" "input" "[I" ∈ tb := tb_i 685 (by decide +kernel) (by decide +kernel)
theorem k_ly_Model_outputs : Cond.lays R_Model "SealingDeskModel" "outputs" "I" ∈ tb := tb_i 687 (by decide +kernel) (by decide +kernel)
theorem k_ly_Model_output : Cond.laysFinal R_Model "SealingDeskModel" "output" "[I" ∈ tb := tb_i 689 (by decide +kernel) (by decide +kernel)
theorem k_ly_Model_items : Cond.lays R_Model "SealingDeskModel" "items" "I" ∈ tb := tb_i 691 (by decide +kernel) (by decide +kernel)
theorem k_ly_Model_itemSize : Cond.laysFinal R_Model "SealingDeskModel" "itemSize" "[I" ∈ tb := tb_i 693 (by decide +kernel) (by decide +kernel)
theorem k_ly_Model_itemBytes : Cond.laysFinal R_Model "SealingDeskModel" "itemBytes" "[I" ∈ tb := tb_i 695 (by decide +kernel) (by decide +kernel)
theorem k_ly_Model_block : Cond.laysFinal R_Model "SealingDeskModel" "block" "[I" ∈ tb := tb_i 697 (by decide +kernel) (by decide +kernel)
theorem k_ly_Model_moved : Cond.laysFinal R_Model "SealingDeskModel" "moved" "[I" ∈ tb := tb_i 699 (by decide +kernel) (by decide +kernel)
theorem k_ly_Model_rows : Cond.lays R_Model "SealingDeskModel" "rows" "I" ∈ tb := tb_i 701 (by decide +kernel) (by decide +kernel)
theorem k_ly_Model_row : Cond.laysFinal R_Model "SealingDeskModel" "row" "[I" ∈ tb := tb_i 703 (by decide +kernel) (by decide +kernel)
theorem k_ly_Model_longs : Cond.lays R_Model "SealingDeskModel" "longs" "I" ∈ tb := tb_i 705 (by decide +kernel) (by decide +kernel)
theorem k_ly_Model_text : Cond.laysFinal R_Model "SealingDeskModel" "text" "[I" ∈ tb := tb_i 707 (by decide +kernel) (by decide +kernel)
theorem k_ly_Model_made : Cond.laysFinal R_Model "SealingDeskModel" "made" "[I" ∈ tb := tb_i 709 (by decide +kernel) (by decide +kernel)
theorem k_ly_Model_sum : Cond.laysFinal R_Model "SealingDeskModel" "sum" "[I" ∈ tb := tb_i 711 (by decide +kernel) (by decide +kernel)
theorem k_ly_Model_kept : Cond.laysFinal R_Model "SealingDeskModel" "kept" "[I" ∈ tb := tb_i 713 (by decide +kernel) (by decide +kernel)
theorem k_su_Model : Cond.superclass R_Model "java/lang/Object" ∈ tb := tb_i 715 (by decide +kernel) (by decide +kernel)
theorem k_ml_Law_55 : Cond.methodLink R_Law 55 y_Model_thrown ∈ tb := tb_i 716 (by decide +kernel) (by decide +kernel)
theorem k_im_Model_thrown : Cond.instanceMethod y_Model_thrown ∈ tb := tb_i 717 (by decide +kernel) (by decide +kernel)
theorem k_se_Model_thrown_Model_thrown : Cond.selects R_Model y_Model_thrown y_Model_thrown ∈ tb := tb_i 718 (by decide +kernel) (by decide +kernel)
theorem k_cd_Model_thrown : Cond.code y_Model_thrown b_Model_thrown 1 (some .int) ∈ tb := tb_i 719 (by decide +kernel) (by decide +kernel)
theorem k_ml_Law_54 : Cond.methodLink R_Law 54 y_Model_key ∈ tb := tb_i 720 (by decide +kernel) (by decide +kernel)
theorem k_im_Model_key : Cond.instanceMethod y_Model_key ∈ tb := tb_i 721 (by decide +kernel) (by decide +kernel)
theorem k_se_Model_key_Model_key : Cond.selects R_Model y_Model_key y_Model_key ∈ tb := tb_i 722 (by decide +kernel) (by decide +kernel)
theorem k_cd_Model_key : Cond.code y_Model_key b_Model_key 6 none ∈ tb := tb_i 723 (by decide +kernel) (by decide +kernel)
theorem k_ml_Law_61 : Cond.methodLink R_Law 61 y_Model_feed ∈ tb := tb_i 724 (by decide +kernel) (by decide +kernel)
theorem k_im_Model_feed : Cond.instanceMethod y_Model_feed ∈ tb := tb_i 725 (by decide +kernel) (by decide +kernel)
theorem k_se_Model_feed_Model_feed : Cond.selects R_Model y_Model_feed y_Model_feed ∈ tb := tb_i 726 (by decide +kernel) (by decide +kernel)
theorem k_cd_Model_feed : Cond.code y_Model_feed b_Model_feed 4 (some .int) ∈ tb := tb_i 727 (by decide +kernel) (by decide +kernel)
theorem k_ml_Law_65 : Cond.methodLink R_Law 65 y_Model_drop ∈ tb := tb_i 728 (by decide +kernel) (by decide +kernel)
theorem k_im_Model_drop : Cond.instanceMethod y_Model_drop ∈ tb := tb_i 729 (by decide +kernel) (by decide +kernel)
theorem k_se_Model_drop_Model_drop : Cond.selects R_Model y_Model_drop y_Model_drop ∈ tb := tb_i 730 (by decide +kernel) (by decide +kernel)
theorem k_cd_Model_drop : Cond.code y_Model_drop b_Model_drop 1 none ∈ tb := tb_i 731 (by decide +kernel) (by decide +kernel)
theorem k_ml_Law_69 : Cond.methodLink R_Law 69 y_Model_alter ∈ tb := tb_i 732 (by decide +kernel) (by decide +kernel)
theorem k_im_Model_alter : Cond.instanceMethod y_Model_alter ∈ tb := tb_i 733 (by decide +kernel) (by decide +kernel)
theorem k_se_Model_alter_Model_alter : Cond.selects R_Model y_Model_alter y_Model_alter ∈ tb := tb_i 734 (by decide +kernel) (by decide +kernel)
theorem k_cd_Model_alter : Cond.code y_Model_alter b_Model_alter 3 none ∈ tb := tb_i 735 (by decide +kernel) (by decide +kernel)
theorem k_ml_Law_73 : Cond.methodLink R_Law 73 y_Model_item ∈ tb := tb_i 736 (by decide +kernel) (by decide +kernel)
theorem k_im_Model_item : Cond.instanceMethod y_Model_item ∈ tb := tb_i 737 (by decide +kernel) (by decide +kernel)
theorem k_se_Model_item_Model_item : Cond.selects R_Model y_Model_item y_Model_item ∈ tb := tb_i 738 (by decide +kernel) (by decide +kernel)
theorem k_cd_Model_item : Cond.code y_Model_item b_Model_item 2 (some .int) ∈ tb := tb_i 739 (by decide +kernel) (by decide +kernel)
theorem k_ml_Law_77 : Cond.methodLink R_Law 77 y_Model_forget ∈ tb := tb_i 740 (by decide +kernel) (by decide +kernel)
theorem k_im_Model_forget : Cond.instanceMethod y_Model_forget ∈ tb := tb_i 741 (by decide +kernel) (by decide +kernel)
theorem k_se_Model_forget_Model_forget : Cond.selects R_Model y_Model_forget y_Model_forget ∈ tb := tb_i 742 (by decide +kernel) (by decide +kernel)
theorem k_cd_Model_forget : Cond.code y_Model_forget b_Model_forget 2 (some .int) ∈ tb := tb_i 743 (by decide +kernel) (by decide +kernel)
theorem k_ml_Law_81 : Cond.methodLink R_Law 81 y_Model_cipher ∈ tb := tb_i 744 (by decide +kernel) (by decide +kernel)
theorem k_im_Model_cipher : Cond.instanceMethod y_Model_cipher ∈ tb := tb_i 745 (by decide +kernel) (by decide +kernel)
theorem k_se_Model_cipher_Model_cipher : Cond.selects R_Model y_Model_cipher y_Model_cipher ∈ tb := tb_i 746 (by decide +kernel) (by decide +kernel)
theorem k_cd_Model_cipher : Cond.code y_Model_cipher b_Model_cipher 3 none ∈ tb := tb_i 747 (by decide +kernel) (by decide +kernel)
theorem k_ml_Model_139 : Cond.methodLink R_Model 139 y_Model_begin ∈ tb := tb_i 748 (by decide +kernel) (by decide +kernel)
theorem k_im_Model_begin : Cond.instanceMethod y_Model_begin ∈ tb := tb_i 750 (by decide +kernel) (by decide +kernel)
theorem k_cd_Model_begin : Cond.code y_Model_begin b_Model_begin 2 none ∈ tb := tb_i 751 (by decide +kernel) (by decide +kernel)
theorem k_ml_Model_120 : Cond.methodLink R_Model 120 y_Model_single ∈ tb := tb_i 752 (by decide +kernel) (by decide +kernel)
theorem k_im_Model_single : Cond.instanceMethod y_Model_single ∈ tb := tb_i 754 (by decide +kernel) (by decide +kernel)
theorem k_cd_Model_single : Cond.code y_Model_single b_Model_single 3 none ∈ tb := tb_i 755 (by decide +kernel) (by decide +kernel)
theorem k_ml_Model_114 : Cond.methodLink R_Model 114 y_Model_decipher ∈ tb := tb_i 756 (by decide +kernel) (by decide +kernel)
theorem k_im_Model_decipher : Cond.instanceMethod y_Model_decipher ∈ tb := tb_i 758 (by decide +kernel) (by decide +kernel)
theorem k_cd_Model_decipher : Cond.code y_Model_decipher b_Model_decipher 6 none ∈ tb := tb_i 759 (by decide +kernel) (by decide +kernel)
theorem k_ml_Model_74 : Cond.methodLink R_Model 74 y_Model_addKey ∈ tb := tb_i 760 (by decide +kernel) (by decide +kernel)
theorem k_im_Model_addKey : Cond.instanceMethod y_Model_addKey ∈ tb := tb_i 762 (by decide +kernel) (by decide +kernel)
theorem k_cd_Model_addKey : Cond.code y_Model_addKey b_Model_addKey 4 none ∈ tb := tb_i 763 (by decide +kernel) (by decide +kernel)
theorem k_ml_Model_84 : Cond.methodLink R_Model 84 y_Model_encipher ∈ tb := tb_i 764 (by decide +kernel) (by decide +kernel)
theorem k_im_Model_encipher : Cond.instanceMethod y_Model_encipher ∈ tb := tb_i 766 (by decide +kernel) (by decide +kernel)
theorem k_cd_Model_encipher : Cond.code y_Model_encipher b_Model_encipher 6 none ∈ tb := tb_i 767 (by decide +kernel) (by decide +kernel)
theorem k_ml_Model_142 : Cond.methodLink R_Model 142 y_Model_show ∈ tb := tb_i 768 (by decide +kernel) (by decide +kernel)
theorem k_im_Model_show : Cond.instanceMethod y_Model_show ∈ tb := tb_i 770 (by decide +kernel) (by decide +kernel)
theorem k_cd_Model_show : Cond.code y_Model_show b_Model_show 2 (some .int) ∈ tb := tb_i 771 (by decide +kernel) (by decide +kernel)
theorem k_ml_Law_85 : Cond.methodLink R_Law 85 y_Model_mark ∈ tb := tb_i 772 (by decide +kernel) (by decide +kernel)
theorem k_im_Model_mark : Cond.instanceMethod y_Model_mark ∈ tb := tb_i 773 (by decide +kernel) (by decide +kernel)
theorem k_se_Model_mark_Model_mark : Cond.selects R_Model y_Model_mark y_Model_mark ∈ tb := tb_i 774 (by decide +kernel) (by decide +kernel)
theorem k_cd_Model_mark : Cond.code y_Model_mark b_Model_mark 3 none ∈ tb := tb_i 775 (by decide +kernel) (by decide +kernel)
theorem k_ml_Model_105 : Cond.methodLink R_Model 105 y_Model_markJointly ∈ tb := tb_i 776 (by decide +kernel) (by decide +kernel)
theorem k_im_Model_markJointly : Cond.instanceMethod y_Model_markJointly ∈ tb := tb_i 778 (by decide +kernel) (by decide +kernel)
theorem k_cd_Model_markJointly : Cond.code y_Model_markJointly b_Model_markJointly 3 none ∈ tb := tb_i 779 (by decide +kernel) (by decide +kernel)
theorem k_ml_Model_91 : Cond.methodLink R_Model 91 y_Model_markText ∈ tb := tb_i 780 (by decide +kernel) (by decide +kernel)
theorem k_im_Model_markText : Cond.instanceMethod y_Model_markText ∈ tb := tb_i 782 (by decide +kernel) (by decide +kernel)
theorem k_cd_Model_markText : Cond.code y_Model_markText b_Model_markText 5 none ∈ tb := tb_i 783 (by decide +kernel) (by decide +kernel)
theorem k_ml_Model_88 : Cond.methodLink R_Model 88 y_Model_doubleBlock ∈ tb := tb_i 784 (by decide +kernel) (by decide +kernel)
theorem k_im_Model_doubleBlock : Cond.instanceMethod y_Model_doubleBlock ∈ tb := tb_i 786 (by decide +kernel) (by decide +kernel)
theorem k_cd_Model_doubleBlock : Cond.code y_Model_doubleBlock b_Model_doubleBlock 3 none ∈ tb := tb_i 787 (by decide +kernel) (by decide +kernel)
theorem k_ml_Model_78 : Cond.methodLink R_Model 78 y_Model_bitBehind ∈ tb := tb_i 788 (by decide +kernel) (by decide +kernel)
theorem k_st_Model_bitBehind : Cond.static y_Model_bitBehind ∈ tb := tb_i 789 (by decide +kernel) (by decide +kernel)
theorem k_cd_Model_bitBehind : Cond.code y_Model_bitBehind b_Model_bitBehind 2 (some .int) ∈ tb := tb_i 790 (by decide +kernel) (by decide +kernel)
theorem k_ml_Model_97 : Cond.methodLink R_Model 97 y_Model_doubleSum ∈ tb := tb_i 791 (by decide +kernel) (by decide +kernel)
theorem k_im_Model_doubleSum : Cond.instanceMethod y_Model_doubleSum ∈ tb := tb_i 793 (by decide +kernel) (by decide +kernel)
theorem k_cd_Model_doubleSum : Cond.code y_Model_doubleSum b_Model_doubleSum 3 none ∈ tb := tb_i 794 (by decide +kernel) (by decide +kernel)
theorem k_ml_Law_89 : Cond.methodLink R_Law 89 y_Model_seal ∈ tb := tb_i 795 (by decide +kernel) (by decide +kernel)
theorem k_im_Model_seal : Cond.instanceMethod y_Model_seal ∈ tb := tb_i 796 (by decide +kernel) (by decide +kernel)
theorem k_se_Model_seal_Model_seal : Cond.selects R_Model y_Model_seal y_Model_seal ∈ tb := tb_i 797 (by decide +kernel) (by decide +kernel)
theorem k_cd_Model_seal : Cond.code y_Model_seal b_Model_seal 3 (some .int) ∈ tb := tb_i 798 (by decide +kernel) (by decide +kernel)
theorem k_ml_Model_146 : Cond.methodLink R_Model 146 y_Model_sealMarked ∈ tb := tb_i 799 (by decide +kernel) (by decide +kernel)
theorem k_im_Model_sealMarked : Cond.instanceMethod y_Model_sealMarked ∈ tb := tb_i 801 (by decide +kernel) (by decide +kernel)
theorem k_cd_Model_sealMarked : Cond.code y_Model_sealMarked b_Model_sealMarked 2 none ∈ tb := tb_i 802 (by decide +kernel) (by decide +kernel)
theorem k_ml_Model_108 : Cond.methodLink R_Model 108 y_Model_cross ∈ tb := tb_i 803 (by decide +kernel) (by decide +kernel)
theorem k_im_Model_cross : Cond.instanceMethod y_Model_cross ∈ tb := tb_i 805 (by decide +kernel) (by decide +kernel)
theorem k_cd_Model_cross : Cond.code y_Model_cross b_Model_cross 7 none ∈ tb := tb_i 806 (by decide +kernel) (by decide +kernel)
theorem k_co_Model_103 : Cond.constantLong R_Model 103 (255) ∈ tb := tb_i 807 (by decide +kernel) (by decide +kernel)
theorem k_ml_Model_117 : Cond.methodLink R_Model 117 y_Model_front ∈ tb := tb_i 808 (by decide +kernel) (by decide +kernel)
theorem k_im_Model_front : Cond.instanceMethod y_Model_front ∈ tb := tb_i 810 (by decide +kernel) (by decide +kernel)
theorem k_cd_Model_front : Cond.code y_Model_front b_Model_front 4 none ∈ tb := tb_i 811 (by decide +kernel) (by decide +kernel)
theorem k_ml_Model_124 : Cond.methodLink R_Model 124 y_Model_wrap ∈ tb := tb_i 812 (by decide +kernel) (by decide +kernel)
theorem k_im_Model_wrap : Cond.instanceMethod y_Model_wrap ∈ tb := tb_i 814 (by decide +kernel) (by decide +kernel)
theorem k_cd_Model_wrap : Cond.code y_Model_wrap b_Model_wrap 5 none ∈ tb := tb_i 815 (by decide +kernel) (by decide +kernel)
theorem k_ml_Model_111 : Cond.methodLink R_Model 111 y_Model_number ∈ tb := tb_i 816 (by decide +kernel) (by decide +kernel)
theorem k_im_Model_number : Cond.instanceMethod y_Model_number ∈ tb := tb_i 818 (by decide +kernel) (by decide +kernel)
theorem k_cd_Model_number : Cond.code y_Model_number b_Model_number 2 none ∈ tb := tb_i 819 (by decide +kernel) (by decide +kernel)
theorem k_ml_Model_149 : Cond.methodLink R_Model 149 y_Model_sealPadded ∈ tb := tb_i 820 (by decide +kernel) (by decide +kernel)
theorem k_im_Model_sealPadded : Cond.instanceMethod y_Model_sealPadded ∈ tb := tb_i 822 (by decide +kernel) (by decide +kernel)
theorem k_cd_Model_sealPadded : Cond.code y_Model_sealPadded b_Model_sealPadded 3 none ∈ tb := tb_i 823 (by decide +kernel) (by decide +kernel)
theorem k_ml_Law_92 : Cond.methodLink R_Law 92 y_Model_open ∈ tb := tb_i 824 (by decide +kernel) (by decide +kernel)
theorem k_im_Model_open : Cond.instanceMethod y_Model_open ∈ tb := tb_i 825 (by decide +kernel) (by decide +kernel)
theorem k_se_Model_open_Model_open : Cond.selects R_Model y_Model_open y_Model_open ∈ tb := tb_i 826 (by decide +kernel) (by decide +kernel)
theorem k_cd_Model_open : Cond.code y_Model_open b_Model_open 4 (some .int) ∈ tb := tb_i 827 (by decide +kernel) (by decide +kernel)
theorem k_ml_Model_152 : Cond.methodLink R_Model 152 y_Model_openMarked ∈ tb := tb_i 828 (by decide +kernel) (by decide +kernel)
theorem k_im_Model_openMarked : Cond.instanceMethod y_Model_openMarked ∈ tb := tb_i 830 (by decide +kernel) (by decide +kernel)
theorem k_cd_Model_openMarked : Cond.code y_Model_openMarked b_Model_openMarked 3 (some .boolean) ∈ tb := tb_i 831 (by decide +kernel) (by decide +kernel)
theorem k_ml_Model_156 : Cond.methodLink R_Model 156 y_Model_openWrapped ∈ tb := tb_i 832 (by decide +kernel) (by decide +kernel)
theorem k_im_Model_openWrapped : Cond.instanceMethod y_Model_openWrapped ∈ tb := tb_i 834 (by decide +kernel) (by decide +kernel)
theorem k_cd_Model_openWrapped : Cond.code y_Model_openWrapped b_Model_openWrapped 3 (some .boolean) ∈ tb := tb_i 835 (by decide +kernel) (by decide +kernel)
theorem k_ml_Model_127 : Cond.methodLink R_Model 127 y_Model_unwrap ∈ tb := tb_i 836 (by decide +kernel) (by decide +kernel)
theorem k_im_Model_unwrap : Cond.instanceMethod y_Model_unwrap ∈ tb := tb_i 838 (by decide +kernel) (by decide +kernel)
theorem k_cd_Model_unwrap : Cond.code y_Model_unwrap b_Model_unwrap 5 none ∈ tb := tb_i 839 (by decide +kernel) (by decide +kernel)
theorem k_ml_Model_130 : Cond.methodLink R_Model 130 y_Model_dropFront ∈ tb := tb_i 840 (by decide +kernel) (by decide +kernel)
theorem k_im_Model_dropFront : Cond.instanceMethod y_Model_dropFront ∈ tb := tb_i 842 (by decide +kernel) (by decide +kernel)
theorem k_cd_Model_dropFront : Cond.code y_Model_dropFront b_Model_dropFront 2 none ∈ tb := tb_i 843 (by decide +kernel) (by decide +kernel)
theorem k_ml_Model_159 : Cond.methodLink R_Model 159 y_Model_openPadded ∈ tb := tb_i 844 (by decide +kernel) (by decide +kernel)
theorem k_im_Model_openPadded : Cond.instanceMethod y_Model_openPadded ∈ tb := tb_i 846 (by decide +kernel) (by decide +kernel)
theorem k_cd_Model_openPadded : Cond.code y_Model_openPadded b_Model_openPadded 4 (some .boolean) ∈ tb := tb_i 847 (by decide +kernel) (by decide +kernel)
theorem k_ml_Law_96 : Cond.methodLink R_Law 96 y_Model_size ∈ tb := tb_i 848 (by decide +kernel) (by decide +kernel)
theorem k_im_Model_size : Cond.instanceMethod y_Model_size ∈ tb := tb_i 849 (by decide +kernel) (by decide +kernel)
theorem k_se_Model_size_Model_size : Cond.selects R_Model y_Model_size y_Model_size ∈ tb := tb_i 850 (by decide +kernel) (by decide +kernel)
theorem k_cd_Model_size : Cond.code y_Model_size b_Model_size 1 (some .int) ∈ tb := tb_i 851 (by decide +kernel) (by decide +kernel)
theorem k_ml_Law_99 : Cond.methodLink R_Law 99 y_Model_at ∈ tb := tb_i 852 (by decide +kernel) (by decide +kernel)
theorem k_im_Model_at : Cond.instanceMethod y_Model_at ∈ tb := tb_i 853 (by decide +kernel) (by decide +kernel)
theorem k_se_Model_at_Model_at : Cond.selects R_Model y_Model_at y_Model_at ∈ tb := tb_i 854 (by decide +kernel) (by decide +kernel)
theorem k_cd_Model_at : Cond.code y_Model_at b_Model_at 2 (some .int) ∈ tb := tb_i 855 (by decide +kernel) (by decide +kernel)
theorem k_ml_Law_103 : Cond.methodLink R_Law 103 y_Model_take ∈ tb := tb_i 856 (by decide +kernel) (by decide +kernel)
theorem k_im_Model_take : Cond.instanceMethod y_Model_take ∈ tb := tb_i 857 (by decide +kernel) (by decide +kernel)
theorem k_se_Model_take_Model_take : Cond.selects R_Model y_Model_take y_Model_take ∈ tb := tb_i 858 (by decide +kernel) (by decide +kernel)
theorem k_cd_Model_take : Cond.code y_Model_take b_Model_take 2 (some .int) ∈ tb := tb_i 859 (by decide +kernel) (by decide +kernel)
theorem k_ac_long : Cond.arrayClass .long ∈ tb := tb_i 860 (by decide +kernel) (by decide +kernel)
theorem k_se_Wrapped_canLock_Wrapped_canLock : Cond.selects R_Wrapped y_Wrapped_canLock y_Wrapped_canLock ∈ tb := tb_i 862 (by decide +kernel) (by decide +kernel)
end
section
theorem p_se_Tables_enter : Cond.selects R_Tables y_Tables_enter y_Tables_enter ∈ tb := tb_p (y := y_Tables_enter) (n := 2) 0 (by decide +kernel)
theorem p_se_Cipher_expandFrom : Cond.selects R_Cipher y_Cipher_expandFrom y_Cipher_expandFrom ∈ tb := tb_p (y := y_Cipher_expandFrom) (n := 3) 1 (by decide +kernel)
theorem p_se_Cipher_addRoundKey : Cond.selects R_Cipher y_Cipher_addRoundKey y_Cipher_addRoundKey ∈ tb := tb_p (y := y_Cipher_addRoundKey) (n := 3) 2 (by decide +kernel)
theorem p_se_Cipher_substitute : Cond.selects R_Cipher y_Cipher_substitute y_Cipher_substitute ∈ tb := tb_p (y := y_Cipher_substitute) (n := 3) 3 (by decide +kernel)
theorem p_se_Cipher_substituteBack : Cond.selects R_Cipher y_Cipher_substituteBack y_Cipher_substituteBack ∈ tb := tb_p (y := y_Cipher_substituteBack) (n := 3) 5 (by decide +kernel)
theorem p_se_Marked_addStream : Cond.selects R_Marked y_Marked_addStream y_Marked_addStream ∈ tb := tb_p (y := y_Marked_addStream) (n := 6) 6 (by decide +kernel)
theorem p_se_Marked_nextBlock : Cond.selects R_Marked y_Marked_nextBlock y_Marked_nextBlock ∈ tb := tb_p (y := y_Marked_nextBlock) (n := 6) 7 (by decide +kernel)
theorem p_se_Wrapping_lift : Cond.selects R_Wrapping y_Wrapping_lift y_Wrapping_lift ∈ tb := tb_p (y := y_Wrapping_lift) (n := 2) 8 (by decide +kernel)
theorem p_se_Wrapping_addNumber : Cond.selects R_Wrapping y_Wrapping_addNumber y_Wrapping_addNumber ∈ tb := tb_p (y := y_Wrapping_addNumber) (n := 2) 9 (by decide +kernel)
theorem p_se_Wrapping_lay : Cond.selects R_Wrapping y_Wrapping_lay y_Wrapping_lay ∈ tb := tb_p (y := y_Wrapping_lay) (n := 2) 10 (by decide +kernel)
theorem p_se_Model_expand : Cond.selects R_Model y_Model_expand y_Model_expand ∈ tb := tb_p (y := y_Model_expand) (n := 20) 11 (by decide +kernel)
theorem p_se_Model_changed : Cond.selects R_Model y_Model_changed y_Model_changed ∈ tb := tb_p (y := y_Model_changed) (n := 20) 12 (by decide +kernel)
theorem p_se_Model_begin : Cond.selects R_Model y_Model_begin y_Model_begin ∈ tb := tb_p (y := y_Model_begin) (n := 20) 13 (by decide +kernel)
theorem p_se_Model_single : Cond.selects R_Model y_Model_single y_Model_single ∈ tb := tb_p (y := y_Model_single) (n := 20) 14 (by decide +kernel)
theorem p_se_Model_decipher : Cond.selects R_Model y_Model_decipher y_Model_decipher ∈ tb := tb_p (y := y_Model_decipher) (n := 20) 15 (by decide +kernel)
theorem p_se_Model_addKey : Cond.selects R_Model y_Model_addKey y_Model_addKey ∈ tb := tb_p (y := y_Model_addKey) (n := 20) 16 (by decide +kernel)
theorem p_se_Model_encipher : Cond.selects R_Model y_Model_encipher y_Model_encipher ∈ tb := tb_p (y := y_Model_encipher) (n := 20) 17 (by decide +kernel)
theorem p_se_Model_show : Cond.selects R_Model y_Model_show y_Model_show ∈ tb := tb_p (y := y_Model_show) (n := 20) 18 (by decide +kernel)
theorem p_se_Model_markJointly : Cond.selects R_Model y_Model_markJointly y_Model_markJointly ∈ tb := tb_p (y := y_Model_markJointly) (n := 20) 19 (by decide +kernel)
theorem p_se_Model_markText : Cond.selects R_Model y_Model_markText y_Model_markText ∈ tb := tb_p (y := y_Model_markText) (n := 20) 20 (by decide +kernel)
theorem p_se_Model_doubleBlock : Cond.selects R_Model y_Model_doubleBlock y_Model_doubleBlock ∈ tb := tb_p (y := y_Model_doubleBlock) (n := 20) 21 (by decide +kernel)
theorem p_se_Model_doubleSum : Cond.selects R_Model y_Model_doubleSum y_Model_doubleSum ∈ tb := tb_p (y := y_Model_doubleSum) (n := 20) 22 (by decide +kernel)
theorem p_se_Model_sealMarked : Cond.selects R_Model y_Model_sealMarked y_Model_sealMarked ∈ tb := tb_p (y := y_Model_sealMarked) (n := 20) 23 (by decide +kernel)
theorem p_se_Model_cross : Cond.selects R_Model y_Model_cross y_Model_cross ∈ tb := tb_p (y := y_Model_cross) (n := 20) 24 (by decide +kernel)
theorem p_se_Model_front : Cond.selects R_Model y_Model_front y_Model_front ∈ tb := tb_p (y := y_Model_front) (n := 20) 25 (by decide +kernel)
theorem p_se_Model_wrap : Cond.selects R_Model y_Model_wrap y_Model_wrap ∈ tb := tb_p (y := y_Model_wrap) (n := 20) 26 (by decide +kernel)
theorem p_se_Model_number : Cond.selects R_Model y_Model_number y_Model_number ∈ tb := tb_p (y := y_Model_number) (n := 20) 27 (by decide +kernel)
theorem p_se_Model_sealPadded : Cond.selects R_Model y_Model_sealPadded y_Model_sealPadded ∈ tb := tb_p (y := y_Model_sealPadded) (n := 20) 28 (by decide +kernel)
theorem p_se_Model_openMarked : Cond.selects R_Model y_Model_openMarked y_Model_openMarked ∈ tb := tb_p (y := y_Model_openMarked) (n := 20) 29 (by decide +kernel)
theorem p_se_Model_openWrapped : Cond.selects R_Model y_Model_openWrapped y_Model_openWrapped ∈ tb := tb_p (y := y_Model_openWrapped) (n := 20) 30 (by decide +kernel)
theorem p_se_Model_unwrap : Cond.selects R_Model y_Model_unwrap y_Model_unwrap ∈ tb := tb_p (y := y_Model_unwrap) (n := 20) 31 (by decide +kernel)
theorem p_se_Model_dropFront : Cond.selects R_Model y_Model_dropFront y_Model_dropFront ∈ tb := tb_p (y := y_Model_dropFront) (n := 20) 32 (by decide +kernel)
theorem p_se_Model_openPadded : Cond.selects R_Model y_Model_openPadded y_Model_openPadded ∈ tb := tb_p (y := y_Model_openPadded) (n := 20) 33 (by decide +kernel)
/-- a class by its number: name, fields, how many -/
def Tc (ci : Nat) : vw_C := Cls.getD ci ("", fun _ => ("", "", "", false), 0)
theorem Tc_at {ci : Nat} (h : Nat.blt ci Cls.length = true) : Cls[ci]? = some ((Tc ci).1, (Tc ci).2.1, (Tc ci).2.2) := by
  have h1 : ci < Cls.length := Nat.le_of_ble_eq_true h
  unfold Tc
  rw [List.getD_eq_getElem?_getD, List.getElem?_eq_getElem h1]
  rfl
def Tc_ty (ci : Nat) : Nat → FieldType := match ci with
  | 0 => t_Desk
  | 1 => t_Model
  | 2 => t_Cipher
  | 3 => t_Items
  | 4 => t_Marked
  | 5 => t_Marker
  | 6 => t_Padded
  | 7 => t_Row
  | 8 => t_Tables
  | 9 => t_Wrapped
  | _ => t_Wrapping
theorem in_Desk : ∀ w ∈ u_ws R_Desk F_Desk 7, w ∈ tb := by
  intro w hw
  obtain ⟨k, hk, rfl⟩ := List.mem_map.mp hw
  have hk := List.mem_range.mp hk
  rcases (show k = 0 ∨ k = 1 ∨ k = 2 ∨ k = 3 ∨ k = 4 ∨ k = 5 ∨ k = 6 by omega) with rfl | rfl | rfl | rfl | rfl | rfl | rfl
  · exact k_ly_Desk_ciphers
  · exact k_ly_Desk_marker
  · exact k_ly_Desk_ways
  · exact k_ly_Desk_items
  · exact k_ly_Desk_input
  · exact k_ly_Desk_output
  · exact k_ly_Desk_opened
theorem in_Model : ∀ w ∈ u_ws R_Model F_Model 20, w ∈ tb := by
  intro w hw
  obtain ⟨k, hk, rfl⟩ := List.mem_map.mp hw
  have hk := List.mem_range.mp hk
  rcases (show k = 0 ∨ k = 1 ∨ k = 2 ∨ k = 3 ∨ k = 4 ∨ k = 5 ∨ k = 6 ∨ k = 7 ∨ k = 8 ∨ k = 9 ∨ k = 10 ∨ k = 11 ∨ k = 12 ∨ k = 13 ∨ k = 14 ∨ k = 15 ∨ k = 16 ∨ k = 17 ∨ k = 18 ∨ k = 19 by omega) with rfl | rfl | rfl | rfl | rfl | rfl | rfl | rfl | rfl | rfl | rfl | rfl | rfl | rfl | rfl | rfl | rfl | rfl | rfl | rfl
  · exact k_ly_Model_code
  · exact k_ly_Model_words
  · exact k_ly_Model_table
  · exact k_ly_Model_untable
  · exact k_ly_Model_inputs
  · exact k_ly_Model_input
  · exact k_ly_Model_outputs
  · exact k_ly_Model_output
  · exact k_ly_Model_items
  · exact k_ly_Model_itemSize
  · exact k_ly_Model_itemBytes
  · exact k_ly_Model_block
  · exact k_ly_Model_moved
  · exact k_ly_Model_rows
  · exact k_ly_Model_row
  · exact k_ly_Model_longs
  · exact k_ly_Model_text
  · exact k_ly_Model_made
  · exact k_ly_Model_sum
  · exact k_ly_Model_kept
theorem in_Cipher : ∀ w ∈ u_ws R_Cipher F_Cipher 3, w ∈ tb := by
  intro w hw
  obtain ⟨k, hk, rfl⟩ := List.mem_map.mp hw
  have hk := List.mem_range.mp hk
  rcases (show k = 0 ∨ k = 1 ∨ k = 2 by omega) with rfl | rfl | rfl
  · exact k_ly_Cipher_tables
  · exact k_ly_Cipher_roundKeys
  · exact k_ly_Cipher_before
theorem in_Items : ∀ w ∈ u_ws R_Items F_Items 2, w ∈ tb := by
  intro w hw
  obtain ⟨k, hk, rfl⟩ := List.mem_map.mp hw
  have hk := List.mem_range.mp hk
  rcases (show k = 0 ∨ k = 1 by omega) with rfl | rfl
  · exact k_ly_Items_rows
  · exact k_ly_Items_count
theorem in_Marked : ∀ w ∈ u_ws R_Marked F_Marked 6, w ∈ tb := by
  intro w hw
  obtain ⟨k, hk, rfl⟩ := List.mem_map.mp hw
  have hk := List.mem_range.mp hk
  rcases (show k = 0 ∨ k = 1 ∨ k = 2 ∨ k = 3 ∨ k = 4 ∨ k = 5 by omega) with rfl | rfl | rfl | rfl | rfl | rfl
  · exact k_ly_Marked_marker
  · exact k_ly_Marked_items
  · exact k_ly_Marked_cipher
  · exact k_ly_Marked_sign
  · exact k_ly_Marked_counter
  · exact k_ly_Marked_block
theorem in_Marker : ∀ w ∈ u_ws R_Marker F_Marker 4, w ∈ tb := by
  intro w hw
  obtain ⟨k, hk, rfl⟩ := List.mem_map.mp hw
  have hk := List.mem_range.mp hk
  rcases (show k = 0 ∨ k = 1 ∨ k = 2 ∨ k = 3 by omega) with rfl | rfl | rfl | rfl
  · exact k_ly_Marker_cipher
  · exact k_ly_Marker_twist
  · exact k_ly_Marker_sum
  · exact k_ly_Marker_joined
theorem in_Padded : ∀ w ∈ u_ws R_Padded F_Padded 2, w ∈ tb := by
  intro w hw
  obtain ⟨k, hk, rfl⟩ := List.mem_map.mp hw
  have hk := List.mem_range.mp hk
  rcases (show k = 0 ∨ k = 1 by omega) with rfl | rfl
  · exact k_ly_Padded_wrapping
  · exact k_ly_Padded_cipher
theorem in_Row : ∀ w ∈ u_ws R_Row F_Row 2, w ∈ tb := by
  intro w hw
  obtain ⟨k, hk, rfl⟩ := List.mem_map.mp hw
  have hk := List.mem_range.mp hk
  rcases (show k = 0 ∨ k = 1 by omega) with rfl | rfl
  · exact k_ly_Row_bytes
  · exact k_ly_Row_length
theorem in_Tables : ∀ w ∈ u_ws R_Tables F_Tables 2, w ∈ tb := by
  intro w hw
  obtain ⟨k, hk, rfl⟩ := List.mem_map.mp hw
  have hk := List.mem_range.mp hk
  rcases (show k = 0 ∨ k = 1 by omega) with rfl | rfl
  · exact k_ly_Tables_forth
  · exact k_ly_Tables_back
theorem in_Wrapped : ∀ w ∈ u_ws R_Wrapped F_Wrapped 1, w ∈ tb := by
  intro w hw
  obtain ⟨k, hk, rfl⟩ := List.mem_map.mp hw
  have hk := List.mem_range.mp hk
  rcases (show k = 0 by omega) with rfl
  · exact k_ly_Wrapped_wrapping
theorem in_Wrapping : ∀ w ∈ u_ws R_Wrapping F_Wrapping 2, w ∈ tb := by
  intro w hw
  obtain ⟨k, hk, rfl⟩ := List.mem_map.mp hw
  have hk := List.mem_range.mp hk
  rcases (show k = 0 ∨ k = 1 by omega) with rfl | rfl
  · exact k_ly_Wrapping_cipher
  · exact k_ly_Wrapping_block
theorem Tc_in {ci : Nat} (h : Nat.blt ci Cls.length = true) : ∀ w ∈ u_ws (Tc ci).1 (Tc ci).2.1 (Tc ci).2.2, w ∈ tb := by
  have h1 : ci < 11 := Nat.le_of_ble_eq_true h
  match ci, h1 with
  | 0, _ => exact in_Desk
  | 1, _ => exact in_Model
  | 2, _ => exact in_Cipher
  | 3, _ => exact in_Items
  | 4, _ => exact in_Marked
  | 5, _ => exact in_Marker
  | 6, _ => exact in_Padded
  | 7, _ => exact in_Row
  | 8, _ => exact in_Tables
  | 9, _ => exact in_Wrapped
  | 10, _ => exact in_Wrapping
theorem Tc_tyok {ci : Nat} (h : Nat.blt ci Cls.length = true) : ∀ k, k < (Tc ci).2.2 → parseFieldDescriptor ((Tc ci).2.1 k).2.2.1 = some (Tc_ty ci k) := by
  have h1 : ci < 11 := Nat.le_of_ble_eq_true h
  match ci, h1 with
  | 0, _ => exact t_Desk_ok
  | 1, _ => exact t_Model_ok
  | 2, _ => exact t_Cipher_ok
  | 3, _ => exact t_Items_ok
  | 4, _ => exact t_Marked_ok
  | 5, _ => exact t_Marker_ok
  | 6, _ => exact t_Padded_ok
  | 7, _ => exact t_Row_ok
  | 8, _ => exact t_Tables_ok
  | 9, _ => exact t_Wrapped_ok
  | 10, _ => exact t_Wrapping_ok
theorem Tc_nm {ci : Nat} (h : Nat.blt ci Cls.length = true) : ∀ a, a < (Tc ci).2.2 → ∀ b, b < (Tc ci).2.2 → a ≠ b → ((Tc ci).2.1 a).2.1 ≠ ((Tc ci).2.1 b).2.1 := by
  have h1 : ci < 11 := Nat.le_of_ble_eq_true h
  match ci, h1 with
  | 0, _ => exact n_Desk
  | 1, _ => exact n_Model
  | 2, _ => exact n_Cipher
  | 3, _ => exact n_Items
  | 4, _ => exact n_Marked
  | 5, _ => exact n_Marker
  | 6, _ => exact n_Padded
  | 7, _ => exact n_Row
  | 8, _ => exact n_Tables
  | 9, _ => exact n_Wrapped
  | 10, _ => exact n_Wrapping
end
section
/-- an int array's contents, as a list of naturals -/
def la (L : List Nat) : Nat → Int32 := fun k => nI (L.getD k 0)
theorem la_at (L : List Nat) {i : Nat} (h : i < 2 ^ 31) : la L (nI i).toNatClampNeg = nI (L.getD i 0) := by
  unfold la
  rw [nI_clamp h]
theorem la_set {L : List Nat} {i v : Nat} (h : i < L.length) : upd (la L) i (nI v) = la (L.set i v) := by
  funext k
  unfold upd la
  by_cases hk : k = i
  · subst hk
    rw [if_pos rfl, List.getD_eq_getElem?_getD, List.getElem?_set_self h]
    rfl
  · rw [if_neg hk, List.getD_eq_getElem?_getD, List.getD_eq_getElem?_getD, List.getElem?_set_ne (Ne.symm hk)]
theorem la_zero (n : Nat) : (fun _ => (0 : Int32)) = la (List.replicate n 0) := by
  funext k
  unfold la
  rw [List.getD_eq_getElem?_getD, List.getElem?_replicate]
  split <;> rfl
/-- n places of f, from sp on, laid over g from dp on -/
def cpy (f g : List Nat) (sp dp n : Nat) : List Nat := g.take dp ++ ((f.drop sp).take n ++ g.drop (dp + n))
theorem cpy_length {f g : List Nat} {sp dp n : Nat} (h1 : sp + n ≤ f.length) (h2 : dp + n ≤ g.length) : (cpy f g sp dp n).length = g.length := by
  simp [cpy]
  omega
theorem la_cpy {f g : List Nat} {sp dp n : Nat} (h1 : sp + n ≤ f.length) (h2 : dp + n ≤ g.length) : va_cpy (la f) (la g) sp dp n = la (cpy f g sp dp n) := by
  funext k
  unfold va_cpy la cpy
  rw [List.getD_eq_getElem?_getD (l := List.take dp g ++ _)]
  by_cases hk : k < dp
  · rw [if_neg (by omega), List.getElem?_append_left (by simp; omega), List.getElem?_take_of_lt hk, List.getD_eq_getElem?_getD]
  · rw [List.getElem?_append_right (by simp; omega)]
    have e1 : (List.take dp g).length = dp := by simp; omega
    rw [e1]
    by_cases hk2 : k < dp + n
    · rw [if_pos (by omega), List.getElem?_append_left (by simp; omega), List.getElem?_take_of_lt (by omega), List.getElem?_drop, List.getD_eq_getElem?_getD]
    · have e2 : (List.take n (List.drop sp f)).length = n := by simp; omega
      rw [if_neg (by omega), List.getElem?_append_right (by rw [e2]; omega), e2, List.getElem?_drop, List.getD_eq_getElem?_getD]
      congr 3
      omega
theorem nx_and (a b : Nat) : nI a &&& nI b = nI (a &&& b) := by
  apply Int32.toBitVec_inj.1
  show BitVec.ofNat 32 a &&& BitVec.ofNat 32 b = BitVec.ofNat 32 (a &&& b)
  rw [BitVec.ofNat_and]
theorem nx_xor (a b : Nat) : nI a ^^^ nI b = nI (a ^^^ b) := by
  apply Int32.toBitVec_inj.1
  show BitVec.ofNat 32 a ^^^ BitVec.ofNat 32 b = BitVec.ofNat 32 (a ^^^ b)
  rw [BitVec.ofNat_xor]
theorem nx_or (a b : Nat) : nI a ||| nI b = nI (a ||| b) := by
  apply Int32.toBitVec_inj.1
  show BitVec.ofNat 32 a ||| BitVec.ofNat 32 b = BitVec.ofNat 32 (a ||| b)
  rw [BitVec.ofNat_or]
theorem ln_s31 : ∀ n, n < 32 → ((nI n &&& 31).toBitVec.smod 32).toNat = n := by decide +kernel
theorem ln_u31 : ∀ n, n < 32 → (((nI n).toUInt32 &&& Int32.toUInt32 31).toBitVec % 32).toNat = n := by decide +kernel
/-! Worlds by number: the cells that the run has made, in the order of their making; a frame in one word; rows of the walk. -/
abbrev Hp : Type := List va_E
def zA (z i : Nat) : Nat := z + i
def wl (z : Nat) (h : Hp) : va_W := h.zipIdx.map (fun q => (zA z q.2, q.1))
theorem wl_at (z : Nat) (h : Hp) (i : Nat) : (wl z h)[i]? = (h[i]?).map (fun e => (zA z i, e)) := by
  unfold wl
  rw [List.getElem?_map, List.getElem?_zipIdx]
  cases h[i]? <;> simp
theorem wl_get {z : Nat} {h : Hp} {i : Nat} {e : va_E} (hi : h[i]? = some e) : (wl z h)[i]? = some (zA z i, e) := by
  rw [wl_at, hi]
  rfl
theorem wl_len (z : Nat) (h : Hp) : (wl z h).length = h.length := by simp [wl]
theorem wl_set (z : Nat) (h : Hp) (i : Nat) (e : va_E) : wl z (h.set i e) = (wl z h).set i (zA z i, e) := by
  apply List.ext_getElem?
  intro j
  rw [wl_at, List.getElem?_set, List.getElem?_set, wl_len]
  by_cases hj : i = j
  · subst hj
    simp only [if_true]
    split <;> rfl
  · simp only [hj, if_false, wl_at]
theorem wl_push (z : Nat) (h : Hp) (e : va_E) : wl z (h ++ [e]) = wl z h ++ [(zA z h.length, e)] := by
  unfold wl
  rw [List.zipIdx_append]
  simp
theorem wl_of {z : Nat} {h : Hp} {i : Nat} {q : Nat × va_E} (hi : (wl z h)[i]? = some q) : q.1 = z + i := by
  rw [wl_at] at hi
  cases hh : h[i]? with
  | none => rw [hh] at hi; simp at hi
  | some e => rw [hh] at hi; simp at hi; rw [← hi]; rfl
theorem wl_D (z : Nat) (h : Hp) : va_D (fun q => z ≤ q) (wl z h) := by
  refine ⟨fun i j p q hi hj hpq => ?_, fun k q hk => ?_⟩
  · have h1 := wl_of hi
    have h2 := wl_of hj
    omega
  · have h1 := wl_of hk
    show z ≤ q.1
    omega
/-- launch, classes and their slots, classes of arrays, the first address -/
abbrev Gp : Type := Launch × va_G × (Nat → ClassId) × Nat
abbrev gl (g : Gp) : Launch := g.1
abbrev gD (g : Gp) : va_G := g.2.1
abbrev gC (g : Gp) : Nat → ClassId := g.2.2.1
abbrev gz (g : Gp) : Nat := g.2.2.2
def gT (g : Gp) : List (ClassId × FieldType) := [(gC g 0, .int), (gC g 1, .long), (gC g 2, .object R_Row), (gC g 3, .object R_Cipher), (gC g 4, .object R_Way)]
def zle (g : Gp) : Nat → Prop := fun q => gz g ≤ q
/-- the heap holds the cells h from the first address on, and no more -/
def Rl (g : Gp) (h : Hp) (H : Heap) : Prop := va_P (gD g) Cls (wl (gz g) h) H ∧ H.size = gz g + h.length
/-- a method: name, code, room for locals, answer -/
abbrev MD : Type := MethodName × ByteArray × Nat × Option FieldType
def wz (md : MD) : List Cond := .code md.1 md.2.1 md.2.2.1 md.2.2.2 :: tb
def rmo (fr : Nat) (mc : Nat × Nat) : Room := { frames := fr, cells := mc.1, slots := mc.2, locals := 36 * fr }
/-- the words that aren't good ones -/
def nzw (U : State) : Prop := (∀ q ∈ nwM, va_Nw (.methodLinkNest q.1 q.2.1 q.2.2.1 q.2.2.2) U) ∧ (∀ x ∈ nwD, va_Nw (.declares x) U) ∧ ∀ c ∈ nwA, va_AO c U
theorem nzw.warm {s U : State} (hW : s.WarmedH U.vm) (h : nzw s) : nzw U := ⟨fun q hq => va_Nw.warmM hW (h.1 q hq), fun x hx => va_Nw.warmD hW (h.2.1 x hx), fun c hc => va_AO.moved hW.alike (h.2.2 c hc)⟩
theorem nzw.same {s U : State} (hv : s.vm = U.vm) (h : nzw s) : nzw U := ⟨fun q hq => va_Nw.same rfl hv (h.1 q hq), fun x hx => va_Nw.same rfl hv (h.2.1 x hx), fun c hc => va_AO.moved (by rw [hv]; exact Vm.Alike.refl _) (h.2.2 c hc)⟩
/-- a method's end -/
def Qx (g : Gp) (Post : Outcome → Hp → Prop) : Array Value → State → Outcome → State → Prop := fun _ st o t => (∃ h', Post o h' ∧ Rl g h' t.heap) ∧ va_F (zle g) st t
def Px (g : Gp) (av : List Value) (h : Hp) : Array Value → State → Prop := va_Pc av (fun U => Rl g h U.heap ∧ va_K (gD g) Cls (gT g) U ∧ nzw U)
/-- a contract: on the arguments av and the cells h the method ends with Post -/
def Con (g : Gp) (md : MD) (fr : Nat) (mc : Nat × Nat) (av : List Value) (h : Hp) (Post : Outcome → Hp → Prop) : Prop :=
  Met (gl g) md.1 (wz md) (rmo fr mc) (Px g av h) (Qx g Post) mc.1 mc.2 (zle g)
/-- an exact end -/
def Ret (r : Option Value) (h : Hp) : Outcome → Hp → Prop := fun o h' => o = .returned r ∧ h' = h
/-- the locals -/
def lx (ls : Array Slot) (nL : Nat) (L : List (Option Value)) : Prop := ls.size = nL ∧ lv_wf ls ∧ ∀ (i : Nat) (v : Value), L[i]? = some (some v) → ls[i]? = some (.val v)
def lp (L : List (Option Value)) : List (Nat × Value) := L.zipIdx.filterMap (fun q => q.1.map (fun v => (q.2, v)))
theorem lp_mem {L : List (Option Value)} {i : Nat} {v : Value} : (i, v) ∈ lp L ↔ L[i]? = some (some v) := by
  unfold lp
  rw [List.mem_filterMap]
  constructor
  · rintro ⟨⟨x, j⟩, h1, h2⟩
    have h3 := List.mem_zipIdx_iff_getElem?.mp h1
    cases x with
    | none => simp at h2
    | some w =>
      simp at h2
      obtain ⟨rfl, rfl⟩ := h2
      exact h3
  · intro h
    exact ⟨(some v, i), List.mem_zipIdx_iff_getElem?.mpr h, rfl⟩
theorem lx_has {ls : Array Slot} {nL : Nat} {L : List (Option Value)} (h : lx ls nL L) : lv_has ls nL (lp L) :=
  ⟨h.1, h.2.1, fun q hq => h.2.2 q.1 q.2 (lp_mem.mp hq)⟩
/-- no long stands just below place i -/
def ok1 (L : List (Option Value)) : Nat → Bool
  | 0 => true
  | j + 1 => match L[j]? with
    | some (some v) => !(v.category == 2)
    | _ => true
theorem ok1_spec {L : List (Option Value)} {i j : Nat} {v : Value} (h : ok1 L i = true) (hj : L[j]? = some (some v)) : (!(j + 1 == i && v.category == 2)) = true := by
  cases i with
  | zero => simp
  | succ k =>
    by_cases hk : j = k
    · subst hk
      simp only [ok1, hj] at h
      simpa using h
    · have : (j + 1 == k + 1) = false := by simpa using hk
      rw [this]
      rfl
theorem lx_st1 {ls : Array Slot} {nL i : Nat} {L : List (Option Value)} {v : Value} (hok : ok1 L i = true) (h : lv_has ls nL ((i, v) :: (lp L).filter (fun q => !(q.1 == i) && !(q.1 + 1 == i && q.2.category == 2)))) : lx ls nL (L.set i (some v)) := by
  refine ⟨h.1, h.2.1, fun j w hj => ?_⟩
  rw [List.getElem?_set] at hj
  by_cases hij : i = j
  · subst hij
    simp only [if_true] at hj
    split at hj
    · cases hj
      exact h.2.2 (i, v) List.mem_cons_self
    · cases hj
  · simp only [hij, if_false] at hj
    refine h.2.2 (j, w) (List.mem_cons_of_mem _ (List.mem_filter.mpr ⟨lp_mem.mpr hj, ?_⟩))
    rw [Bool.and_eq_true]
    exact ⟨by simpa using fun e => hij e.symm, ok1_spec hok hj⟩
theorem lx_st2 {ls : Array Slot} {nL i : Nat} {L : List (Option Value)} {v : Value} (hok : ok1 L i = true) (h : lv_has ls nL ((i, v) :: (lp L).filter (fun q => !(q.1 == i) && (!(q.1 == i + 1) && !(q.1 + 1 == i && q.2.category == 2))))) : lx ls nL ((L.set i (some v)).set (i + 1) none) := by
  refine ⟨h.1, h.2.1, fun j w hj => ?_⟩
  rw [List.getElem?_set] at hj
  by_cases hij1 : i + 1 = j
  · simp only [hij1, if_true] at hj
    split at hj <;> cases hj
  · simp only [hij1, if_false] at hj
    rw [List.getElem?_set] at hj
    by_cases hij : i = j
    · subst hij
      simp only [if_true] at hj
      split at hj
      · cases hj
        exact h.2.2 (i, v) List.mem_cons_self
      · cases hj
    · simp only [hij, if_false] at hj
      refine h.2.2 (j, w) (List.mem_cons_of_mem _ (List.mem_filter.mpr ⟨lp_mem.mpr hj, ?_⟩))
      rw [Bool.and_eq_true, Bool.and_eq_true]
      exact ⟨by simpa using fun e => hij e.symm, by simpa using fun e => hij1 e.symm, ok1_spec hok hj⟩
/-- the locals at a method's entry (no long among its arguments) -/
def lin (av : List Value) (n : Nat) : List (Option Value) := av.map some ++ List.replicate (n - av.length) none
theorem lv_args_at : ∀ (vs : List Value) (k i : Nat) (v : Value), (vs.all fun v => v.category == 1) = true → vs[i]? = some v → (k + i, v) ∈ lv_args k vs
  | [], k, i, v, _, h => by simp at h
  | a :: vs, k, i, v, hc, h => by
    rw [List.all_cons, Bool.and_eq_true, beq_iff_eq] at hc
    cases i with
    | zero =>
      simp at h
      subst h
      exact List.mem_cons_self
    | succ i =>
      rw [List.getElem?_cons_succ] at h
      have h1 := lv_args_at vs (k + 1) i v hc.2 h
      refine List.mem_cons_of_mem _ ?_
      rw [if_neg (by rw [hc.1]; decide)]
      rw [show k + (i + 1) = k + 1 + i by omega]
      exact h1
theorem lin_lx {av : List Value} {n : Nat} {ls : Array Slot} (hc : (av.all fun v => v.category == 1) = true) (h : lv_has ls n (lv_args 0 av)) : lx ls n (lin av n) := by
  refine ⟨h.1, h.2.1, fun i v hi => ?_⟩
  unfold lin at hi
  by_cases hl : i < av.length
  · rw [List.getElem?_append_left (by simpa using hl), List.getElem?_map] at hi
    cases ha : av[i]? with
    | none => rw [ha] at hi; cases hi
    | some w =>
      rw [ha] at hi
      simp at hi
      subst hi
      have := lv_args_at av 0 i w hc ha
      rw [Nat.zero_add] at this
      exact h.2.2 (i, w) this
  · rw [List.getElem?_append_right (by simpa using hl), List.getElem?_replicate] at hi
    split at hi <;> cases hi
/-- a frame's fixed things: program, environment, room, start, method, arguments, frames below, the method's entry, its code -/
abbrev Fm : Type := Program × Env × Room × State × MethodId × Array Value × List Frame × Method × Code
abbrev fP (f : Fm) : Program := f.1
abbrev fE (f : Fm) : Env := f.2.1
abbrev fR (f : Fm) : Room := f.2.2.1
abbrev fS (f : Fm) : State := f.2.2.2.1
abbrev fI (f : Fm) : MethodId := f.2.2.2.2.1
abbrev fA (f : Fm) : Array Value := f.2.2.2.2.2.1
abbrev fB (f : Fm) : List Frame := f.2.2.2.2.2.2.1
abbrev fM (f : Fm) : Method := f.2.2.2.2.2.2.2.1
abbrev fC (f : Fm) : Code := f.2.2.2.2.2.2.2.2
/-- the walk: at pc, with locals L, operand stack st, cells h, the method comes to its end with Post -/
def X (g : Gp) (f : Fm) (md : MD) (mc : Nat × Nat) (Post : Outcome → Hp → Prop) (n : Nat × Nat) (pc : Nat) (L : List (Option Value)) (st : List Value) (h : Hp) : Prop :=
  ∀ (H : Heap) (locs : List Loc) (ls : Array Slot), Rl g h H → va_S (zle g) (fS f).heap H locs → lx ls md.2.2.1 L →
    W (fP f) (gl g) (fE f) (fR f) (fS f) (fI f) (fA f) (fB f) (fM f) (fC f) H locs n.1 n.2 (MQ (fB f) (Qx g Post) (fA f) (fS f) mc.1 mc.2 (zle g)) (F0 (fI f) pc ls st)
/-- what a frame knows -/
def Cx (g : Gp) (f : Fm) (md : MD) (fr : Nat) (mc : Nat × Nat) : Prop :=
  (fP f).tables.exec = Jvm.exec ∧ (fC f).code = md.2.1 ∧ (fM f).sig.returnType = md.2.2.2 ∧ (∀ w ∈ tb, w.before (fA f) (fS f) = true) ∧ (fS f).vm.findClass md.1.cls = some (fI f).cls ∧
  (fC f).maxLocals = md.2.2.1 ∧ (fM f).locks = false ∧ va_K (gD g) Cls (gT g) (fS f) ∧ nzw (fS f) ∧ (fM f).name = md.1.name ∧ (fR f) = rmo fr mc ∧ gz g ≤ (fS f).heap.size
section XC
variable {g : Gp} {f : Fm} {md : MD} {fr : Nat} {mc : Nat × Nat}
theorem Cx.exec (C : Cx g f md fr mc) : (fP f).tables.exec = Jvm.exec := C.1
theorem Cx.code (C : Cx g f md fr mc) : (fC f).code = md.2.1 := C.2.1
theorem Cx.ret (C : Cx g f md fr mc) : (fM f).sig.returnType = md.2.2.2 := C.2.2.1
theorem Cx.ts (C : Cx g f md fr mc) : ∀ w ∈ tb, w.before (fA f) (fS f) = true := C.2.2.2.1
theorem Cx.own (C : Cx g f md fr mc) : (fS f).vm.findClass md.1.cls = some (fI f).cls := C.2.2.2.2.1
theorem Cx.ml (C : Cx g f md fr mc) : (fC f).maxLocals = md.2.2.1 := C.2.2.2.2.2.1
theorem Cx.locks (C : Cx g f md fr mc) : (fM f).locks = false := C.2.2.2.2.2.2.1
theorem Cx.K (C : Cx g f md fr mc) : va_K (gD g) Cls (gT g) (fS f) := C.2.2.2.2.2.2.2.1
theorem Cx.nw (C : Cx g f md fr mc) : nzw (fS f) := C.2.2.2.2.2.2.2.2.1
theorem Cx.name (C : Cx g f md fr mc) : (fM f).name = md.1.name := C.2.2.2.2.2.2.2.2.2.1
theorem Cx.room (C : Cx g f md fr mc) : (fR f) = rmo fr mc := C.2.2.2.2.2.2.2.2.2.2.1
theorem Cx.z (C : Cx g f md fr mc) : gz g ≤ (fS f).heap.size := C.2.2.2.2.2.2.2.2.2.2.2
end XC
theorem Con.of {g : Gp} {md : MD} {fr : Nat} {mc : Nat × Nat} {av : List Value} {h : Hp} {Post : Outcome → Hp → Prop} (hy : plainName md.1.cls = true) (hc : (av.all fun v => v.category == 1) = true) (hn : Nat.ble av.length md.2.2.1 = true) {L : List (Option Value)} (hL : lin av md.2.2.1 = L)
    (body : ∀ f : Fm, Cx g f md fr mc → X g f md mc Post (0, 0) 0 L [] h) : Con g md fr mc av h Post := by
  refine Met.ofW (cc := md.2.1) (maxL := md.2.2.1) (ret := md.2.2.2) (ws' := tb) hy rfl ?_
  intro p e s m args below meth c s₁ B hml hv
  obtain ⟨rfl, hR, hK, hz⟩ := hv
  have hts := atoms_spec (ws := wz md) B.pre
  have hl0 : (lg_sl av).length ≤ md.2.2.1 := by
    have h1 : ∀ vs : List Value, (vs.all fun v => v.category == 1) = true → (lg_sl vs).length = vs.length := by
      intro vs
      induction vs with
      | nil => intro _; rfl
      | cons v vs ih =>
        intro h
        rw [List.all_cons, Bool.and_eq_true, beq_iff_eq] at h
        have h2 := ih h.2
        have h3 : lg_sl (v :: vs) = [.val v] ++ lg_sl vs := by simp [lg_sl, h.1]
        rw [h3, List.length_append, h2]
        show 1 + vs.length = vs.length + 1
        omega
    rw [h1 av hc]
    exact Nat.le_of_ble_eq_true hn
  have hl := lin_lx hc (lv_entry av hl0)
  rw [hL] at hl
  rw [lg_entry_eq]
  exact body (p, e, (headSpec (wz md) (rmo fr mc)).room, s, m, av.toArray, below, meth, c) ⟨B.exec, B.bytes, B.returns, fun w hw => hts w (List.mem_cons_of_mem _ hw), findClass_of_methodNamed B.named, hml, B.notSynchronized, hK, hz, (name_of_methodNamed B.named B.method).1, rfl, by rw [hR.2]; exact Nat.le_add_right _ _⟩ s.heap [] _ hR va_S.rf hl
theorem Con.weaken {g : Gp} {md : MD} {fr : Nat} {mc : Nat × Nat} {av : List Value} {h : Hp} {Post Post' : Outcome → Hp → Prop} (H : Con g md fr mc av h Post) (hp : ∀ o h', Post o h' → Post' o h') : Con g md fr mc av h Post' := by
  intro p e ha hc hk s m args below hf happ hP hKK
  obtain ⟨s₂, o, h1, h2, h3, ⟨⟨h', q1, q2⟩, q3⟩, q4⟩ := H p e ha hc hk s m args below hf happ hP hKK
  exact ⟨s₂, o, h1, h2, h3, ⟨⟨h', hp _ _ q1, q2⟩, q3⟩, q4⟩
section XR
variable {g : Gp} {f : Fm} {md : MD} {fr : Nat} {mc : Nat × Nat} {Post : Outcome → Hp → Prop} {n : Nat × Nat} {pc : Nat} {L : List (Option Value)} {st : List Value} {h : Hp}
theorem x_iconst {a : Int} {v : Int32} (C : Cx g f md fr mc) (d : decode md.2.1 pc = .ok (.iconst a, 1)) (hv : Int32.ofInt a = v) (k : X g f md mc Post n (pc + 1) L (.int v :: st) h) : X g f md mc Post n pc L (st) h :=
  fun H locs ls hR hS hl => lv_iconst C.exec C.code d hv (k H locs ls hR hS hl)
theorem x_bipush {a : Int} {v : Int32} (C : Cx g f md fr mc) (d : decode md.2.1 pc = .ok (.bipush a, 2)) (hv : (Int8.ofInt a).toInt32 = v) (k : X g f md mc Post n (pc + 2) L (.int v :: st) h) : X g f md mc Post n pc L (st) h :=
  fun H locs ls hR hS hl => lv_bipush C.exec C.code d hv (k H locs ls hR hS hl)
theorem x_sipush {a : Int} {v : Int32} (C : Cx g f md fr mc) (d : decode md.2.1 pc = .ok (.sipush a, 3)) (hv : (Int16.ofInt a).toInt32 = v) (k : X g f md mc Post n (pc + 3) L (.int v :: st) h) : X g f md mc Post n pc L (st) h :=
  fun H locs ls hR hS hl => lv_sipush C.exec C.code d hv (k H locs ls hR hS hl)
theorem x_lconst {a : Fin 2} {v : Int64} (C : Cx g f md fr mc) (d : decode md.2.1 pc = .ok (.lconst a, 1)) (hv : Int64.ofNat (a : Nat) = v) (k : X g f md mc Post n (pc + 1) L (.long v :: st) h) : X g f md mc Post n pc L (st) h :=
  fun H locs ls hR hS hl => lv_lconst C.exec C.code d hv (k H locs ls hR hS hl)
theorem x_iload_n {q : Fin 4} {x : Int32} (C : Cx g f md fr mc) (d : decode md.2.1 pc = .ok (.iload_n q, 1)) (hk : L[(q : Nat)]? = some (some (.int x))) (k : X g f md mc Post n (pc + 1) L (.int x :: st) h) : X g f md mc Post n pc L (st) h :=
  fun H locs ls hR hS hl => lv_iload_n C.exec C.code d rfl (hl.2.2 _ _ hk) (k H locs ls hR hS hl)
theorem x_iload {q : Nat} {x : Int32} (C : Cx g f md fr mc) (d : decode md.2.1 pc = .ok (.iload q, 2)) (hk : L[q]? = some (some (.int x))) (k : X g f md mc Post n (pc + 2) L (.int x :: st) h) : X g f md mc Post n pc L (st) h :=
  fun H locs ls hR hS hl => lv_iload C.exec C.code d (hl.2.2 _ _ hk) (k H locs ls hR hS hl)
theorem x_istore_n {q : Fin 4} {i : Nat} {x : Int32} (C : Cx g f md fr mc) (d : decode md.2.1 pc = .ok (.istore_n q, 1)) (hi : (q : Nat) = i) (hn : Nat.blt (i) md.2.2.1 = true) (hok : ok1 L i = true) (k : X g f md mc Post n (pc + 1) (L.set i (some (.int x))) st h) : X g f md mc Post n pc L (.int x :: st) h := fun H locs ls hR hS hl => lv_istore_n C.exec C.code d hi (lx_has hl) (Nat.le_of_ble_eq_true hn) rfl (fun ls2 h2 => k H locs ls2 hR hS (lx_st1 hok h2))
theorem x_istore {q i : Nat} {x : Int32} (C : Cx g f md fr mc) (d : decode md.2.1 pc = .ok (.istore q, 2)) (hi : q = i) (hn : Nat.blt (i) md.2.2.1 = true) (hok : ok1 L i = true) (k : X g f md mc Post n (pc + 2) (L.set i (some (.int x))) st h) : X g f md mc Post n pc L (.int x :: st) h := by
  subst hi
  exact fun H locs ls hR hS hl => lv_istore C.exec C.code d (lx_has hl) (Nat.le_of_ble_eq_true hn) rfl (fun ls2 h2 => k H locs ls2 hR hS (lx_st1 hok h2))
theorem x_lload_n {q : Fin 4} {x : Int64} (C : Cx g f md fr mc) (d : decode md.2.1 pc = .ok (.lload_n q, 1)) (hk : L[(q : Nat)]? = some (some (.long x))) (k : X g f md mc Post n (pc + 1) L (.long x :: st) h) : X g f md mc Post n pc L (st) h :=
  fun H locs ls hR hS hl => lv_lload_n C.exec C.code d rfl (hl.2.2 _ _ hk) (k H locs ls hR hS hl)
theorem x_lload {q : Nat} {x : Int64} (C : Cx g f md fr mc) (d : decode md.2.1 pc = .ok (.lload q, 2)) (hk : L[q]? = some (some (.long x))) (k : X g f md mc Post n (pc + 2) L (.long x :: st) h) : X g f md mc Post n pc L (st) h :=
  fun H locs ls hR hS hl => lv_lload C.exec C.code d (hl.2.2 _ _ hk) (k H locs ls hR hS hl)
theorem x_lstore_n {q : Fin 4} {i : Nat} {x : Int64} (C : Cx g f md fr mc) (d : decode md.2.1 pc = .ok (.lstore_n q, 1)) (hi : (q : Nat) = i) (hn : Nat.blt (i + 1) md.2.2.1 = true) (hok : ok1 L i = true) (k : X g f md mc Post n (pc + 1) ((L.set i (some (.long x))).set (i + 1) none) st h) : X g f md mc Post n pc L (.long x :: st) h := fun H locs ls hR hS hl => lv_lstore_n C.exec C.code d hi (lx_has hl) (Nat.le_of_ble_eq_true hn) rfl (fun ls2 h2 => k H locs ls2 hR hS (lx_st2 hok h2))
theorem x_lstore {q i : Nat} {x : Int64} (C : Cx g f md fr mc) (d : decode md.2.1 pc = .ok (.lstore q, 2)) (hi : q = i) (hn : Nat.blt (i + 1) md.2.2.1 = true) (hok : ok1 L i = true) (k : X g f md mc Post n (pc + 2) ((L.set i (some (.long x))).set (i + 1) none) st h) : X g f md mc Post n pc L (.long x :: st) h := by
  subst hi
  exact fun H locs ls hR hS hl => lv_lstore C.exec C.code d (lx_has hl) (Nat.le_of_ble_eq_true hn) rfl (fun ls2 h2 => k H locs ls2 hR hS (lx_st2 hok h2))
theorem x_aload_n {q : Fin 4} {x : Nat} (C : Cx g f md fr mc) (d : decode md.2.1 pc = .ok (.aload_n q, 1)) (hk : L[(q : Nat)]? = some (some (.ref x))) (k : X g f md mc Post n (pc + 1) L (.ref x :: st) h) : X g f md mc Post n pc L (st) h :=
  fun H locs ls hR hS hl => lv_aload_n C.exec C.code d rfl (hl.2.2 _ _ hk) (k H locs ls hR hS hl)
theorem x_aload {q : Nat} {x : Nat} (C : Cx g f md fr mc) (d : decode md.2.1 pc = .ok (.aload q, 2)) (hk : L[q]? = some (some (.ref x))) (k : X g f md mc Post n (pc + 2) L (.ref x :: st) h) : X g f md mc Post n pc L (st) h :=
  fun H locs ls hR hS hl => lv_aload C.exec C.code d (hl.2.2 _ _ hk) (k H locs ls hR hS hl)
theorem x_astore_n {q : Fin 4} {i : Nat} {x : Nat} (C : Cx g f md fr mc) (d : decode md.2.1 pc = .ok (.astore_n q, 1)) (hi : (q : Nat) = i) (hn : Nat.blt (i) md.2.2.1 = true) (hok : ok1 L i = true) (k : X g f md mc Post n (pc + 1) (L.set i (some (.ref x))) st h) : X g f md mc Post n pc L (.ref x :: st) h := fun H locs ls hR hS hl => lv_astore_n C.exec C.code d hi (lx_has hl) (Nat.le_of_ble_eq_true hn) rfl (fun ls2 h2 => k H locs ls2 hR hS (lx_st1 hok h2))
theorem x_astore {q i : Nat} {x : Nat} (C : Cx g f md fr mc) (d : decode md.2.1 pc = .ok (.astore q, 2)) (hi : q = i) (hn : Nat.blt (i) md.2.2.1 = true) (hok : ok1 L i = true) (k : X g f md mc Post n (pc + 2) (L.set i (some (.ref x))) st h) : X g f md mc Post n pc L (.ref x :: st) h := by
  subst hi
  exact fun H locs ls hR hS hl => lv_astore C.exec C.code d (lx_has hl) (Nat.le_of_ble_eq_true hn) rfl (fun ls2 h2 => k H locs ls2 hR hS (lx_st1 hok h2))
theorem x_iinc {q : Nat} {a : Int} {x v : Int32} (C : Cx g f md fr mc) (d : decode md.2.1 pc = .ok (.iinc q a, 3)) (hk : L[q]? = some (some (.int x))) (hv : x + Int32.ofInt a = v) (hn : Nat.blt q md.2.2.1 = true) (hok : ok1 L q = true) (k : X g f md mc Post n (pc + 3) (L.set q (some (.int v))) st h) : X g f md mc Post n pc L st h := by
  intro H locs ls hR hS hl
  obtain ⟨j, hj⟩ := List.getElem?_of_mem (lp_mem.mpr hk)
  exact lv_iinc C.exec C.code d (lx_has hl) hj hv (Nat.le_of_ble_eq_true hn) rfl (fun ls2 h2 => k H locs ls2 hR hS (lx_st1 hok h2))
theorem x_iadd {x y : Int32} (C : Cx g f md fr mc) (d : decode md.2.1 pc = .ok (.iadd, 1))  (k : X g f md mc Post n (pc + 1) L (.int (x + y) :: st) h) : X g f md mc Post n pc L (.int y :: .int x :: st) h :=
  fun H locs ls hR hS hl => lv_iadd C.exec C.code d (k H locs ls hR hS hl)
theorem x_isub {x y : Int32} (C : Cx g f md fr mc) (d : decode md.2.1 pc = .ok (.isub, 1))  (k : X g f md mc Post n (pc + 1) L (.int (x - y) :: st) h) : X g f md mc Post n pc L (.int y :: .int x :: st) h :=
  fun H locs ls hR hS hl => lv_isub C.exec C.code d (k H locs ls hR hS hl)
theorem x_imul {x y : Int32} (C : Cx g f md fr mc) (d : decode md.2.1 pc = .ok (.imul, 1))  (k : X g f md mc Post n (pc + 1) L (.int (x * y) :: st) h) : X g f md mc Post n pc L (.int y :: .int x :: st) h :=
  fun H locs ls hR hS hl => lv_imul C.exec C.code d (k H locs ls hR hS hl)
theorem x_iand {x y : Int32} (C : Cx g f md fr mc) (d : decode md.2.1 pc = .ok (.iand, 1))  (k : X g f md mc Post n (pc + 1) L (.int (x &&& y) :: st) h) : X g f md mc Post n pc L (.int y :: .int x :: st) h :=
  fun H locs ls hR hS hl => lv_iand C.exec C.code d (k H locs ls hR hS hl)
theorem x_ior {x y : Int32} (C : Cx g f md fr mc) (d : decode md.2.1 pc = .ok (.ior, 1))  (k : X g f md mc Post n (pc + 1) L (.int (x ||| y) :: st) h) : X g f md mc Post n pc L (.int y :: .int x :: st) h :=
  fun H locs ls hR hS hl => lv_ior C.exec C.code d (k H locs ls hR hS hl)
theorem x_ixor {x y : Int32} (C : Cx g f md fr mc) (d : decode md.2.1 pc = .ok (.ixor, 1))  (k : X g f md mc Post n (pc + 1) L (.int (x ^^^ y) :: st) h) : X g f md mc Post n pc L (.int y :: .int x :: st) h :=
  fun H locs ls hR hS hl => lv_ixor C.exec C.code d (k H locs ls hR hS hl)
theorem x_ladd {x y : Int64} (C : Cx g f md fr mc) (d : decode md.2.1 pc = .ok (.ladd, 1))  (k : X g f md mc Post n (pc + 1) L (.long (x + y) :: st) h) : X g f md mc Post n pc L (.long y :: .long x :: st) h :=
  fun H locs ls hR hS hl => lv_ladd C.exec C.code d (k H locs ls hR hS hl)
theorem x_land {x y : Int64} (C : Cx g f md fr mc) (d : decode md.2.1 pc = .ok (.land, 1))  (k : X g f md mc Post n (pc + 1) L (.long (x &&& y) :: st) h) : X g f md mc Post n pc L (.long y :: .long x :: st) h :=
  fun H locs ls hR hS hl => lv_land C.exec C.code d (k H locs ls hR hS hl)
theorem x_lor {x y : Int64} (C : Cx g f md fr mc) (d : decode md.2.1 pc = .ok (.lor, 1))  (k : X g f md mc Post n (pc + 1) L (.long (x ||| y) :: st) h) : X g f md mc Post n pc L (.long y :: .long x :: st) h :=
  fun H locs ls hR hS hl => lv_lor C.exec C.code d (k H locs ls hR hS hl)
theorem x_i2l {x : Int32} {v : Int64} (C : Cx g f md fr mc) (d : decode md.2.1 pc = .ok (.i2l, 1)) (hv : x.toInt64 = v) (k : X g f md mc Post n (pc + 1) L (.long v :: st) h) : X g f md mc Post n pc L (.int x :: st) h :=
  fun H locs ls hR hS hl => lv_i2l C.exec C.code d hv (k H locs ls hR hS hl)
theorem x_l2i {x : Int64} {v : Int32} (C : Cx g f md fr mc) (d : decode md.2.1 pc = .ok (.l2i, 1)) (hv : x.toInt32 = v) (k : X g f md mc Post n (pc + 1) L (.int v :: st) h) : X g f md mc Post n pc L (.long x :: st) h :=
  fun H locs ls hR hS hl => lv_l2i C.exec C.code d hv (k H locs ls hR hS hl)
theorem x_lshl {x v : Int64} {y : Int32} (C : Cx g f md fr mc) (d : decode md.2.1 pc = .ok (.lshl, 1)) (hv : x <<< (y.toInt64 &&& 63) = v) (k : X g f md mc Post n (pc + 1) L (.long v :: st) h) : X g f md mc Post n pc L (.int y :: .long x :: st) h :=
  fun H locs ls hR hS hl => lv_lshl C.exec C.code d hv (k H locs ls hR hS hl)
theorem x_lshr {x v : Int64} {y : Int32} (C : Cx g f md fr mc) (d : decode md.2.1 pc = .ok (.lshr, 1)) (hv : x >>> (y.toInt64 &&& 63) = v) (k : X g f md mc Post n (pc + 1) L (.long v :: st) h) : X g f md mc Post n pc L (.int y :: .long x :: st) h :=
  fun H locs ls hR hS hl => lv_lshr C.exec C.code d hv (k H locs ls hR hS hl)
theorem x_dup {a : Value} (C : Cx g f md fr mc) (d : decode md.2.1 pc = .ok (.dup, 1)) (ha : a.category = 1) (k : X g f md mc Post n (pc + 1) L (a :: a :: st) h) : X g f md mc Post n pc L (a :: st) h :=
  fun H locs ls hR hS hl => lv_dup C.exec C.code d ha (k H locs ls hR hS hl)
theorem x_dup2 {a b : Value} (C : Cx g f md fr mc) (d : decode md.2.1 pc = .ok (.dup2, 1)) (ha : a.category = 1) (hb : b.category = 1) (k : X g f md mc Post n (pc + 1) L (a :: b :: a :: b :: st) h) : X g f md mc Post n pc L (a :: b :: st) h :=
  fun H locs ls hR hS hl => lv_dup2_11 C.exec C.code d ha hb (k H locs ls hR hS hl)
theorem x_pop {a : Value} (C : Cx g f md fr mc) (d : decode md.2.1 pc = .ok (.pop, 1)) (ha : a.category = 1) (k : X g f md mc Post n (pc + 1) L (st) h) : X g f md mc Post n pc L (a :: st) h :=
  fun H locs ls hR hS hl => lv_pop C.exec C.code d ha (k H locs ls hR hS hl)
theorem x_goto {off : Int} {tgt : Nat} (C : Cx g f md fr mc) (d : decode md.2.1 pc = .ok (.goto off, 3)) (ht : (pc : Int) + off = (tgt : Int)) (k : X g f md mc Post n tgt L st h) : X g f md mc Post n pc L st h :=
  fun H locs ls hR hS hl => lv_goto C.exec C.code d ht (k H locs ls hR hS hl)
theorem x_ifeq {x : Int32} {off : Int} {tgt : Nat} (C : Cx g f md fr mc) (d : decode md.2.1 pc = .ok (.ifCond .eq off, 3)) (ht : (pc : Int) + off = (tgt : Int)) (kt : x = 0 → X g f md mc Post n tgt L st h) (kf : ¬ x = 0 → X g f md mc Post n (pc + 3) L st h) : X g f md mc Post n pc L (.int x :: st) h :=
  fun H locs ls hR hS hl => lv_if_eq C.exec C.code d ht (fun q => kt q H locs ls hR hS hl) (fun q => kf q H locs ls hR hS hl)
theorem x_eq {x y : Int32} {off : Int} {tgt : Nat} (C : Cx g f md fr mc) (d : decode md.2.1 pc = .ok (.if_icmp .eq off, 3)) (ht : (pc : Int) + off = (tgt : Int)) (kt : x = y → X g f md mc Post n tgt L st h) (kf : ¬ x = y → X g f md mc Post n (pc + 3) L st h) : X g f md mc Post n pc L (.int y :: .int x :: st) h :=
  fun H locs ls hR hS hl => lv_icmp_eq C.exec C.code d ht (fun q => kt q H locs ls hR hS hl) (fun q => kf q H locs ls hR hS hl)
theorem x_ifne {x : Int32} {off : Int} {tgt : Nat} (C : Cx g f md fr mc) (d : decode md.2.1 pc = .ok (.ifCond .ne off, 3)) (ht : (pc : Int) + off = (tgt : Int)) (kt : ¬ x = 0 → X g f md mc Post n tgt L st h) (kf : x = 0 → X g f md mc Post n (pc + 3) L st h) : X g f md mc Post n pc L (.int x :: st) h :=
  fun H locs ls hR hS hl => lv_if_ne C.exec C.code d ht (fun q => kt q H locs ls hR hS hl) (fun q => kf q H locs ls hR hS hl)
theorem x_ne {x y : Int32} {off : Int} {tgt : Nat} (C : Cx g f md fr mc) (d : decode md.2.1 pc = .ok (.if_icmp .ne off, 3)) (ht : (pc : Int) + off = (tgt : Int)) (kt : ¬ x = y → X g f md mc Post n tgt L st h) (kf : x = y → X g f md mc Post n (pc + 3) L st h) : X g f md mc Post n pc L (.int y :: .int x :: st) h :=
  fun H locs ls hR hS hl => lv_icmp_ne C.exec C.code d ht (fun q => kt q H locs ls hR hS hl) (fun q => kf q H locs ls hR hS hl)
theorem x_iflt {x : Int32} {off : Int} {tgt : Nat} (C : Cx g f md fr mc) (d : decode md.2.1 pc = .ok (.ifCond .lt off, 3)) (ht : (pc : Int) + off = (tgt : Int)) (kt : x < 0 → X g f md mc Post n tgt L st h) (kf : ¬ x < 0 → X g f md mc Post n (pc + 3) L st h) : X g f md mc Post n pc L (.int x :: st) h :=
  fun H locs ls hR hS hl => lv_if_lt C.exec C.code d ht (fun q => kt q H locs ls hR hS hl) (fun q => kf q H locs ls hR hS hl)
theorem x_lt {x y : Int32} {off : Int} {tgt : Nat} (C : Cx g f md fr mc) (d : decode md.2.1 pc = .ok (.if_icmp .lt off, 3)) (ht : (pc : Int) + off = (tgt : Int)) (kt : x < y → X g f md mc Post n tgt L st h) (kf : ¬ x < y → X g f md mc Post n (pc + 3) L st h) : X g f md mc Post n pc L (.int y :: .int x :: st) h :=
  fun H locs ls hR hS hl => lv_icmp_lt C.exec C.code d ht (fun q => kt q H locs ls hR hS hl) (fun q => kf q H locs ls hR hS hl)
theorem x_ifge {x : Int32} {off : Int} {tgt : Nat} (C : Cx g f md fr mc) (d : decode md.2.1 pc = .ok (.ifCond .ge off, 3)) (ht : (pc : Int) + off = (tgt : Int)) (kt : 0 ≤ x → X g f md mc Post n tgt L st h) (kf : ¬ 0 ≤ x → X g f md mc Post n (pc + 3) L st h) : X g f md mc Post n pc L (.int x :: st) h :=
  fun H locs ls hR hS hl => lv_if_ge C.exec C.code d ht (fun q => kt q H locs ls hR hS hl) (fun q => kf q H locs ls hR hS hl)
theorem x_ge {x y : Int32} {off : Int} {tgt : Nat} (C : Cx g f md fr mc) (d : decode md.2.1 pc = .ok (.if_icmp .ge off, 3)) (ht : (pc : Int) + off = (tgt : Int)) (kt : y ≤ x → X g f md mc Post n tgt L st h) (kf : ¬ y ≤ x → X g f md mc Post n (pc + 3) L st h) : X g f md mc Post n pc L (.int y :: .int x :: st) h :=
  fun H locs ls hR hS hl => lv_icmp_ge C.exec C.code d ht (fun q => kt q H locs ls hR hS hl) (fun q => kf q H locs ls hR hS hl)
theorem x_ifgt {x : Int32} {off : Int} {tgt : Nat} (C : Cx g f md fr mc) (d : decode md.2.1 pc = .ok (.ifCond .gt off, 3)) (ht : (pc : Int) + off = (tgt : Int)) (kt : 0 < x → X g f md mc Post n tgt L st h) (kf : ¬ 0 < x → X g f md mc Post n (pc + 3) L st h) : X g f md mc Post n pc L (.int x :: st) h :=
  fun H locs ls hR hS hl => lv_if_gt C.exec C.code d ht (fun q => kt q H locs ls hR hS hl) (fun q => kf q H locs ls hR hS hl)
theorem x_gt {x y : Int32} {off : Int} {tgt : Nat} (C : Cx g f md fr mc) (d : decode md.2.1 pc = .ok (.if_icmp .gt off, 3)) (ht : (pc : Int) + off = (tgt : Int)) (kt : y < x → X g f md mc Post n tgt L st h) (kf : ¬ y < x → X g f md mc Post n (pc + 3) L st h) : X g f md mc Post n pc L (.int y :: .int x :: st) h :=
  fun H locs ls hR hS hl => lv_icmp_gt C.exec C.code d ht (fun q => kt q H locs ls hR hS hl) (fun q => kf q H locs ls hR hS hl)
theorem x_ifle {x : Int32} {off : Int} {tgt : Nat} (C : Cx g f md fr mc) (d : decode md.2.1 pc = .ok (.ifCond .le off, 3)) (ht : (pc : Int) + off = (tgt : Int)) (kt : x ≤ 0 → X g f md mc Post n tgt L st h) (kf : ¬ x ≤ 0 → X g f md mc Post n (pc + 3) L st h) : X g f md mc Post n pc L (.int x :: st) h :=
  fun H locs ls hR hS hl => lv_if_le C.exec C.code d ht (fun q => kt q H locs ls hR hS hl) (fun q => kf q H locs ls hR hS hl)
theorem x_le {x y : Int32} {off : Int} {tgt : Nat} (C : Cx g f md fr mc) (d : decode md.2.1 pc = .ok (.if_icmp .le off, 3)) (ht : (pc : Int) + off = (tgt : Int)) (kt : x ≤ y → X g f md mc Post n tgt L st h) (kf : ¬ x ≤ y → X g f md mc Post n (pc + 3) L st h) : X g f md mc Post n pc L (.int y :: .int x :: st) h :=
  fun H locs ls hR hS hl => lv_icmp_le C.exec C.code d ht (fun q => kt q H locs ls hR hS hl) (fun q => kf q H locs ls hR hS hl)
theorem n_eq {a b : Nat} {off : Int} {tgt : Nat} (C : Cx g f md fr mc) (d : decode md.2.1 pc = .ok (.if_icmp .eq off, 3)) (ht : (pc : Int) + off = (tgt : Int)) (hx : a < 2 ^ 31 ∧ b < 2 ^ 31) (kt : a = b → X g f md mc Post n tgt L st h) (kf : a ≠ b → X g f md mc Post n (pc + 3) L st h) : X g f md mc Post n pc L (.int (nI b) :: .int (nI a) :: st) h :=
  x_eq C d ht (fun q => kt ((nI_eq hx.1 hx.2).mp q)) (fun q => kf fun z => q ((nI_eq hx.1 hx.2).mpr z))
theorem n_eq_t {a b : Nat} {off : Int} {tgt : Nat} (C : Cx g f md fr mc) (d : decode md.2.1 pc = .ok (.if_icmp .eq off, 3)) (ht : (pc : Int) + off = (tgt : Int)) (hx : a < 2 ^ 31 ∧ b < 2 ^ 31) (q : a = b) (k : X g f md mc Post n tgt L st h) : X g f md mc Post n pc L (.int (nI b) :: .int (nI a) :: st) h :=
  n_eq C d ht hx (fun _ => k) (fun z => absurd q (by omega))
theorem n_eq_f {a b : Nat} {off : Int} {tgt : Nat} (C : Cx g f md fr mc) (d : decode md.2.1 pc = .ok (.if_icmp .eq off, 3)) (ht : (pc : Int) + off = (tgt : Int)) (hx : a < 2 ^ 31 ∧ b < 2 ^ 31) (q : a ≠ b) (k : X g f md mc Post n (pc + 3) L st h) : X g f md mc Post n pc L (.int (nI b) :: .int (nI a) :: st) h :=
  n_eq C d ht hx (fun z => absurd q (by omega)) (fun _ => k)
theorem n_ifeq {a : Nat} {off : Int} {tgt : Nat} (C : Cx g f md fr mc) (d : decode md.2.1 pc = .ok (.ifCond .eq off, 3)) (ht : (pc : Int) + off = (tgt : Int)) (hx : a < 2 ^ 31) (kt : a = 0 → X g f md mc Post n tgt L st h) (kf : a ≠ 0 → X g f md mc Post n (pc + 3) L st h) : X g f md mc Post n pc L (.int (nI a) :: st) h := by
  have hx : a < 2 ^ 31 ∧ 0 < 2 ^ 31 := ⟨hx, by omega⟩
  refine x_ifeq C d ht ?_ ?_
  · rw [← nI_0]
    exact (fun q => kt ((nI_eq hx.1 hx.2).mp q))
  · rw [← nI_0]
    exact (fun q => kf fun z => q ((nI_eq hx.1 hx.2).mpr z))
theorem n_ifeq_t {a : Nat} {off : Int} {tgt : Nat} (C : Cx g f md fr mc) (d : decode md.2.1 pc = .ok (.ifCond .eq off, 3)) (ht : (pc : Int) + off = (tgt : Int)) (hx : a < 2 ^ 31) (q : a = 0) (k : X g f md mc Post n tgt L st h) : X g f md mc Post n pc L (.int (nI a) :: st) h :=
  n_ifeq C d ht hx (fun _ => k) (fun z => absurd q (by omega))
theorem n_ifeq_f {a : Nat} {off : Int} {tgt : Nat} (C : Cx g f md fr mc) (d : decode md.2.1 pc = .ok (.ifCond .eq off, 3)) (ht : (pc : Int) + off = (tgt : Int)) (hx : a < 2 ^ 31) (q : a ≠ 0) (k : X g f md mc Post n (pc + 3) L st h) : X g f md mc Post n pc L (.int (nI a) :: st) h :=
  n_ifeq C d ht hx (fun z => absurd q (by omega)) (fun _ => k)
theorem n_ne {a b : Nat} {off : Int} {tgt : Nat} (C : Cx g f md fr mc) (d : decode md.2.1 pc = .ok (.if_icmp .ne off, 3)) (ht : (pc : Int) + off = (tgt : Int)) (hx : a < 2 ^ 31 ∧ b < 2 ^ 31) (kt : a ≠ b → X g f md mc Post n tgt L st h) (kf : a = b → X g f md mc Post n (pc + 3) L st h) : X g f md mc Post n pc L (.int (nI b) :: .int (nI a) :: st) h :=
  x_ne C d ht (fun q => kt fun z => q ((nI_eq hx.1 hx.2).mpr z)) (fun q => kf ((nI_eq hx.1 hx.2).mp q))
theorem n_ne_t {a b : Nat} {off : Int} {tgt : Nat} (C : Cx g f md fr mc) (d : decode md.2.1 pc = .ok (.if_icmp .ne off, 3)) (ht : (pc : Int) + off = (tgt : Int)) (hx : a < 2 ^ 31 ∧ b < 2 ^ 31) (q : a ≠ b) (k : X g f md mc Post n tgt L st h) : X g f md mc Post n pc L (.int (nI b) :: .int (nI a) :: st) h :=
  n_ne C d ht hx (fun _ => k) (fun z => absurd q (by omega))
theorem n_ne_f {a b : Nat} {off : Int} {tgt : Nat} (C : Cx g f md fr mc) (d : decode md.2.1 pc = .ok (.if_icmp .ne off, 3)) (ht : (pc : Int) + off = (tgt : Int)) (hx : a < 2 ^ 31 ∧ b < 2 ^ 31) (q : a = b) (k : X g f md mc Post n (pc + 3) L st h) : X g f md mc Post n pc L (.int (nI b) :: .int (nI a) :: st) h :=
  n_ne C d ht hx (fun z => absurd q (by omega)) (fun _ => k)
theorem n_ifne {a : Nat} {off : Int} {tgt : Nat} (C : Cx g f md fr mc) (d : decode md.2.1 pc = .ok (.ifCond .ne off, 3)) (ht : (pc : Int) + off = (tgt : Int)) (hx : a < 2 ^ 31) (kt : a ≠ 0 → X g f md mc Post n tgt L st h) (kf : a = 0 → X g f md mc Post n (pc + 3) L st h) : X g f md mc Post n pc L (.int (nI a) :: st) h := by
  have hx : a < 2 ^ 31 ∧ 0 < 2 ^ 31 := ⟨hx, by omega⟩
  refine x_ifne C d ht ?_ ?_
  · rw [← nI_0]
    exact (fun q => kt fun z => q ((nI_eq hx.1 hx.2).mpr z))
  · rw [← nI_0]
    exact (fun q => kf ((nI_eq hx.1 hx.2).mp q))
theorem n_ifne_t {a : Nat} {off : Int} {tgt : Nat} (C : Cx g f md fr mc) (d : decode md.2.1 pc = .ok (.ifCond .ne off, 3)) (ht : (pc : Int) + off = (tgt : Int)) (hx : a < 2 ^ 31) (q : a ≠ 0) (k : X g f md mc Post n tgt L st h) : X g f md mc Post n pc L (.int (nI a) :: st) h :=
  n_ifne C d ht hx (fun _ => k) (fun z => absurd q (by omega))
theorem n_ifne_f {a : Nat} {off : Int} {tgt : Nat} (C : Cx g f md fr mc) (d : decode md.2.1 pc = .ok (.ifCond .ne off, 3)) (ht : (pc : Int) + off = (tgt : Int)) (hx : a < 2 ^ 31) (q : a = 0) (k : X g f md mc Post n (pc + 3) L st h) : X g f md mc Post n pc L (.int (nI a) :: st) h :=
  n_ifne C d ht hx (fun z => absurd q (by omega)) (fun _ => k)
theorem n_lt {a b : Nat} {off : Int} {tgt : Nat} (C : Cx g f md fr mc) (d : decode md.2.1 pc = .ok (.if_icmp .lt off, 3)) (ht : (pc : Int) + off = (tgt : Int)) (hx : a < 2 ^ 31 ∧ b < 2 ^ 31) (kt : a < b → X g f md mc Post n tgt L st h) (kf : b ≤ a → X g f md mc Post n (pc + 3) L st h) : X g f md mc Post n pc L (.int (nI b) :: .int (nI a) :: st) h :=
  x_lt C d ht (fun q => kt ((nI_ltI hx.1 hx.2).mp q)) (fun q => kf (Nat.le_of_not_lt fun z => q ((nI_ltI hx.1 hx.2).mpr z)))
theorem n_lt_t {a b : Nat} {off : Int} {tgt : Nat} (C : Cx g f md fr mc) (d : decode md.2.1 pc = .ok (.if_icmp .lt off, 3)) (ht : (pc : Int) + off = (tgt : Int)) (hx : a < 2 ^ 31 ∧ b < 2 ^ 31) (q : a < b) (k : X g f md mc Post n tgt L st h) : X g f md mc Post n pc L (.int (nI b) :: .int (nI a) :: st) h :=
  n_lt C d ht hx (fun _ => k) (fun z => absurd q (by omega))
theorem n_lt_f {a b : Nat} {off : Int} {tgt : Nat} (C : Cx g f md fr mc) (d : decode md.2.1 pc = .ok (.if_icmp .lt off, 3)) (ht : (pc : Int) + off = (tgt : Int)) (hx : a < 2 ^ 31 ∧ b < 2 ^ 31) (q : b ≤ a) (k : X g f md mc Post n (pc + 3) L st h) : X g f md mc Post n pc L (.int (nI b) :: .int (nI a) :: st) h :=
  n_lt C d ht hx (fun z => absurd q (by omega)) (fun _ => k)
theorem n_iflt {a : Nat} {off : Int} {tgt : Nat} (C : Cx g f md fr mc) (d : decode md.2.1 pc = .ok (.ifCond .lt off, 3)) (ht : (pc : Int) + off = (tgt : Int)) (hx : a < 2 ^ 31) (kt : a < 0 → X g f md mc Post n tgt L st h) (kf : 0 ≤ a → X g f md mc Post n (pc + 3) L st h) : X g f md mc Post n pc L (.int (nI a) :: st) h := by
  have hx : a < 2 ^ 31 ∧ 0 < 2 ^ 31 := ⟨hx, by omega⟩
  refine x_iflt C d ht ?_ ?_
  · rw [← nI_0]
    exact (fun q => kt ((nI_ltI hx.1 hx.2).mp q))
  · rw [← nI_0]
    exact (fun q => kf (Nat.le_of_not_lt fun z => q ((nI_ltI hx.1 hx.2).mpr z)))
theorem n_iflt_t {a : Nat} {off : Int} {tgt : Nat} (C : Cx g f md fr mc) (d : decode md.2.1 pc = .ok (.ifCond .lt off, 3)) (ht : (pc : Int) + off = (tgt : Int)) (hx : a < 2 ^ 31) (q : a < 0) (k : X g f md mc Post n tgt L st h) : X g f md mc Post n pc L (.int (nI a) :: st) h :=
  n_iflt C d ht hx (fun _ => k) (fun z => absurd q (by omega))
theorem n_iflt_f {a : Nat} {off : Int} {tgt : Nat} (C : Cx g f md fr mc) (d : decode md.2.1 pc = .ok (.ifCond .lt off, 3)) (ht : (pc : Int) + off = (tgt : Int)) (hx : a < 2 ^ 31) (q : 0 ≤ a) (k : X g f md mc Post n (pc + 3) L st h) : X g f md mc Post n pc L (.int (nI a) :: st) h :=
  n_iflt C d ht hx (fun z => absurd q (by omega)) (fun _ => k)
theorem n_ge {a b : Nat} {off : Int} {tgt : Nat} (C : Cx g f md fr mc) (d : decode md.2.1 pc = .ok (.if_icmp .ge off, 3)) (ht : (pc : Int) + off = (tgt : Int)) (hx : a < 2 ^ 31 ∧ b < 2 ^ 31) (kt : b ≤ a → X g f md mc Post n tgt L st h) (kf : a < b → X g f md mc Post n (pc + 3) L st h) : X g f md mc Post n pc L (.int (nI b) :: .int (nI a) :: st) h :=
  x_ge C d ht (fun q => kt ((nI_leI hx.2 hx.1).mp q)) (fun q => kf (Nat.lt_of_not_le fun z => q ((nI_leI hx.2 hx.1).mpr z)))
theorem n_ge_t {a b : Nat} {off : Int} {tgt : Nat} (C : Cx g f md fr mc) (d : decode md.2.1 pc = .ok (.if_icmp .ge off, 3)) (ht : (pc : Int) + off = (tgt : Int)) (hx : a < 2 ^ 31 ∧ b < 2 ^ 31) (q : b ≤ a) (k : X g f md mc Post n tgt L st h) : X g f md mc Post n pc L (.int (nI b) :: .int (nI a) :: st) h :=
  n_ge C d ht hx (fun _ => k) (fun z => absurd q (by omega))
theorem n_ge_f {a b : Nat} {off : Int} {tgt : Nat} (C : Cx g f md fr mc) (d : decode md.2.1 pc = .ok (.if_icmp .ge off, 3)) (ht : (pc : Int) + off = (tgt : Int)) (hx : a < 2 ^ 31 ∧ b < 2 ^ 31) (q : a < b) (k : X g f md mc Post n (pc + 3) L st h) : X g f md mc Post n pc L (.int (nI b) :: .int (nI a) :: st) h :=
  n_ge C d ht hx (fun z => absurd q (by omega)) (fun _ => k)
theorem n_ifge {a : Nat} {off : Int} {tgt : Nat} (C : Cx g f md fr mc) (d : decode md.2.1 pc = .ok (.ifCond .ge off, 3)) (ht : (pc : Int) + off = (tgt : Int)) (hx : a < 2 ^ 31) (kt : 0 ≤ a → X g f md mc Post n tgt L st h) (kf : a < 0 → X g f md mc Post n (pc + 3) L st h) : X g f md mc Post n pc L (.int (nI a) :: st) h := by
  have hx : a < 2 ^ 31 ∧ 0 < 2 ^ 31 := ⟨hx, by omega⟩
  refine x_ifge C d ht ?_ ?_
  · rw [← nI_0]
    exact (fun q => kt ((nI_leI hx.2 hx.1).mp q))
  · rw [← nI_0]
    exact (fun q => kf (Nat.lt_of_not_le fun z => q ((nI_leI hx.2 hx.1).mpr z)))
theorem n_ifge_t {a : Nat} {off : Int} {tgt : Nat} (C : Cx g f md fr mc) (d : decode md.2.1 pc = .ok (.ifCond .ge off, 3)) (ht : (pc : Int) + off = (tgt : Int)) (hx : a < 2 ^ 31) (q : 0 ≤ a) (k : X g f md mc Post n tgt L st h) : X g f md mc Post n pc L (.int (nI a) :: st) h :=
  n_ifge C d ht hx (fun _ => k) (fun z => absurd q (by omega))
theorem n_ifge_f {a : Nat} {off : Int} {tgt : Nat} (C : Cx g f md fr mc) (d : decode md.2.1 pc = .ok (.ifCond .ge off, 3)) (ht : (pc : Int) + off = (tgt : Int)) (hx : a < 2 ^ 31) (q : a < 0) (k : X g f md mc Post n (pc + 3) L st h) : X g f md mc Post n pc L (.int (nI a) :: st) h :=
  n_ifge C d ht hx (fun z => absurd q (by omega)) (fun _ => k)
theorem n_gt {a b : Nat} {off : Int} {tgt : Nat} (C : Cx g f md fr mc) (d : decode md.2.1 pc = .ok (.if_icmp .gt off, 3)) (ht : (pc : Int) + off = (tgt : Int)) (hx : a < 2 ^ 31 ∧ b < 2 ^ 31) (kt : b < a → X g f md mc Post n tgt L st h) (kf : a ≤ b → X g f md mc Post n (pc + 3) L st h) : X g f md mc Post n pc L (.int (nI b) :: .int (nI a) :: st) h :=
  x_gt C d ht (fun q => kt ((nI_ltI hx.2 hx.1).mp q)) (fun q => kf (Nat.le_of_not_lt fun z => q ((nI_ltI hx.2 hx.1).mpr z)))
theorem n_gt_t {a b : Nat} {off : Int} {tgt : Nat} (C : Cx g f md fr mc) (d : decode md.2.1 pc = .ok (.if_icmp .gt off, 3)) (ht : (pc : Int) + off = (tgt : Int)) (hx : a < 2 ^ 31 ∧ b < 2 ^ 31) (q : b < a) (k : X g f md mc Post n tgt L st h) : X g f md mc Post n pc L (.int (nI b) :: .int (nI a) :: st) h :=
  n_gt C d ht hx (fun _ => k) (fun z => absurd q (by omega))
theorem n_gt_f {a b : Nat} {off : Int} {tgt : Nat} (C : Cx g f md fr mc) (d : decode md.2.1 pc = .ok (.if_icmp .gt off, 3)) (ht : (pc : Int) + off = (tgt : Int)) (hx : a < 2 ^ 31 ∧ b < 2 ^ 31) (q : a ≤ b) (k : X g f md mc Post n (pc + 3) L st h) : X g f md mc Post n pc L (.int (nI b) :: .int (nI a) :: st) h :=
  n_gt C d ht hx (fun z => absurd q (by omega)) (fun _ => k)
theorem n_ifgt {a : Nat} {off : Int} {tgt : Nat} (C : Cx g f md fr mc) (d : decode md.2.1 pc = .ok (.ifCond .gt off, 3)) (ht : (pc : Int) + off = (tgt : Int)) (hx : a < 2 ^ 31) (kt : 0 < a → X g f md mc Post n tgt L st h) (kf : a ≤ 0 → X g f md mc Post n (pc + 3) L st h) : X g f md mc Post n pc L (.int (nI a) :: st) h := by
  have hx : a < 2 ^ 31 ∧ 0 < 2 ^ 31 := ⟨hx, by omega⟩
  refine x_ifgt C d ht ?_ ?_
  · rw [← nI_0]
    exact (fun q => kt ((nI_ltI hx.2 hx.1).mp q))
  · rw [← nI_0]
    exact (fun q => kf (Nat.le_of_not_lt fun z => q ((nI_ltI hx.2 hx.1).mpr z)))
theorem n_ifgt_t {a : Nat} {off : Int} {tgt : Nat} (C : Cx g f md fr mc) (d : decode md.2.1 pc = .ok (.ifCond .gt off, 3)) (ht : (pc : Int) + off = (tgt : Int)) (hx : a < 2 ^ 31) (q : 0 < a) (k : X g f md mc Post n tgt L st h) : X g f md mc Post n pc L (.int (nI a) :: st) h :=
  n_ifgt C d ht hx (fun _ => k) (fun z => absurd q (by omega))
theorem n_ifgt_f {a : Nat} {off : Int} {tgt : Nat} (C : Cx g f md fr mc) (d : decode md.2.1 pc = .ok (.ifCond .gt off, 3)) (ht : (pc : Int) + off = (tgt : Int)) (hx : a < 2 ^ 31) (q : a ≤ 0) (k : X g f md mc Post n (pc + 3) L st h) : X g f md mc Post n pc L (.int (nI a) :: st) h :=
  n_ifgt C d ht hx (fun z => absurd q (by omega)) (fun _ => k)
theorem n_le {a b : Nat} {off : Int} {tgt : Nat} (C : Cx g f md fr mc) (d : decode md.2.1 pc = .ok (.if_icmp .le off, 3)) (ht : (pc : Int) + off = (tgt : Int)) (hx : a < 2 ^ 31 ∧ b < 2 ^ 31) (kt : a ≤ b → X g f md mc Post n tgt L st h) (kf : b < a → X g f md mc Post n (pc + 3) L st h) : X g f md mc Post n pc L (.int (nI b) :: .int (nI a) :: st) h :=
  x_le C d ht (fun q => kt ((nI_leI hx.1 hx.2).mp q)) (fun q => kf (Nat.lt_of_not_le fun z => q ((nI_leI hx.1 hx.2).mpr z)))
theorem n_le_t {a b : Nat} {off : Int} {tgt : Nat} (C : Cx g f md fr mc) (d : decode md.2.1 pc = .ok (.if_icmp .le off, 3)) (ht : (pc : Int) + off = (tgt : Int)) (hx : a < 2 ^ 31 ∧ b < 2 ^ 31) (q : a ≤ b) (k : X g f md mc Post n tgt L st h) : X g f md mc Post n pc L (.int (nI b) :: .int (nI a) :: st) h :=
  n_le C d ht hx (fun _ => k) (fun z => absurd q (by omega))
theorem n_le_f {a b : Nat} {off : Int} {tgt : Nat} (C : Cx g f md fr mc) (d : decode md.2.1 pc = .ok (.if_icmp .le off, 3)) (ht : (pc : Int) + off = (tgt : Int)) (hx : a < 2 ^ 31 ∧ b < 2 ^ 31) (q : b < a) (k : X g f md mc Post n (pc + 3) L st h) : X g f md mc Post n pc L (.int (nI b) :: .int (nI a) :: st) h :=
  n_le C d ht hx (fun z => absurd q (by omega)) (fun _ => k)
theorem n_ifle {a : Nat} {off : Int} {tgt : Nat} (C : Cx g f md fr mc) (d : decode md.2.1 pc = .ok (.ifCond .le off, 3)) (ht : (pc : Int) + off = (tgt : Int)) (hx : a < 2 ^ 31) (kt : a ≤ 0 → X g f md mc Post n tgt L st h) (kf : 0 < a → X g f md mc Post n (pc + 3) L st h) : X g f md mc Post n pc L (.int (nI a) :: st) h := by
  have hx : a < 2 ^ 31 ∧ 0 < 2 ^ 31 := ⟨hx, by omega⟩
  refine x_ifle C d ht ?_ ?_
  · rw [← nI_0]
    exact (fun q => kt ((nI_leI hx.1 hx.2).mp q))
  · rw [← nI_0]
    exact (fun q => kf (Nat.lt_of_not_le fun z => q ((nI_leI hx.1 hx.2).mpr z)))
theorem n_ifle_t {a : Nat} {off : Int} {tgt : Nat} (C : Cx g f md fr mc) (d : decode md.2.1 pc = .ok (.ifCond .le off, 3)) (ht : (pc : Int) + off = (tgt : Int)) (hx : a < 2 ^ 31) (q : a ≤ 0) (k : X g f md mc Post n tgt L st h) : X g f md mc Post n pc L (.int (nI a) :: st) h :=
  n_ifle C d ht hx (fun _ => k) (fun z => absurd q (by omega))
theorem n_ifle_f {a : Nat} {off : Int} {tgt : Nat} (C : Cx g f md fr mc) (d : decode md.2.1 pc = .ok (.ifCond .le off, 3)) (ht : (pc : Int) + off = (tgt : Int)) (hx : a < 2 ^ 31) (q : 0 < a) (k : X g f md mc Post n (pc + 3) L st h) : X g f md mc Post n pc L (.int (nI a) :: st) h :=
  n_ifle C d ht hx (fun z => absurd q (by omega)) (fun _ => k)
theorem n_iadd {a b : Nat} (C : Cx g f md fr mc) (d : decode md.2.1 pc = .ok (.iadd, 1))  (k : X g f md mc Post n (pc + 1) L (.int (nI (a + b)) :: st) h) : X g f md mc Post n pc L (.int (nI b) :: .int (nI a) :: st) h := by
  refine x_iadd C d ?_
  rw [nI_add]
  exact k
theorem n_isub {a b : Nat} (C : Cx g f md fr mc) (d : decode md.2.1 pc = .ok (.isub, 1)) (hb : b ≤ a) (k : X g f md mc Post n (pc + 1) L (.int (nI (a - b)) :: st) h) : X g f md mc Post n pc L (.int (nI b) :: .int (nI a) :: st) h := by
  refine x_isub C d ?_
  rw [pk_sub hb]
  exact k
theorem n_imul {a b : Nat} (C : Cx g f md fr mc) (d : decode md.2.1 pc = .ok (.imul, 1))  (k : X g f md mc Post n (pc + 1) L (.int (nI (a * b)) :: st) h) : X g f md mc Post n pc L (.int (nI b) :: .int (nI a) :: st) h := by
  refine x_imul C d ?_
  rw [pk_mul]
  exact k
theorem n_ixor {a b : Nat} (C : Cx g f md fr mc) (d : decode md.2.1 pc = .ok (.ixor, 1))  (k : X g f md mc Post n (pc + 1) L (.int (nI (a ^^^ b)) :: st) h) : X g f md mc Post n pc L (.int (nI b) :: .int (nI a) :: st) h := by
  refine x_ixor C d ?_
  rw [nx_xor]
  exact k
theorem n_iand {a b : Nat} (C : Cx g f md fr mc) (d : decode md.2.1 pc = .ok (.iand, 1))  (k : X g f md mc Post n (pc + 1) L (.int (nI (a &&& b)) :: st) h) : X g f md mc Post n pc L (.int (nI b) :: .int (nI a) :: st) h := by
  refine x_iand C d ?_
  rw [nx_and]
  exact k
theorem n_ior {a b : Nat} (C : Cx g f md fr mc) (d : decode md.2.1 pc = .ok (.ior, 1))  (k : X g f md mc Post n (pc + 1) L (.int (nI (a ||| b)) :: st) h) : X g f md mc Post n pc L (.int (nI b) :: .int (nI a) :: st) h := by
  refine x_ior C d ?_
  rw [nx_or]
  exact k
theorem n_ishl {a b : Nat} (C : Cx g f md fr mc) (d : decode md.2.1 pc = .ok (.ishl, 1)) (hb : b < 32) (ha : a * 2 ^ b < 2 ^ 32) (k : X g f md mc Post n (pc + 1) L (.int (nI (a * 2 ^ b)) :: st) h) : X g f md mc Post n pc L (.int (nI b) :: .int (nI a) :: st) h := by
  intro H locs ls hR hS hl
  refine lv_ishl C.exec C.code d ?_
  rw [pk_shlN _ b (ln_s31 b hb) ha]
  exact k H locs ls hR hS hl
theorem n_ishr {a b : Nat} (C : Cx g f md fr mc) (d : decode md.2.1 pc = .ok (.ishr, 1)) (hb : b < 32) (ha : a < 2 ^ 31) (k : X g f md mc Post n (pc + 1) L (.int (nI (a / 2 ^ b)) :: st) h) : X g f md mc Post n pc L (.int (nI b) :: .int (nI a) :: st) h := by
  intro H locs ls hR hS hl
  refine lv_ishr C.exec C.code d ?_
  rw [pk_shrN ha _ b (ln_s31 b hb)]
  exact k H locs ls hR hS hl
theorem n_iushr {a b : Nat} (C : Cx g f md fr mc) (d : decode md.2.1 pc = .ok (.iushr, 1)) (hb : b < 32) (ha : a < 2 ^ 32) (k : X g f md mc Post n (pc + 1) L (.int (nI (a / 2 ^ b)) :: st) h) : X g f md mc Post n pc L (.int (nI b) :: .int (nI a) :: st) h := by
  intro H locs ls hR hS hl
  exact lv_iushr C.exec C.code d (pk_ushrN ha _ b (ln_u31 b hb)) (k H locs ls hR hS hl)
theorem n_idiv {a b : Nat} (C : Cx g f md fr mc) (d : decode md.2.1 pc = .ok (.idiv, 1)) (ha : a < 2 ^ 31) (h0 : 0 < b) (hb : b < 2 ^ 31) (k : X g f md mc Post n (pc + 1) L (.int (nI (a / b)) :: st) h) : X g f md mc Post n pc L (.int (nI b) :: .int (nI a) :: st) h := by
  intro H locs ls hR hS hl
  refine lv_idiv C.exec C.code d (nI_ne0 h0 hb) ?_
  rw [pk_div ha h0 hb]
  exact k H locs ls hR hS hl
theorem n_irem {a b : Nat} (C : Cx g f md fr mc) (d : decode md.2.1 pc = .ok (.irem, 1)) (ha : a < 2 ^ 31) (h0 : 0 < b) (hb : b < 2 ^ 31) (k : X g f md mc Post n (pc + 1) L (.int (nI (a % b)) :: st) h) : X g f md mc Post n pc L (.int (nI b) :: .int (nI a) :: st) h := by
  intro H locs ls hR hS hl
  refine lv_irem C.exec C.code d (nI_ne0 h0 hb) ?_
  rw [pk_rem ha h0 hb]
  exact k H locs ls hR hS hl
/-- an int array -/
def ia (g : Gp) (A : List Nat) : va_E := .inl (gC g 0, A.length, .inl (la A))
/-- an array of references -/
def ra (g : Gp) (t : Nat) (A : List (Option Nat)) : va_E := .inl (gC g t, A.length, .inr (.inr (.inr (.inr (fun k => A.getD k none)))))
theorem zA_zle (g : Gp) (a : Nat) : zle g (zA (gz g) a) := Nat.le_add_right _ _
theorem Rl.put {H H1 : Heap} {a : Nat} {e0 e : va_E} (hR : Rl g h H) (ha : h[a]? = some e0) (he : va_at (gD g) Cls (zA (gz g) a, e) H1) (z : H1.size = H.size) (oq : ∀ q : Nat, q ≠ zA (gz g) a → H1[q]? = H[q]?) : Rl g (h.set a e) H1 :=
  ⟨by rw [wl_set]; exact hR.1.set (wl_D _ _) (wl_get ha) he oq, by rw [z, hR.2, List.length_set]⟩
theorem Rl.push {H H1 : Heap} {e : va_E} (hR : Rl g h H) (he : va_at (gD g) Cls (zA (gz g) h.length, e) H1) (z : H1.size = H.size + 1) (oq : ∀ q : Nat, q < H.size → H1[q]? = H[q]?) : Rl g (h ++ [e]) H1 := by
  refine ⟨?_, by rw [z, hR.2, List.length_append, List.length_singleton, Nat.add_assoc]⟩
  rw [wl_push]
  refine (hR.1.kept (fun k x hx => oq x.1 ((hR.1 k x hx).lt))).app (fun k x hx => ?_)
  have hz : k < 1 := (List.getElem?_eq_some_iff.mp hx).1
  rw [show k = 0 by omega] at hx
  cases hx
  exact he
theorem va_S.grow {A : Nat → Prop} {H0 H H1 : Heap} {locs : List Loc} (hS : va_S A H0 H locs) (z : H1.size = H.size + 1) (oq : ∀ q : Nat, q < H.size → H1[q]? = H[q]?) : va_S A H0 H1 locs :=
  ⟨Nat.le_trans hS.1 (by omega), fun x h1 h2 => (oq x (Nat.lt_of_lt_of_le h1 hS.1)).trans (hS.2.1 x h1 h2), hS.2.2⟩
theorem x_iald {a i : Nat} {A : List Nat} (C : Cx g f md fr mc) (d : decode md.2.1 pc = .ok (.iaload, 1)) (ha : h[a]? = some (ia g A)) (hk : i < A.length ∧ A.length < 2 ^ 31) (k : X g f md mc Post n (pc + 1) L (.int (nI (A.getD i 0)) :: st) h) : X g f md mc Post n pc L (.int (nI i) :: .ref (zA (gz g) a) :: st) h :=
  fun H locs ls hR hS hl => va_iald C.exec C.code C.K hR.1 a 0 (wl_get ha) rfl (vp_in_nI hk.1 hk.2) d (by rw [la_at A (Nat.lt_trans hk.1 hk.2)]; exact k H locs ls hR hS hl)
theorem x_iast {a i v : Nat} {A : List Nat} (C : Cx g f md fr mc) (d : decode md.2.1 pc = .ok (.iastore, 1)) (ha : h[a]? = some (ia g A)) (hk : i < A.length ∧ A.length < 2 ^ 31) (k : X g f md mc Post n (pc + 1) L st (h.set a (ia g (A.set i v)))) : X g f md mc Post n pc L (.int (nI v) :: .int (nI i) :: .ref (zA (gz g) a) :: st) h := by
  intro H locs ls hR hS hl
  refine W.iast C.exec C.code (hR.1 a _ (wl_get ha)) ((C.K.2 0 _ rfl).1 A.length (fun j => .int (la A j))) (fun q => by cases q) (by show ¬ (nI i < 0 ∨ (arrV _ _ _).slots.size ≤ _); rw [arrV_size]; exact vp_in_nI hk.1 hk.2) rfl rfl d fun H1 e z oq => ?_
  refine k H1 _ ls (hR.put ha ?_ z oq) (hS.put z oq (zA_zle g a)) hl
  show H1[zA (gz g) a]? = some (vp_cell (gC g 0) ((A.set i v).length, .inl (la (A.set i v))))
  rw [e, List.length_set, vp_cell_i, vp_cell_i, arrV_store, nI_clamp (Nat.lt_trans hk.1 hk.2), ← la_set hk.1]
  congr 2
  funext q
  by_cases hq : q = i
  · subst hq
    simp [updV, upd]
  · simp [updV, upd, hq]
theorem x_alen {a : Nat} {A : List Nat} (C : Cx g f md fr mc) (d : decode md.2.1 pc = .ok (.arraylength, 1)) (ha : h[a]? = some (ia g A)) (k : X g f md mc Post n (pc + 1) L (.int (nI A.length) :: st) h) : X g f md mc Post n pc L (.ref (zA (gz g) a) :: st) h :=
  fun H locs ls hR hS hl => va_alen (x := (A.length, .inl (la A))) C.exec C.code C.K hR.1 a 0 (wl_get ha) (ty := .int) rfl rfl d (k H locs ls hR hS hl)
theorem x_rlen {a t : Nat} {ty : FieldType} {A : List (Option Nat)} (C : Cx g f md fr mc) (d : decode md.2.1 pc = .ok (.arraylength, 1)) (ha : h[a]? = some (ra g t A)) (ht : (gT g)[t]? = some (gC g t, ty)) (k : X g f md mc Post n (pc + 1) L (.int (nI A.length) :: st) h) : X g f md mc Post n pc L (.ref (zA (gz g) a) :: st) h :=
  fun H locs ls hR hS hl => va_alen (x := (A.length, .inr (.inr (.inr (.inr (fun k => A.getD k none)))))) C.exec C.code C.K hR.1 a t (wl_get ha) (ty := ty) ht rfl d (k H locs ls hR hS hl)
theorem x_aald {a i t v : Nat} {cn : String} {A : List (Option Nat)} (C : Cx g f md fr mc) (d : decode md.2.1 pc = .ok (.aaload, 1)) (ha : h[a]? = some (ra g t A)) (ht : (gT g)[t]? = some (gC g t, .object cn)) (hv : A[i]? = some (some v)) (hn : A.length < 2 ^ 31) (k : X g f md mc Post n (pc + 1) L (.ref v :: st) h) : X g f md mc Post n pc L (.int (nI i) :: .ref (zA (gz g) a) :: st) h := by
  intro H locs ls hR hS hl
  have hi : i < A.length := (List.getElem?_eq_some_iff.mp hv).1
  refine va_aldq C.exec C.code C.K hR.1 a t (wl_get ha) ht (vp_in_nI hi hn) d ?_
  rw [nI_clamp (Nat.lt_trans hi hn), List.getD_eq_getElem?_getD, hv]
  exact k H locs ls hR hS hl
theorem x_aast {a i t v ci : Nat} {r : vw_C} {vs : List Value} {A : List (Option Nat)} (C : Cx g f md fr mc) (d : decode md.2.1 pc = .ok (.aastore, 1)) (ha : h[a]? = some (ra g t A)) (ht : (gT g)[t]? = some (gC g t, .object r.1)) (hv : h[v]? = some (.inr (ci, vs))) (hc : Cls[ci]? = some r) (hi : i < A.length ∧ A.length < 2 ^ 31) (k : X g f md mc Post n (pc + 1) L st (h.set a (ra g t (A.set i (some (zA (gz g) v)))))) : X g f md mc Post n pc L (.ref (zA (gz g) v) :: .int (nI i) :: .ref (zA (gz g) a) :: st) h := by
  intro H locs ls hR hS hl
  obtain ⟨r', hr', cellV, g1, g2, g3, -⟩ := hR.1 v _ (wl_get hv)
  have hcls := (C.K.1 ci r hc).2
  obtain ⟨kA, comp, k1, k2, k3, -⟩ := (C.K.2 t _ ht).2
  have hcomp : comp = (gD g).1 ci := Option.some.inj (k3.symm.trans hcls.1)
  subst hcomp
  obtain ⟨kC, hkC, -⟩ := hcls.2
  refine W.aast C.exec C.code (hR.1 a _ (wl_get ha)) (fun q h => by cases h) (fun h => by cases h) k1 k2 rfl hkC ⟨nI_pos (Nat.lt_trans hi.1 hi.2), by show _ < (arrV _ _ _).slots.size; rw [arrV_size, nI_clamp (Nat.lt_trans hi.1 hi.2)]; exact hi.1⟩ g1 (fun q h => by rw [g3] at h; cases h) (by rw [g2]; exact hkC) (by rw [g2]; exact va_assign hcls) rfl rfl d fun H1 e z oq => ?_
  refine k H1 _ ls (hR.put ha ?_ z oq) (hS.put z oq (zA_zle g a)) hl
  show H1[zA (gz g) a]? = some (vp_cell (gC g t) ((A.set i (some (zA (gz g) v))).length, .inr (.inr (.inr (.inr (fun k => (A.set i (some (zA (gz g) v))).getD k none))))))
  rw [e, List.length_set, vp_cell_q, vp_cell_q, arrV_store, nI_clamp (Nat.lt_trans hi.1 hi.2)]
  congr 2
  funext q
  rw [List.getD_eq_getElem?_getD, List.getElem?_set]
  by_cases hq : i = q
  · subst hq
    simp [updV, va_rf, hi.1]
  · simp [updV, hq, Ne.symm hq]
theorem x_get {a ci j idx : Nat} {fs : List Value} {v : Value} (C : Cx g f md fr mc) (d : decode md.2.1 pc = .ok (.getfield idx, 3)) (hc : Nat.blt ci Cls.length = true) (hj : Nat.blt j (Tc ci).2.2 = true) (ha : h[a]? = some (.inr (ci, fs))) (hv : fs[j]? = some v) (hw : Cond.fieldLink md.1.cls idx ((Tc ci).2.1 j).1 ((Tc ci).2.1 j).2.1 ((Tc ci).2.1 j).2.2.1 ∈ tb) (k : X g f md mc Post n (pc + 3) L (v :: st) h) : X g f md mc Post n pc L (.ref (zA (gz g) a) :: st) h :=
  fun H locs ls hR hS hl => va_get (tys := gT g) C.exec C.code C.ts (Tc_in hc) C.own C.K hR.1 a (wl_get ha) (Tc_at hc) j (Nat.le_of_ble_eq_true hj) (C.ts _ hw) (fun _ q => q) hv d (k H locs ls hR hS hl)
theorem x_put {a ci j idx : Nat} {fs : List Value} {v : Value} {ty : FieldType} (C : Cx g f md fr mc) (d : decode md.2.1 pc = .ok (.putfield idx, 3)) (hc : Nat.blt ci Cls.length = true) (hj : Nat.blt j (Tc ci).2.2 = true) (ha : h[a]? = some (.inr (ci, fs))) (hl0 : Nat.blt j fs.length = true) (hw : Cond.fieldLink md.1.cls idx ((Tc ci).2.1 j).1 ((Tc ci).2.1 j).2.1 ((Tc ci).2.1 j).2.2.1 ∈ tb)
    (hfin : ((Tc ci).2.1 j).2.2.2 = false ∨ (md.1.name = "<init>" ∧ ((Tc ci).2.1 j).1 = md.1.cls ∧ ((Tc ci).2.1 j).2.2.2 = true)) (hd : parseFieldDescriptor ((Tc ci).2.1 j).2.2.1 = some ty) (hnr : narrow ty v = v) (hfit : fits ty v = true) (k : X g f md mc Post n (pc + 3) L st (h.set a (.inr (ci, fs.set j v)))) : X g f md mc Post n pc L (v :: .ref (zA (gz g) a) :: st) h := by
  intro H locs ls hR hS hl
  have hcA := Tc_at hc
  have hjN : j < (Tc ci).2.2 := Nat.le_of_ble_eq_true hj
  have hap := va_apart (own := md.1.cls) C.ts (Tc_in hc) (Tc_ty ci) (Tc_tyok hc) (Tc_nm hc) C.K hcA
  obtain ⟨r, h1, cell, q1, q2, q3, q4⟩ := hR.1 a _ (wl_get ha)
  have hr : r = ((Tc ci).1, (Tc ci).2.1, (Tc ci).2.2) := Option.some.inj (h1.symm.trans hcA)
  subst hr
  obtain ⟨hSl, hfc, kC, hkC, hkind⟩ := C.K.1 ci _ hcA
  obtain ⟨cf, kf, fi, ff, hi, hsl⟩ := hSl j hjN
  have hlay := C.ts _ (Tc_in hc _ (u_in_lay hjN))
  have hst := (u_facts hfc hkC (u_lays C.ts (Tc_in hc) hjN) hi).1
  have fin : ∀ H1 : Heap, H1[zA (gz g) a]? = some (cell.setSlot ff.slot v) → H1.size = H.size → (∀ q : Nat, q ≠ zA (gz g) a → H1[q]? = H[q]?) → Rl g (h.set a (.inr (ci, fs.set j v))) H1 ∧ va_S (zle g) (fS f).heap H1 (locs ++ [⟨zA (gz g) a, ff.slot⟩]) := by
    intro H1 e1 e2 e3
    rw [hsl] at e1
    exact ⟨hR.put ha ⟨_, hcA, t_OB.to (V := updV (vp_V fs) j v) ⟨_, e1, q2, q3, t_set q4 hap hjN v⟩ (fun i _ => vp_updV_set (Nat.le_of_ble_eq_true hl0) v i)⟩ e2 e3, hS.put e2 e3 (zA_zle g a)⟩
  unfold u_lay at hlay
  rcases hfin with hfin | ⟨hin, hdecl, hfin⟩
  · rw [if_neg (by rw [hfin]; decide)] at hlay
    have h6 := u_store hfc hkC hkind hlay hi hd hnr hfit
    refine W.putK C.exec C.code (f := ff) ⟨C.own, C.ts _ hw, ⟨_, _, _, hi⟩, hst⟩ (by rw [q2]; exact h6) q1 q3 (by rw [hsl]; exact k2_hasslot (q4 j hjN)) rfl rfl d fun H1 e1 e2 e3 => ?_
    obtain ⟨x1, x2⟩ := fin H1 e1 e2 e3
    exact k H1 _ ls x1 x2 hl
  · rw [if_pos hfin] at hlay
    have hcf : (fI f).cls = cf := by
      obtain ⟨_, _, c', _, _, _, -, -, hf', -, -, -, hown2, -⟩ := Cond.laysFinal_spec hlay
      have e1 : c' = cf := by have := hi.symm.trans hf'; simp at this; exact this.1.symm
      rw [hdecl] at hown2
      rw [← e1]; exact Option.some.inj (C.own.symm.trans hown2)
    have h6 := u_fits hfc hkC hkind (Or.inr hlay) hi hd hnr hfit
    refine W.putFinK C.exec C.code C.own (C.ts _ hw) hi hst hcf (C.name.trans hin) (by rw [q2]; exact h6) q1 q3 (by rw [hsl]; exact k2_hasslot (q4 j hjN)) rfl rfl d fun H1 e1 e2 e3 => ?_
    obtain ⟨x1, x2⟩ := fin H1 e1 e2 e3
    exact k H1 _ ls x1 x2 hl
theorem x_new {ci idx : Nat} {fs : List Value} (C : Cx g f md fr mc) (d : decode md.2.1 pc = .ok (.new idx, 3)) (hc : Nat.blt ci Cls.length = true) (hw : Cond.classLink md.1.cls idx (Tc ci).1 ∈ tb) (hi : Cond.instantiable (Tc ci).1 (Tc ci).2.2 ∈ tb) (hn : Cond.initialized (Tc ci).1 ∈ tb) (hfs : ∀ j, j < (Tc ci).2.2 → defaultValue (Tc_ty ci j) = vp_V fs j) (hm : n.1 + 1 ≤ mc.1 ∧ n.2 + (Tc ci).2.2 ≤ mc.2)
    (k : X g f md mc Post (n.1 + 1, n.2 + (Tc ci).2.2) (pc + 3) L (.ref (zA (gz g) h.length) :: st) (h ++ [.inr (ci, fs)])) : X g f md mc Post n pc L st h := by
  intro H locs ls hR hS hl
  have hcA := Tc_at hc
  have hKn := C.K.1 ci _ hcA
  refine W.newcK C.exec C.code C.own (C.ts _ hw) (C.ts _ hi) (C.ts _ hn) rfl d (by rw [C.room]; exact hm.1) (by rw [C.room]; exact hm.2) hKn.2.1 hR.2 fun H1 kC hkC e1 z1 o1 => ?_
  exact k H1 locs ls (hR.push ⟨_, hcA, (u_born (Tc_ty ci) C.ts (Tc_in hc) hKn hkC e1 (Tc_tyok hc)).to hfs⟩ (by rw [z1, hR.2]) (fun q hq => o1 q (by rw [← hR.2]; exact hq))) (hS.grow (by rw [z1, hR.2]) (fun q hq => o1 q (by rw [← hR.2]; exact hq))) hl
theorem x_newi {N : Nat} (C : Cx g f md fr mc) (d : decode md.2.1 pc = .ok (.newarray .int, 2)) (hN : N < 2 ^ 20) (hm : n.1 + 1 ≤ mc.1 ∧ n.2 + N ≤ mc.2) (k : X g f md mc Post (n.1 + 1, n.2 + N) (pc + 2) L (.ref (zA (gz g) h.length) :: st) (h ++ [ia g (List.replicate N 0)])) : X g f md mc Post n pc L (.int (nI N) :: st) h := by
  intro H locs ls hR hS hl
  refine va_newaK (atype := .int) C.exec C.code (C.ts _ k_ac_int) rfl d rfl (nI_pos (by omega)) (nI_clamp (by omega)) (by show N * 4 ≤ _; omega) (by rw [C.room]; exact hm.1) (by rw [C.room]; exact hm.2) hR.2 fun H1 cA e1 z1 o1 hAr hNm => ?_
  have hcA : cA = gC g 0 := Option.some.inj (hNm.symm.trans (C.K.2 0 _ rfl).2)
  subst hcA
  refine k H1 locs ls (hR.push ?_ (by rw [z1, hR.2]) (fun q hq => o1 q (by rw [← hR.2]; exact hq))) (hS.grow (by rw [z1, hR.2]) (fun q hq => o1 q (by rw [← hR.2]; exact hq))) hl
  show H1[zA (gz g) h.length]? = some (vp_cell (gC g 0) ((List.replicate N 0).length, .inl (la (List.replicate N 0))))
  rw [List.length_replicate, ← la_zero, vp_cell_i]
  exact e1
theorem x_iret {v : Int32} (C : Cx g f md fr mc) (d : decode md.2.1 pc = .ok (.ireturn, 1)) (hr : md.2.2.2 = some .int) (hm : n.1 ≤ mc.1 ∧ n.2 ≤ mc.2) (hp : Post (.returned (some (.int v))) h) : X g f md mc Post n pc L [.int v] h :=
  fun H locs ls hR hS hl => W.widen hm.1 hm.2 (W.iret C.exec C.code (C.ret.trans hr) (fun t ht hW => ⟨⟨h, hp, by rw [ht]; exact hR⟩, hS.F ht⟩) hS.2.2 d C.locks)
theorem x_zret {v : Int32} {ty : FieldType} (C : Cx g f md fr mc) (d : decode md.2.1 pc = .ok (.ireturn, 1)) (hr : md.2.2.2 = some ty) (hn : narrow ty (.int v) = .int v) (hm : n.1 ≤ mc.1 ∧ n.2 ≤ mc.2) (hp : Post (.returned (some (.int v))) h) : X g f md mc Post n pc L [.int v] h :=
  fun H locs ls hR hS hl => W.widen hm.1 hm.2 (W.zret C.exec C.code (C.ret.trans hr) hn (fun t ht hW => ⟨⟨h, hp, by rw [ht]; exact hR⟩, hS.F ht⟩) hS.2.2 d C.locks)
theorem x_vret (C : Cx g f md fr mc) (d : decode md.2.1 pc = .ok (.return_, 1)) (hr : md.2.2.2 = none) (hm : n.1 ≤ mc.1 ∧ n.2 ≤ mc.2) (hp : Post (.returned none) h) : X g f md mc Post n pc L [] h :=
  fun H locs ls hR hS hl => W.widen hm.1 hm.2 (W.vret C.exec C.code (C.ret.trans hr) (fun t ht hW => ⟨⟨h, hp, by rw [ht]; exact hR⟩, hS.F ht⟩) hS.2.2 d C.locks)
theorem x_objInit {idx a : Nat} (C : Cx g f md fr mc) (d : decode md.2.1 pc = .ok (.invokespecial idx, 3)) (hw : Cond.methodLink md.1.cls idx objectInit ∈ tb) (hfr : Nat.ble 1 fr = true) (hs : Nat.ble (st.map fun v => v.category).sum 20 = true) (k : X g f md mc Post n (pc + 3) L st h) : X g f md mc Post n pc L (.ref a :: st) h :=
  fun H locs ls hR hS hl => W.objInit C.exec C.code C.own (C.ts _ hw) (C.ts _ k_im_Object_init) (C.ts _ k_cd_Object_init) rfl (by rw [C.ml]; exact hl.1) rfl d (by rw [C.room]; exact Nat.le_of_ble_eq_true hfr) (by rw [C.room]; have h1 := Nat.le_of_ble_eq_true hfr; have h2 := Nat.le_of_ble_eq_true hs; show 2 * 0 + _ + 12 ≤ 36 * fr; omega) (k H locs ls hR hS hl)
/-- a call that comes back -/
theorem x_run {mc2 : Nat × Nat} {Post2 : Outcome → Hp → Prop} {av rest : List Value} (C : Cx g f md fr mc) (hr : ∀ (H : Heap) (locs : List Loc) (ls : Array Slot), Rl g h H → va_S (zle g) (fS f).heap H locs → lx ls md.2.2.1 L → va_Run (fP f) (gl g) (fE f) (fR f) (fS f) (fI f) (fA f) (fB f) (fM f) (fC f) H locs n.1 n.2 mc2.1 mc2.2 (F0 (fI f) pc ls st) rest (Qx g Post2 av.toArray) (zle g))
    (k : ∀ o h2, Post2 o h2 → ∃ r, o = .returned r ∧ X g f md mc Post (n.1 + mc2.1, n.2 + mc2.2) (pc + 3) L (r.toList ++ rest) h2) : X g f md mc Post n pc L st h := by
  intro H locs ls hR hS hl T hT XX
  obtain ⟨v, st₀, t, T', Lc, h0, X', hL, e1, e2, ⟨⟨h2, hp, hR2⟩, hz, hk⟩, stp⟩ := hr H locs ls hR hS hl T hT XX
  obtain ⟨r, hr0, kk⟩ := k _ h2 hp
  cases hr0
  rw [h0] at hz hk
  obtain ⟨t2, a1, b1⟩ := kk T'.heap (locs ++ Lc) ls (by rw [e1]; exact hR2)
    ⟨Nat.le_trans hS.1 (by rw [e1]; exact hz), fun q h1 h2 => by rw [e1, hk q (Nat.lt_of_lt_of_le h1 hS.1) h2]; exact hS.2.1 q h1 h2, fun q hq => by
      rcases List.mem_append.mp hq with h | h
      · exact hS.2.2 q h
      · exact hL q h⟩ hl T' rfl X'
  exact ⟨t2, stp t2 a1, b1⟩

theorem Px_blind {av : List Value} : FrameBlind (Px g av h) := fun a U g2 mk q => by
  obtain ⟨q0, q1, qK, qz⟩ := q
  exact ⟨q0, q1, va_K.moved (u := U) (U := U.calling g2 mk a) (Vm.Alike.refl U.vm) qK, qz.same rfl⟩
theorem Px_pre {av : List Value} {H : Heap} (C : Cx g f md fr mc) (hR : Rl g h H) : ∀ U : State, U.heap = H → (fS f).WarmedH U.vm → Px g av h av.toArray U :=
  fun U hU hW => ⟨rfl, by rw [hU]; exact hR, va_K.moved hW.alike C.K, C.nw.warm hW⟩
theorem tb_good {w : Cond} (h : w ∈ tb) : (w.onTables && w.keeps) = true ∨ ∃ ty, w = .arrayClass ty := good_of_word (List.mem_filter.mp h).2
theorem tb_wz {M : MD} (h : Cond.code M.1 M.2.1 M.2.2.1 M.2.2.2 ∈ tb) : GoodIn tb (wz M) := by
  intro w hw
  rcases List.mem_cons.mp hw with rfl | hw
  · exact ⟨h, tb_good h⟩
  · exact ⟨hw, tb_good hw⟩
theorem tb_app {a : List Cond} {b : List Cond} (h1 : ∀ w ∈ a, w ∈ tb) (h2 : GoodIn tb b) : GoodIn tb (a ++ b) := by
  intro w hw
  rcases List.mem_append.mp hw with hw | hw
  · exact ⟨h1 w hw, tb_good (h1 w hw)⟩
  · exact h2 w hw
/-- the number of a method's parameters, and that it is no handle -/
def mP (M : MD) (na : Nat) : Prop := M.1.cls ≠ "java/lang/invoke/MethodHandle" ∧ M.1.cls ≠ "java/lang/invoke/VarHandle" ∧ (parseMethodDescriptor M.1.desc).map (fun d => d.parameters.length) = some na
def mV (M : MD) (na : Nat) : Prop := Cond.instanceMethod M.1 ∈ tb ∧ Cond.selects M.1.cls M.1 M.1 ∈ tb ∧ Cond.initialized M.1.cls ∈ tb ∧ Cond.code M.1 M.2.1 M.2.2.1 M.2.2.2 ∈ tb ∧ mP M na
def mU (M : MD) (na : Nat) : Prop := Cond.instanceMethod M.1 ∈ tb ∧ Cond.initialized M.1.cls ∈ tb ∧ Cond.code M.1 M.2.1 M.2.2.1 M.2.2.2 ∈ tb ∧ mP M na
def mS (M : MD) (na : Nat) : Prop := Cond.static M.1 ∈ tb ∧ Cond.initialized M.1.cls ∈ tb ∧ Cond.code M.1 M.2.1 M.2.2.1 M.2.2.2 ∈ tb ∧ mP M na
def mI (M : MD) (na : Nat) : Prop := Cond.instanceMethod M.1 ∈ tb ∧ M.1.name = "<init>" ∧ Cond.initialized M.1.cls ∈ tb ∧ Cond.code M.1 M.2.1 M.2.2.1 M.2.2.2 ∈ tb ∧ mP M na ∧ M.2.2.2 = none
def rmK (fr2 fr nL : Nat) : Bool := Nat.ble (fr2 + 1) fr && Nat.ble (8 + (nL + 11) + 36 * fr2) (36 * fr)
theorem rmK.ok {fr2 nL : Nat} {mc2 : Nat × Nat} (C : Cx g f md fr mc) (h : rmK fr2 fr nL = true) : (rmo fr2 mc2).frames + 1 ≤ (fR f).frames ∧ 8 + (nL + 11) + (rmo fr2 mc2).locals ≤ (fR f).locals := by
  rw [C.room]
  unfold rmK at h
  rw [Bool.and_eq_true] at h
  exact ⟨Nat.le_of_ble_eq_true h.1, Nat.le_of_ble_eq_true h.2⟩
theorem mcK_ok {mc2 : Nat × Nat} (C : Cx g f md fr mc) (h : n.1 + mc2.1 ≤ mc.1 ∧ n.2 + mc2.2 ≤ mc.2) : n.1 + mc2.1 ≤ (fR f).cells ∧ n.2 + mc2.2 ≤ (fR f).slots := by
  rw [C.room]
  exact h
variable {M : MD} {fr2 na idx : Nat} {mc2 : Nat × Nat} {Post2 : Outcome → Hp → Prop} {As rest : List Value}
theorem x_callV {a ci : Nat} {vs : List Value} (C : Cx g f md fr mc) (d : decode md.2.1 pc = .ok (.invokevirtual idx, 3)) (hw : Cond.methodLink md.1.cls idx M.1 ∈ tb) (hm : mV M na) (hci : Nat.blt ci Cls.length = true) (hcl : (Tc ci).1 = M.1.cls) (ha : h[a]? = some (.inr (ci, vs))) (hc : Con g M fr2 mc2 (.ref (zA (gz g) a) :: As) h Post2)
    (hst : st = As.reverse ++ .ref (zA (gz g) a) :: rest) (hlen : As.length = na) (hcat : Nat.ble (rest.map fun v => v.category).sum 8 = true) (hfr : rmK fr2 fr M.2.2.1 = true) (hmc : n.1 + mc2.1 ≤ mc.1 ∧ n.2 + mc2.2 ≤ mc.2)
    (k : ∀ o h2, Post2 o h2 → ∃ r, o = .returned r ∧ X g f md mc Post (n.1 + mc2.1, n.2 + mc2.2) (pc + 3) L (r.toList ++ rest) h2) : X g f md mc Post n pc L st h := by
  obtain ⟨m1, m2, m3, m4, m5⟩ := hm
  refine x_run (av := .ref (zA (gz g) a) :: As) C (fun H locs ls hR hS hl => ?_) k
  have hrec := va_recv C.K hR.1 (Tc_at hci) (wl_get ha)
  rw [hcl] at hrec
  exact va_runV (Ts := tb) ⟨C.exec, C.code, C.ml, C.own, C.ts⟩ hc (cwV (C := M.1.cls) na C.ts (tb_app (by simp only [List.forall_mem_cons]; exact ⟨hw, m1, m2, m3, fun _ h => by cases h⟩) (tb_wz m4)) rfl rfl rfl ⟨rfl, m5⟩ (rmK.ok C hfr)) ⟨Px_blind, hrec, Px_pre C hR⟩ rfl hlen hl.1 hst (lv_room (Nat.le_of_ble_eq_true hcat)) d (mcK_ok C hmc)
theorem x_callS (C : Cx g f md fr mc) (d : decode md.2.1 pc = .ok (.invokestatic idx, 3)) (hw : Cond.methodLink md.1.cls idx M.1 ∈ tb) (hm : mS M na) (hc : Con g M fr2 mc2 As h Post2)
    (hst : st = As.reverse ++ rest) (hlen : As.length = na) (hcat : Nat.ble (rest.map fun v => v.category).sum 8 = true) (hfr : rmK fr2 fr M.2.2.1 = true) (hmc : n.1 + mc2.1 ≤ mc.1 ∧ n.2 + mc2.2 ≤ mc.2)
    (k : ∀ o h2, Post2 o h2 → ∃ r, o = .returned r ∧ X g f md mc Post (n.1 + mc2.1, n.2 + mc2.2) (pc + 3) L (r.toList ++ rest) h2) : X g f md mc Post n pc L st h := by
  obtain ⟨m1, m3, m4, m5⟩ := hm
  refine x_run (av := As) C (fun H locs ls hR hS hl => ?_) k
  exact va_runS (Ts := tb) ⟨C.exec, C.code, C.ml, C.own, C.ts⟩ hc (va_cwS na C.ts (tb_app (by simp only [List.forall_mem_cons]; exact ⟨hw, m1, m3, fun _ h => by cases h⟩) (tb_wz m4)) rfl rfl rfl m5 (rmK.ok C hfr)) ⟨Px_blind, Px_pre C hR⟩ rfl hlen hl.1 hst (lv_room (Nat.le_of_ble_eq_true hcat)) d (mcK_ok C hmc)
theorem x_callSN {host : String} (C : Cx g f md fr mc) (d : decode md.2.1 pc = .ok (.invokestatic idx, 3)) (hw : (md.1.cls, idx, M.1, host) ∈ nwM) (hm : mS M na) (hc : Con g M fr2 mc2 As h Post2)
    (hst : st = As.reverse ++ rest) (hlen : As.length = na) (hcat : Nat.ble (rest.map fun v => v.category).sum 8 = true) (hfr : rmK fr2 fr M.2.2.1 = true) (hmc : n.1 + mc2.1 ≤ mc.1 ∧ n.2 + mc2.2 ≤ mc.2)
    (k : ∀ o h2, Post2 o h2 → ∃ r, o = .returned r ∧ X g f md mc Post (n.1 + mc2.1, n.2 + mc2.2) (pc + 3) L (r.toList ++ rest) h2) : X g f md mc Post n pc L st h := by
  obtain ⟨m1, m3, m4, m5⟩ := hm
  refine x_run (av := As) C (fun H locs ls hR hS hl => ?_) k
  exact va_runSN (Ts := tb) ⟨C.exec, C.code, C.ml, C.own, C.ts⟩ hc ⟨va_cnB na C.ts (tb_wz m4) rfl rfl rfl (C.nw.1 _ hw) (C.ts _ m3) m5 (rmK.ok C hfr), C.ts _ m1, trivial⟩ ⟨Px_blind, Px_pre C hR⟩ rfl hlen hl.1 hst (lv_room (Nat.le_of_ble_eq_true hcat)) d (mcK_ok C hmc)
theorem x_callI {a : Nat} (C : Cx g f md fr mc) (d : decode md.2.1 pc = .ok (.invokespecial idx, 3)) (hw : Cond.methodLink md.1.cls idx M.1 ∈ tb) (hm : mI M na) (hc : Con g M fr2 mc2 (.ref a :: As) h Post2)
    (hst : st = As.reverse ++ .ref a :: rest) (hlen : As.length = na) (hcat : Nat.ble (rest.map fun v => v.category).sum 8 = true) (hfr : rmK fr2 fr M.2.2.1 = true) (hmc : n.1 + mc2.1 ≤ mc.1 ∧ n.2 + mc2.2 ≤ mc.2)
    (k : ∀ o h2, Post2 o h2 → ∃ r, o = .returned r ∧ X g f md mc Post (n.1 + mc2.1, n.2 + mc2.2) (pc + 3) L (r.toList ++ rest) h2) : X g f md mc Post n pc L st h := by
  obtain ⟨m1, m2, m3, m4, m5, m6⟩ := hm
  refine x_run (av := .ref a :: As) C (fun H locs ls hR hS hl => ?_) k
  exact va_runI (Ts := tb) ⟨C.exec, C.code, C.ml, C.own, C.ts⟩ hc (cwI na C.ts (tb_wz m4) (by unfold wz; rw [m6]) rfl rfl (C.ts _ m3) (C.ts _ hw) (C.ts _ m1) m2 m5 (rmK.ok C hfr)) ⟨Px_blind, Px_pre C hR⟩ rfl hlen hl.1 hst (lv_room (Nat.le_of_ble_eq_true hcat)) d (mcK_ok C hmc)
theorem x_callIN {a : Nat} {host : String} (C : Cx g f md fr mc) (d : decode md.2.1 pc = .ok (.invokespecial idx, 3)) (hw : (md.1.cls, idx, M.1, host) ∈ nwM) (hm : mI M na) (hc : Con g M fr2 mc2 (.ref a :: As) h Post2)
    (hst : st = As.reverse ++ .ref a :: rest) (hlen : As.length = na) (hcat : Nat.ble (rest.map fun v => v.category).sum 8 = true) (hfr : rmK fr2 fr M.2.2.1 = true) (hmc : n.1 + mc2.1 ≤ mc.1 ∧ n.2 + mc2.2 ≤ mc.2)
    (k : ∀ o h2, Post2 o h2 → ∃ r, o = .returned r ∧ X g f md mc Post (n.1 + mc2.1, n.2 + mc2.2) (pc + 3) L (r.toList ++ rest) h2) : X g f md mc Post n pc L st h := by
  obtain ⟨m1, m2, m3, m4, m5, m6⟩ := hm
  refine x_run (av := .ref a :: As) C (fun H locs ls hR hS hl => ?_) k
  refine va_runIN (Ts := tb) ⟨C.exec, C.code, C.ml, C.own, C.ts⟩ hc ⟨va_cnB na C.ts (tb_wz m4) (by unfold wz; rw [m6]) rfl rfl (C.nw.1 _ hw) (C.ts _ m3) m5 (rmK.ok C hfr), m2, C.ts _ m1⟩ ⟨Px_blind, Px_pre C hR⟩ rfl hlen hl.1 hst (lv_room (Nat.le_of_ble_eq_true hcat)) d (mcK_ok C hmc)
theorem x_callU {a ci : Nat} {x : MethodName} {owner : String} {vs : List Value} (C : Cx g f md fr mc) (d : decode md.2.1 pc = .ok (.invokevirtual idx, 3)) (hw : Cond.methodLink md.1.cls idx x ∈ tb) (hsm : Cond.sameMethod x.cls owner x.name x.desc ∈ tb) (hsel : Cond.selects (Tc ci).1 x M.1 ∈ tb) (hdc : (⟨owner, x.name, x.desc⟩ : MethodName) ∈ nwD) (hm : mU M na) (hpx : owner ≠ "java/lang/invoke/MethodHandle" ∧ owner ≠ "java/lang/invoke/VarHandle" ∧ (parseMethodDescriptor x.desc).map (fun d => d.parameters.length) = some na) (hci : Nat.blt ci Cls.length = true) (ha : h[a]? = some (.inr (ci, vs))) (hc : Con g M fr2 mc2 (.ref (zA (gz g) a) :: As) h Post2)
    (hst : st = As.reverse ++ .ref (zA (gz g) a) :: rest) (hlen : As.length = na) (hcat : Nat.ble (rest.map fun v => v.category).sum 8 = true) (hfr : rmK fr2 fr M.2.2.1 = true) (hmc : n.1 + mc2.1 ≤ mc.1 ∧ n.2 + mc2.2 ≤ mc.2)
    (k : ∀ o h2, Post2 o h2 → ∃ r, o = .returned r ∧ X g f md mc Post (n.1 + mc2.1, n.2 + mc2.2) (pc + 3) L (r.toList ++ rest) h2) : X g f md mc Post n pc L st h := by
  obtain ⟨m1, m3, m4, m5⟩ := hm
  refine x_run (av := .ref (zA (gz g) a) :: As) C (fun H locs ls hR hS hl => ?_) k
  have hrec := va_recv C.K hR.1 (Tc_at hci) (wl_get ha)
  exact va_runU (Ts := tb) ⟨C.exec, C.code, C.ml, C.own, C.ts⟩ hc (va_cwA (C := (Tc ci).1) (owner := owner) na C.ts (tb_app (by simp only [List.forall_mem_cons]; exact ⟨hw, hsm, hsel, m1, m3, fun _ h => by cases h⟩) (tb_wz m4)) rfl rfl rfl (C.nw.2.1 _ hdc) hpx (rmK.ok C hfr)) ⟨Px_blind, hrec, Px_pre C hR⟩ rfl hlen hl.1 hst (lv_room (Nat.le_of_ble_eq_true hcat)) d (mcK_ok C hmc)
/-- calls that make nothing: exact ends, void and with an answer; any end -/
theorem x_cV0 {a ci : Nat} {vs : List Value} {h2 : Hp} (C : Cx g f md fr mc) (d : decode md.2.1 pc = .ok (.invokevirtual idx, 3)) (hw : Cond.methodLink md.1.cls idx M.1 ∈ tb) (hm : mV M na) (hci : Nat.blt ci Cls.length = true) (hcl : (Tc ci).1 = M.1.cls) (ha : h[a]? = some (.inr (ci, vs))) (hc : Con g M fr2 (0, 0) (.ref (zA (gz g) a) :: As) h (Ret none h2)) (hst : st = As.reverse ++ .ref (zA (gz g) a) :: rest) (hlen : As.length = na) (hcat : Nat.ble (rest.map fun v => v.category).sum 8 = true) (hfr : rmK fr2 fr M.2.2.1 = true) (hmc : n.1 ≤ mc.1 ∧ n.2 ≤ mc.2) (k : X g f md mc Post n (pc + 3) L rest h2) : X g f md mc Post n pc L st h :=
  x_callV C d hw hm hci hcl ha hc hst hlen hcat hfr hmc (fun o h3 hp => ⟨none, hp.1, by rw [hp.2]; exact k⟩)
theorem x_cV1 {a ci : Nat} {vs : List Value} {h2 : Hp} {v : Value} (C : Cx g f md fr mc) (d : decode md.2.1 pc = .ok (.invokevirtual idx, 3)) (hw : Cond.methodLink md.1.cls idx M.1 ∈ tb) (hm : mV M na) (hci : Nat.blt ci Cls.length = true) (hcl : (Tc ci).1 = M.1.cls) (ha : h[a]? = some (.inr (ci, vs))) (hc : Con g M fr2 (0, 0) (.ref (zA (gz g) a) :: As) h (Ret (some v) h2)) (hst : st = As.reverse ++ .ref (zA (gz g) a) :: rest) (hlen : As.length = na) (hcat : Nat.ble (rest.map fun v => v.category).sum 8 = true) (hfr : rmK fr2 fr M.2.2.1 = true) (hmc : n.1 ≤ mc.1 ∧ n.2 ≤ mc.2) (k : X g f md mc Post n (pc + 3) L (v :: rest) h2) : X g f md mc Post n pc L st h :=
  x_callV C d hw hm hci hcl ha hc hst hlen hcat hfr hmc (fun o h3 hp => ⟨some v, hp.1, by rw [hp.2]; exact k⟩)
theorem x_cV {a ci : Nat} {vs : List Value} (C : Cx g f md fr mc) (d : decode md.2.1 pc = .ok (.invokevirtual idx, 3)) (hw : Cond.methodLink md.1.cls idx M.1 ∈ tb) (hm : mV M na) (hci : Nat.blt ci Cls.length = true) (hcl : (Tc ci).1 = M.1.cls) (ha : h[a]? = some (.inr (ci, vs))) (hc : Con g M fr2 (0, 0) (.ref (zA (gz g) a) :: As) h Post2) (hst : st = As.reverse ++ .ref (zA (gz g) a) :: rest) (hlen : As.length = na) (hcat : Nat.ble (rest.map fun v => v.category).sum 8 = true) (hfr : rmK fr2 fr M.2.2.1 = true) (hmc : n.1 ≤ mc.1 ∧ n.2 ≤ mc.2) (k : ∀ o h2, Post2 o h2 → ∃ r, o = .returned r ∧ X g f md mc Post n (pc + 3) L (r.toList ++ rest) h2) : X g f md mc Post n pc L st h :=
  x_callV C d hw hm hci hcl ha hc hst hlen hcat hfr hmc k
/-- calls that make nothing: exact ends, void and with an answer; any end -/
theorem x_cS0  {h2 : Hp} (C : Cx g f md fr mc) (d : decode md.2.1 pc = .ok (.invokestatic idx, 3)) (hw : Cond.methodLink md.1.cls idx M.1 ∈ tb) (hm : mS M na) (hc : Con g M fr2 (0, 0) (As) h (Ret none h2)) (hst : st = As.reverse ++ rest) (hlen : As.length = na) (hcat : Nat.ble (rest.map fun v => v.category).sum 8 = true) (hfr : rmK fr2 fr M.2.2.1 = true) (hmc : n.1 ≤ mc.1 ∧ n.2 ≤ mc.2) (k : X g f md mc Post n (pc + 3) L rest h2) : X g f md mc Post n pc L st h :=
  x_callS C d hw hm hc hst hlen hcat hfr hmc (fun o h3 hp => ⟨none, hp.1, by rw [hp.2]; exact k⟩)
theorem x_cS1  {h2 : Hp} {v : Value} (C : Cx g f md fr mc) (d : decode md.2.1 pc = .ok (.invokestatic idx, 3)) (hw : Cond.methodLink md.1.cls idx M.1 ∈ tb) (hm : mS M na) (hc : Con g M fr2 (0, 0) (As) h (Ret (some v) h2)) (hst : st = As.reverse ++ rest) (hlen : As.length = na) (hcat : Nat.ble (rest.map fun v => v.category).sum 8 = true) (hfr : rmK fr2 fr M.2.2.1 = true) (hmc : n.1 ≤ mc.1 ∧ n.2 ≤ mc.2) (k : X g f md mc Post n (pc + 3) L (v :: rest) h2) : X g f md mc Post n pc L st h :=
  x_callS C d hw hm hc hst hlen hcat hfr hmc (fun o h3 hp => ⟨some v, hp.1, by rw [hp.2]; exact k⟩)
theorem x_cS  (C : Cx g f md fr mc) (d : decode md.2.1 pc = .ok (.invokestatic idx, 3)) (hw : Cond.methodLink md.1.cls idx M.1 ∈ tb) (hm : mS M na) (hc : Con g M fr2 (0, 0) (As) h Post2) (hst : st = As.reverse ++ rest) (hlen : As.length = na) (hcat : Nat.ble (rest.map fun v => v.category).sum 8 = true) (hfr : rmK fr2 fr M.2.2.1 = true) (hmc : n.1 ≤ mc.1 ∧ n.2 ≤ mc.2) (k : ∀ o h2, Post2 o h2 → ∃ r, o = .returned r ∧ X g f md mc Post n (pc + 3) L (r.toList ++ rest) h2) : X g f md mc Post n pc L st h :=
  x_callS C d hw hm hc hst hlen hcat hfr hmc k
/-- calls that make nothing: exact ends, void and with an answer; any end -/
theorem x_cSN0 {host : String} {h2 : Hp} (C : Cx g f md fr mc) (d : decode md.2.1 pc = .ok (.invokestatic idx, 3)) (hw : (md.1.cls, idx, M.1, host) ∈ nwM) (hm : mS M na) (hc : Con g M fr2 (0, 0) (As) h (Ret none h2)) (hst : st = As.reverse ++ rest) (hlen : As.length = na) (hcat : Nat.ble (rest.map fun v => v.category).sum 8 = true) (hfr : rmK fr2 fr M.2.2.1 = true) (hmc : n.1 ≤ mc.1 ∧ n.2 ≤ mc.2) (k : X g f md mc Post n (pc + 3) L rest h2) : X g f md mc Post n pc L st h :=
  x_callSN C d hw hm hc hst hlen hcat hfr hmc (fun o h3 hp => ⟨none, hp.1, by rw [hp.2]; exact k⟩)
theorem x_cSN1 {host : String} {h2 : Hp} {v : Value} (C : Cx g f md fr mc) (d : decode md.2.1 pc = .ok (.invokestatic idx, 3)) (hw : (md.1.cls, idx, M.1, host) ∈ nwM) (hm : mS M na) (hc : Con g M fr2 (0, 0) (As) h (Ret (some v) h2)) (hst : st = As.reverse ++ rest) (hlen : As.length = na) (hcat : Nat.ble (rest.map fun v => v.category).sum 8 = true) (hfr : rmK fr2 fr M.2.2.1 = true) (hmc : n.1 ≤ mc.1 ∧ n.2 ≤ mc.2) (k : X g f md mc Post n (pc + 3) L (v :: rest) h2) : X g f md mc Post n pc L st h :=
  x_callSN C d hw hm hc hst hlen hcat hfr hmc (fun o h3 hp => ⟨some v, hp.1, by rw [hp.2]; exact k⟩)
theorem x_cSN {host : String} (C : Cx g f md fr mc) (d : decode md.2.1 pc = .ok (.invokestatic idx, 3)) (hw : (md.1.cls, idx, M.1, host) ∈ nwM) (hm : mS M na) (hc : Con g M fr2 (0, 0) (As) h Post2) (hst : st = As.reverse ++ rest) (hlen : As.length = na) (hcat : Nat.ble (rest.map fun v => v.category).sum 8 = true) (hfr : rmK fr2 fr M.2.2.1 = true) (hmc : n.1 ≤ mc.1 ∧ n.2 ≤ mc.2) (k : ∀ o h2, Post2 o h2 → ∃ r, o = .returned r ∧ X g f md mc Post n (pc + 3) L (r.toList ++ rest) h2) : X g f md mc Post n pc L st h :=
  x_callSN C d hw hm hc hst hlen hcat hfr hmc k
theorem x_copy {a b sp dp c : Nat} {A B : List Nat} (C : Cx g f md fr mc) (d : decode md.2.1 pc = .ok (.invokestatic idx, 3)) (hw : Cond.methodLink md.1.cls idx arraycopyName ∈ tb) (ha : h[a]? = some (ia g A)) (hb : h[b]? = some (ia g B)) (h4 : sp + c ≤ A.length) (h5 : dp + c ≤ B.length) (hl0 : A.length < 2 ^ 31 ∧ B.length < 2 ^ 31) (hm : n.1 ≤ mc.1 ∧ n.2 ≤ mc.2) (hfr : Nat.ble 1 fr = true) (hcat : Nat.ble (st.map fun v => v.category).sum 8 = true)
    (k : X g f md mc Post n (pc + 3) L st (h.set b (ia g (cpy A B sp dp c)))) : X g f md mc Post n pc L (.int (nI c) :: .int (nI dp) :: .ref (zA (gz g) b) :: .int (nI sp) :: .ref (zA (gz g) a) :: st) h := by
  intro H locs ls hR hS hl T hT XX
  have hc0 : H[zA (gz g) a]? = some (vp_cell (gC g 0) (A.length, .inl (la A))) := hR.1 a _ (wl_get ha)
  have hc1 : H[zA (gz g) b]? = some (vp_cell (gC g 0) (B.length, .inl (la B))) := hR.1 b _ (wl_get hb)
  obtain ⟨-, k0, hk0, cm0, hkk0⟩ := (C.K.2 0 _ rfl).1 A.length (fun j => .int (la A j))
  obtain ⟨-, k1, hk1, cm1, hkk1⟩ := (C.K.2 0 _ rfl).1 B.length (fun j => .int (la B j))
  have n1 := nI_toInt (n := sp) (by omega)
  have n2 := nI_toInt (n := dp) (by omega)
  have n3 := nI_toInt (n := c) (by omega)
  have m1 := nI_clamp (n := sp) (by omega)
  have m2 := nI_clamp (n := dp) (by omega)
  have m3 := nI_clamp (n := c) (by omega)
  have q1 := Nat.le_of_ble_eq_true hfr
  have q2 := Nat.le_of_ble_eq_true hcat
  have q3 : nativeFrameWords "java/lang/System" "arraycopy" 5 ≤ 17 := by decide +kernel
  obtain ⟨vm', X', step⟩ := XX.arraycopy C.exec C.own (C.ts _ hw) (C.ts _ k_nt_System_arraycopy) (C.ts _ k_st_System_arraycopy) (C.ts _ k_in_System) (src := zA (gz g) a) (dst := zA (gz g) b) (cs := vp_cell (gC g 0) (A.length, .inl (la A))) (cd := vp_cell (gC g 0) (B.length, .inl (la B))) (srcPos := nI sp) (destPos := nI dp) (n := nI c) (by rw [hT]; exact hc0) (by rw [hT]; exact hc1)
    (fun _ h => by cases h) (fun _ h => by cases h) (fun h => by cases h) (fun h => by cases h) hk0 hk1 hkk0 hkk1 (by simp [refKind]) (nI_pos (by omega)) (nI_pos (by omega)) (nI_pos (by omega))
    (by rw [n1, n3]; show ¬ _ > ((arrV _ _ _).slots.size : Int); rw [arrV_size]; omega)
    (by rw [n2, n3]; show ¬ _ > ((arrV _ _ _).slots.size : Int); rw [arrV_size]; omega)
    (fun vm₁ _ i hi => by
      rw [m3] at hi
      have e : (vp_cell (gC g 0) (A.length, .inl (la A))).slots.getD ((nI sp).toNatClampNeg + i) .null = .int (la A ((nI sp).toNatClampNeg + i)) := by
        show (arrV _ _ (fun j => .int (la A j))).slots.getD _ _ = _
        rw [Array.getD_eq_getD_getElem?, arrV_read _ _ (by rw [m1]; omega)]
        rfl
      rw [e]
      exact ⟨rfl, trivial⟩)
    (g := F0 (fI f) pc ls (.int (nI c) :: .int (nI dp) :: .ref (zA (gz g) b) :: .int (nI sp) :: .ref (zA (gz g) a) :: st)) rfl (by rw [C.ml]; exact hl.1) (rest := st) rfl (by rw [C.code]; exact d) (by rw [C.room]; exact Nat.le_of_ble_eq_true hfr) (by rw [C.room]; show 2 * 0 + _ + _ ≤ 36 * fr; omega)
  have e1 : copied (vp_cell (gC g 0) (A.length, .inl (la A))) (vp_cell (gC g 0) (B.length, .inl (la B))) (nI sp) (nI dp) (nI c) = vp_cell (gC g 0) (B.length, .inl (va_cpy (la A) (la B) sp dp c)) := by
    have q := va_copied (fun z => Value.int z) (gC g 0) (gC g 0) (n0 := A.length) (n1 := B.length) (sp := (nI sp).toNatClampNeg) (dp := (nI dp).toNatClampNeg) (n := (nI c).toNatClampNeg) (la A) (la B) (by rw [m1, m3]; exact h4)
    refine Eq.trans q ?_
    rw [m1, m2, m3]
    rfl
  rw [e1] at X' step
  have hlt : zA (gz g) b < H.size := (Array.getElem?_eq_some_iff.mp hc1).1
  have hheap : ((T.setVm vm').setCell (zA (gz g) b) (vp_cell (gC g 0) (B.length, .inl (va_cpy (la A) (la B) sp dp c)))).heap = H.setIfInBounds (zA (gz g) b) (vp_cell (gC g 0) (B.length, .inl (va_cpy (la A) (la B) sp dp c))) := by rw [← hT]; rfl
  have oq : ∀ q : Nat, q ≠ zA (gz g) b → (H.setIfInBounds (zA (gz g) b) (vp_cell (gC g 0) (B.length, .inl (va_cpy (la A) (la B) sp dp c))))[q]? = H[q]? := fun q hq => by simp [Array.getElem?_setIfInBounds, Ne.symm hq]
  obtain ⟨t, a1, b1⟩ := k _ _ ls (hR.put hb (e := ia g (cpy A B sp dp c)) (by
      show (H.setIfInBounds (zA (gz g) b) _)[zA (gz g) b]? = some (vp_cell (gC g 0) ((cpy A B sp dp c).length, .inl (la (cpy A B sp dp c))))
      rw [cpy_length h4 h5, ← la_cpy h4 h5]
      simp [Array.getElem?_setIfInBounds, hlt]) (by simp) oq) ⟨by simp; exact hS.1, fun q g1 g2 => by
      rw [oq q (fun e => g2 (by rw [e]; exact zA_zle g b))]
      exact hS.2.1 q g1 g2, fun q hq => by
      rcases List.mem_append.mp hq with h | h
      · exact hS.2.2 q h
      · obtain ⟨z, -, hz⟩ := List.mem_map.mp h
        rw [← hz]
        exact zA_zle g b⟩ hl _ hheap X'
  exact ⟨t, step t a1, b1⟩
end XR
end
section
/-! Pure functions: what the loops do to lists of naturals. -/
/-- n turns from k on -/
def it {α : Type} (f : Nat → α → α) : Nat → Nat → α → α
  | _, 0, s => s
  | k, n + 1, s => it f (k + 1) n (f k s)
theorem it_inv {α : Type} {f : Nat → α → α} (P : α → Prop) : ∀ (n k : Nat) (s : α), (∀ j s, k ≤ j → j < k + n → P s → P (f j s)) → P s → P (it f k n s)
  | 0, _, _, _, h => h
  | n + 1, k, s, hf, h => it_inv P n (k + 1) (f k s) (fun j s h1 h2 => hf j s (by omega) (by omega)) (hf k s (by omega) (by omega) h)
/-- all are bytes -/
def by8 (A : List Nat) : Prop := ∀ v ∈ A, v < 256
theorem by8.at {A : List Nat} (h : by8 A) (i : Nat) : A.getD i 0 < 256 := by
  rw [List.getD_eq_getElem?_getD]
  cases hi : A[i]? with
  | none => decide
  | some v => exact h v (List.mem_of_getElem? hi)
theorem by8.set {A : List Nat} (h : by8 A) {i v : Nat} (hv : v < 256) : by8 (A.set i v) := by
  intro x hx
  rcases List.mem_or_eq_of_mem_set hx with h1 | h1
  · exact h x h1
  · rw [h1]; exact hv
theorem by8.app {A B : List Nat} (h : by8 A) (h2 : by8 B) : by8 (A ++ B) := by
  intro x hx
  rcases List.mem_append.mp hx with h1 | h1
  · exact h x h1
  · exact h2 x h1
theorem xor8 {a b : Nat} (ha : a < 256) (hb : b < 256) : a ^^^ b < 256 := Nat.xor_lt_two_pow (n := 8) ha hb
/-- twice a byte -/
def tw (b : Nat) : Nat := if b < 128 then b * 2 ^ 1 else (b * 2 ^ 1) ^^^ 283
theorem tw8 : ∀ b, b < 256 → tw b < 256 := by decide +kernel
theorem gd_l {X Y : List Nat} {k : Nat} (h : k < X.length) : (X ++ Y).getD k 0 = X.getD k 0 := by
  rw [List.getD_eq_getElem?_getD, List.getElem?_append_left h, List.getD_eq_getElem?_getD]
theorem st_l {X Y : List Nat} {k v : Nat} (h : k < X.length) : (X ++ Y).set k v = X.set k v ++ Y := List.set_append_left _ _ h
theorem it_len {f : Nat → List Nat → List Nat} (hf : ∀ k S, (f k S).length = S.length) (n k : Nat) (S : List Nat) : (it f k n S).length = S.length :=
  it_inv (fun T => T.length = S.length) n k S (fun j T _ _ h => (hf j T).trans h) rfl
theorem cpyT {A F : List Nat} (hA : 16 ≤ A.length) (hF : F.length = 16) : cpy A F 0 0 16 = A.take 16 := by
  unfold cpy
  rw [List.take_zero, List.drop_zero, List.nil_append, Nat.zero_add, List.drop_of_length_le (by omega), List.append_nil]
theorem by8.take {A : List Nat} (h : by8 A) (n : Nat) : by8 (A.take n) := fun v hv => h v (List.mem_of_mem_take hv)
theorem cpy16 {X Y F : List Nat} (hX : X.length = 16) (hF : F.length = 16) : cpy (X ++ Y) F 0 0 16 = X := by
  unfold cpy
  rw [List.take_zero, List.drop_zero, List.nil_append, Nat.zero_add, List.drop_of_length_le (by omega), List.append_nil, List.take_append_of_le_length (by omega), List.take_of_length_le (by omega)]
/-- the cells of a world: rows, ciphers, tables -/
abbrev rwc (g : Gp) (b n : Nat) : va_E := .inr (7, [.ref (zA (gz g) b), .int (nI n)])
abbrev cpc (g : Gp) (t rk bf : Nat) : va_E := .inr (2, [.ref (zA (gz g) t), .ref (zA (gz g) rk), .ref (zA (gz g) bf)])
abbrev tbc (g : Gp) (fo ba : Nat) : va_E := .inr (8, [.ref (zA (gz g) fo), .ref (zA (gz g) ba)])
theorem ne_io {h : Hp} {a b : Nat} {x : ClassId × vp_A} {y : Nat × List Value} (ha : h[a]? = some (.inl x)) (hb : h[b]? = some (.inr y)) : a ≠ b := by
  intro e
  rw [e, hb] at ha
  cases ha
theorem ne_cc {h : Hp} {a b c1 c2 : Nat} {x y : List Value} (ha : h[a]? = some (.inr (c1, x))) (hb : h[b]? = some (.inr (c2, y))) (hc : c1 ≠ c2) : a ≠ b := by
  intro e
  rw [e, hb] at ha
  cases ha
  exact hc rfl
theorem gs_ne {h : Hp} {a b : Nat} {e : va_E} {x : Option va_E} (hne : a ≠ b) (hb : h[b]? = x) : (h.set a e)[b]? = x := (List.getElem?_set_ne hne).trans hb
theorem gs_self {h : Hp} {a : Nat} {e e0 : va_E} (ha : h[a]? = some e0) : (h.set a e)[a]? = some e := List.getElem?_set_self (List.getElem?_eq_some_iff.mp ha).1
theorem gs_id {h : Hp} {a : Nat} {e : va_E} (ha : h[a]? = some e) : h.set a e = h := by
  apply List.ext_getElem?
  intro j
  by_cases hj : a = j
  · subst hj
    rw [gs_self ha, ha]
  · rw [List.getElem?_set_ne hj]
theorem gs_in {h : Hp} {a b : Nat} {e e' x : va_E} (hne : a ≠ b) : ((h.set a e).set b x).set a e' = (h.set a e').set b x := by
  rw [List.set_comm _ _ (Ne.symm hne), List.set_set]
theorem Ret.i {h : Hp} {a b : Nat} (e : a = b) : Ret (some (.int (nI b))) h (.returned (some (.int (nI a)))) h := ⟨by rw [e], rfl⟩
theorem Ret.h {h h' : Hp} (e : h = h') {r : Option Value} : Ret r h' (.returned r) h := ⟨rfl, e⟩
theorem ii_1 (a : Nat) : nI a + Int32.ofInt 1 = nI (a + 1) := nI_add a 1
theorem ii_4 (a : Nat) : nI a + Int32.ofInt 4 = nI (a + 4) := nI_add a 4
theorem ii_6 (a : Nat) : nI a + Int32.ofInt 6 = nI (a + 6) := nI_add a 6
theorem ii_16 (a : Nat) : nI a + Int32.ofInt 16 = nI (a + 16) := nI_add a 16
theorem iim {a : Nat} (h : 1 ≤ a) : nI a + Int32.ofInt (-1) = nI (a - 1) := by
  obtain ⟨b, rfl⟩ : ∃ b, a = b + 1 := ⟨a - 1, by omega⟩
  exact pk_m1 b
theorem dq {b : ByteArray} {l : List (Nat × Instr × Nat)} (h : l.all (fun q => decide (decode b q.1 = .ok (q.2.1, q.2.2))) = true) (k : Nat) {pc : Nat} {i : Instr} {len : Nat} (hk : l[k]? = some (pc, i, len)) : decode b pc = .ok (i, len) := by
  have h1 := List.all_eq_true.mp h (pc, i, len) (List.mem_of_getElem? hk)
  dsimp only at h1
  rw [decide_eq_true_eq] at h1
  exact h1
/-! Words of 32 bits: shifts of what may be negative. -/
section XW
variable {g : Gp} {f : Fm} {md : MD} {fr : Nat} {mc : Nat × Nat} {Post : Outcome → Hp → Prop} {n : Nat × Nat} {pc : Nat} {L : List (Option Value)} {st : List Value} {h : Hp}
theorem x_ishr {x y : Int32} (C : Cx g f md fr mc) (d : decode md.2.1 pc = .ok (.ishr, 1)) (k : X g f md mc Post n (pc + 1) L (.int (x >>> (y &&& 31)) :: st) h) : X g f md mc Post n pc L (.int y :: .int x :: st) h :=
  fun H locs ls hR hS hl => lv_ishr C.exec C.code d (k H locs ls hR hS hl)
theorem n_shlM (a b : Nat) (ha : a < 2 ^ 32) (hb : b < 32) : nI a <<< (nI b &&& 31) = nI (a * 2 ^ b % 2 ^ 32) := by
  apply Int32.toBitVec_inj.1
  apply BitVec.eq_of_toNat_eq
  rw [pk_shl (nI a) _ b (ln_s31 b hb), pk_tn ha, pk_tn (Nat.mod_lt _ (by omega))]
theorem n_ishlM {a b : Nat} (C : Cx g f md fr mc) (d : decode md.2.1 pc = .ok (.ishl, 1)) (ha : a < 2 ^ 32) (hb : b < 32) (k : X g f md mc Post n (pc + 1) L (.int (nI (a * 2 ^ b % 2 ^ 32)) :: st) h) : X g f md mc Post n pc L (.int (nI b) :: .int (nI a) :: st) h := by
  intro H locs ls hR hS hl
  refine lv_ishl C.exec C.code d ?_
  rw [n_shlM a b ha hb]
  exact k H locs ls hR hS hl
end XW
theorem i32_cond (x : Int32) : x.toInt = if 2 * x.toBitVec.toNat < 2 ^ 32 then (x.toBitVec.toNat : Int) else (x.toBitVec.toNat : Int) - 2 ^ 32 := by
  show x.toBitVec.toInt = _
  rw [BitVec.toInt_eq_toNat_cond]
  simp
theorem ws255 {w s : Nat} (hw : w < 2 ^ 32) (hs : s = 0 ∨ s = 8 ∨ s = 16 ∨ s = 24) : (nI w >>> (nI s &&& 31)) &&& nI 255 = nI ((w / 2 ^ s) &&& 255) := by
  have hs2 : s < 32 := by omega
  rw [pk_and _ 8 (by decide +kernel)]
  have e1 := pk_shr (nI w) (nI s &&& 31) s (ln_s31 s hs2)
  have e2 := i32_cond (nI w)
  have e3 := i32_cond (nI w >>> (nI s &&& 31))
  rw [pk_tn hw] at e2
  generalize (nI w >>> (nI s &&& 31)) = x at e1 e3 ⊢
  have hx : x.toBitVec.toNat < 2 ^ 32 := x.toBitVec.isLt
  generalize x.toBitVec.toNat = m at e3 hx ⊢
  rw [show w / 2 ^ s &&& 255 = w / 2 ^ s % 2 ^ 8 from Nat.and_two_pow_sub_one_eq_mod _ 8]
  congr 1
  rw [e1, e2, Int.shiftRight_eq_div_pow] at e3
  rcases hs with rfl | rfl | rfl | rfl <;> (simp at e3 ⊢; split at e3 <;> split at e3 <;> omega)
/-- all are words of 32 bits -/
def by32 (A : List Nat) : Prop := ∀ v ∈ A, v < 2 ^ 32
theorem by32.at {A : List Nat} (h : by32 A) (i : Nat) : A.getD i 0 < 2 ^ 32 := by
  rw [List.getD_eq_getElem?_getD]
  cases hi : A[i]? with
  | none => decide
  | some v => exact h v (List.mem_of_getElem? hi)
theorem by32.set {A : List Nat} (h : by32 A) {i v : Nat} (hv : v < 2 ^ 32) : by32 (A.set i v) := by
  intro x hx
  rcases List.mem_or_eq_of_mem_set hx with h1 | h1
  · exact h x h1
  · rw [h1]; exact hv
theorem i32_nI (x : Int32) : ∃ w, w < 2 ^ 32 ∧ x = nI w := ⟨x.toBitVec.toNat, x.toBitVec.isLt, by
  apply Int32.toBitVec_inj.1
  apply BitVec.eq_of_toNat_eq
  rw [pk_tn x.toBitVec.isLt]⟩
end
section
def DL_Desk_init : List (Nat × Instr × Nat) := [(0, .aload_n 0, 1), (1, .invokespecial 1, 3), (4, .new 7, 3), (7, .dup, 1), (8, .invokespecial 9, 3), (11, .astore_n 1, 1), (12, .new 10, 3), (15, .dup, 1), (16, .aload_n 1, 1), (17, .invokespecial 12, 3), (20, .astore_n 2, 1), (21, .new 10, 3), (24, .dup, 1), (25, .aload_n 1, 1), (26, .invokespecial 12, 3), (29, .astore_n 3, 1), (30, .new 15, 3), (33, .dup, 1), (34, .aload_n 2, 1), (35, .invokespecial 17, 3), (38, .astore 4, 2), (40, .new 20, 3), (43, .dup, 1), (44, .aload_n 2, 1), (45, .invokespecial 22, 3), (48, .astore 5, 2), (50, .new 23, 3), (53, .dup, 1), (54, .invokespecial 25, 3), (57, .astore 6, 2), (59, .aload_n 0, 1), (60, .iconst 2, 1), (61, .anewarray 10, 3), (64, .dup, 1), (65, .iconst 0, 1), (66, .aload_n 2, 1), (67, .aastore, 1), (68, .dup, 1), (69, .iconst 1, 1), (70, .aload_n 3, 1), (71, .aastore, 1), (72, .putfield 26, 3), (75, .aload_n 0, 1), (76, .aload 5, 2), (78, .putfield 32, 3), (81, .aload_n 0, 1), (82, .aload 6, 2), (84, .putfield 36, 3), (87, .aload_n 0, 1), (88, .iconst 3, 1), (89, .anewarray 40, 3), (92, .dup, 1), (93, .iconst 0, 1), (94, .new 42, 3), (97, .dup, 1), (98, .aload 5, 2), (100, .aload 6, 2), (102, .aload_n 3, 1), (103, .invokespecial 44, 3), (106, .aastore, 1), (107, .dup, 1), (108, .iconst 1, 1), (109, .new 47, 3), (112, .dup, 1), (113, .aload 4, 2), (115, .invokespecial 49, 3), (118, .aastore, 1), (119, .dup, 1), (120, .iconst 2, 1), (121, .new 52, 3), (124, .dup, 1), (125, .aload 4, 2), (127, .aload_n 2, 1), (128, .invokespecial 54, 3), (131, .aastore, 1), (132, .putfield 57, 3), (135, .aload_n 0, 1), (136, .new 61, 3), (139, .dup, 1), (140, .invokespecial 63, 3), (143, .putfield 64, 3), (146, .aload_n 0, 1), (147, .new 61, 3), (150, .dup, 1), (151, .invokespecial 63, 3), (154, .putfield 68, 3), (157, .aload_n 0, 1), (158, .new 61, 3), (161, .dup, 1), (162, .invokespecial 63, 3), (165, .putfield 71, 3), (168, .return_, 1)]
set_option maxRecDepth 100000 in
theorem D_Desk_init : DL_Desk_init.all (fun q => decide (decode b_Desk_init q.1 = .ok (q.2.1, q.2.2))) = true := by decide +kernel
def DL_Object_init : List (Nat × Instr × Nat) := [(0, .return_, 1)]
set_option maxRecDepth 100000 in
theorem D_Object_init : DL_Object_init.all (fun q => decide (decode b_Object_init q.1 = .ok (q.2.1, q.2.2))) = true := by decide +kernel
def DL_Tables_init : List (Nat × Instr × Nat) := [(0, .aload_n 0, 1), (1, .invokespecial 1, 3), (4, .aload_n 0, 1), (5, .sipush 256, 3), (8, .newarray .int, 2), (10, .putfield 7, 3), (13, .aload_n 0, 1), (14, .sipush 256, 3), (17, .newarray .int, 2), (19, .putfield 13, 3), (22, .sipush 256, 3), (25, .newarray .int, 2), (27, .astore_n 1, 1), (28, .aload_n 1, 1), (29, .iconst 0, 1), (30, .iconst 1, 1), (31, .iastore, 1), (32, .iconst 1, 1), (33, .istore_n 2, 1), (34, .iload_n 2, 1), (35, .aload_n 1, 1), (36, .arraylength, 1), (37, .if_icmp .ge 26, 3), (40, .aload_n 1, 1), (41, .iload_n 2, 1), (42, .aload_n 1, 1), (43, .iload_n 2, 1), (44, .iconst 1, 1), (45, .isub, 1), (46, .iaload, 1), (47, .aload_n 1, 1), (48, .iload_n 2, 1), (49, .iconst 1, 1), (50, .isub, 1), (51, .iaload, 1), (52, .invokestatic 16, 3), (55, .ixor, 1), (56, .iastore, 1), (57, .iinc 2 1, 3), (60, .goto (-26), 3), (63, .aload_n 0, 1), (64, .iconst 0, 1), (65, .iconst 0, 1), (66, .invokevirtual 20, 3), (69, .iconst 0, 1), (70, .istore_n 2, 1), (71, .iload_n 2, 1), (72, .sipush 255, 3), (75, .if_icmp .ge 23, 3), (78, .aload_n 0, 1), (79, .aload_n 1, 1), (80, .iload_n 2, 1), (81, .iaload, 1), (82, .aload_n 1, 1), (83, .sipush 255, 3), (86, .iload_n 2, 1), (87, .isub, 1), (88, .iaload, 1), (89, .invokevirtual 20, 3), (92, .iinc 2 1, 3), (95, .goto (-24), 3), (98, .return_, 1)]
set_option maxRecDepth 100000 in
theorem D_Tables_init : DL_Tables_init.all (fun q => decide (decode b_Tables_init q.1 = .ok (q.2.1, q.2.2))) = true := by decide +kernel
def DL_Tables_twice : List (Nat × Instr × Nat) := [(0, .iload_n 0, 1), (1, .sipush 128, 3), (4, .if_icmp .ge 9, 3), (7, .iload_n 0, 1), (8, .iconst 1, 1), (9, .ishl, 1), (10, .goto 10, 3), (13, .iload_n 0, 1), (14, .iconst 1, 1), (15, .ishl, 1), (16, .sipush 283, 3), (19, .ixor, 1), (20, .ireturn, 1)]
set_option maxRecDepth 100000 in
theorem D_Tables_twice : DL_Tables_twice.all (fun q => decide (decode b_Tables_twice q.1 = .ok (q.2.1, q.2.2))) = true := by decide +kernel
def DL_Tables_enter : List (Nat × Instr × Nat) := [(0, .iload_n 2, 1), (1, .iload_n 2, 1), (2, .iconst 1, 1), (3, .invokestatic 24, 3), (6, .ixor, 1), (7, .iload_n 2, 1), (8, .iconst 2, 1), (9, .invokestatic 24, 3), (12, .ixor, 1), (13, .iload_n 2, 1), (14, .iconst 3, 1), (15, .invokestatic 24, 3), (18, .ixor, 1), (19, .iload_n 2, 1), (20, .iconst 4, 1), (21, .invokestatic 24, 3), (24, .ixor, 1), (25, .bipush 99, 2), (27, .ixor, 1), (28, .istore_n 3, 1), (29, .aload_n 0, 1), (30, .getfield 7, 3), (33, .iload_n 1, 1), (34, .iload_n 3, 1), (35, .iastore, 1), (36, .aload_n 0, 1), (37, .getfield 13, 3), (40, .iload_n 3, 1), (41, .iload_n 1, 1), (42, .iastore, 1), (43, .return_, 1)]
set_option maxRecDepth 100000 in
theorem D_Tables_enter : DL_Tables_enter.all (fun q => decide (decode b_Tables_enter q.1 = .ok (q.2.1, q.2.2))) = true := by decide +kernel
def DL_Tables_turnLeft : List (Nat × Instr × Nat) := [(0, .iload_n 0, 1), (1, .iload_n 1, 1), (2, .ishl, 1), (3, .iload_n 0, 1), (4, .bipush 8, 2), (6, .iload_n 1, 1), (7, .isub, 1), (8, .iushr, 1), (9, .ior, 1), (10, .sipush 255, 3), (13, .iand, 1), (14, .ireturn, 1)]
set_option maxRecDepth 100000 in
theorem D_Tables_turnLeft : DL_Tables_turnLeft.all (fun q => decide (decode b_Tables_turnLeft q.1 = .ok (q.2.1, q.2.2))) = true := by decide +kernel
def DL_Cipher_init : List (Nat × Instr × Nat) := [(0, .aload_n 0, 1), (1, .invokespecial 3, 3), (4, .aload_n 0, 1), (5, .sipush 176, 3), (8, .newarray .int, 2), (10, .putfield 11, 3), (13, .aload_n 0, 1), (14, .bipush 16, 2), (16, .newarray .int, 2), (18, .putfield 15, 3), (21, .aload_n 0, 1), (22, .aload_n 1, 1), (23, .putfield 18, 3), (26, .aload_n 0, 1), (27, .iconst 0, 1), (28, .iconst 0, 1), (29, .iconst 0, 1), (30, .iconst 0, 1), (31, .invokevirtual 22, 3), (34, .return_, 1)]
set_option maxRecDepth 100000 in
theorem D_Cipher_init : DL_Cipher_init.all (fun q => decide (decode b_Cipher_init q.1 = .ok (q.2.1, q.2.2))) = true := by decide +kernel
def DL_Cipher_use : List (Nat × Instr × Nat) := [(0, .iconst 0, 1), (1, .istore 5, 2), (3, .iload 5, 2), (5, .iconst 4, 1), (6, .if_icmp .ge 70, 3), (9, .aload_n 0, 1), (10, .getfield 11, 3), (13, .iload 5, 2), (15, .iload_n 1, 1), (16, .iload 5, 2), (18, .invokestatic 26, 3), (21, .iastore, 1), (22, .aload_n 0, 1), (23, .getfield 11, 3), (26, .iconst 4, 1), (27, .iload 5, 2), (29, .iadd, 1), (30, .iload_n 2, 1), (31, .iload 5, 2), (33, .invokestatic 26, 3), (36, .iastore, 1), (37, .aload_n 0, 1), (38, .getfield 11, 3), (41, .bipush 8, 2), (43, .iload 5, 2), (45, .iadd, 1), (46, .iload_n 3, 1), (47, .iload 5, 2), (49, .invokestatic 26, 3), (52, .iastore, 1), (53, .aload_n 0, 1), (54, .getfield 11, 3), (57, .bipush 12, 2), (59, .iload 5, 2), (61, .iadd, 1), (62, .iload 4, 2), (64, .iload 5, 2), (66, .invokestatic 26, 3), (69, .iastore, 1), (70, .iinc 5 1, 3), (73, .goto (-70), 3), (76, .iconst 1, 1), (77, .istore 5, 2), (79, .bipush 16, 2), (81, .istore 6, 2), (83, .iload 6, 2), (85, .aload_n 0, 1), (86, .getfield 11, 3), (89, .arraylength, 1), (90, .if_icmp .ge 24, 3), (93, .aload_n 0, 1), (94, .iload 6, 2), (96, .iload 5, 2), (98, .invokevirtual 30, 3), (101, .iload 5, 2), (103, .invokestatic 34, 3), (106, .istore 5, 2), (108, .iinc 6 16, 3), (111, .goto (-28), 3), (114, .return_, 1)]
set_option maxRecDepth 100000 in
theorem D_Cipher_use : DL_Cipher_use.all (fun q => decide (decode b_Cipher_use q.1 = .ok (q.2.1, q.2.2))) = true := by decide +kernel
def DL_Desk_byteOf : List (Nat × Instr × Nat) := [(0, .iload_n 0, 1), (1, .bipush 24, 2), (3, .bipush 8, 2), (5, .iload_n 1, 1), (6, .imul, 1), (7, .isub, 1), (8, .iushr, 1), (9, .sipush 255, 3), (12, .iand, 1), (13, .ireturn, 1)]
set_option maxRecDepth 100000 in
theorem D_Desk_byteOf : DL_Desk_byteOf.all (fun q => decide (decode b_Desk_byteOf q.1 = .ok (q.2.1, q.2.2))) = true := by decide +kernel
def DL_Cipher_expandFrom : List (Nat × Instr × Nat) := [(0, .iconst 0, 1), (1, .istore_n 3, 1), (2, .iload_n 3, 1), (3, .iconst 4, 1), (4, .if_icmp .ge 55, 3), (7, .aload_n 0, 1), (8, .getfield 11, 3), (11, .iload_n 1, 1), (12, .iconst 4, 1), (13, .isub, 1), (14, .iload_n 3, 1), (15, .iconst 1, 1), (16, .iadd, 1), (17, .iconst 4, 1), (18, .irem, 1), (19, .iadd, 1), (20, .iaload, 1), (21, .istore 4, 2), (23, .aload_n 0, 1), (24, .getfield 11, 3), (27, .iload_n 1, 1), (28, .iload_n 3, 1), (29, .iadd, 1), (30, .aload_n 0, 1), (31, .getfield 11, 3), (34, .iload_n 1, 1), (35, .bipush 16, 2), (37, .isub, 1), (38, .iload_n 3, 1), (39, .iadd, 1), (40, .iaload, 1), (41, .aload_n 0, 1), (42, .getfield 18, 3), (45, .getfield 40, 3), (48, .iload 4, 2), (50, .iaload, 1), (51, .ixor, 1), (52, .iastore, 1), (53, .iinc 3 1, 3), (56, .goto (-54), 3), (59, .aload_n 0, 1), (60, .getfield 11, 3), (63, .iload_n 1, 1), (64, .dup2, 1), (65, .iaload, 1), (66, .iload_n 2, 1), (67, .ixor, 1), (68, .iastore, 1), (69, .iconst 4, 1), (70, .istore_n 3, 1), (71, .iload_n 3, 1), (72, .bipush 16, 2), (74, .if_icmp .ge 39, 3), (77, .aload_n 0, 1), (78, .getfield 11, 3), (81, .iload_n 1, 1), (82, .iload_n 3, 1), (83, .iadd, 1), (84, .aload_n 0, 1), (85, .getfield 11, 3), (88, .iload_n 1, 1), (89, .bipush 16, 2), (91, .isub, 1), (92, .iload_n 3, 1), (93, .iadd, 1), (94, .iaload, 1), (95, .aload_n 0, 1), (96, .getfield 11, 3), (99, .iload_n 1, 1), (100, .iload_n 3, 1), (101, .iadd, 1), (102, .iconst 4, 1), (103, .isub, 1), (104, .iaload, 1), (105, .ixor, 1), (106, .iastore, 1), (107, .iinc 3 1, 3), (110, .goto (-39), 3), (113, .return_, 1)]
set_option maxRecDepth 100000 in
theorem D_Cipher_expandFrom : DL_Cipher_expandFrom.all (fun q => decide (decode b_Cipher_expandFrom q.1 = .ok (q.2.1, q.2.2))) = true := by decide +kernel
def DL_Wrapping_init : List (Nat × Instr × Nat) := [(0, .aload_n 0, 1), (1, .invokespecial 3, 3), (4, .aload_n 0, 1), (5, .bipush 16, 2), (7, .newarray .int, 2), (9, .putfield 9, 3), (12, .aload_n 0, 1), (13, .aload_n 1, 1), (14, .putfield 15, 3), (17, .return_, 1)]
set_option maxRecDepth 100000 in
theorem D_Wrapping_init : DL_Wrapping_init.all (fun q => decide (decode b_Wrapping_init q.1 = .ok (q.2.1, q.2.2))) = true := by decide +kernel
def DL_Marker_init : List (Nat × Instr × Nat) := [(0, .aload_n 0, 1), (1, .invokespecial 3, 3), (4, .aload_n 0, 1), (5, .bipush 16, 2), (7, .newarray .int, 2), (9, .putfield 9, 3), (12, .aload_n 0, 1), (13, .bipush 16, 2), (15, .newarray .int, 2), (17, .putfield 15, 3), (20, .aload_n 0, 1), (21, .new 18, 3), (24, .dup, 1), (25, .invokespecial 20, 3), (28, .putfield 21, 3), (31, .aload_n 0, 1), (32, .aload_n 1, 1), (33, .putfield 25, 3), (36, .return_, 1)]
set_option maxRecDepth 100000 in
theorem D_Marker_init : DL_Marker_init.all (fun q => decide (decode b_Marker_init q.1 = .ok (q.2.1, q.2.2))) = true := by decide +kernel
def DL_Row_init : List (Nat × Instr × Nat) := [(0, .aload_n 0, 1), (1, .invokespecial 3, 3), (4, .aload_n 0, 1), (5, .bipush 88, 2), (7, .newarray .int, 2), (9, .putfield 9, 3), (12, .aload_n 0, 1), (13, .iconst 0, 1), (14, .putfield 15, 3), (17, .return_, 1)]
set_option maxRecDepth 100000 in
theorem D_Row_init : DL_Row_init.all (fun q => decide (decode b_Row_init q.1 = .ok (q.2.1, q.2.2))) = true := by decide +kernel
def DL_Items_init : List (Nat × Instr × Nat) := [(0, .aload_n 0, 1), (1, .invokespecial 3, 3), (4, .aload_n 0, 1), (5, .iconst 5, 1), (6, .anewarray 9, 3), (9, .putfield 11, 3), (12, .aload_n 0, 1), (13, .iconst 0, 1), (14, .putfield 17, 3), (17, .iconst 0, 1), (18, .istore_n 1, 1), (19, .iload_n 1, 1), (20, .aload_n 0, 1), (21, .getfield 11, 3), (24, .arraylength, 1), (25, .if_icmp .ge 22, 3), (28, .aload_n 0, 1), (29, .getfield 11, 3), (32, .iload_n 1, 1), (33, .new 9, 3), (36, .dup, 1), (37, .invokespecial 21, 3), (40, .aastore, 1), (41, .iinc 1 1, 3), (44, .goto (-25), 3), (47, .return_, 1)]
set_option maxRecDepth 100000 in
theorem D_Items_init : DL_Items_init.all (fun q => decide (decode b_Items_init q.1 = .ok (q.2.1, q.2.2))) = true := by decide +kernel
def DL_Marked_init : List (Nat × Instr × Nat) := [(0, .aload_n 0, 1), (1, .invokespecial 3, 3), (4, .aload_n 0, 1), (5, .bipush 16, 2), (7, .newarray .int, 2), (9, .putfield 9, 3), (12, .aload_n 0, 1), (13, .bipush 16, 2), (15, .newarray .int, 2), (17, .putfield 15, 3), (20, .aload_n 0, 1), (21, .bipush 16, 2), (23, .newarray .int, 2), (25, .putfield 18, 3), (28, .aload_n 0, 1), (29, .aload_n 1, 1), (30, .putfield 21, 3), (33, .aload_n 0, 1), (34, .aload_n 2, 1), (35, .putfield 25, 3), (38, .aload_n 0, 1), (39, .aload_n 3, 1), (40, .putfield 29, 3), (43, .return_, 1)]
set_option maxRecDepth 100000 in
theorem D_Marked_init : DL_Marked_init.all (fun q => decide (decode b_Marked_init q.1 = .ok (q.2.1, q.2.2))) = true := by decide +kernel
def DL_Way_init : List (Nat × Instr × Nat) := [(0, .aload_n 0, 1), (1, .invokespecial 1, 3), (4, .return_, 1)]
set_option maxRecDepth 100000 in
theorem D_Way_init : DL_Way_init.all (fun q => decide (decode b_Way_init q.1 = .ok (q.2.1, q.2.2))) = true := by decide +kernel
def DL_Wrapped_init : List (Nat × Instr × Nat) := [(0, .aload_n 0, 1), (1, .invokespecial 3, 3), (4, .aload_n 0, 1), (5, .aload_n 1, 1), (6, .putfield 9, 3), (9, .return_, 1)]
set_option maxRecDepth 100000 in
theorem D_Wrapped_init : DL_Wrapped_init.all (fun q => decide (decode b_Wrapped_init q.1 = .ok (q.2.1, q.2.2))) = true := by decide +kernel
def DL_Padded_init : List (Nat × Instr × Nat) := [(0, .aload_n 0, 1), (1, .invokespecial 3, 3), (4, .aload_n 0, 1), (5, .aload_n 1, 1), (6, .putfield 9, 3), (9, .aload_n 0, 1), (10, .aload_n 2, 1), (11, .putfield 15, 3), (14, .return_, 1)]
set_option maxRecDepth 100000 in
theorem D_Padded_init : DL_Padded_init.all (fun q => decide (decode b_Padded_init q.1 = .ok (q.2.1, q.2.2))) = true := by decide +kernel
def DL_Desk_drop : List (Nat × Instr × Nat) := [(0, .aload_n 0, 1), (1, .getfield 64, 3), (4, .invokevirtual 107, 3), (7, .return_, 1)]
set_option maxRecDepth 100000 in
theorem D_Desk_drop : DL_Desk_drop.all (fun q => decide (decode b_Desk_drop q.1 = .ok (q.2.1, q.2.2))) = true := by decide +kernel
def DL_Row_clear : List (Nat × Instr × Nat) := [(0, .aload_n 0, 1), (1, .iconst 0, 1), (2, .putfield 15, 3), (5, .return_, 1)]
set_option maxRecDepth 100000 in
theorem D_Row_clear : DL_Row_clear.all (fun q => decide (decode b_Row_clear q.1 = .ok (q.2.1, q.2.2))) = true := by decide +kernel
def DL_Desk_forget : List (Nat × Instr × Nat) := [(0, .aload_n 0, 1), (1, .getfield 36, 3), (4, .getfield 124, 3), (7, .istore_n 1, 1), (8, .aload_n 0, 1), (9, .getfield 36, 3), (12, .iconst 0, 1), (13, .putfield 124, 3), (16, .iload_n 1, 1), (17, .ireturn, 1)]
set_option maxRecDepth 100000 in
theorem D_Desk_forget : DL_Desk_forget.all (fun q => decide (decode b_Desk_forget q.1 = .ok (q.2.1, q.2.2))) = true := by decide +kernel
def DL_Desk_mark : List (Nat × Instr × Nat) := [(0, .iload_n 1, 1), (1, .ifCond .eq 28, 3), (4, .aload_n 0, 1), (5, .getfield 32, 3), (8, .aload_n 0, 1), (9, .getfield 36, 3), (12, .aload_n 0, 1), (13, .getfield 64, 3), (16, .aload_n 0, 1), (17, .getfield 68, 3), (20, .getfield 118, 3), (23, .invokevirtual 146, 3), (26, .goto 21, 3), (29, .aload_n 0, 1), (30, .getfield 32, 3), (33, .aload_n 0, 1), (34, .getfield 64, 3), (37, .aload_n 0, 1), (38, .getfield 68, 3), (41, .getfield 118, 3), (44, .invokevirtual 150, 3), (47, .aload_n 0, 1), (48, .getfield 68, 3), (51, .bipush 16, 2), (53, .putfield 90, 3), (56, .return_, 1)]
set_option maxRecDepth 100000 in
theorem D_Desk_mark : DL_Desk_mark.all (fun q => decide (decode b_Desk_mark q.1 = .ok (q.2.1, q.2.2))) = true := by decide +kernel
def DL_Marker_join : List (Nat × Instr × Nat) := [(0, .aload_n 0, 1), (1, .getfield 21, 3), (4, .invokevirtual 58, 3), (7, .aload_n 0, 1), (8, .getfield 21, 3), (11, .bipush 16, 2), (13, .invokevirtual 61, 3), (16, .aload_n 0, 1), (17, .aload_n 0, 1), (18, .getfield 21, 3), (21, .aload_n 0, 1), (22, .getfield 15, 3), (25, .invokevirtual 65, 3), (28, .iconst 0, 1), (29, .istore 4, 2), (31, .iload 4, 2), (33, .aload_n 1, 1), (34, .getfield 69, 3), (37, .if_icmp .ge 39, 3), (40, .aload_n 0, 1), (41, .getfield 15, 3), (44, .invokestatic 55, 3), (47, .aload_n 0, 1), (48, .aload_n 1, 1), (49, .getfield 74, 3), (52, .iload 4, 2), (54, .aaload, 1), (55, .aload_n 3, 1), (56, .invokevirtual 65, 3), (59, .aload_n 0, 1), (60, .getfield 15, 3), (63, .aload_n 3, 1), (64, .iconst 0, 1), (65, .bipush 16, 2), (67, .invokestatic 42, 3), (70, .iinc 4 1, 3), (73, .goto (-42), 3), (76, .aload_n 0, 1), (77, .getfield 21, 3), (80, .aload_n 2, 1), (81, .invokevirtual 78, 3), (84, .aload_n 0, 1), (85, .getfield 21, 3), (88, .getfield 29, 3), (91, .bipush 16, 2), (93, .if_icmp .ge 29, 3), (96, .aload_n 0, 1), (97, .getfield 15, 3), (100, .invokestatic 55, 3), (103, .aload_n 0, 1), (104, .getfield 21, 3), (107, .sipush 128, 3), (110, .invokevirtual 82, 3), (113, .aload_n 0, 1), (114, .getfield 21, 3), (117, .bipush 16, 2), (119, .invokevirtual 61, 3), (122, .aload_n 0, 1), (123, .getfield 21, 3), (126, .aload_n 0, 1), (127, .getfield 15, 3), (130, .invokestatic 85, 3), (133, .aload_n 0, 1), (134, .aload_n 0, 1), (135, .getfield 21, 3), (138, .aload_n 3, 1), (139, .invokevirtual 65, 3), (142, .return_, 1)]
set_option maxRecDepth 100000 in
theorem D_Marker_join : DL_Marker_join.all (fun q => decide (decode b_Marker_join q.1 = .ok (q.2.1, q.2.2))) = true := by decide +kernel
def DL_Row_addZeros : List (Nat × Instr × Nat) := [(0, .aload_n 0, 1), (1, .getfield 15, 3), (4, .istore_n 2, 1), (5, .iload_n 2, 1), (6, .iload_n 1, 1), (7, .if_icmp .ge 14, 3), (10, .aload_n 0, 1), (11, .iconst 0, 1), (12, .invokevirtual 25, 3), (15, .iinc 2 1, 3), (18, .goto (-13), 3), (21, .return_, 1)]
set_option maxRecDepth 100000 in
theorem D_Row_addZeros : DL_Row_addZeros.all (fun q => decide (decode b_Row_addZeros q.1 = .ok (q.2.1, q.2.2))) = true := by decide +kernel
def DL_Row_add : List (Nat × Instr × Nat) := [(0, .aload_n 0, 1), (1, .getfield 9, 3), (4, .aload_n 0, 1), (5, .getfield 15, 3), (8, .iload_n 1, 1), (9, .iastore, 1), (10, .aload_n 0, 1), (11, .dup, 1), (12, .getfield 15, 3), (15, .iconst 1, 1), (16, .iadd, 1), (17, .putfield 15, 3), (20, .return_, 1)]
set_option maxRecDepth 100000 in
theorem D_Row_add : DL_Row_add.all (fun q => decide (decode b_Row_add q.1 = .ok (q.2.1, q.2.2))) = true := by decide +kernel
def DL_Marker_markRow : List (Nat × Instr × Nat) := [(0, .aload_n 1, 1), (1, .getfield 29, 3), (4, .ifCond .ne 7, 3), (7, .iconst 0, 1), (8, .goto 15, 3), (11, .aload_n 1, 1), (12, .getfield 29, 3), (15, .iconst 1, 1), (16, .isub, 1), (17, .bipush 16, 2), (19, .idiv, 1), (20, .bipush 16, 2), (22, .imul, 1), (23, .istore_n 3, 1), (24, .aload_n 2, 1), (25, .iconst 0, 1), (26, .bipush 16, 2), (28, .iconst 0, 1), (29, .invokestatic 33, 3), (32, .iconst 0, 1), (33, .istore 4, 2), (35, .iload 4, 2), (37, .iload_n 3, 1), (38, .if_icmp .ge 29, 3), (41, .aload_n 2, 1), (42, .aload_n 1, 1), (43, .getfield 39, 3), (46, .iload 4, 2), (48, .bipush 16, 2), (50, .invokestatic 42, 3), (53, .aload_n 0, 1), (54, .getfield 25, 3), (57, .aload_n 2, 1), (58, .invokevirtual 46, 3), (61, .iinc 4 16, 3), (64, .goto (-29), 3), (67, .aload_n 1, 1), (68, .getfield 29, 3), (71, .iload_n 3, 1), (72, .isub, 1), (73, .istore 4, 2), (75, .aload_n 2, 1), (76, .aload_n 1, 1), (77, .getfield 39, 3), (80, .iload_n 3, 1), (81, .iload 4, 2), (83, .invokestatic 42, 3), (86, .aload_n 0, 1), (87, .getfield 9, 3), (90, .iconst 0, 1), (91, .invokestatic 52, 3), (94, .aload_n 0, 1), (95, .getfield 25, 3), (98, .aload_n 0, 1), (99, .getfield 9, 3), (102, .invokevirtual 46, 3), (105, .aload_n 0, 1), (106, .getfield 9, 3), (109, .invokestatic 55, 3), (112, .iload 4, 2), (114, .bipush 16, 2), (116, .if_icmp .ge 20, 3), (119, .aload_n 2, 1), (120, .iload 4, 2), (122, .dup2, 1), (123, .iaload, 1), (124, .sipush 128, 3), (127, .ixor, 1), (128, .iastore, 1), (129, .aload_n 0, 1), (130, .getfield 9, 3), (133, .invokestatic 55, 3), (136, .aload_n 2, 1), (137, .aload_n 0, 1), (138, .getfield 9, 3), (141, .iconst 0, 1), (142, .bipush 16, 2), (144, .invokestatic 42, 3), (147, .aload_n 0, 1), (148, .getfield 25, 3), (151, .aload_n 2, 1), (152, .invokevirtual 46, 3), (155, .return_, 1)]
set_option maxRecDepth 100000 in
theorem D_Marker_markRow : DL_Marker_markRow.all (fun q => decide (decode b_Marker_markRow q.1 = .ok (q.2.1, q.2.2))) = true := by decide +kernel
def DL_Arrays_fill : List (Nat × Instr × Nat) := [(0, .aload_n 0, 1), (1, .arraylength, 1), (2, .iload_n 1, 1), (3, .iload_n 2, 1), (4, .invokestatic 13, 3), (7, .iload_n 1, 1), (8, .istore 4, 2), (10, .iload 4, 2), (12, .iload_n 2, 1), (13, .if_icmp .ge 14, 3), (16, .aload_n 0, 1), (17, .iload 4, 2), (19, .iload_n 3, 1), (20, .iastore, 1), (21, .iinc 4 1, 3), (24, .goto (-14), 3), (27, .return_, 1)]
set_option maxRecDepth 100000 in
theorem D_Arrays_fill : DL_Arrays_fill.all (fun q => decide (decode b_Arrays_fill q.1 = .ok (q.2.1, q.2.2))) = true := by decide +kernel
def DL_Arrays_rangeCheck : List (Nat × Instr × Nat) := [(0, .iload_n 1, 1), (1, .iload_n 2, 1), (2, .if_icmp .le 44, 3), (5, .new 43, 3), (8, .dup, 1), (9, .new 45, 3), (12, .dup, 1), (13, .invokespecial 47, 3), (16, .ldc 48, 2), (18, .invokevirtual 50, 3), (21, .iload_n 1, 1), (22, .invokevirtual 54, 3), (25, .ldc 57, 2), (27, .invokevirtual 50, 3), (30, .iload_n 2, 1), (31, .invokevirtual 54, 3), (34, .ldc 59, 2), (36, .invokevirtual 50, 3), (39, .invokevirtual 61, 3), (42, .invokespecial 65, 3), (45, .athrow, 1), (46, .iload_n 1, 1), (47, .ifCond .ge 12, 3), (50, .new 68, 3), (53, .dup, 1), (54, .iload_n 1, 1), (55, .invokespecial 70, 3), (58, .athrow, 1), (59, .iload_n 2, 1), (60, .iload_n 0, 1), (61, .if_icmp .le 12, 3), (64, .new 68, 3), (67, .dup, 1), (68, .iload_n 2, 1), (69, .invokespecial 70, 3), (72, .athrow, 1), (73, .return_, 1)]
set_option maxRecDepth 100000 in
theorem D_Arrays_rangeCheck : DL_Arrays_rangeCheck.all (fun q => decide (decode b_Arrays_rangeCheck q.1 = .ok (q.2.1, q.2.2))) = true := by decide +kernel
def DL_Marker_addTo : List (Nat × Instr × Nat) := [(0, .iconst 0, 1), (1, .istore 4, 2), (3, .iload 4, 2), (5, .iload_n 3, 1), (6, .if_icmp .ge 22, 3), (9, .aload_n 0, 1), (10, .iload 4, 2), (12, .dup2, 1), (13, .iaload, 1), (14, .aload_n 1, 1), (15, .iload_n 2, 1), (16, .iload 4, 2), (18, .iadd, 1), (19, .iaload, 1), (20, .ixor, 1), (21, .iastore, 1), (22, .iinc 4 1, 3), (25, .goto (-22), 3), (28, .return_, 1)]
set_option maxRecDepth 100000 in
theorem D_Marker_addTo : DL_Marker_addTo.all (fun q => decide (decode b_Marker_addTo q.1 = .ok (q.2.1, q.2.2))) = true := by decide +kernel
def DL_Cipher_turn : List (Nat × Instr × Nat) := [(0, .aload_n 0, 1), (1, .aload_n 1, 1), (2, .iconst 0, 1), (3, .invokevirtual 43, 3), (6, .iconst 1, 1), (7, .istore_n 2, 1), (8, .iload_n 2, 1), (9, .bipush 10, 2), (11, .if_icmp .gt 30, 3), (14, .aload_n 0, 1), (15, .aload_n 1, 1), (16, .invokevirtual 47, 3), (19, .iload_n 2, 1), (20, .bipush 10, 2), (22, .if_icmp .ge 7, 3), (25, .aload_n 1, 1), (26, .invokestatic 51, 3), (29, .aload_n 0, 1), (30, .aload_n 1, 1), (31, .iload_n 2, 1), (32, .invokevirtual 43, 3), (35, .iinc 2 1, 3), (38, .goto (-30), 3), (41, .return_, 1)]
set_option maxRecDepth 100000 in
theorem D_Cipher_turn : DL_Cipher_turn.all (fun q => decide (decode b_Cipher_turn q.1 = .ok (q.2.1, q.2.2))) = true := by decide +kernel
def DL_Cipher_addRoundKey : List (Nat × Instr × Nat) := [(0, .iconst 0, 1), (1, .istore_n 3, 1), (2, .iload_n 3, 1), (3, .bipush 16, 2), (5, .if_icmp .ge 26, 3), (8, .aload_n 1, 1), (9, .iload_n 3, 1), (10, .dup2, 1), (11, .iaload, 1), (12, .aload_n 0, 1), (13, .getfield 11, 3), (16, .bipush 16, 2), (18, .iload_n 2, 1), (19, .imul, 1), (20, .iload_n 3, 1), (21, .iadd, 1), (22, .iaload, 1), (23, .ixor, 1), (24, .iastore, 1), (25, .iinc 3 1, 3), (28, .goto (-26), 3), (31, .return_, 1)]
set_option maxRecDepth 100000 in
theorem D_Cipher_addRoundKey : DL_Cipher_addRoundKey.all (fun q => decide (decode b_Cipher_addRoundKey q.1 = .ok (q.2.1, q.2.2))) = true := by decide +kernel
def DL_Cipher_substitute : List (Nat × Instr × Nat) := [(0, .aload_n 1, 1), (1, .iconst 0, 1), (2, .aload_n 0, 1), (3, .getfield 15, 3), (6, .iconst 0, 1), (7, .bipush 16, 2), (9, .invokestatic 60, 3), (12, .iconst 0, 1), (13, .istore_n 2, 1), (14, .iload_n 2, 1), (15, .bipush 16, 2), (17, .if_icmp .ge 29, 3), (20, .aload_n 1, 1), (21, .iload_n 2, 1), (22, .aload_n 0, 1), (23, .getfield 18, 3), (26, .getfield 40, 3), (29, .aload_n 0, 1), (30, .getfield 15, 3), (33, .iload_n 2, 1), (34, .invokestatic 66, 3), (37, .iaload, 1), (38, .iaload, 1), (39, .iastore, 1), (40, .iinc 2 1, 3), (43, .goto (-29), 3), (46, .return_, 1)]
set_option maxRecDepth 100000 in
theorem D_Cipher_substitute : DL_Cipher_substitute.all (fun q => decide (decode b_Cipher_substitute q.1 = .ok (q.2.1, q.2.2))) = true := by decide +kernel
def DL_Cipher_placeBefore : List (Nat × Instr × Nat) := [(0, .iload_n 0, 1), (1, .iconst 4, 1), (2, .iload_n 0, 1), (3, .iconst 4, 1), (4, .irem, 1), (5, .imul, 1), (6, .iadd, 1), (7, .bipush 16, 2), (9, .irem, 1), (10, .ireturn, 1)]
set_option maxRecDepth 100000 in
theorem D_Cipher_placeBefore : DL_Cipher_placeBefore.all (fun q => decide (decode b_Cipher_placeBefore q.1 = .ok (q.2.1, q.2.2))) = true := by decide +kernel
def DL_Cipher_mix : List (Nat × Instr × Nat) := [(0, .iconst 0, 1), (1, .istore_n 1, 1), (2, .iload_n 1, 1), (3, .bipush 16, 2), (5, .if_icmp .ge 112, 3), (8, .aload_n 0, 1), (9, .iload_n 1, 1), (10, .iaload, 1), (11, .istore_n 2, 1), (12, .aload_n 0, 1), (13, .iload_n 1, 1), (14, .iconst 1, 1), (15, .iadd, 1), (16, .iaload, 1), (17, .istore_n 3, 1), (18, .aload_n 0, 1), (19, .iload_n 1, 1), (20, .iconst 2, 1), (21, .iadd, 1), (22, .iaload, 1), (23, .istore 4, 2), (25, .aload_n 0, 1), (26, .iload_n 1, 1), (27, .iconst 3, 1), (28, .iadd, 1), (29, .iaload, 1), (30, .istore 5, 2), (32, .iload_n 2, 1), (33, .iload_n 3, 1), (34, .ixor, 1), (35, .iload 4, 2), (37, .ixor, 1), (38, .iload 5, 2), (40, .ixor, 1), (41, .istore 6, 2), (43, .aload_n 0, 1), (44, .iload_n 1, 1), (45, .iload_n 2, 1), (46, .iload 6, 2), (48, .ixor, 1), (49, .iload_n 2, 1), (50, .iload_n 3, 1), (51, .ixor, 1), (52, .invokestatic 34, 3), (55, .ixor, 1), (56, .iastore, 1), (57, .aload_n 0, 1), (58, .iload_n 1, 1), (59, .iconst 1, 1), (60, .iadd, 1), (61, .iload_n 3, 1), (62, .iload 6, 2), (64, .ixor, 1), (65, .iload_n 3, 1), (66, .iload 4, 2), (68, .ixor, 1), (69, .invokestatic 34, 3), (72, .ixor, 1), (73, .iastore, 1), (74, .aload_n 0, 1), (75, .iload_n 1, 1), (76, .iconst 2, 1), (77, .iadd, 1), (78, .iload 4, 2), (80, .iload 6, 2), (82, .ixor, 1), (83, .iload 4, 2), (85, .iload 5, 2), (87, .ixor, 1), (88, .invokestatic 34, 3), (91, .ixor, 1), (92, .iastore, 1), (93, .aload_n 0, 1), (94, .iload_n 1, 1), (95, .iconst 3, 1), (96, .iadd, 1), (97, .iload 5, 2), (99, .iload 6, 2), (101, .ixor, 1), (102, .iload 5, 2), (104, .iload_n 2, 1), (105, .ixor, 1), (106, .invokestatic 34, 3), (109, .ixor, 1), (110, .iastore, 1), (111, .iinc 1 4, 3), (114, .goto (-112), 3), (117, .return_, 1)]
set_option maxRecDepth 100000 in
theorem D_Cipher_mix : DL_Cipher_mix.all (fun q => decide (decode b_Cipher_mix q.1 = .ok (q.2.1, q.2.2))) = true := by decide +kernel
def DL_Arrays_fill1 : List (Nat × Instr × Nat) := [(0, .iconst 0, 1), (1, .istore_n 2, 1), (2, .aload_n 0, 1), (3, .arraylength, 1), (4, .istore_n 3, 1), (5, .iload_n 2, 1), (6, .iload_n 3, 1), (7, .if_icmp .ge 13, 3), (10, .aload_n 0, 1), (11, .iload_n 2, 1), (12, .iload_n 1, 1), (13, .iastore, 1), (14, .iinc 2 1, 3), (17, .goto (-12), 3), (20, .return_, 1)]
set_option maxRecDepth 100000 in
theorem D_Arrays_fill1 : DL_Arrays_fill1.all (fun q => decide (decode b_Arrays_fill1 q.1 = .ok (q.2.1, q.2.2))) = true := by decide +kernel
def DL_Marker_doubleBlock : List (Nat × Instr × Nat) := [(0, .aload_n 0, 1), (1, .iconst 0, 1), (2, .iaload, 1), (3, .bipush 7, 2), (5, .ishr, 1), (6, .istore_n 1, 1), (7, .iconst 0, 1), (8, .istore_n 2, 1), (9, .iload_n 2, 1), (10, .bipush 15, 2), (12, .if_icmp .ge 30, 3), (15, .aload_n 0, 1), (16, .iload_n 2, 1), (17, .aload_n 0, 1), (18, .iload_n 2, 1), (19, .iaload, 1), (20, .iconst 1, 1), (21, .ishl, 1), (22, .sipush 255, 3), (25, .iand, 1), (26, .aload_n 0, 1), (27, .iload_n 2, 1), (28, .iconst 1, 1), (29, .iadd, 1), (30, .iaload, 1), (31, .bipush 7, 2), (33, .ishr, 1), (34, .ior, 1), (35, .iastore, 1), (36, .iinc 2 1, 3), (39, .goto (-30), 3), (42, .aload_n 0, 1), (43, .bipush 15, 2), (45, .aload_n 0, 1), (46, .bipush 15, 2), (48, .iaload, 1), (49, .iconst 1, 1), (50, .ishl, 1), (51, .sipush 255, 3), (54, .iand, 1), (55, .iload_n 1, 1), (56, .sipush 135, 3), (59, .imul, 1), (60, .ixor, 1), (61, .iastore, 1), (62, .return_, 1)]
set_option maxRecDepth 100000 in
theorem D_Marker_doubleBlock : DL_Marker_doubleBlock.all (fun q => decide (decode b_Marker_doubleBlock q.1 = .ok (q.2.1, q.2.2))) = true := by decide +kernel
def DL_Row_become : List (Nat × Instr × Nat) := [(0, .aload_n 0, 1), (1, .aload_n 1, 1), (2, .iconst 0, 1), (3, .invokevirtual 29, 3), (6, .return_, 1)]
set_option maxRecDepth 100000 in
theorem D_Row_become : DL_Row_become.all (fun q => decide (decode b_Row_become q.1 = .ok (q.2.1, q.2.2))) = true := by decide +kernel
def DL_Row_becomeRest : List (Nat × Instr × Nat) := [(0, .aload_n 0, 1), (1, .aload_n 1, 1), (2, .getfield 15, 3), (5, .iload_n 2, 1), (6, .isub, 1), (7, .putfield 15, 3), (10, .aload_n 1, 1), (11, .getfield 9, 3), (14, .iload_n 2, 1), (15, .aload_n 0, 1), (16, .getfield 9, 3), (19, .iconst 0, 1), (20, .aload_n 0, 1), (21, .getfield 15, 3), (24, .invokestatic 19, 3), (27, .return_, 1)]
set_option maxRecDepth 100000 in
theorem D_Row_becomeRest : DL_Row_becomeRest.all (fun q => decide (decode b_Row_becomeRest q.1 = .ok (q.2.1, q.2.2))) = true := by decide +kernel
def DL_Marker_addToEnd : List (Nat × Instr × Nat) := [(0, .aload_n 0, 1), (1, .getfield 29, 3), (4, .bipush 16, 2), (6, .isub, 1), (7, .istore_n 2, 1), (8, .iconst 0, 1), (9, .istore_n 3, 1), (10, .iload_n 3, 1), (11, .bipush 16, 2), (13, .if_icmp .ge 23, 3), (16, .aload_n 0, 1), (17, .getfield 39, 3), (20, .iload_n 2, 1), (21, .iload_n 3, 1), (22, .iadd, 1), (23, .dup2, 1), (24, .iaload, 1), (25, .aload_n 1, 1), (26, .iload_n 3, 1), (27, .iaload, 1), (28, .ixor, 1), (29, .iastore, 1), (30, .iinc 3 1, 3), (33, .goto (-23), 3), (36, .return_, 1)]
set_option maxRecDepth 100000 in
theorem D_Marker_addToEnd : DL_Marker_addToEnd.all (fun q => decide (decode b_Marker_addToEnd q.1 = .ok (q.2.1, q.2.2))) = true := by decide +kernel
def DL_Desk_size : List (Nat × Instr × Nat) := [(0, .aload_n 0, 1), (1, .getfield 68, 3), (4, .getfield 90, 3), (7, .ireturn, 1)]
set_option maxRecDepth 100000 in
theorem D_Desk_size : DL_Desk_size.all (fun q => decide (decode b_Desk_size q.1 = .ok (q.2.1, q.2.2))) = true := by decide +kernel
def DL_Desk_take : List (Nat × Instr × Nat) := [(0, .aload_n 0, 1), (1, .getfield 64, 3), (4, .aload_n 0, 1), (5, .getfield 68, 3), (8, .invokevirtual 133, 3), (11, .aload_n 0, 1), (12, .getfield 64, 3), (15, .getfield 90, 3), (18, .ireturn, 1)]
set_option maxRecDepth 100000 in
theorem D_Desk_take : DL_Desk_take.all (fun q => decide (decode b_Desk_take q.1 = .ok (q.2.1, q.2.2))) = true := by decide +kernel
def DL_Law_key : List (Nat × Instr × Nat) := [(0, .aload_n 0, 1), (1, .iload_n 1, 1), (2, .iload_n 2, 1), (3, .iload_n 3, 1), (4, .iload 4, 2), (6, .iload 5, 2), (8, .invokevirtual 7, 3), (11, .goto 7, 3), (14, .astore 6, 2), (16, .iconst 1, 1), (17, .ireturn, 1), (18, .iconst 0, 1), (19, .ireturn, 1)]
set_option maxRecDepth 100000 in
theorem D_Law_key : DL_Law_key.all (fun q => decide (decode b_Law_key q.1 = .ok (q.2.1, q.2.2))) = true := by decide +kernel
def DL_Desk_key : List (Nat × Instr × Nat) := [(0, .iload_n 1, 1), (1, .ifCond .lt 12, 3), (4, .iload_n 1, 1), (5, .aload_n 0, 1), (6, .getfield 26, 3), (9, .arraylength, 1), (10, .if_icmp .lt 13, 3), (13, .new 74, 3), (16, .dup, 1), (17, .ldc 76, 2), (19, .invokespecial 78, 3), (22, .athrow, 1), (23, .aload_n 0, 1), (24, .getfield 26, 3), (27, .iload_n 1, 1), (28, .aaload, 1), (29, .iload_n 2, 1), (30, .iload_n 3, 1), (31, .iload 4, 2), (33, .iload 5, 2), (35, .invokevirtual 81, 3), (38, .return_, 1)]
set_option maxRecDepth 100000 in
theorem D_Desk_key : DL_Desk_key.all (fun q => decide (decode b_Desk_key q.1 = .ok (q.2.1, q.2.2))) = true := by decide +kernel
def DL_IndexOutOfBoundsException_init : List (Nat × Instr × Nat) := [(0, .aload_n 0, 1), (1, .aload_n 1, 1), (2, .invokespecial 7, 3), (5, .return_, 1)]
set_option maxRecDepth 100000 in
theorem D_IndexOutOfBoundsException_init : DL_IndexOutOfBoundsException_init.all (fun q => decide (decode b_IndexOutOfBoundsException_init q.1 = .ok (q.2.1, q.2.2))) = true := by decide +kernel
def DL_RuntimeException_init : List (Nat × Instr × Nat) := [(0, .aload_n 0, 1), (1, .aload_n 1, 1), (2, .invokespecial 7, 3), (5, .return_, 1)]
set_option maxRecDepth 100000 in
theorem D_RuntimeException_init : DL_RuntimeException_init.all (fun q => decide (decode b_RuntimeException_init q.1 = .ok (q.2.1, q.2.2))) = true := by decide +kernel
def DL_Exception_init : List (Nat × Instr × Nat) := [(0, .aload_n 0, 1), (1, .aload_n 1, 1), (2, .invokespecial 7, 3), (5, .return_, 1)]
set_option maxRecDepth 100000 in
theorem D_Exception_init : DL_Exception_init.all (fun q => decide (decode b_Exception_init q.1 = .ok (q.2.1, q.2.2))) = true := by decide +kernel
def DL_Law_feed : List (Nat × Instr × Nat) := [(0, .aload_n 3, 1), (1, .iconst 0, 1), (2, .aload_n 0, 1), (3, .iload_n 1, 1), (4, .iload_n 2, 1), (5, .invokevirtual 15, 3), (8, .i2l, 1), (9, .lastore, 1), (10, .goto 11, 3), (13, .astore 4, 2), (15, .iconst 1, 1), (16, .ireturn, 1), (17, .astore 4, 2), (19, .iconst 2, 1), (20, .ireturn, 1), (21, .iconst 0, 1), (22, .ireturn, 1)]
set_option maxRecDepth 100000 in
theorem D_Law_feed : DL_Law_feed.all (fun q => decide (decode b_Law_feed q.1 = .ok (q.2.1, q.2.2))) = true := by decide +kernel
def DL_Desk_feed : List (Nat × Instr × Nat) := [(0, .iload_n 2, 1), (1, .iconst 1, 1), (2, .if_icmp .lt 8, 3), (5, .iload_n 2, 1), (6, .iconst 4, 1), (7, .if_icmp .le 13, 3), (10, .new 85, 3), (13, .dup, 1), (14, .ldc 87, 2), (16, .invokespecial 89, 3), (19, .athrow, 1), (20, .aload_n 0, 1), (21, .getfield 64, 3), (24, .getfield 90, 3), (27, .iload_n 2, 1), (28, .iadd, 1), (29, .bipush 88, 2), (31, .if_icmp .le 13, 3), (34, .new 94, 3), (37, .dup, 1), (38, .ldc 96, 2), (40, .invokespecial 98, 3), (43, .athrow, 1), (44, .iconst 0, 1), (45, .istore_n 3, 1), (46, .iload_n 3, 1), (47, .iload_n 2, 1), (48, .if_icmp .ge 21, 3), (51, .aload_n 0, 1), (52, .getfield 64, 3), (55, .iload_n 1, 1), (56, .iload_n 3, 1), (57, .invokestatic 99, 3), (60, .invokevirtual 103, 3), (63, .iinc 3 1, 3), (66, .goto (-20), 3), (69, .aload_n 0, 1), (70, .getfield 64, 3), (73, .getfield 90, 3), (76, .ireturn, 1)]
set_option maxRecDepth 100000 in
theorem D_Desk_feed : DL_Desk_feed.all (fun q => decide (decode b_Desk_feed q.1 = .ok (q.2.1, q.2.2))) = true := by decide +kernel
def DL_IllegalArgumentException_init : List (Nat × Instr × Nat) := [(0, .aload_n 0, 1), (1, .aload_n 1, 1), (2, .invokespecial 7, 3), (5, .return_, 1)]
set_option maxRecDepth 100000 in
theorem D_IllegalArgumentException_init : DL_IllegalArgumentException_init.all (fun q => decide (decode b_IllegalArgumentException_init q.1 = .ok (q.2.1, q.2.2))) = true := by decide +kernel
def DL_IllegalStateException_init : List (Nat × Instr × Nat) := [(0, .aload_n 0, 1), (1, .aload_n 1, 1), (2, .invokespecial 7, 3), (5, .return_, 1)]
set_option maxRecDepth 100000 in
theorem D_IllegalStateException_init : DL_IllegalStateException_init.all (fun q => decide (decode b_IllegalStateException_init q.1 = .ok (q.2.1, q.2.2))) = true := by decide +kernel
def DL_Law_alter : List (Nat × Instr × Nat) := [(0, .aload_n 0, 1), (1, .iload_n 1, 1), (2, .iload_n 2, 1), (3, .invokevirtual 23, 3), (6, .goto 9, 3), (9, .astore_n 3, 1), (10, .iconst 1, 1), (11, .ireturn, 1), (12, .astore_n 3, 1), (13, .iconst 2, 1), (14, .ireturn, 1), (15, .iconst 0, 1), (16, .ireturn, 1)]
set_option maxRecDepth 100000 in
theorem D_Law_alter : DL_Law_alter.all (fun q => decide (decode b_Law_alter q.1 = .ok (q.2.1, q.2.2))) = true := by decide +kernel
def DL_Desk_alter : List (Nat × Instr × Nat) := [(0, .aload_n 0, 1), (1, .getfield 64, 3), (4, .iload_n 1, 1), (5, .invokevirtual 110, 3), (8, .ifCond .ne 13, 3), (11, .new 74, 3), (14, .dup, 1), (15, .ldc 114, 2), (17, .invokespecial 78, 3), (20, .athrow, 1), (21, .iload_n 2, 1), (22, .ifCond .lt 10, 3), (25, .iload_n 2, 1), (26, .sipush 255, 3), (29, .if_icmp .le 13, 3), (32, .new 85, 3), (35, .dup, 1), (36, .ldc 116, 2), (38, .invokespecial 89, 3), (41, .athrow, 1), (42, .aload_n 0, 1), (43, .getfield 64, 3), (46, .getfield 118, 3), (49, .iload_n 1, 1), (50, .iload_n 2, 1), (51, .iastore, 1), (52, .return_, 1)]
set_option maxRecDepth 100000 in
theorem D_Desk_alter : DL_Desk_alter.all (fun q => decide (decode b_Desk_alter q.1 = .ok (q.2.1, q.2.2))) = true := by decide +kernel
def DL_Row_has : List (Nat × Instr × Nat) := [(0, .iload_n 1, 1), (1, .ifCond .lt 15, 3), (4, .iload_n 1, 1), (5, .aload_n 0, 1), (6, .getfield 15, 3), (9, .if_icmp .ge 7, 3), (12, .iconst 1, 1), (13, .goto 4, 3), (16, .iconst 0, 1), (17, .ireturn, 1)]
set_option maxRecDepth 100000 in
theorem D_Row_has : DL_Row_has.all (fun q => decide (decode b_Row_has q.1 = .ok (q.2.1, q.2.2))) = true := by decide +kernel
def DL_Law_item : List (Nat × Instr × Nat) := [(0, .aload_n 1, 1), (1, .iconst 0, 1), (2, .aload_n 0, 1), (3, .invokevirtual 27, 3), (6, .i2l, 1), (7, .lastore, 1), (8, .goto 9, 3), (11, .astore_n 2, 1), (12, .iconst 1, 1), (13, .ireturn, 1), (14, .astore_n 2, 1), (15, .iconst 2, 1), (16, .ireturn, 1), (17, .iconst 0, 1), (18, .ireturn, 1)]
set_option maxRecDepth 100000 in
theorem D_Law_item : DL_Law_item.all (fun q => decide (decode b_Law_item q.1 = .ok (q.2.1, q.2.2))) = true := by decide +kernel
def DL_Desk_item : List (Nat × Instr × Nat) := [(0, .aload_n 0, 1), (1, .getfield 64, 3), (4, .getfield 90, 3), (7, .bipush 40, 2), (9, .if_icmp .le 13, 3), (12, .new 85, 3), (15, .dup, 1), (16, .ldc 122, 2), (18, .invokespecial 89, 3), (21, .athrow, 1), (22, .aload_n 0, 1), (23, .getfield 36, 3), (26, .getfield 124, 3), (29, .iconst 5, 1), (30, .if_icmp .lt 13, 3), (33, .new 94, 3), (36, .dup, 1), (37, .ldc 127, 2), (39, .invokespecial 98, 3), (42, .athrow, 1), (43, .aload_n 0, 1), (44, .getfield 36, 3), (47, .getfield 129, 3), (50, .aload_n 0, 1), (51, .getfield 36, 3), (54, .getfield 124, 3), (57, .aaload, 1), (58, .aload_n 0, 1), (59, .getfield 64, 3), (62, .invokevirtual 133, 3), (65, .aload_n 0, 1), (66, .getfield 36, 3), (69, .dup, 1), (70, .getfield 124, 3), (73, .iconst 1, 1), (74, .iadd, 1), (75, .putfield 124, 3), (78, .aload_n 0, 1), (79, .getfield 64, 3), (82, .invokevirtual 107, 3), (85, .aload_n 0, 1), (86, .getfield 36, 3), (89, .getfield 124, 3), (92, .ireturn, 1)]
set_option maxRecDepth 100000 in
theorem D_Desk_item : DL_Desk_item.all (fun q => decide (decode b_Desk_item q.1 = .ok (q.2.1, q.2.2))) = true := by decide +kernel
def DL_Law_cipher : List (Nat × Instr × Nat) := [(0, .aload_n 0, 1), (1, .iload_n 1, 1), (2, .invokevirtual 31, 3), (5, .goto 6, 3), (8, .astore_n 2, 1), (9, .iconst 1, 1), (10, .ireturn, 1), (11, .iconst 0, 1), (12, .ireturn, 1)]
set_option maxRecDepth 100000 in
theorem D_Law_cipher : DL_Law_cipher.all (fun q => decide (decode b_Law_cipher q.1 = .ok (q.2.1, q.2.2))) = true := by decide +kernel
def DL_Desk_cipher : List (Nat × Instr × Nat) := [(0, .aload_n 0, 1), (1, .getfield 64, 3), (4, .getfield 90, 3), (7, .bipush 16, 2), (9, .if_icmp .eq 13, 3), (12, .new 85, 3), (15, .dup, 1), (16, .ldc 137, 2), (18, .invokespecial 89, 3), (21, .athrow, 1), (22, .aload_n 0, 1), (23, .getfield 68, 3), (26, .aload_n 0, 1), (27, .getfield 64, 3), (30, .invokevirtual 133, 3), (33, .iload_n 1, 1), (34, .ifCond .eq 22, 3), (37, .aload_n 0, 1), (38, .getfield 26, 3), (41, .iconst 0, 1), (42, .aaload, 1), (43, .aload_n 0, 1), (44, .getfield 68, 3), (47, .getfield 118, 3), (50, .invokevirtual 139, 3), (53, .goto 19, 3), (56, .aload_n 0, 1), (57, .getfield 26, 3), (60, .iconst 0, 1), (61, .aaload, 1), (62, .aload_n 0, 1), (63, .getfield 68, 3), (66, .getfield 118, 3), (69, .invokevirtual 143, 3), (72, .return_, 1)]
set_option maxRecDepth 100000 in
theorem D_Desk_cipher : DL_Desk_cipher.all (fun q => decide (decode b_Desk_cipher q.1 = .ok (q.2.1, q.2.2))) = true := by decide +kernel
def DL_Cipher_turnBack : List (Nat × Instr × Nat) := [(0, .bipush 10, 2), (2, .istore_n 2, 1), (3, .iload_n 2, 1), (4, .iconst 1, 1), (5, .if_icmp .lt 30, 3), (8, .aload_n 0, 1), (9, .aload_n 1, 1), (10, .iload_n 2, 1), (11, .invokevirtual 43, 3), (14, .iload_n 2, 1), (15, .bipush 10, 2), (17, .if_icmp .ge 7, 3), (20, .aload_n 1, 1), (21, .invokestatic 54, 3), (24, .aload_n 0, 1), (25, .aload_n 1, 1), (26, .invokevirtual 57, 3), (29, .iinc 2 (-1), 3), (32, .goto (-29), 3), (35, .aload_n 0, 1), (36, .aload_n 1, 1), (37, .iconst 0, 1), (38, .invokevirtual 43, 3), (41, .return_, 1)]
set_option maxRecDepth 100000 in
theorem D_Cipher_turnBack : DL_Cipher_turnBack.all (fun q => decide (decode b_Cipher_turnBack q.1 = .ok (q.2.1, q.2.2))) = true := by decide +kernel
def DL_Cipher_unmix : List (Nat × Instr × Nat) := [(0, .aload_n 0, 1), (1, .invokestatic 51, 3), (4, .aload_n 0, 1), (5, .invokestatic 51, 3), (8, .aload_n 0, 1), (9, .invokestatic 51, 3), (12, .return_, 1)]
set_option maxRecDepth 100000 in
theorem D_Cipher_unmix : DL_Cipher_unmix.all (fun q => decide (decode b_Cipher_unmix q.1 = .ok (q.2.1, q.2.2))) = true := by decide +kernel
def DL_Cipher_substituteBack : List (Nat × Instr × Nat) := [(0, .aload_n 1, 1), (1, .iconst 0, 1), (2, .aload_n 0, 1), (3, .getfield 15, 3), (6, .iconst 0, 1), (7, .bipush 16, 2), (9, .invokestatic 60, 3), (12, .iconst 0, 1), (13, .istore_n 2, 1), (14, .iload_n 2, 1), (15, .bipush 16, 2), (17, .if_icmp .ge 29, 3), (20, .aload_n 1, 1), (21, .iload_n 2, 1), (22, .invokestatic 66, 3), (25, .aload_n 0, 1), (26, .getfield 18, 3), (29, .getfield 69, 3), (32, .aload_n 0, 1), (33, .getfield 15, 3), (36, .iload_n 2, 1), (37, .iaload, 1), (38, .iaload, 1), (39, .iastore, 1), (40, .iinc 2 1, 3), (43, .goto (-29), 3), (46, .return_, 1)]
set_option maxRecDepth 100000 in
theorem D_Cipher_substituteBack : DL_Cipher_substituteBack.all (fun q => decide (decode b_Cipher_substituteBack q.1 = .ok (q.2.1, q.2.2))) = true := by decide +kernel
def DL_Law_seal : List (Nat × Instr × Nat) := [(0, .aload_n 2, 1), (1, .iconst 0, 1), (2, .aload_n 0, 1), (3, .iload_n 1, 1), (4, .invokevirtual 35, 3), (7, .i2l, 1), (8, .lastore, 1), (9, .goto 9, 3), (12, .astore_n 3, 1), (13, .iconst 1, 1), (14, .ireturn, 1), (15, .astore_n 3, 1), (16, .iconst 2, 1), (17, .ireturn, 1), (18, .iconst 0, 1), (19, .ireturn, 1)]
set_option maxRecDepth 100000 in
theorem D_Law_seal : DL_Law_seal.all (fun q => decide (decode b_Law_seal q.1 = .ok (q.2.1, q.2.2))) = true := by decide +kernel
def DL_Desk_seal : List (Nat × Instr × Nat) := [(0, .iload_n 1, 1), (1, .ifCond .lt 12, 3), (4, .iload_n 1, 1), (5, .aload_n 0, 1), (6, .getfield 57, 3), (9, .arraylength, 1), (10, .if_icmp .lt 13, 3), (13, .new 74, 3), (16, .dup, 1), (17, .ldc 154, 2), (19, .invokespecial 78, 3), (22, .athrow, 1), (23, .aload_n 0, 1), (24, .getfield 57, 3), (27, .iload_n 1, 1), (28, .aaload, 1), (29, .aload_n 0, 1), (30, .getfield 64, 3), (33, .getfield 90, 3), (36, .invokevirtual 156, 3), (39, .ifCond .ne 13, 3), (42, .new 85, 3), (45, .dup, 1), (46, .ldc 159, 2), (48, .invokespecial 89, 3), (51, .athrow, 1), (52, .aload_n 0, 1), (53, .getfield 57, 3), (56, .iload_n 1, 1), (57, .aaload, 1), (58, .aload_n 0, 1), (59, .getfield 64, 3), (62, .aload_n 0, 1), (63, .getfield 68, 3), (66, .invokevirtual 161, 3), (69, .aload_n 0, 1), (70, .getfield 68, 3), (73, .getfield 90, 3), (76, .ireturn, 1)]
set_option maxRecDepth 100000 in
theorem D_Desk_seal : DL_Desk_seal.all (fun q => decide (decode b_Desk_seal q.1 = .ok (q.2.1, q.2.2))) = true := by decide +kernel
def DL_Marked_canLock : List (Nat × Instr × Nat) := [(0, .iload_n 1, 1), (1, .bipush 64, 2), (3, .if_icmp .gt 7, 3), (6, .iconst 1, 1), (7, .goto 4, 3), (10, .iconst 0, 1), (11, .ireturn, 1)]
set_option maxRecDepth 100000 in
theorem D_Marked_canLock : DL_Marked_canLock.all (fun q => decide (decode b_Marked_canLock q.1 = .ok (q.2.1, q.2.2))) = true := by decide +kernel
def DL_Padded_canLock : List (Nat × Instr × Nat) := [(0, .iload_n 1, 1), (1, .iconst 1, 1), (2, .if_icmp .lt 13, 3), (5, .iload_n 1, 1), (6, .bipush 64, 2), (8, .if_icmp .gt 7, 3), (11, .iconst 1, 1), (12, .goto 4, 3), (15, .iconst 0, 1), (16, .ireturn, 1)]
set_option maxRecDepth 100000 in
theorem D_Padded_canLock : DL_Padded_canLock.all (fun q => decide (decode b_Padded_canLock q.1 = .ok (q.2.1, q.2.2))) = true := by decide +kernel
def DL_Wrapped_canLock : List (Nat × Instr × Nat) := [(0, .iload_n 1, 1), (1, .bipush 8, 2), (3, .irem, 1), (4, .ifCond .ne 19, 3), (7, .iload_n 1, 1), (8, .bipush 16, 2), (10, .if_icmp .lt 13, 3), (13, .iload_n 1, 1), (14, .bipush 64, 2), (16, .if_icmp .gt 7, 3), (19, .iconst 1, 1), (20, .goto 4, 3), (23, .iconst 0, 1), (24, .ireturn, 1)]
set_option maxRecDepth 100000 in
theorem D_Wrapped_canLock : DL_Wrapped_canLock.all (fun q => decide (decode b_Wrapped_canLock q.1 = .ok (q.2.1, q.2.2))) = true := by decide +kernel
def DL_Marked_lock : List (Nat × Instr × Nat) := [(0, .aload_n 0, 1), (1, .getfield 21, 3), (4, .aload_n 0, 1), (5, .getfield 25, 3), (8, .aload_n 1, 1), (9, .aload_n 0, 1), (10, .getfield 9, 3), (13, .invokevirtual 33, 3), (16, .aload_n 2, 1), (17, .invokevirtual 39, 3), (20, .aload_n 2, 1), (21, .aload_n 0, 1), (22, .getfield 9, 3), (25, .bipush 16, 2), (27, .invokevirtual 44, 3), (30, .aload_n 2, 1), (31, .aload_n 1, 1), (32, .getfield 48, 3), (35, .aload_n 1, 1), (36, .getfield 51, 3), (39, .invokevirtual 44, 3), (42, .aload_n 0, 1), (43, .aload_n 2, 1), (44, .bipush 16, 2), (46, .aload_n 2, 1), (47, .getfield 48, 3), (50, .invokevirtual 55, 3), (53, .return_, 1)]
set_option maxRecDepth 100000 in
theorem D_Marked_lock : DL_Marked_lock.all (fun q => decide (decode b_Marked_lock q.1 = .ok (q.2.1, q.2.2))) = true := by decide +kernel
def DL_Row_addAll : List (Nat × Instr × Nat) := [(0, .aload_n 1, 1), (1, .iconst 0, 1), (2, .aload_n 0, 1), (3, .getfield 9, 3), (6, .aload_n 0, 1), (7, .getfield 15, 3), (10, .iload_n 2, 1), (11, .invokestatic 19, 3), (14, .aload_n 0, 1), (15, .dup, 1), (16, .getfield 15, 3), (19, .iload_n 2, 1), (20, .iadd, 1), (21, .putfield 15, 3), (24, .return_, 1)]
set_option maxRecDepth 100000 in
theorem D_Row_addAll : DL_Row_addAll.all (fun q => decide (decode b_Row_addAll q.1 = .ok (q.2.1, q.2.2))) = true := by decide +kernel
def DL_Marked_addStream : List (Nat × Instr × Nat) := [(0, .aload_n 3, 1), (1, .iconst 0, 1), (2, .aload_n 0, 1), (3, .getfield 15, 3), (6, .iconst 0, 1), (7, .bipush 16, 2), (9, .invokestatic 63, 3), (12, .aload_n 0, 1), (13, .getfield 15, 3), (16, .bipush 8, 2), (18, .dup2, 1), (19, .iaload, 1), (20, .bipush 127, 2), (22, .iand, 1), (23, .iastore, 1), (24, .aload_n 0, 1), (25, .getfield 15, 3), (28, .bipush 12, 2), (30, .dup2, 1), (31, .iaload, 1), (32, .bipush 127, 2), (34, .iand, 1), (35, .iastore, 1), (36, .iload_n 2, 1), (37, .istore 4, 2), (39, .iload 4, 2), (41, .aload_n 1, 1), (42, .getfield 51, 3), (45, .if_icmp .ge 44, 3), (48, .iload 4, 2), (50, .iload_n 2, 1), (51, .isub, 1), (52, .bipush 16, 2), (54, .irem, 1), (55, .istore 5, 2), (57, .iload 5, 2), (59, .ifCond .ne 7, 3), (62, .aload_n 0, 1), (63, .invokevirtual 69, 3), (66, .aload_n 1, 1), (67, .getfield 48, 3), (70, .iload 4, 2), (72, .dup2, 1), (73, .iaload, 1), (74, .aload_n 0, 1), (75, .getfield 18, 3), (78, .iload 5, 2), (80, .iaload, 1), (81, .ixor, 1), (82, .iastore, 1), (83, .iinc 4 1, 3), (86, .goto (-47), 3), (89, .return_, 1)]
set_option maxRecDepth 100000 in
theorem D_Marked_addStream : DL_Marked_addStream.all (fun q => decide (decode b_Marked_addStream q.1 = .ok (q.2.1, q.2.2))) = true := by decide +kernel
def DL_Marked_nextBlock : List (Nat × Instr × Nat) := [(0, .aload_n 0, 1), (1, .getfield 15, 3), (4, .iconst 0, 1), (5, .aload_n 0, 1), (6, .getfield 18, 3), (9, .iconst 0, 1), (10, .bipush 16, 2), (12, .invokestatic 63, 3), (15, .aload_n 0, 1), (16, .getfield 29, 3), (19, .aload_n 0, 1), (20, .getfield 18, 3), (23, .invokevirtual 72, 3), (26, .iconst 1, 1), (27, .istore_n 1, 1), (28, .bipush 15, 2), (30, .istore_n 2, 1), (31, .iload_n 2, 1), (32, .ifCond .lt 34, 3), (35, .aload_n 0, 1), (36, .getfield 15, 3), (39, .iload_n 2, 1), (40, .iaload, 1), (41, .iload_n 1, 1), (42, .iadd, 1), (43, .istore_n 3, 1), (44, .aload_n 0, 1), (45, .getfield 15, 3), (48, .iload_n 2, 1), (49, .iload_n 3, 1), (50, .sipush 255, 3), (53, .iand, 1), (54, .iastore, 1), (55, .iload_n 3, 1), (56, .bipush 8, 2), (58, .ishr, 1), (59, .istore_n 1, 1), (60, .iinc 2 (-1), 3), (63, .goto (-32), 3), (66, .return_, 1)]
set_option maxRecDepth 100000 in
theorem D_Marked_nextBlock : DL_Marked_nextBlock.all (fun q => decide (decode b_Marked_nextBlock q.1 = .ok (q.2.1, q.2.2))) = true := by decide +kernel
def DL_Padded_lock : List (Nat × Instr × Nat) := [(0, .aload_n 2, 1), (1, .invokevirtual 19, 3), (4, .aload_n 2, 1), (5, .ldc 24, 2), (7, .invokestatic 25, 3), (10, .aload_n 2, 1), (11, .aload_n 1, 1), (12, .getfield 29, 3), (15, .invokestatic 25, 3), (18, .aload_n 2, 1), (19, .aload_n 1, 1), (20, .getfield 33, 3), (23, .aload_n 1, 1), (24, .getfield 29, 3), (27, .invokevirtual 37, 3), (30, .aload_n 2, 1), (31, .aload_n 2, 1), (32, .getfield 29, 3), (35, .bipush 8, 2), (37, .iadd, 1), (38, .iconst 1, 1), (39, .isub, 1), (40, .bipush 8, 2), (42, .idiv, 1), (43, .bipush 8, 2), (45, .imul, 1), (46, .invokevirtual 41, 3), (49, .aload_n 2, 1), (50, .getfield 29, 3), (53, .bipush 16, 2), (55, .if_icmp .ne 17, 3), (58, .aload_n 0, 1), (59, .getfield 15, 3), (62, .aload_n 2, 1), (63, .getfield 33, 3), (66, .invokevirtual 45, 3), (69, .goto 11, 3), (72, .aload_n 0, 1), (73, .getfield 9, 3), (76, .aload_n 2, 1), (77, .invokevirtual 51, 3), (80, .return_, 1)]
set_option maxRecDepth 100000 in
theorem D_Padded_lock : DL_Padded_lock.all (fun q => decide (decode b_Padded_lock q.1 = .ok (q.2.1, q.2.2))) = true := by decide +kernel
def DL_Padded_addWord : List (Nat × Instr × Nat) := [(0, .iconst 0, 1), (1, .istore_n 2, 1), (2, .iload_n 2, 1), (3, .iconst 4, 1), (4, .if_icmp .ge 18, 3), (7, .aload_n 0, 1), (8, .iload_n 1, 1), (9, .iload_n 2, 1), (10, .invokestatic 77, 3), (13, .invokevirtual 81, 3), (16, .iinc 2 1, 3), (19, .goto (-17), 3), (22, .return_, 1)]
set_option maxRecDepth 100000 in
theorem D_Padded_addWord : DL_Padded_addWord.all (fun q => decide (decode b_Padded_addWord q.1 = .ok (q.2.1, q.2.2))) = true := by decide +kernel
def DL_Wrapping_wind : List (Nat × Instr × Nat) := [(0, .aload_n 1, 1), (1, .getfield 19, 3), (4, .bipush 8, 2), (6, .idiv, 1), (7, .iconst 1, 1), (8, .isub, 1), (9, .istore_n 2, 1), (10, .iconst 0, 1), (11, .istore_n 3, 1), (12, .iload_n 3, 1), (13, .bipush 6, 2), (15, .if_icmp .ge 59, 3), (18, .iconst 1, 1), (19, .istore 4, 2), (21, .iload 4, 2), (23, .iload_n 2, 1), (24, .if_icmp .gt 44, 3), (27, .aload_n 0, 1), (28, .aload_n 1, 1), (29, .iload 4, 2), (31, .invokevirtual 25, 3), (34, .aload_n 0, 1), (35, .getfield 15, 3), (38, .aload_n 0, 1), (39, .getfield 9, 3), (42, .invokevirtual 29, 3), (45, .aload_n 0, 1), (46, .iload_n 2, 1), (47, .iload_n 3, 1), (48, .imul, 1), (49, .iload 4, 2), (51, .iadd, 1), (52, .invokevirtual 35, 3), (55, .aload_n 0, 1), (56, .aload_n 1, 1), (57, .iload 4, 2), (59, .invokevirtual 39, 3), (62, .iinc 4 1, 3), (65, .goto (-44), 3), (68, .iinc 3 1, 3), (71, .goto (-59), 3), (74, .return_, 1)]
set_option maxRecDepth 100000 in
theorem D_Wrapping_wind : DL_Wrapping_wind.all (fun q => decide (decode b_Wrapping_wind q.1 = .ok (q.2.1, q.2.2))) = true := by decide +kernel
def DL_Wrapping_lift : List (Nat × Instr × Nat) := [(0, .aload_n 1, 1), (1, .getfield 45, 3), (4, .iconst 0, 1), (5, .aload_n 0, 1), (6, .getfield 9, 3), (9, .iconst 0, 1), (10, .bipush 8, 2), (12, .invokestatic 48, 3), (15, .aload_n 1, 1), (16, .getfield 45, 3), (19, .bipush 8, 2), (21, .iload_n 2, 1), (22, .imul, 1), (23, .aload_n 0, 1), (24, .getfield 9, 3), (27, .bipush 8, 2), (29, .bipush 8, 2), (31, .invokestatic 48, 3), (34, .return_, 1)]
set_option maxRecDepth 100000 in
theorem D_Wrapping_lift : DL_Wrapping_lift.all (fun q => decide (decode b_Wrapping_lift q.1 = .ok (q.2.1, q.2.2))) = true := by decide +kernel
def DL_Wrapping_addNumber : List (Nat × Instr × Nat) := [(0, .aload_n 0, 1), (1, .getfield 9, 3), (4, .bipush 7, 2), (6, .dup2, 1), (7, .iaload, 1), (8, .iload_n 1, 1), (9, .ixor, 1), (10, .iastore, 1), (11, .return_, 1)]
set_option maxRecDepth 100000 in
theorem D_Wrapping_addNumber : DL_Wrapping_addNumber.all (fun q => decide (decode b_Wrapping_addNumber q.1 = .ok (q.2.1, q.2.2))) = true := by decide +kernel
def DL_Wrapping_lay : List (Nat × Instr × Nat) := [(0, .aload_n 0, 1), (1, .getfield 9, 3), (4, .iconst 0, 1), (5, .aload_n 1, 1), (6, .getfield 45, 3), (9, .iconst 0, 1), (10, .bipush 8, 2), (12, .invokestatic 48, 3), (15, .aload_n 0, 1), (16, .getfield 9, 3), (19, .bipush 8, 2), (21, .aload_n 1, 1), (22, .getfield 45, 3), (25, .bipush 8, 2), (27, .iload_n 2, 1), (28, .imul, 1), (29, .bipush 8, 2), (31, .invokestatic 48, 3), (34, .return_, 1)]
set_option maxRecDepth 100000 in
theorem D_Wrapping_lay : DL_Wrapping_lay.all (fun q => decide (decode b_Wrapping_lay q.1 = .ok (q.2.1, q.2.2))) = true := by decide +kernel
def DL_Wrapped_lock : List (Nat × Instr × Nat) := [(0, .aload_n 2, 1), (1, .invokevirtual 19, 3), (4, .iconst 0, 1), (5, .istore_n 3, 1), (6, .iload_n 3, 1), (7, .bipush 8, 2), (9, .if_icmp .ge 16, 3), (12, .aload_n 2, 1), (13, .sipush 166, 3), (16, .invokevirtual 24, 3), (19, .iinc 3 1, 3), (22, .goto (-16), 3), (25, .aload_n 2, 1), (26, .aload_n 1, 1), (27, .getfield 28, 3), (30, .aload_n 1, 1), (31, .getfield 32, 3), (34, .invokevirtual 36, 3), (37, .aload_n 0, 1), (38, .getfield 9, 3), (41, .aload_n 2, 1), (42, .invokevirtual 40, 3), (45, .return_, 1)]
set_option maxRecDepth 100000 in
theorem D_Wrapped_lock : DL_Wrapped_lock.all (fun q => decide (decode b_Wrapped_lock q.1 = .ok (q.2.1, q.2.2))) = true := by decide +kernel
def DL_Law_open : List (Nat × Instr × Nat) := [(0, .aload_n 2, 1), (1, .iconst 0, 1), (2, .aload_n 0, 1), (3, .iload_n 1, 1), (4, .invokevirtual 39, 3), (7, .i2l, 1), (8, .lastore, 1), (9, .goto 9, 3), (12, .astore_n 3, 1), (13, .iconst 1, 1), (14, .ireturn, 1), (15, .astore_n 3, 1), (16, .iconst 2, 1), (17, .ireturn, 1), (18, .iconst 0, 1), (19, .ireturn, 1)]
set_option maxRecDepth 100000 in
theorem D_Law_open : DL_Law_open.all (fun q => decide (decode b_Law_open q.1 = .ok (q.2.1, q.2.2))) = true := by decide +kernel
def DL_Desk_open : List (Nat × Instr × Nat) := [(0, .iload_n 1, 1), (1, .ifCond .lt 12, 3), (4, .iload_n 1, 1), (5, .aload_n 0, 1), (6, .getfield 57, 3), (9, .arraylength, 1), (10, .if_icmp .lt 13, 3), (13, .new 74, 3), (16, .dup, 1), (17, .ldc 154, 2), (19, .invokespecial 78, 3), (22, .athrow, 1), (23, .aload_n 0, 1), (24, .getfield 57, 3), (27, .iload_n 1, 1), (28, .aaload, 1), (29, .aload_n 0, 1), (30, .getfield 64, 3), (33, .getfield 90, 3), (36, .invokevirtual 165, 3), (39, .ifCond .ne 13, 3), (42, .new 85, 3), (45, .dup, 1), (46, .ldc 168, 2), (48, .invokespecial 89, 3), (51, .athrow, 1), (52, .aload_n 0, 1), (53, .getfield 57, 3), (56, .iload_n 1, 1), (57, .aaload, 1), (58, .aload_n 0, 1), (59, .getfield 64, 3), (62, .aload_n 0, 1), (63, .getfield 71, 3), (66, .invokevirtual 170, 3), (69, .ifCond .ne 5, 3), (72, .iconst (-1), 1), (73, .ireturn, 1), (74, .aload_n 0, 1), (75, .getfield 68, 3), (78, .aload_n 0, 1), (79, .getfield 71, 3), (82, .invokevirtual 133, 3), (85, .aload_n 0, 1), (86, .getfield 68, 3), (89, .getfield 90, 3), (92, .ireturn, 1)]
set_option maxRecDepth 100000 in
theorem D_Desk_open : DL_Desk_open.all (fun q => decide (decode b_Desk_open q.1 = .ok (q.2.1, q.2.2))) = true := by decide +kernel
def DL_Marked_canUnlock : List (Nat × Instr × Nat) := [(0, .iload_n 1, 1), (1, .bipush 16, 2), (3, .if_icmp .lt 13, 3), (6, .iload_n 1, 1), (7, .bipush 80, 2), (9, .if_icmp .gt 7, 3), (12, .iconst 1, 1), (13, .goto 4, 3), (16, .iconst 0, 1), (17, .ireturn, 1)]
set_option maxRecDepth 100000 in
theorem D_Marked_canUnlock : DL_Marked_canUnlock.all (fun q => decide (decode b_Marked_canUnlock q.1 = .ok (q.2.1, q.2.2))) = true := by decide +kernel
def DL_Padded_canUnlock : List (Nat × Instr × Nat) := [(0, .iload_n 1, 1), (1, .bipush 8, 2), (3, .irem, 1), (4, .ifCond .ne 19, 3), (7, .iload_n 1, 1), (8, .bipush 16, 2), (10, .if_icmp .lt 13, 3), (13, .iload_n 1, 1), (14, .bipush 72, 2), (16, .if_icmp .gt 7, 3), (19, .iconst 1, 1), (20, .goto 4, 3), (23, .iconst 0, 1), (24, .ireturn, 1)]
set_option maxRecDepth 100000 in
theorem D_Padded_canUnlock : DL_Padded_canUnlock.all (fun q => decide (decode b_Padded_canUnlock q.1 = .ok (q.2.1, q.2.2))) = true := by decide +kernel
def DL_Wrapped_canUnlock : List (Nat × Instr × Nat) := [(0, .aload_n 0, 1), (1, .iload_n 1, 1), (2, .bipush 8, 2), (4, .isub, 1), (5, .invokevirtual 15, 3), (8, .ireturn, 1)]
set_option maxRecDepth 100000 in
theorem D_Wrapped_canUnlock : DL_Wrapped_canUnlock.all (fun q => decide (decode b_Wrapped_canUnlock q.1 = .ok (q.2.1, q.2.2))) = true := by decide +kernel
def DL_Marked_unlock : List (Nat × Instr × Nat) := [(0, .aload_n 2, 1), (1, .aload_n 1, 1), (2, .bipush 16, 2), (4, .invokevirtual 59, 3), (7, .aload_n 0, 1), (8, .aload_n 2, 1), (9, .iconst 0, 1), (10, .aload_n 1, 1), (11, .getfield 48, 3), (14, .invokevirtual 55, 3), (17, .aload_n 0, 1), (18, .getfield 21, 3), (21, .aload_n 0, 1), (22, .getfield 25, 3), (25, .aload_n 2, 1), (26, .aload_n 0, 1), (27, .getfield 9, 3), (30, .invokevirtual 33, 3), (33, .iconst 0, 1), (34, .istore_n 3, 1), (35, .iload_n 3, 1), (36, .bipush 16, 2), (38, .if_icmp .ge 26, 3), (41, .aload_n 0, 1), (42, .getfield 9, 3), (45, .iload_n 3, 1), (46, .iaload, 1), (47, .aload_n 1, 1), (48, .getfield 48, 3), (51, .iload_n 3, 1), (52, .iaload, 1), (53, .if_icmp .eq 5, 3), (56, .iconst 0, 1), (57, .ireturn, 1), (58, .iinc 3 1, 3), (61, .goto (-26), 3), (64, .iconst 1, 1), (65, .ireturn, 1)]
set_option maxRecDepth 100000 in
theorem D_Marked_unlock : DL_Marked_unlock.all (fun q => decide (decode b_Marked_unlock q.1 = .ok (q.2.1, q.2.2))) = true := by decide +kernel
def DL_Padded_unlock : List (Nat × Instr × Nat) := [(0, .aload_n 2, 1), (1, .aload_n 1, 1), (2, .invokevirtual 57, 3), (5, .aload_n 2, 1), (6, .getfield 29, 3), (9, .bipush 16, 2), (11, .if_icmp .ne 17, 3), (14, .aload_n 0, 1), (15, .getfield 15, 3), (18, .aload_n 2, 1), (19, .getfield 33, 3), (22, .invokevirtual 60, 3), (25, .goto 11, 3), (28, .aload_n 0, 1), (29, .getfield 9, 3), (32, .aload_n 2, 1), (33, .invokevirtual 63, 3), (36, .aload_n 2, 1), (37, .iconst 0, 1), (38, .invokestatic 66, 3), (41, .istore_n 3, 1), (42, .aload_n 2, 1), (43, .iconst 4, 1), (44, .invokestatic 66, 3), (47, .istore 4, 2), (49, .aload_n 2, 1), (50, .aload_n 2, 1), (51, .bipush 8, 2), (53, .invokevirtual 70, 3), (56, .iload_n 3, 1), (57, .ldc 24, 2), (59, .if_icmp .ne 24, 3), (62, .iload 4, 2), (64, .aload_n 2, 1), (65, .getfield 29, 3), (68, .bipush 8, 2), (70, .isub, 1), (71, .if_icmp .le 12, 3), (74, .iload 4, 2), (76, .aload_n 2, 1), (77, .getfield 29, 3), (80, .if_icmp .le 5, 3), (83, .iconst 0, 1), (84, .ireturn, 1), (85, .aload_n 2, 1), (86, .iload 4, 2), (88, .invokestatic 73, 3), (91, .ireturn, 1)]
set_option maxRecDepth 100000 in
theorem D_Padded_unlock : DL_Padded_unlock.all (fun q => decide (decode b_Padded_unlock q.1 = .ok (q.2.1, q.2.2))) = true := by decide +kernel
def DL_Wrapping_unwind : List (Nat × Instr × Nat) := [(0, .aload_n 1, 1), (1, .getfield 19, 3), (4, .bipush 8, 2), (6, .idiv, 1), (7, .iconst 1, 1), (8, .isub, 1), (9, .istore_n 2, 1), (10, .iconst 5, 1), (11, .istore_n 3, 1), (12, .iload_n 3, 1), (13, .ifCond .lt 59, 3), (16, .iload_n 2, 1), (17, .istore 4, 2), (19, .iload 4, 2), (21, .iconst 1, 1), (22, .if_icmp .lt 44, 3), (25, .aload_n 0, 1), (26, .aload_n 1, 1), (27, .iload 4, 2), (29, .invokevirtual 25, 3), (32, .aload_n 0, 1), (33, .iload_n 2, 1), (34, .iload_n 3, 1), (35, .imul, 1), (36, .iload 4, 2), (38, .iadd, 1), (39, .invokevirtual 35, 3), (42, .aload_n 0, 1), (43, .getfield 15, 3), (46, .aload_n 0, 1), (47, .getfield 9, 3), (50, .invokevirtual 42, 3), (53, .aload_n 0, 1), (54, .aload_n 1, 1), (55, .iload 4, 2), (57, .invokevirtual 39, 3), (60, .iinc 4 (-1), 3), (63, .goto (-44), 3), (66, .iinc 3 (-1), 3), (69, .goto (-57), 3), (72, .return_, 1)]
set_option maxRecDepth 100000 in
theorem D_Wrapping_unwind : DL_Wrapping_unwind.all (fun q => decide (decode b_Wrapping_unwind q.1 = .ok (q.2.1, q.2.2))) = true := by decide +kernel
def DL_Padded_wordAt : List (Nat × Instr × Nat) := [(0, .iconst 0, 1), (1, .istore_n 2, 1), (2, .iconst 0, 1), (3, .istore_n 3, 1), (4, .iload_n 3, 1), (5, .iconst 4, 1), (6, .if_icmp .ge 23, 3), (9, .iload_n 2, 1), (10, .bipush 8, 2), (12, .ishl, 1), (13, .aload_n 0, 1), (14, .getfield 33, 3), (17, .iload_n 1, 1), (18, .iload_n 3, 1), (19, .iadd, 1), (20, .iaload, 1), (21, .ior, 1), (22, .istore_n 2, 1), (23, .iinc 3 1, 3), (26, .goto (-22), 3), (29, .iload_n 2, 1), (30, .ireturn, 1)]
set_option maxRecDepth 100000 in
theorem D_Padded_wordAt : DL_Padded_wordAt.all (fun q => decide (decode b_Padded_wordAt q.1 = .ok (q.2.1, q.2.2))) = true := by decide +kernel
def DL_Padded_cutZeros : List (Nat × Instr × Nat) := [(0, .iload_n 1, 1), (1, .istore_n 2, 1), (2, .iload_n 2, 1), (3, .aload_n 0, 1), (4, .getfield 29, 3), (7, .if_icmp .ge 20, 3), (10, .aload_n 0, 1), (11, .getfield 33, 3), (14, .iload_n 2, 1), (15, .iaload, 1), (16, .ifCond .eq 5, 3), (19, .iconst 0, 1), (20, .ireturn, 1), (21, .iinc 2 1, 3), (24, .goto (-22), 3), (27, .aload_n 0, 1), (28, .iload_n 1, 1), (29, .putfield 29, 3), (32, .iconst 1, 1), (33, .ireturn, 1)]
set_option maxRecDepth 100000 in
theorem D_Padded_cutZeros : DL_Padded_cutZeros.all (fun q => decide (decode b_Padded_cutZeros q.1 = .ok (q.2.1, q.2.2))) = true := by decide +kernel
def DL_Wrapped_unlock : List (Nat × Instr × Nat) := [(0, .aload_n 2, 1), (1, .aload_n 1, 1), (2, .invokevirtual 46, 3), (5, .aload_n 0, 1), (6, .getfield 9, 3), (9, .aload_n 2, 1), (10, .invokevirtual 49, 3), (13, .iconst 0, 1), (14, .istore_n 3, 1), (15, .iload_n 3, 1), (16, .bipush 8, 2), (18, .if_icmp .ge 23, 3), (21, .aload_n 2, 1), (22, .getfield 28, 3), (25, .iload_n 3, 1), (26, .iaload, 1), (27, .sipush 166, 3), (30, .if_icmp .eq 5, 3), (33, .iconst 0, 1), (34, .ireturn, 1), (35, .iinc 3 1, 3), (38, .goto (-23), 3), (41, .aload_n 2, 1), (42, .aload_n 2, 1), (43, .bipush 8, 2), (45, .invokevirtual 52, 3), (48, .iconst 1, 1), (49, .ireturn, 1)]
set_option maxRecDepth 100000 in
theorem D_Wrapped_unlock : DL_Wrapped_unlock.all (fun q => decide (decode b_Wrapped_unlock q.1 = .ok (q.2.1, q.2.2))) = true := by decide +kernel
def DL_Law_at : List (Nat × Instr × Nat) := [(0, .aload_n 2, 1), (1, .iconst 0, 1), (2, .aload_n 0, 1), (3, .iload_n 1, 1), (4, .invokevirtual 42, 3), (7, .i2l, 1), (8, .lastore, 1), (9, .goto 6, 3), (12, .astore_n 3, 1), (13, .iconst 1, 1), (14, .ireturn, 1), (15, .iconst 0, 1), (16, .ireturn, 1)]
set_option maxRecDepth 100000 in
theorem D_Law_at : DL_Law_at.all (fun q => decide (decode b_Law_at q.1 = .ok (q.2.1, q.2.2))) = true := by decide +kernel
def DL_Desk_at : List (Nat × Instr × Nat) := [(0, .aload_n 0, 1), (1, .getfield 68, 3), (4, .iload_n 1, 1), (5, .invokevirtual 110, 3), (8, .ifCond .ne 13, 3), (11, .new 74, 3), (14, .dup, 1), (15, .ldc 174, 2), (17, .invokespecial 78, 3), (20, .athrow, 1), (21, .aload_n 0, 1), (22, .getfield 68, 3), (25, .getfield 118, 3), (28, .iload_n 1, 1), (29, .iaload, 1), (30, .ireturn, 1)]
set_option maxRecDepth 100000 in
theorem D_Desk_at : DL_Desk_at.all (fun q => decide (decode b_Desk_at q.1 = .ok (q.2.1, q.2.2))) = true := by decide +kernel
def DL_Model_init : List (Nat × Instr × Nat) := [(0, .aload_n 0, 1), (1, .invokespecial 1, 3), (4, .aload_n 0, 1), (5, .bipush 88, 2), (7, .newarray .int, 2), (9, .putfield 7, 3), (12, .aload_n 0, 1), (13, .sipush 256, 3), (16, .newarray .int, 2), (18, .putfield 13, 3), (21, .aload_n 0, 1), (22, .sipush 256, 3), (25, .newarray .int, 2), (27, .putfield 16, 3), (30, .aload_n 0, 1), (31, .bipush 88, 2), (33, .newarray .int, 2), (35, .putfield 19, 3), (38, .aload_n 0, 1), (39, .bipush 112, 2), (41, .newarray .int, 2), (43, .putfield 22, 3), (46, .aload_n 0, 1), (47, .iconst 5, 1), (48, .newarray .int, 2), (50, .putfield 25, 3), (53, .aload_n 0, 1), (54, .sipush 200, 3), (57, .newarray .int, 2), (59, .putfield 28, 3), (62, .aload_n 0, 1), (63, .bipush 16, 2), (65, .newarray .int, 2), (67, .putfield 31, 3), (70, .aload_n 0, 1), (71, .bipush 16, 2), (73, .newarray .int, 2), (75, .putfield 34, 3), (78, .aload_n 0, 1), (79, .bipush 112, 2), (81, .newarray .int, 2), (83, .putfield 37, 3), (86, .aload_n 0, 1), (87, .bipush 112, 2), (89, .newarray .int, 2), (91, .putfield 40, 3), (94, .aload_n 0, 1), (95, .bipush 16, 2), (97, .newarray .int, 2), (99, .putfield 43, 3), (102, .aload_n 0, 1), (103, .bipush 16, 2), (105, .newarray .int, 2), (107, .putfield 46, 3), (110, .aload_n 0, 1), (111, .bipush 16, 2), (113, .newarray .int, 2), (115, .putfield 49, 3), (118, .iconst 0, 1), (119, .istore_n 1, 1), (120, .iload_n 1, 1), (121, .sipush 256, 3), (124, .if_icmp .ge 57, 3), (127, .iload_n 1, 1), (128, .invokestatic 52, 3), (131, .istore_n 2, 1), (132, .iload_n 2, 1), (133, .iload_n 2, 1), (134, .iconst 1, 1), (135, .invokestatic 56, 3), (138, .ixor, 1), (139, .iload_n 2, 1), (140, .iconst 2, 1), (141, .invokestatic 56, 3), (144, .ixor, 1), (145, .iload_n 2, 1), (146, .iconst 3, 1), (147, .invokestatic 56, 3), (150, .ixor, 1), (151, .iload_n 2, 1), (152, .iconst 4, 1), (153, .invokestatic 56, 3), (156, .ixor, 1), (157, .bipush 99, 2), (159, .ixor, 1), (160, .istore_n 3, 1), (161, .aload_n 0, 1), (162, .getfield 13, 3), (165, .iload_n 1, 1), (166, .iload_n 3, 1), (167, .iastore, 1), (168, .aload_n 0, 1), (169, .getfield 16, 3), (172, .iload_n 3, 1), (173, .iload_n 1, 1), (174, .iastore, 1), (175, .iinc 1 1, 3), (178, .goto (-58), 3), (181, .aload_n 0, 1), (182, .iconst 0, 1), (183, .iconst 0, 1), (184, .iconst 0, 1), (185, .iconst 0, 1), (186, .iconst 0, 1), (187, .invokevirtual 60, 3), (190, .aload_n 0, 1), (191, .bipush 44, 2), (193, .iconst 0, 1), (194, .iconst 0, 1), (195, .iconst 0, 1), (196, .iconst 0, 1), (197, .invokevirtual 60, 3), (200, .return_, 1)]
set_option maxRecDepth 100000 in
theorem D_Model_init : DL_Model_init.all (fun q => decide (decode b_Model_init q.1 = .ok (q.2.1, q.2.2))) = true := by decide +kernel
def DL_Model_power : List (Nat × Instr × Nat) := [(0, .iload_n 0, 1), (1, .istore_n 1, 1), (2, .iconst 1, 1), (3, .istore_n 2, 1), (4, .iconst 0, 1), (5, .istore_n 3, 1), (6, .iload_n 3, 1), (7, .bipush 7, 2), (9, .if_icmp .ge 21, 3), (12, .iload_n 1, 1), (13, .iload_n 1, 1), (14, .invokestatic 68, 3), (17, .istore_n 1, 1), (18, .iload_n 2, 1), (19, .iload_n 1, 1), (20, .invokestatic 68, 3), (23, .istore_n 2, 1), (24, .iinc 3 1, 3), (27, .goto (-21), 3), (30, .iload_n 2, 1), (31, .ireturn, 1)]
set_option maxRecDepth 100000 in
theorem D_Model_power : DL_Model_power.all (fun q => decide (decode b_Model_power q.1 = .ok (q.2.1, q.2.2))) = true := by decide +kernel
def DL_Model_product : List (Nat × Instr × Nat) := [(0, .iconst 0, 1), (1, .istore_n 2, 1), (2, .bipush 7, 2), (4, .istore_n 3, 1), (5, .iload_n 3, 1), (6, .ifCond .lt 47, 3), (9, .iload_n 2, 1), (10, .iconst 2, 1), (11, .imul, 1), (12, .istore_n 2, 1), (13, .iload_n 2, 1), (14, .sipush 255, 3), (17, .if_icmp .le 11, 3), (20, .iload_n 2, 1), (21, .sipush 283, 3), (24, .ixor, 1), (25, .goto 4, 3), (28, .iload_n 2, 1), (29, .istore_n 2, 1), (30, .iload_n 1, 1), (31, .iload_n 3, 1), (32, .ishr, 1), (33, .iconst 1, 1), (34, .iand, 1), (35, .iconst 1, 1), (36, .if_icmp .ne 9, 3), (39, .iload_n 2, 1), (40, .iload_n 0, 1), (41, .ixor, 1), (42, .goto 4, 3), (45, .iload_n 2, 1), (46, .istore_n 2, 1), (47, .iinc 3 (-1), 3), (50, .goto (-45), 3), (53, .iload_n 2, 1), (54, .ireturn, 1)]
set_option maxRecDepth 100000 in
theorem D_Model_product : DL_Model_product.all (fun q => decide (decode b_Model_product q.1 = .ok (q.2.1, q.2.2))) = true := by decide +kernel
def DL_Model_around : List (Nat × Instr × Nat) := [(0, .iload_n 0, 1), (1, .iload_n 1, 1), (2, .ishl, 1), (3, .sipush 255, 3), (6, .iand, 1), (7, .iload_n 0, 1), (8, .bipush 8, 2), (10, .iload_n 1, 1), (11, .isub, 1), (12, .ishr, 1), (13, .ior, 1), (14, .ireturn, 1)]
set_option maxRecDepth 100000 in
theorem D_Model_around : DL_Model_around.all (fun q => decide (decode b_Model_around q.1 = .ok (q.2.1, q.2.2))) = true := by decide +kernel
def DL_Model_expand : List (Nat × Instr × Nat) := [(0, .aload_n 0, 1), (1, .getfield 7, 3), (4, .iload_n 1, 1), (5, .iload_n 2, 1), (6, .iastore, 1), (7, .aload_n 0, 1), (8, .getfield 7, 3), (11, .iload_n 1, 1), (12, .iconst 1, 1), (13, .iadd, 1), (14, .iload_n 3, 1), (15, .iastore, 1), (16, .aload_n 0, 1), (17, .getfield 7, 3), (20, .iload_n 1, 1), (21, .iconst 2, 1), (22, .iadd, 1), (23, .iload 4, 2), (25, .iastore, 1), (26, .aload_n 0, 1), (27, .getfield 7, 3), (30, .iload_n 1, 1), (31, .iconst 3, 1), (32, .iadd, 1), (33, .iload 5, 2), (35, .iastore, 1), (36, .iconst 1, 1), (37, .istore 6, 2), (39, .iconst 4, 1), (40, .istore 7, 2), (42, .iload 7, 2), (44, .bipush 44, 2), (46, .if_icmp .ge 83, 3), (49, .aload_n 0, 1), (50, .getfield 7, 3), (53, .iload_n 1, 1), (54, .iload 7, 2), (56, .iadd, 1), (57, .iconst 1, 1), (58, .isub, 1), (59, .iaload, 1), (60, .istore 8, 2), (62, .iload 7, 2), (64, .iconst 4, 1), (65, .irem, 1), (66, .ifCond .ne 34, 3), (69, .aload_n 0, 1), (70, .iload 8, 2), (72, .bipush 8, 2), (74, .ishl, 1), (75, .iload 8, 2), (77, .bipush 24, 2), (79, .iushr, 1), (80, .ior, 1), (81, .invokevirtual 71, 3), (84, .iload 6, 2), (86, .bipush 24, 2), (88, .ishl, 1), (89, .ixor, 1), (90, .istore 8, 2), (92, .iload 6, 2), (94, .iconst 2, 1), (95, .invokestatic 68, 3), (98, .istore 6, 2), (100, .aload_n 0, 1), (101, .getfield 7, 3), (104, .iload_n 1, 1), (105, .iload 7, 2), (107, .iadd, 1), (108, .aload_n 0, 1), (109, .getfield 7, 3), (112, .iload_n 1, 1), (113, .iload 7, 2), (115, .iadd, 1), (116, .iconst 4, 1), (117, .isub, 1), (118, .iaload, 1), (119, .iload 8, 2), (121, .ixor, 1), (122, .iastore, 1), (123, .iinc 7 1, 3), (126, .goto (-84), 3), (129, .return_, 1)]
set_option maxRecDepth 100000 in
theorem D_Model_expand : DL_Model_expand.all (fun q => decide (decode b_Model_expand q.1 = .ok (q.2.1, q.2.2))) = true := by decide +kernel
def DL_Model_changed : List (Nat × Instr × Nat) := [(0, .aload_n 0, 1), (1, .getfield 13, 3), (4, .iload_n 1, 1), (5, .bipush 24, 2), (7, .ishr, 1), (8, .sipush 255, 3), (11, .iand, 1), (12, .iaload, 1), (13, .bipush 24, 2), (15, .ishl, 1), (16, .aload_n 0, 1), (17, .getfield 13, 3), (20, .iload_n 1, 1), (21, .bipush 16, 2), (23, .ishr, 1), (24, .sipush 255, 3), (27, .iand, 1), (28, .iaload, 1), (29, .bipush 16, 2), (31, .ishl, 1), (32, .ior, 1), (33, .aload_n 0, 1), (34, .getfield 13, 3), (37, .iload_n 1, 1), (38, .bipush 8, 2), (40, .ishr, 1), (41, .sipush 255, 3), (44, .iand, 1), (45, .iaload, 1), (46, .bipush 8, 2), (48, .ishl, 1), (49, .ior, 1), (50, .aload_n 0, 1), (51, .getfield 13, 3), (54, .iload_n 1, 1), (55, .sipush 255, 3), (58, .iand, 1), (59, .iaload, 1), (60, .ior, 1), (61, .ireturn, 1)]
set_option maxRecDepth 100000 in
theorem D_Model_changed : DL_Model_changed.all (fun q => decide (decode b_Model_changed q.1 = .ok (q.2.1, q.2.2))) = true := by decide +kernel
def DL_Model_thrown : List (Nat × Instr × Nat) := [(0, .aload_n 0, 1), (1, .getfield 64, 3), (4, .ireturn, 1)]
set_option maxRecDepth 100000 in
theorem D_Model_thrown : DL_Model_thrown.all (fun q => decide (decode b_Model_thrown q.1 = .ok (q.2.1, q.2.2))) = true := by decide +kernel
def DL_Model_key : List (Nat × Instr × Nat) := [(0, .aload_n 0, 1), (1, .iload_n 1, 1), (2, .ifCond .lt 8, 3), (5, .iload_n 1, 1), (6, .iconst 1, 1), (7, .if_icmp .le 7, 3), (10, .iconst 1, 1), (11, .goto 4, 3), (14, .iconst 0, 1), (15, .putfield 64, 3), (18, .aload_n 0, 1), (19, .getfield 64, 3), (22, .ifCond .ne 17, 3), (25, .aload_n 0, 1), (26, .bipush 44, 2), (28, .iload_n 1, 1), (29, .imul, 1), (30, .iload_n 2, 1), (31, .iload_n 3, 1), (32, .iload 4, 2), (34, .iload 5, 2), (36, .invokevirtual 60, 3), (39, .return_, 1)]
set_option maxRecDepth 100000 in
theorem D_Model_key : DL_Model_key.all (fun q => decide (decode b_Model_key q.1 = .ok (q.2.1, q.2.2))) = true := by decide +kernel
def DL_Model_feed : List (Nat × Instr × Nat) := [(0, .aload_n 0, 1), (1, .iload_n 2, 1), (2, .iconst 1, 1), (3, .if_icmp .lt 8, 3), (6, .iload_n 2, 1), (7, .iconst 4, 1), (8, .if_icmp .le 7, 3), (11, .iconst 1, 1), (12, .goto 19, 3), (15, .aload_n 0, 1), (16, .getfield 133, 3), (19, .iload_n 2, 1), (20, .iadd, 1), (21, .bipush 88, 2), (23, .if_icmp .le 7, 3), (26, .iconst 2, 1), (27, .goto 4, 3), (30, .iconst 0, 1), (31, .putfield 64, 3), (34, .aload_n 0, 1), (35, .getfield 64, 3), (38, .ifCond .le 5, 3), (41, .iconst 0, 1), (42, .ireturn, 1), (43, .iconst 0, 1), (44, .istore_n 3, 1), (45, .iload_n 3, 1), (46, .iload_n 2, 1), (47, .if_icmp .ge 41, 3), (50, .aload_n 0, 1), (51, .getfield 19, 3), (54, .aload_n 0, 1), (55, .getfield 133, 3), (58, .iload_n 1, 1), (59, .bipush 24, 2), (61, .bipush 8, 2), (63, .iload_n 3, 1), (64, .imul, 1), (65, .isub, 1), (66, .ishr, 1), (67, .sipush 255, 3), (70, .iand, 1), (71, .iastore, 1), (72, .aload_n 0, 1), (73, .dup, 1), (74, .getfield 133, 3), (77, .iconst 1, 1), (78, .iadd, 1), (79, .putfield 133, 3), (82, .iinc 3 1, 3), (85, .goto (-40), 3), (88, .aload_n 0, 1), (89, .getfield 133, 3), (92, .ireturn, 1)]
set_option maxRecDepth 100000 in
theorem D_Model_feed : DL_Model_feed.all (fun q => decide (decode b_Model_feed q.1 = .ok (q.2.1, q.2.2))) = true := by decide +kernel
def DL_Model_drop : List (Nat × Instr × Nat) := [(0, .aload_n 0, 1), (1, .iconst 0, 1), (2, .putfield 64, 3), (5, .aload_n 0, 1), (6, .iconst 0, 1), (7, .putfield 133, 3), (10, .return_, 1)]
set_option maxRecDepth 100000 in
theorem D_Model_drop : DL_Model_drop.all (fun q => decide (decode b_Model_drop q.1 = .ok (q.2.1, q.2.2))) = true := by decide +kernel
def DL_Model_alter : List (Nat × Instr × Nat) := [(0, .aload_n 0, 1), (1, .iload_n 1, 1), (2, .ifCond .lt 11, 3), (5, .iload_n 1, 1), (6, .aload_n 0, 1), (7, .getfield 133, 3), (10, .if_icmp .lt 7, 3), (13, .iconst 1, 1), (14, .goto 19, 3), (17, .iload_n 2, 1), (18, .ifCond .lt 10, 3), (21, .iload_n 2, 1), (22, .sipush 255, 3), (25, .if_icmp .le 7, 3), (28, .iconst 2, 1), (29, .goto 4, 3), (32, .iconst 0, 1), (33, .putfield 64, 3), (36, .aload_n 0, 1), (37, .getfield 64, 3), (40, .ifCond .ne 10, 3), (43, .aload_n 0, 1), (44, .getfield 19, 3), (47, .iload_n 1, 1), (48, .iload_n 2, 1), (49, .iastore, 1), (50, .return_, 1)]
set_option maxRecDepth 100000 in
theorem D_Model_alter : DL_Model_alter.all (fun q => decide (decode b_Model_alter q.1 = .ok (q.2.1, q.2.2))) = true := by decide +kernel
def DL_Model_item : List (Nat × Instr × Nat) := [(0, .aload_n 0, 1), (1, .aload_n 0, 1), (2, .getfield 133, 3), (5, .bipush 40, 2), (7, .if_icmp .le 7, 3), (10, .iconst 1, 1), (11, .goto 16, 3), (14, .aload_n 0, 1), (15, .getfield 94, 3), (18, .iconst 5, 1), (19, .if_icmp .ne 7, 3), (22, .iconst 2, 1), (23, .goto 4, 3), (26, .iconst 0, 1), (27, .putfield 64, 3), (30, .aload_n 0, 1), (31, .getfield 64, 3), (34, .ifCond .le 5, 3), (37, .iconst 0, 1), (38, .ireturn, 1), (39, .aload_n 0, 1), (40, .getfield 25, 3), (43, .aload_n 0, 1), (44, .getfield 94, 3), (47, .aload_n 0, 1), (48, .getfield 133, 3), (51, .iastore, 1), (52, .iconst 0, 1), (53, .istore_n 1, 1), (54, .iload_n 1, 1), (55, .aload_n 0, 1), (56, .getfield 133, 3), (59, .if_icmp .ge 29, 3), (62, .aload_n 0, 1), (63, .getfield 28, 3), (66, .bipush 40, 2), (68, .aload_n 0, 1), (69, .getfield 94, 3), (72, .imul, 1), (73, .iload_n 1, 1), (74, .iadd, 1), (75, .aload_n 0, 1), (76, .getfield 19, 3), (79, .iload_n 1, 1), (80, .iaload, 1), (81, .iastore, 1), (82, .iinc 1 1, 3), (85, .goto (-31), 3), (88, .aload_n 0, 1), (89, .dup, 1), (90, .getfield 94, 3), (93, .iconst 1, 1), (94, .iadd, 1), (95, .putfield 94, 3), (98, .aload_n 0, 1), (99, .iconst 0, 1), (100, .putfield 133, 3), (103, .aload_n 0, 1), (104, .getfield 94, 3), (107, .ireturn, 1)]
set_option maxRecDepth 100000 in
theorem D_Model_item : DL_Model_item.all (fun q => decide (decode b_Model_item q.1 = .ok (q.2.1, q.2.2))) = true := by decide +kernel
def DL_Model_forget : List (Nat × Instr × Nat) := [(0, .aload_n 0, 1), (1, .iconst 0, 1), (2, .putfield 64, 3), (5, .aload_n 0, 1), (6, .getfield 94, 3), (9, .istore_n 1, 1), (10, .aload_n 0, 1), (11, .iconst 0, 1), (12, .putfield 94, 3), (15, .iload_n 1, 1), (16, .ireturn, 1)]
set_option maxRecDepth 100000 in
theorem D_Model_forget : DL_Model_forget.all (fun q => decide (decode b_Model_forget q.1 = .ok (q.2.1, q.2.2))) = true := by decide +kernel
def DL_Model_cipher : List (Nat × Instr × Nat) := [(0, .aload_n 0, 1), (1, .aload_n 0, 1), (2, .getfield 133, 3), (5, .bipush 16, 2), (7, .if_icmp .eq 7, 3), (10, .iconst 1, 1), (11, .goto 4, 3), (14, .iconst 0, 1), (15, .putfield 64, 3), (18, .aload_n 0, 1), (19, .getfield 64, 3), (22, .ifCond .le 4, 3), (25, .return_, 1), (26, .aload_n 0, 1), (27, .invokevirtual 139, 3), (30, .aload_n 0, 1), (31, .iload_n 1, 1), (32, .invokevirtual 120, 3), (35, .aload_n 0, 1), (36, .invokevirtual 142, 3), (39, .istore_n 2, 1), (40, .return_, 1)]
set_option maxRecDepth 100000 in
theorem D_Model_cipher : DL_Model_cipher.all (fun q => decide (decode b_Model_cipher q.1 = .ok (q.2.1, q.2.2))) = true := by decide +kernel
def DL_Model_begin : List (Nat × Instr × Nat) := [(0, .aload_n 0, 1), (1, .aload_n 0, 1), (2, .getfield 133, 3), (5, .putfield 100, 3), (8, .iconst 0, 1), (9, .istore_n 1, 1), (10, .iload_n 1, 1), (11, .aload_n 0, 1), (12, .getfield 133, 3), (15, .if_icmp .ge 21, 3), (18, .aload_n 0, 1), (19, .getfield 37, 3), (22, .iload_n 1, 1), (23, .aload_n 0, 1), (24, .getfield 19, 3), (27, .iload_n 1, 1), (28, .iaload, 1), (29, .iastore, 1), (30, .iinc 1 1, 3), (33, .goto (-23), 3), (36, .return_, 1)]
set_option maxRecDepth 100000 in
theorem D_Model_begin : DL_Model_begin.all (fun q => decide (decode b_Model_begin q.1 = .ok (q.2.1, q.2.2))) = true := by decide +kernel
def DL_Model_single : List (Nat × Instr × Nat) := [(0, .iconst 0, 1), (1, .istore_n 2, 1), (2, .iload_n 2, 1), (3, .bipush 16, 2), (5, .if_icmp .ge 21, 3), (8, .aload_n 0, 1), (9, .getfield 31, 3), (12, .iload_n 2, 1), (13, .aload_n 0, 1), (14, .getfield 37, 3), (17, .iload_n 2, 1), (18, .iaload, 1), (19, .iastore, 1), (20, .iinc 2 1, 3), (23, .goto (-21), 3), (26, .iload_n 1, 1), (27, .ifCond .eq 11, 3), (30, .aload_n 0, 1), (31, .iconst 0, 1), (32, .invokevirtual 114, 3), (35, .goto 8, 3), (38, .aload_n 0, 1), (39, .iconst 0, 1), (40, .invokevirtual 84, 3), (43, .iconst 0, 1), (44, .istore_n 2, 1), (45, .iload_n 2, 1), (46, .bipush 16, 2), (48, .if_icmp .ge 21, 3), (51, .aload_n 0, 1), (52, .getfield 37, 3), (55, .iload_n 2, 1), (56, .aload_n 0, 1), (57, .getfield 31, 3), (60, .iload_n 2, 1), (61, .iaload, 1), (62, .iastore, 1), (63, .iinc 2 1, 3), (66, .goto (-21), 3), (69, .return_, 1)]
set_option maxRecDepth 100000 in
theorem D_Model_single : DL_Model_single.all (fun q => decide (decode b_Model_single q.1 = .ok (q.2.1, q.2.2))) = true := by decide +kernel
def DL_Model_decipher : List (Nat × Instr × Nat) := [(0, .bipush 10, 2), (2, .istore_n 2, 1), (3, .iload_n 2, 1), (4, .iconst 1, 1), (5, .if_icmp .lt 197, 3), (8, .aload_n 0, 1), (9, .iload_n 1, 1), (10, .iload_n 2, 1), (11, .invokevirtual 74, 3), (14, .iconst 0, 1), (15, .istore_n 3, 1), (16, .iload_n 3, 1), (17, .bipush 16, 2), (19, .if_icmp .ge 117, 3), (22, .iload_n 3, 1), (23, .iconst 4, 1), (24, .idiv, 1), (25, .iconst 4, 1), (26, .imul, 1), (27, .istore 4, 2), (29, .iload_n 3, 1), (30, .iconst 4, 1), (31, .irem, 1), (32, .istore 5, 2), (34, .aload_n 0, 1), (35, .getfield 34, 3), (38, .iload_n 3, 1), (39, .iload_n 2, 1), (40, .bipush 10, 2), (42, .if_icmp .ne 12, 3), (45, .aload_n 0, 1), (46, .getfield 31, 3), (49, .iload_n 3, 1), (50, .iaload, 1), (51, .goto 78, 3), (54, .aload_n 0, 1), (55, .getfield 31, 3), (58, .iload 4, 2), (60, .iload 5, 2), (62, .iadd, 1), (63, .iaload, 1), (64, .bipush 14, 2), (66, .invokestatic 68, 3), (69, .aload_n 0, 1), (70, .getfield 31, 3), (73, .iload 4, 2), (75, .iload 5, 2), (77, .iconst 1, 1), (78, .iadd, 1), (79, .iconst 4, 1), (80, .irem, 1), (81, .iadd, 1), (82, .iaload, 1), (83, .bipush 11, 2), (85, .invokestatic 68, 3), (88, .ixor, 1), (89, .aload_n 0, 1), (90, .getfield 31, 3), (93, .iload 4, 2), (95, .iload 5, 2), (97, .iconst 2, 1), (98, .iadd, 1), (99, .iconst 4, 1), (100, .irem, 1), (101, .iadd, 1), (102, .iaload, 1), (103, .bipush 13, 2), (105, .invokestatic 68, 3), (108, .ixor, 1), (109, .aload_n 0, 1), (110, .getfield 31, 3), (113, .iload 4, 2), (115, .iload 5, 2), (117, .iconst 3, 1), (118, .iadd, 1), (119, .iconst 4, 1), (120, .irem, 1), (121, .iadd, 1), (122, .iaload, 1), (123, .bipush 9, 2), (125, .invokestatic 68, 3), (128, .ixor, 1), (129, .iastore, 1), (130, .iinc 3 1, 3), (133, .goto (-117), 3), (136, .iconst 0, 1), (137, .istore_n 3, 1), (138, .iload_n 3, 1), (139, .iconst 4, 1), (140, .if_icmp .ge 56, 3), (143, .iconst 0, 1), (144, .istore 4, 2), (146, .iload 4, 2), (148, .iconst 4, 1), (149, .if_icmp .ge 41, 3), (152, .aload_n 0, 1), (153, .getfield 31, 3), (156, .iconst 4, 1), (157, .iload_n 3, 1), (158, .iload 4, 2), (160, .iadd, 1), (161, .iconst 4, 1), (162, .irem, 1), (163, .imul, 1), (164, .iload 4, 2), (166, .iadd, 1), (167, .aload_n 0, 1), (168, .getfield 16, 3), (171, .aload_n 0, 1), (172, .getfield 34, 3), (175, .iconst 4, 1), (176, .iload_n 3, 1), (177, .imul, 1), (178, .iload 4, 2), (180, .iadd, 1), (181, .iaload, 1), (182, .iaload, 1), (183, .iastore, 1), (184, .iinc 4 1, 3), (187, .goto (-41), 3), (190, .iinc 3 1, 3), (193, .goto (-55), 3), (196, .iinc 2 (-1), 3), (199, .goto (-196), 3), (202, .aload_n 0, 1), (203, .iload_n 1, 1), (204, .iconst 0, 1), (205, .invokevirtual 74, 3), (208, .return_, 1)]
set_option maxRecDepth 100000 in
theorem D_Model_decipher : DL_Model_decipher.all (fun q => decide (decode b_Model_decipher q.1 = .ok (q.2.1, q.2.2))) = true := by decide +kernel
def DL_Model_addKey : List (Nat × Instr × Nat) := [(0, .iconst 0, 1), (1, .istore_n 3, 1), (2, .iload_n 3, 1), (3, .bipush 16, 2), (5, .if_icmp .ge 50, 3), (8, .aload_n 0, 1), (9, .getfield 31, 3), (12, .iload_n 3, 1), (13, .aload_n 0, 1), (14, .getfield 31, 3), (17, .iload_n 3, 1), (18, .iaload, 1), (19, .aload_n 0, 1), (20, .getfield 7, 3), (23, .iload_n 1, 1), (24, .iconst 4, 1), (25, .iload_n 2, 1), (26, .imul, 1), (27, .iadd, 1), (28, .iload_n 3, 1), (29, .iconst 4, 1), (30, .idiv, 1), (31, .iadd, 1), (32, .iaload, 1), (33, .bipush 24, 2), (35, .bipush 8, 2), (37, .iload_n 3, 1), (38, .iconst 4, 1), (39, .irem, 1), (40, .imul, 1), (41, .isub, 1), (42, .ishr, 1), (43, .sipush 255, 3), (46, .iand, 1), (47, .ixor, 1), (48, .iastore, 1), (49, .iinc 3 1, 3), (52, .goto (-50), 3), (55, .return_, 1)]
set_option maxRecDepth 100000 in
theorem D_Model_addKey : DL_Model_addKey.all (fun q => decide (decode b_Model_addKey q.1 = .ok (q.2.1, q.2.2))) = true := by decide +kernel
def DL_Model_encipher : List (Nat × Instr × Nat) := [(0, .aload_n 0, 1), (1, .iload_n 1, 1), (2, .iconst 0, 1), (3, .invokevirtual 74, 3), (6, .iconst 1, 1), (7, .istore_n 2, 1), (8, .iload_n 2, 1), (9, .bipush 10, 2), (11, .if_icmp .gt 185, 3), (14, .iconst 0, 1), (15, .istore_n 3, 1), (16, .iload_n 3, 1), (17, .iconst 4, 1), (18, .if_icmp .ge 56, 3), (21, .iconst 0, 1), (22, .istore 4, 2), (24, .iload 4, 2), (26, .iconst 4, 1), (27, .if_icmp .ge 41, 3), (30, .aload_n 0, 1), (31, .getfield 34, 3), (34, .iconst 4, 1), (35, .iload_n 3, 1), (36, .imul, 1), (37, .iload 4, 2), (39, .iadd, 1), (40, .aload_n 0, 1), (41, .getfield 13, 3), (44, .aload_n 0, 1), (45, .getfield 31, 3), (48, .iconst 4, 1), (49, .iload_n 3, 1), (50, .iload 4, 2), (52, .iadd, 1), (53, .iconst 4, 1), (54, .irem, 1), (55, .imul, 1), (56, .iload 4, 2), (58, .iadd, 1), (59, .iaload, 1), (60, .iaload, 1), (61, .iastore, 1), (62, .iinc 4 1, 3), (65, .goto (-41), 3), (68, .iinc 3 1, 3), (71, .goto (-55), 3), (74, .iconst 0, 1), (75, .istore_n 3, 1), (76, .iload_n 3, 1), (77, .bipush 16, 2), (79, .if_icmp .ge 105, 3), (82, .iload_n 3, 1), (83, .iconst 4, 1), (84, .idiv, 1), (85, .iconst 4, 1), (86, .imul, 1), (87, .istore 4, 2), (89, .iload_n 3, 1), (90, .iconst 4, 1), (91, .irem, 1), (92, .istore 5, 2), (94, .aload_n 0, 1), (95, .getfield 31, 3), (98, .iload_n 3, 1), (99, .iload_n 2, 1), (100, .bipush 10, 2), (102, .if_icmp .ne 12, 3), (105, .aload_n 0, 1), (106, .getfield 34, 3), (109, .iload_n 3, 1), (110, .iaload, 1), (111, .goto 66, 3), (114, .aload_n 0, 1), (115, .getfield 34, 3), (118, .iload 4, 2), (120, .iload 5, 2), (122, .iadd, 1), (123, .iaload, 1), (124, .iconst 2, 1), (125, .invokestatic 68, 3), (128, .aload_n 0, 1), (129, .getfield 34, 3), (132, .iload 4, 2), (134, .iload 5, 2), (136, .iconst 1, 1), (137, .iadd, 1), (138, .iconst 4, 1), (139, .irem, 1), (140, .iadd, 1), (141, .iaload, 1), (142, .iconst 3, 1), (143, .invokestatic 68, 3), (146, .ixor, 1), (147, .aload_n 0, 1), (148, .getfield 34, 3), (151, .iload 4, 2), (153, .iload 5, 2), (155, .iconst 2, 1), (156, .iadd, 1), (157, .iconst 4, 1), (158, .irem, 1), (159, .iadd, 1), (160, .iaload, 1), (161, .ixor, 1), (162, .aload_n 0, 1), (163, .getfield 34, 3), (166, .iload 4, 2), (168, .iload 5, 2), (170, .iconst 3, 1), (171, .iadd, 1), (172, .iconst 4, 1), (173, .irem, 1), (174, .iadd, 1), (175, .iaload, 1), (176, .ixor, 1), (177, .iastore, 1), (178, .iinc 3 1, 3), (181, .goto (-105), 3), (184, .aload_n 0, 1), (185, .iload_n 1, 1), (186, .iload_n 2, 1), (187, .invokevirtual 74, 3), (190, .iinc 2 1, 3), (193, .goto (-185), 3), (196, .return_, 1)]
set_option maxRecDepth 100000 in
theorem D_Model_encipher : DL_Model_encipher.all (fun q => decide (decode b_Model_encipher q.1 = .ok (q.2.1, q.2.2))) = true := by decide +kernel
def DL_Model_show : List (Nat × Instr × Nat) := [(0, .aload_n 0, 1), (1, .aload_n 0, 1), (2, .getfield 100, 3), (5, .putfield 136, 3), (8, .iconst 0, 1), (9, .istore_n 1, 1), (10, .iload_n 1, 1), (11, .aload_n 0, 1), (12, .getfield 100, 3), (15, .if_icmp .ge 21, 3), (18, .aload_n 0, 1), (19, .getfield 22, 3), (22, .iload_n 1, 1), (23, .aload_n 0, 1), (24, .getfield 37, 3), (27, .iload_n 1, 1), (28, .iaload, 1), (29, .iastore, 1), (30, .iinc 1 1, 3), (33, .goto (-23), 3), (36, .aload_n 0, 1), (37, .getfield 136, 3), (40, .ireturn, 1)]
set_option maxRecDepth 100000 in
theorem D_Model_show : DL_Model_show.all (fun q => decide (decode b_Model_show q.1 = .ok (q.2.1, q.2.2))) = true := by decide +kernel
def DL_Model_mark : List (Nat × Instr × Nat) := [(0, .aload_n 0, 1), (1, .iconst 0, 1), (2, .putfield 64, 3), (5, .aload_n 0, 1), (6, .invokevirtual 139, 3), (9, .iload_n 1, 1), (10, .ifCond .eq 10, 3), (13, .aload_n 0, 1), (14, .invokevirtual 105, 3), (17, .goto 43, 3), (20, .aload_n 0, 1), (21, .aload_n 0, 1), (22, .getfield 100, 3), (25, .putfield 81, 3), (28, .iconst 0, 1), (29, .istore_n 2, 1), (30, .iload_n 2, 1), (31, .aload_n 0, 1), (32, .getfield 100, 3), (35, .if_icmp .ge 21, 3), (38, .aload_n 0, 1), (39, .getfield 40, 3), (42, .iload_n 2, 1), (43, .aload_n 0, 1), (44, .getfield 37, 3), (47, .iload_n 2, 1), (48, .iaload, 1), (49, .iastore, 1), (50, .iinc 2 1, 3), (53, .goto (-23), 3), (56, .aload_n 0, 1), (57, .invokevirtual 91, 3), (60, .aload_n 0, 1), (61, .bipush 16, 2), (63, .putfield 136, 3), (66, .iconst 0, 1), (67, .istore_n 2, 1), (68, .iload_n 2, 1), (69, .bipush 16, 2), (71, .if_icmp .ge 21, 3), (74, .aload_n 0, 1), (75, .getfield 22, 3), (78, .iload_n 2, 1), (79, .aload_n 0, 1), (80, .getfield 43, 3), (83, .iload_n 2, 1), (84, .iaload, 1), (85, .iastore, 1), (86, .iinc 2 1, 3), (89, .goto (-21), 3), (92, .return_, 1)]
set_option maxRecDepth 100000 in
theorem D_Model_mark : DL_Model_mark.all (fun q => decide (decode b_Model_mark q.1 = .ok (q.2.1, q.2.2))) = true := by decide +kernel
def DL_Model_markJointly : List (Nat × Instr × Nat) := [(0, .aload_n 0, 1), (1, .bipush 16, 2), (3, .putfield 81, 3), (6, .iconst 0, 1), (7, .istore_n 1, 1), (8, .iload_n 1, 1), (9, .bipush 16, 2), (11, .if_icmp .ge 16, 3), (14, .aload_n 0, 1), (15, .getfield 40, 3), (18, .iload_n 1, 1), (19, .iconst 0, 1), (20, .iastore, 1), (21, .iinc 1 1, 3), (24, .goto (-16), 3), (27, .aload_n 0, 1), (28, .invokevirtual 91, 3), (31, .iconst 0, 1), (32, .istore_n 1, 1), (33, .iload_n 1, 1), (34, .bipush 16, 2), (36, .if_icmp .ge 21, 3), (39, .aload_n 0, 1), (40, .getfield 46, 3), (43, .iload_n 1, 1), (44, .aload_n 0, 1), (45, .getfield 43, 3), (48, .iload_n 1, 1), (49, .iaload, 1), (50, .iastore, 1), (51, .iinc 1 1, 3), (54, .goto (-21), 3), (57, .iconst 0, 1), (58, .istore_n 1, 1), (59, .iload_n 1, 1), (60, .aload_n 0, 1), (61, .getfield 94, 3), (64, .if_icmp .ge 93, 3), (67, .aload_n 0, 1), (68, .invokevirtual 97, 3), (71, .aload_n 0, 1), (72, .aload_n 0, 1), (73, .getfield 25, 3), (76, .iload_n 1, 1), (77, .iaload, 1), (78, .putfield 81, 3), (81, .iconst 0, 1), (82, .istore_n 2, 1), (83, .iload_n 2, 1), (84, .aload_n 0, 1), (85, .getfield 81, 3), (88, .if_icmp .ge 26, 3), (91, .aload_n 0, 1), (92, .getfield 40, 3), (95, .iload_n 2, 1), (96, .aload_n 0, 1), (97, .getfield 28, 3), (100, .bipush 40, 2), (102, .iload_n 1, 1), (103, .imul, 1), (104, .iload_n 2, 1), (105, .iadd, 1), (106, .iaload, 1), (107, .iastore, 1), (108, .iinc 2 1, 3), (111, .goto (-28), 3), (114, .aload_n 0, 1), (115, .invokevirtual 91, 3), (118, .iconst 0, 1), (119, .istore_n 2, 1), (120, .iload_n 2, 1), (121, .bipush 16, 2), (123, .if_icmp .ge 28, 3), (126, .aload_n 0, 1), (127, .getfield 46, 3), (130, .iload_n 2, 1), (131, .aload_n 0, 1), (132, .getfield 46, 3), (135, .iload_n 2, 1), (136, .iaload, 1), (137, .aload_n 0, 1), (138, .getfield 43, 3), (141, .iload_n 2, 1), (142, .iaload, 1), (143, .ixor, 1), (144, .iastore, 1), (145, .iinc 2 1, 3), (148, .goto (-28), 3), (151, .iinc 1 1, 3), (154, .goto (-95), 3), (157, .aload_n 0, 1), (158, .aload_n 0, 1), (159, .getfield 100, 3), (162, .putfield 81, 3), (165, .iconst 0, 1), (166, .istore_n 1, 1), (167, .iload_n 1, 1), (168, .aload_n 0, 1), (169, .getfield 100, 3), (172, .if_icmp .ge 21, 3), (175, .aload_n 0, 1), (176, .getfield 40, 3), (179, .iload_n 1, 1), (180, .aload_n 0, 1), (181, .getfield 37, 3), (184, .iload_n 1, 1), (185, .iaload, 1), (186, .iastore, 1), (187, .iinc 1 1, 3), (190, .goto (-23), 3), (193, .aload_n 0, 1), (194, .getfield 100, 3), (197, .bipush 16, 2), (199, .if_icmp .ge 51, 3), (202, .aload_n 0, 1), (203, .getfield 100, 3), (206, .istore_n 1, 1), (207, .iload_n 1, 1), (208, .bipush 16, 2), (210, .if_icmp .ge 30, 3), (213, .aload_n 0, 1), (214, .getfield 40, 3), (217, .iload_n 1, 1), (218, .iload_n 1, 1), (219, .aload_n 0, 1), (220, .getfield 100, 3), (223, .if_icmp .ne 9, 3), (226, .sipush 128, 3), (229, .goto 4, 3), (232, .iconst 0, 1), (233, .iastore, 1), (234, .iinc 1 1, 3), (237, .goto (-30), 3), (240, .aload_n 0, 1), (241, .bipush 16, 2), (243, .putfield 81, 3), (246, .aload_n 0, 1), (247, .invokevirtual 97, 3), (250, .iconst 0, 1), (251, .istore_n 1, 1), (252, .iload_n 1, 1), (253, .bipush 16, 2), (255, .if_icmp .ge 44, 3), (258, .aload_n 0, 1), (259, .getfield 40, 3), (262, .aload_n 0, 1), (263, .getfield 81, 3), (266, .bipush 16, 2), (268, .isub, 1), (269, .iload_n 1, 1), (270, .iadd, 1), (271, .aload_n 0, 1), (272, .getfield 40, 3), (275, .aload_n 0, 1), (276, .getfield 81, 3), (279, .bipush 16, 2), (281, .isub, 1), (282, .iload_n 1, 1), (283, .iadd, 1), (284, .iaload, 1), (285, .aload_n 0, 1), (286, .getfield 46, 3), (289, .iload_n 1, 1), (290, .iaload, 1), (291, .ixor, 1), (292, .iastore, 1), (293, .iinc 1 1, 3), (296, .goto (-44), 3), (299, .aload_n 0, 1), (300, .invokevirtual 91, 3), (303, .return_, 1)]
set_option maxRecDepth 100000 in
theorem D_Model_markJointly : DL_Model_markJointly.all (fun q => decide (decode b_Model_markJointly q.1 = .ok (q.2.1, q.2.2))) = true := by decide +kernel
def DL_Model_markText : List (Nat × Instr × Nat) := [(0, .aload_n 0, 1), (1, .getfield 81, 3), (4, .ifCond .le 17, 3), (7, .aload_n 0, 1), (8, .getfield 81, 3), (11, .bipush 16, 2), (13, .irem, 1), (14, .ifCond .ne 7, 3), (17, .iconst 1, 1), (18, .goto 4, 3), (21, .iconst 0, 1), (22, .istore_n 1, 1), (23, .iload_n 1, 1), (24, .ifCond .eq 10, 3), (27, .aload_n 0, 1), (28, .getfield 81, 3), (31, .goto 15, 3), (34, .aload_n 0, 1), (35, .getfield 81, 3), (38, .bipush 16, 2), (40, .idiv, 1), (41, .iconst 1, 1), (42, .iadd, 1), (43, .bipush 16, 2), (45, .imul, 1), (46, .istore_n 2, 1), (47, .aload_n 0, 1), (48, .getfield 81, 3), (51, .istore_n 3, 1), (52, .iload_n 3, 1), (53, .iload_n 2, 1), (54, .if_icmp .ge 30, 3), (57, .aload_n 0, 1), (58, .getfield 40, 3), (61, .iload_n 3, 1), (62, .iload_n 3, 1), (63, .aload_n 0, 1), (64, .getfield 81, 3), (67, .if_icmp .ne 9, 3), (70, .sipush 128, 3), (73, .goto 4, 3), (76, .iconst 0, 1), (77, .iastore, 1), (78, .iinc 3 1, 3), (81, .goto (-29), 3), (84, .iconst 0, 1), (85, .istore_n 3, 1), (86, .iload_n 3, 1), (87, .bipush 16, 2), (89, .if_icmp .ge 16, 3), (92, .aload_n 0, 1), (93, .getfield 31, 3), (96, .iload_n 3, 1), (97, .iconst 0, 1), (98, .iastore, 1), (99, .iinc 3 1, 3), (102, .goto (-16), 3), (105, .aload_n 0, 1), (106, .iconst 0, 1), (107, .invokevirtual 84, 3), (110, .aload_n 0, 1), (111, .invokevirtual 88, 3), (114, .iload_n 1, 1), (115, .ifCond .ne 7, 3), (118, .aload_n 0, 1), (119, .invokevirtual 88, 3), (122, .iconst 0, 1), (123, .istore_n 3, 1), (124, .iload_n 3, 1), (125, .bipush 16, 2), (127, .if_icmp .ge 38, 3), (130, .aload_n 0, 1), (131, .getfield 40, 3), (134, .iload_n 2, 1), (135, .bipush 16, 2), (137, .isub, 1), (138, .iload_n 3, 1), (139, .iadd, 1), (140, .aload_n 0, 1), (141, .getfield 40, 3), (144, .iload_n 2, 1), (145, .bipush 16, 2), (147, .isub, 1), (148, .iload_n 3, 1), (149, .iadd, 1), (150, .iaload, 1), (151, .aload_n 0, 1), (152, .getfield 31, 3), (155, .iload_n 3, 1), (156, .iaload, 1), (157, .ixor, 1), (158, .iastore, 1), (159, .iinc 3 1, 3), (162, .goto (-38), 3), (165, .iconst 0, 1), (166, .istore_n 3, 1), (167, .iload_n 3, 1), (168, .bipush 16, 2), (170, .if_icmp .ge 16, 3), (173, .aload_n 0, 1), (174, .getfield 31, 3), (177, .iload_n 3, 1), (178, .iconst 0, 1), (179, .iastore, 1), (180, .iinc 3 1, 3), (183, .goto (-16), 3), (186, .iconst 0, 1), (187, .istore_n 3, 1), (188, .iload_n 3, 1), (189, .iload_n 2, 1), (190, .if_icmp .ge 54, 3), (193, .iconst 0, 1), (194, .istore 4, 2), (196, .iload 4, 2), (198, .bipush 16, 2), (200, .if_icmp .ge 33, 3), (203, .aload_n 0, 1), (204, .getfield 31, 3), (207, .iload 4, 2), (209, .aload_n 0, 1), (210, .getfield 31, 3), (213, .iload 4, 2), (215, .iaload, 1), (216, .aload_n 0, 1), (217, .getfield 40, 3), (220, .iload_n 3, 1), (221, .iload 4, 2), (223, .iadd, 1), (224, .iaload, 1), (225, .ixor, 1), (226, .iastore, 1), (227, .iinc 4 1, 3), (230, .goto (-34), 3), (233, .aload_n 0, 1), (234, .iconst 0, 1), (235, .invokevirtual 84, 3), (238, .iinc 3 16, 3), (241, .goto (-53), 3), (244, .iconst 0, 1), (245, .istore_n 3, 1), (246, .iload_n 3, 1), (247, .bipush 16, 2), (249, .if_icmp .ge 21, 3), (252, .aload_n 0, 1), (253, .getfield 43, 3), (256, .iload_n 3, 1), (257, .aload_n 0, 1), (258, .getfield 31, 3), (261, .iload_n 3, 1), (262, .iaload, 1), (263, .iastore, 1), (264, .iinc 3 1, 3), (267, .goto (-21), 3), (270, .return_, 1)]
set_option maxRecDepth 100000 in
theorem D_Model_markText : DL_Model_markText.all (fun q => decide (decode b_Model_markText q.1 = .ok (q.2.1, q.2.2))) = true := by decide +kernel
def DL_Model_doubleBlock : List (Nat × Instr × Nat) := [(0, .aload_n 0, 1), (1, .getfield 31, 3), (4, .iconst 0, 1), (5, .iaload, 1), (6, .bipush 7, 2), (8, .ishr, 1), (9, .istore_n 1, 1), (10, .iconst 0, 1), (11, .istore_n 2, 1), (12, .iload_n 2, 1), (13, .bipush 16, 2), (15, .if_icmp .ge 51, 3), (18, .aload_n 0, 1), (19, .getfield 31, 3), (22, .iload_n 2, 1), (23, .aload_n 0, 1), (24, .getfield 31, 3), (27, .iload_n 2, 1), (28, .iaload, 1), (29, .iconst 2, 1), (30, .imul, 1), (31, .sipush 255, 3), (34, .iand, 1), (35, .iload_n 2, 1), (36, .aload_n 0, 1), (37, .getfield 31, 3), (40, .iload_n 2, 1), (41, .bipush 15, 2), (43, .if_icmp .ge 9, 3), (46, .iload_n 2, 1), (47, .iconst 1, 1), (48, .iadd, 1), (49, .goto 5, 3), (52, .bipush 15, 2), (54, .iaload, 1), (55, .invokestatic 78, 3), (58, .iadd, 1), (59, .iastore, 1), (60, .iinc 2 1, 3), (63, .goto (-51), 3), (66, .aload_n 0, 1), (67, .getfield 31, 3), (70, .bipush 15, 2), (72, .iload_n 1, 1), (73, .iconst 1, 1), (74, .if_icmp .ne 17, 3), (77, .aload_n 0, 1), (78, .getfield 31, 3), (81, .bipush 15, 2), (83, .iaload, 1), (84, .sipush 135, 3), (87, .ixor, 1), (88, .goto 10, 3), (91, .aload_n 0, 1), (92, .getfield 31, 3), (95, .bipush 15, 2), (97, .iaload, 1), (98, .iastore, 1), (99, .return_, 1)]
set_option maxRecDepth 100000 in
theorem D_Model_doubleBlock : DL_Model_doubleBlock.all (fun q => decide (decode b_Model_doubleBlock q.1 = .ok (q.2.1, q.2.2))) = true := by decide +kernel
def DL_Model_bitBehind : List (Nat × Instr × Nat) := [(0, .iload_n 0, 1), (1, .bipush 15, 2), (3, .if_icmp .ge 10, 3), (6, .iload_n 1, 1), (7, .bipush 7, 2), (9, .ishr, 1), (10, .goto 4, 3), (13, .iconst 0, 1), (14, .ireturn, 1)]
set_option maxRecDepth 100000 in
theorem D_Model_bitBehind : DL_Model_bitBehind.all (fun q => decide (decode b_Model_bitBehind q.1 = .ok (q.2.1, q.2.2))) = true := by decide +kernel
def DL_Model_doubleSum : List (Nat × Instr × Nat) := [(0, .aload_n 0, 1), (1, .getfield 46, 3), (4, .iconst 0, 1), (5, .iaload, 1), (6, .bipush 7, 2), (8, .ishr, 1), (9, .istore_n 1, 1), (10, .iconst 0, 1), (11, .istore_n 2, 1), (12, .iload_n 2, 1), (13, .bipush 16, 2), (15, .if_icmp .ge 51, 3), (18, .aload_n 0, 1), (19, .getfield 46, 3), (22, .iload_n 2, 1), (23, .aload_n 0, 1), (24, .getfield 46, 3), (27, .iload_n 2, 1), (28, .iaload, 1), (29, .iconst 2, 1), (30, .imul, 1), (31, .sipush 255, 3), (34, .iand, 1), (35, .iload_n 2, 1), (36, .aload_n 0, 1), (37, .getfield 46, 3), (40, .iload_n 2, 1), (41, .bipush 15, 2), (43, .if_icmp .ge 9, 3), (46, .iload_n 2, 1), (47, .iconst 1, 1), (48, .iadd, 1), (49, .goto 5, 3), (52, .bipush 15, 2), (54, .iaload, 1), (55, .invokestatic 78, 3), (58, .iadd, 1), (59, .iastore, 1), (60, .iinc 2 1, 3), (63, .goto (-51), 3), (66, .aload_n 0, 1), (67, .getfield 46, 3), (70, .bipush 15, 2), (72, .iload_n 1, 1), (73, .iconst 1, 1), (74, .if_icmp .ne 17, 3), (77, .aload_n 0, 1), (78, .getfield 46, 3), (81, .bipush 15, 2), (83, .iaload, 1), (84, .sipush 135, 3), (87, .ixor, 1), (88, .goto 10, 3), (91, .aload_n 0, 1), (92, .getfield 46, 3), (95, .bipush 15, 2), (97, .iaload, 1), (98, .iastore, 1), (99, .return_, 1)]
set_option maxRecDepth 100000 in
theorem D_Model_doubleSum : DL_Model_doubleSum.all (fun q => decide (decode b_Model_doubleSum q.1 = .ok (q.2.1, q.2.2))) = true := by decide +kernel
def DL_Model_seal : List (Nat × Instr × Nat) := [(0, .iload_n 1, 1), (1, .ifCond .ne 20, 3), (4, .aload_n 0, 1), (5, .getfield 133, 3), (8, .bipush 64, 2), (10, .if_icmp .gt 7, 3), (13, .iconst 1, 1), (14, .goto 70, 3), (17, .iconst 0, 1), (18, .goto 66, 3), (21, .iload_n 1, 1), (22, .iconst 1, 1), (23, .if_icmp .ne 39, 3), (26, .aload_n 0, 1), (27, .getfield 133, 3), (30, .bipush 8, 2), (32, .irem, 1), (33, .ifCond .ne 25, 3), (36, .aload_n 0, 1), (37, .getfield 133, 3), (40, .bipush 16, 2), (42, .if_icmp .lt 16, 3), (45, .aload_n 0, 1), (46, .getfield 133, 3), (49, .bipush 64, 2), (51, .if_icmp .gt 7, 3), (54, .iconst 1, 1), (55, .goto 29, 3), (58, .iconst 0, 1), (59, .goto 25, 3), (62, .aload_n 0, 1), (63, .getfield 133, 3), (66, .iconst 1, 1), (67, .if_icmp .lt 16, 3), (70, .aload_n 0, 1), (71, .getfield 133, 3), (74, .bipush 64, 2), (76, .if_icmp .gt 7, 3), (79, .iconst 1, 1), (80, .goto 4, 3), (83, .iconst 0, 1), (84, .istore_n 2, 1), (85, .aload_n 0, 1), (86, .iload_n 1, 1), (87, .ifCond .lt 8, 3), (90, .iload_n 1, 1), (91, .iconst 2, 1), (92, .if_icmp .le 7, 3), (95, .iconst 1, 1), (96, .goto 12, 3), (99, .iload_n 2, 1), (100, .ifCond .ne 7, 3), (103, .iconst 2, 1), (104, .goto 4, 3), (107, .iconst 0, 1), (108, .putfield 64, 3), (111, .aload_n 0, 1), (112, .getfield 64, 3), (115, .ifCond .le 5, 3), (118, .iconst 0, 1), (119, .ireturn, 1), (120, .aload_n 0, 1), (121, .invokevirtual 139, 3), (124, .iload_n 1, 1), (125, .ifCond .ne 10, 3), (128, .aload_n 0, 1), (129, .invokevirtual 146, 3), (132, .goto 29, 3), (135, .iload_n 1, 1), (136, .iconst 1, 1), (137, .if_icmp .ne 20, 3), (140, .aload_n 0, 1), (141, .sipush 166, 3), (144, .sipush 166, 3), (147, .invokevirtual 117, 3), (150, .aload_n 0, 1), (151, .invokevirtual 124, 3), (154, .goto 7, 3), (157, .aload_n 0, 1), (158, .invokevirtual 149, 3), (161, .aload_n 0, 1), (162, .invokevirtual 142, 3), (165, .ireturn, 1)]
set_option maxRecDepth 100000 in
theorem D_Model_seal : DL_Model_seal.all (fun q => decide (decode b_Model_seal q.1 = .ok (q.2.1, q.2.2))) = true := by decide +kernel
def DL_Model_sealMarked : List (Nat × Instr × Nat) := [(0, .aload_n 0, 1), (1, .invokevirtual 105, 3), (4, .iconst 0, 1), (5, .istore_n 1, 1), (6, .iload_n 1, 1), (7, .bipush 16, 2), (9, .if_icmp .ge 21, 3), (12, .aload_n 0, 1), (13, .getfield 49, 3), (16, .iload_n 1, 1), (17, .aload_n 0, 1), (18, .getfield 43, 3), (21, .iload_n 1, 1), (22, .iaload, 1), (23, .iastore, 1), (24, .iinc 1 1, 3), (27, .goto (-21), 3), (30, .aload_n 0, 1), (31, .invokevirtual 108, 3), (34, .aload_n 0, 1), (35, .getfield 100, 3), (38, .bipush 15, 2), (40, .iadd, 1), (41, .istore_n 1, 1), (42, .iload_n 1, 1), (43, .ifCond .lt 39, 3), (46, .aload_n 0, 1), (47, .getfield 37, 3), (50, .iload_n 1, 1), (51, .iload_n 1, 1), (52, .bipush 16, 2), (54, .if_icmp .ge 12, 3), (57, .aload_n 0, 1), (58, .getfield 49, 3), (61, .iload_n 1, 1), (62, .iaload, 1), (63, .goto 12, 3), (66, .aload_n 0, 1), (67, .getfield 37, 3), (70, .iload_n 1, 1), (71, .bipush 16, 2), (73, .isub, 1), (74, .iaload, 1), (75, .iastore, 1), (76, .iinc 1 (-1), 3), (79, .goto (-37), 3), (82, .aload_n 0, 1), (83, .aload_n 0, 1), (84, .getfield 100, 3), (87, .bipush 16, 2), (89, .iadd, 1), (90, .putfield 100, 3), (93, .return_, 1)]
set_option maxRecDepth 100000 in
theorem D_Model_sealMarked : DL_Model_sealMarked.all (fun q => decide (decode b_Model_sealMarked q.1 = .ok (q.2.1, q.2.2))) = true := by decide +kernel
def DL_Model_cross : List (Nat × Instr × Nat) := [(0, .lconst 0, 1), (1, .lstore_n 1, 1), (2, .lconst 0, 1), (3, .lstore_n 3, 1), (4, .iconst 0, 1), (5, .istore 5, 2), (7, .iload 5, 2), (9, .bipush 8, 2), (11, .if_icmp .ge 67, 3), (14, .lload_n 1, 1), (15, .bipush 8, 2), (17, .lshl, 1), (18, .aload_n 0, 1), (19, .getfield 49, 3), (22, .iload 5, 2), (24, .iaload, 1), (25, .i2l, 1), (26, .lor, 1), (27, .lstore_n 1, 1), (28, .lload_n 3, 1), (29, .bipush 8, 2), (31, .lshl, 1), (32, .iload 5, 2), (34, .ifCond .eq 9, 3), (37, .iload 5, 2), (39, .iconst 4, 1), (40, .if_icmp .ne 19, 3), (43, .aload_n 0, 1), (44, .getfield 49, 3), (47, .bipush 8, 2), (49, .iload 5, 2), (51, .iadd, 1), (52, .iaload, 1), (53, .bipush 127, 2), (55, .iand, 1), (56, .goto 13, 3), (59, .aload_n 0, 1), (60, .getfield 49, 3), (63, .bipush 8, 2), (65, .iload 5, 2), (67, .iadd, 1), (68, .iaload, 1), (69, .i2l, 1), (70, .lor, 1), (71, .lstore_n 3, 1), (72, .iinc 5 1, 3), (75, .goto (-68), 3), (78, .iconst 0, 1), (79, .istore 5, 2), (81, .iload 5, 2), (83, .aload_n 0, 1), (84, .getfield 100, 3), (87, .if_icmp .ge 150, 3), (90, .iconst 0, 1), (91, .istore 6, 2), (93, .iload 6, 2), (95, .bipush 8, 2), (97, .if_icmp .ge 56, 3), (100, .aload_n 0, 1), (101, .getfield 31, 3), (104, .iload 6, 2), (106, .lload_n 1, 1), (107, .bipush 56, 2), (109, .bipush 8, 2), (111, .iload 6, 2), (113, .imul, 1), (114, .isub, 1), (115, .lshr, 1), (116, .ldc2_w 103, 3), (119, .land, 1), (120, .l2i, 1), (121, .iastore, 1), (122, .aload_n 0, 1), (123, .getfield 31, 3), (126, .bipush 8, 2), (128, .iload 6, 2), (130, .iadd, 1), (131, .lload_n 3, 1), (132, .bipush 56, 2), (134, .bipush 8, 2), (136, .iload 6, 2), (138, .imul, 1), (139, .isub, 1), (140, .lshr, 1), (141, .ldc2_w 103, 3), (144, .land, 1), (145, .l2i, 1), (146, .iastore, 1), (147, .iinc 6 1, 3), (150, .goto (-57), 3), (153, .aload_n 0, 1), (154, .bipush 44, 2), (156, .invokevirtual 84, 3), (159, .iload 5, 2), (161, .istore 6, 2), (163, .iload 6, 2), (165, .iload 5, 2), (167, .bipush 16, 2), (169, .iadd, 1), (170, .if_icmp .ge 43, 3), (173, .iload 6, 2), (175, .aload_n 0, 1), (176, .getfield 100, 3), (179, .if_icmp .ge 34, 3), (182, .aload_n 0, 1), (183, .getfield 37, 3), (186, .iload 6, 2), (188, .aload_n 0, 1), (189, .getfield 37, 3), (192, .iload 6, 2), (194, .iaload, 1), (195, .aload_n 0, 1), (196, .getfield 31, 3), (199, .iload 6, 2), (201, .iload 5, 2), (203, .isub, 1), (204, .iaload, 1), (205, .ixor, 1), (206, .iastore, 1), (207, .iinc 6 1, 3), (210, .goto (-47), 3), (213, .lload_n 3, 1), (214, .lconst 1, 1), (215, .ladd, 1), (216, .lstore_n 3, 1), (217, .lload_n 3, 1), (218, .lconst 0, 1), (219, .lcmp, 1), (220, .ifCond .ne 9, 3), (223, .lload_n 1, 1), (224, .lconst 1, 1), (225, .ladd, 1), (226, .goto 4, 3), (229, .lload_n 1, 1), (230, .lstore_n 1, 1), (231, .iinc 5 16, 3), (234, .goto (-153), 3), (237, .return_, 1)]
set_option maxRecDepth 100000 in
theorem D_Model_cross : DL_Model_cross.all (fun q => decide (decode b_Model_cross q.1 = .ok (q.2.1, q.2.2))) = true := by decide +kernel
def DL_Model_front : List (Nat × Instr × Nat) := [(0, .aload_n 0, 1), (1, .getfield 100, 3), (4, .bipush 7, 2), (6, .iadd, 1), (7, .istore_n 3, 1), (8, .iload_n 3, 1), (9, .bipush 8, 2), (11, .if_icmp .lt 24, 3), (14, .aload_n 0, 1), (15, .getfield 37, 3), (18, .iload_n 3, 1), (19, .aload_n 0, 1), (20, .getfield 37, 3), (23, .iload_n 3, 1), (24, .bipush 8, 2), (26, .isub, 1), (27, .iaload, 1), (28, .iastore, 1), (29, .iinc 3 (-1), 3), (32, .goto (-24), 3), (35, .iconst 0, 1), (36, .istore_n 3, 1), (37, .iload_n 3, 1), (38, .bipush 8, 2), (40, .if_icmp .ge 30, 3), (43, .aload_n 0, 1), (44, .getfield 37, 3), (47, .iload_n 3, 1), (48, .iload_n 3, 1), (49, .iconst 1, 1), (50, .if_icmp .eq 8, 3), (53, .iload_n 3, 1), (54, .iconst 2, 1), (55, .if_icmp .ne 7, 3), (58, .iload_n 2, 1), (59, .goto 4, 3), (62, .iload_n 1, 1), (63, .iastore, 1), (64, .iinc 3 1, 3), (67, .goto (-30), 3), (70, .aload_n 0, 1), (71, .aload_n 0, 1), (72, .getfield 100, 3), (75, .bipush 8, 2), (77, .iadd, 1), (78, .putfield 100, 3), (81, .return_, 1)]
set_option maxRecDepth 100000 in
theorem D_Model_front : DL_Model_front.all (fun q => decide (decode b_Model_front q.1 = .ok (q.2.1, q.2.2))) = true := by decide +kernel
def DL_Model_wrap : List (Nat × Instr × Nat) := [(0, .aload_n 0, 1), (1, .getfield 100, 3), (4, .bipush 8, 2), (6, .idiv, 1), (7, .iconst 1, 1), (8, .isub, 1), (9, .istore_n 1, 1), (10, .iconst 0, 1), (11, .istore_n 2, 1), (12, .iload_n 2, 1), (13, .bipush 6, 2), (15, .if_icmp .ge 140, 3), (18, .iconst 1, 1), (19, .istore_n 3, 1), (20, .iload_n 3, 1), (21, .iload_n 1, 1), (22, .if_icmp .gt 127, 3), (25, .iconst 0, 1), (26, .istore 4, 2), (28, .iload 4, 2), (30, .bipush 8, 2), (32, .if_icmp .ge 45, 3), (35, .aload_n 0, 1), (36, .getfield 31, 3), (39, .iload 4, 2), (41, .aload_n 0, 1), (42, .getfield 37, 3), (45, .iload 4, 2), (47, .iaload, 1), (48, .iastore, 1), (49, .aload_n 0, 1), (50, .getfield 31, 3), (53, .bipush 8, 2), (55, .iload 4, 2), (57, .iadd, 1), (58, .aload_n 0, 1), (59, .getfield 37, 3), (62, .bipush 8, 2), (64, .iload_n 3, 1), (65, .imul, 1), (66, .iload 4, 2), (68, .iadd, 1), (69, .iaload, 1), (70, .iastore, 1), (71, .iinc 4 1, 3), (74, .goto (-46), 3), (77, .aload_n 0, 1), (78, .iconst 0, 1), (79, .invokevirtual 84, 3), (82, .aload_n 0, 1), (83, .iload_n 1, 1), (84, .iload_n 2, 1), (85, .imul, 1), (86, .iload_n 3, 1), (87, .iadd, 1), (88, .invokevirtual 111, 3), (91, .iconst 0, 1), (92, .istore 4, 2), (94, .iload 4, 2), (96, .bipush 8, 2), (98, .if_icmp .ge 45, 3), (101, .aload_n 0, 1), (102, .getfield 37, 3), (105, .iload 4, 2), (107, .aload_n 0, 1), (108, .getfield 31, 3), (111, .iload 4, 2), (113, .iaload, 1), (114, .iastore, 1), (115, .aload_n 0, 1), (116, .getfield 37, 3), (119, .bipush 8, 2), (121, .iload_n 3, 1), (122, .imul, 1), (123, .iload 4, 2), (125, .iadd, 1), (126, .aload_n 0, 1), (127, .getfield 31, 3), (130, .bipush 8, 2), (132, .iload 4, 2), (134, .iadd, 1), (135, .iaload, 1), (136, .iastore, 1), (137, .iinc 4 1, 3), (140, .goto (-46), 3), (143, .iinc 3 1, 3), (146, .goto (-126), 3), (149, .iinc 2 1, 3), (152, .goto (-140), 3), (155, .return_, 1)]
set_option maxRecDepth 100000 in
theorem D_Model_wrap : DL_Model_wrap.all (fun q => decide (decode b_Model_wrap q.1 = .ok (q.2.1, q.2.2))) = true := by decide +kernel
def DL_Model_number : List (Nat × Instr × Nat) := [(0, .aload_n 0, 1), (1, .getfield 31, 3), (4, .bipush 7, 2), (6, .aload_n 0, 1), (7, .getfield 31, 3), (10, .bipush 7, 2), (12, .iaload, 1), (13, .iload_n 1, 1), (14, .ixor, 1), (15, .iastore, 1), (16, .return_, 1)]
set_option maxRecDepth 100000 in
theorem D_Model_number : DL_Model_number.all (fun q => decide (decode b_Model_number q.1 = .ok (q.2.1, q.2.2))) = true := by decide +kernel
def DL_Model_sealPadded : List (Nat × Instr × Nat) := [(0, .aload_n 0, 1), (1, .getfield 100, 3), (4, .istore_n 1, 1), (5, .aload_n 0, 1), (6, .getfield 100, 3), (9, .bipush 8, 2), (11, .irem, 1), (12, .ifCond .eq 26, 3), (15, .aload_n 0, 1), (16, .getfield 37, 3), (19, .aload_n 0, 1), (20, .getfield 100, 3), (23, .iconst 0, 1), (24, .iastore, 1), (25, .aload_n 0, 1), (26, .dup, 1), (27, .getfield 100, 3), (30, .iconst 1, 1), (31, .iadd, 1), (32, .putfield 100, 3), (35, .goto (-30), 3), (38, .aload_n 0, 1), (39, .sipush 166, 3), (42, .bipush 89, 2), (44, .invokevirtual 117, 3), (47, .iconst 4, 1), (48, .istore_n 2, 1), (49, .iload_n 2, 1), (50, .bipush 8, 2), (52, .if_icmp .ge 26, 3), (55, .aload_n 0, 1), (56, .getfield 37, 3), (59, .iload_n 2, 1), (60, .iload_n 2, 1), (61, .bipush 7, 2), (63, .if_icmp .ne 7, 3), (66, .iload_n 1, 1), (67, .goto 4, 3), (70, .iconst 0, 1), (71, .iastore, 1), (72, .iinc 2 1, 3), (75, .goto (-26), 3), (78, .aload_n 0, 1), (79, .getfield 100, 3), (82, .bipush 16, 2), (84, .if_icmp .ne 11, 3), (87, .aload_n 0, 1), (88, .iconst 0, 1), (89, .invokevirtual 120, 3), (92, .goto 7, 3), (95, .aload_n 0, 1), (96, .invokevirtual 124, 3), (99, .return_, 1)]
set_option maxRecDepth 100000 in
theorem D_Model_sealPadded : DL_Model_sealPadded.all (fun q => decide (decode b_Model_sealPadded q.1 = .ok (q.2.1, q.2.2))) = true := by decide +kernel
def DL_Model_open : List (Nat × Instr × Nat) := [(0, .iload_n 1, 1), (1, .ifCond .ne 29, 3), (4, .aload_n 0, 1), (5, .getfield 133, 3), (8, .bipush 16, 2), (10, .if_icmp .lt 16, 3), (13, .aload_n 0, 1), (14, .getfield 133, 3), (17, .bipush 80, 2), (19, .if_icmp .gt 7, 3), (22, .iconst 1, 1), (23, .goto 50, 3), (26, .iconst 0, 1), (27, .goto 46, 3), (30, .aload_n 0, 1), (31, .getfield 133, 3), (34, .bipush 8, 2), (36, .irem, 1), (37, .ifCond .ne 35, 3), (40, .aload_n 0, 1), (41, .getfield 133, 3), (44, .iload_n 1, 1), (45, .iconst 1, 1), (46, .if_icmp .ne 8, 3), (49, .bipush 24, 2), (51, .goto 5, 3), (54, .bipush 16, 2), (56, .if_icmp .lt 16, 3), (59, .aload_n 0, 1), (60, .getfield 133, 3), (63, .bipush 72, 2), (65, .if_icmp .gt 7, 3), (68, .iconst 1, 1), (69, .goto 4, 3), (72, .iconst 0, 1), (73, .istore_n 2, 1), (74, .aload_n 0, 1), (75, .iload_n 1, 1), (76, .ifCond .lt 8, 3), (79, .iload_n 1, 1), (80, .iconst 2, 1), (81, .if_icmp .le 7, 3), (84, .iconst 1, 1), (85, .goto 12, 3), (88, .iload_n 2, 1), (89, .ifCond .ne 7, 3), (92, .iconst 2, 1), (93, .goto 4, 3), (96, .iconst 0, 1), (97, .putfield 64, 3), (100, .aload_n 0, 1), (101, .getfield 64, 3), (104, .ifCond .le 5, 3), (107, .iconst 0, 1), (108, .ireturn, 1), (109, .aload_n 0, 1), (110, .invokevirtual 139, 3), (113, .iload_n 1, 1), (114, .ifCond .ne 10, 3), (117, .aload_n 0, 1), (118, .invokevirtual 152, 3), (121, .goto 19, 3), (124, .iload_n 1, 1), (125, .iconst 1, 1), (126, .if_icmp .ne 10, 3), (129, .aload_n 0, 1), (130, .invokevirtual 156, 3), (133, .goto 7, 3), (136, .aload_n 0, 1), (137, .invokevirtual 159, 3), (140, .istore_n 3, 1), (141, .iload_n 3, 1), (142, .ifCond .eq 10, 3), (145, .aload_n 0, 1), (146, .invokevirtual 142, 3), (149, .goto 4, 3), (152, .iconst (-1), 1), (153, .ireturn, 1)]
set_option maxRecDepth 100000 in
theorem D_Model_open : DL_Model_open.all (fun q => decide (decode b_Model_open q.1 = .ok (q.2.1, q.2.2))) = true := by decide +kernel
def DL_Model_openMarked : List (Nat × Instr × Nat) := [(0, .iconst 0, 1), (1, .istore_n 1, 1), (2, .iload_n 1, 1), (3, .bipush 16, 2), (5, .if_icmp .ge 21, 3), (8, .aload_n 0, 1), (9, .getfield 49, 3), (12, .iload_n 1, 1), (13, .aload_n 0, 1), (14, .getfield 37, 3), (17, .iload_n 1, 1), (18, .iaload, 1), (19, .iastore, 1), (20, .iinc 1 1, 3), (23, .goto (-21), 3), (26, .aload_n 0, 1), (27, .aload_n 0, 1), (28, .getfield 100, 3), (31, .bipush 16, 2), (33, .isub, 1), (34, .putfield 100, 3), (37, .iconst 0, 1), (38, .istore_n 1, 1), (39, .iload_n 1, 1), (40, .aload_n 0, 1), (41, .getfield 100, 3), (44, .if_icmp .ge 24, 3), (47, .aload_n 0, 1), (48, .getfield 37, 3), (51, .iload_n 1, 1), (52, .aload_n 0, 1), (53, .getfield 37, 3), (56, .iload_n 1, 1), (57, .bipush 16, 2), (59, .iadd, 1), (60, .iaload, 1), (61, .iastore, 1), (62, .iinc 1 1, 3), (65, .goto (-26), 3), (68, .aload_n 0, 1), (69, .invokevirtual 108, 3), (72, .aload_n 0, 1), (73, .invokevirtual 105, 3), (76, .iconst 1, 1), (77, .istore_n 1, 1), (78, .iconst 0, 1), (79, .istore_n 2, 1), (80, .iload_n 2, 1), (81, .bipush 16, 2), (83, .if_icmp .ge 34, 3), (86, .iload_n 1, 1), (87, .ifCond .eq 22, 3), (90, .aload_n 0, 1), (91, .getfield 43, 3), (94, .iload_n 2, 1), (95, .iaload, 1), (96, .aload_n 0, 1), (97, .getfield 49, 3), (100, .iload_n 2, 1), (101, .iaload, 1), (102, .if_icmp .ne 7, 3), (105, .iconst 1, 1), (106, .goto 4, 3), (109, .iconst 0, 1), (110, .istore_n 1, 1), (111, .iinc 2 1, 3), (114, .goto (-34), 3), (117, .iload_n 1, 1), (118, .ireturn, 1)]
set_option maxRecDepth 100000 in
theorem D_Model_openMarked : DL_Model_openMarked.all (fun q => decide (decode b_Model_openMarked q.1 = .ok (q.2.1, q.2.2))) = true := by decide +kernel
def DL_Model_openWrapped : List (Nat × Instr × Nat) := [(0, .aload_n 0, 1), (1, .invokevirtual 127, 3), (4, .iconst 1, 1), (5, .istore_n 1, 1), (6, .iconst 0, 1), (7, .istore_n 2, 1), (8, .iload_n 2, 1), (9, .bipush 8, 2), (11, .if_icmp .ge 31, 3), (14, .iload_n 1, 1), (15, .ifCond .eq 19, 3), (18, .aload_n 0, 1), (19, .getfield 37, 3), (22, .iload_n 2, 1), (23, .iaload, 1), (24, .sipush 166, 3), (27, .if_icmp .ne 7, 3), (30, .iconst 1, 1), (31, .goto 4, 3), (34, .iconst 0, 1), (35, .istore_n 1, 1), (36, .iinc 2 1, 3), (39, .goto (-31), 3), (42, .aload_n 0, 1), (43, .invokevirtual 130, 3), (46, .iload_n 1, 1), (47, .ireturn, 1)]
set_option maxRecDepth 100000 in
theorem D_Model_openWrapped : DL_Model_openWrapped.all (fun q => decide (decode b_Model_openWrapped q.1 = .ok (q.2.1, q.2.2))) = true := by decide +kernel
def DL_Model_unwrap : List (Nat × Instr × Nat) := [(0, .aload_n 0, 1), (1, .getfield 100, 3), (4, .bipush 8, 2), (6, .idiv, 1), (7, .iconst 1, 1), (8, .isub, 1), (9, .istore_n 1, 1), (10, .iconst 5, 1), (11, .istore_n 2, 1), (12, .iload_n 2, 1), (13, .ifCond .lt 140, 3), (16, .iload_n 1, 1), (17, .istore_n 3, 1), (18, .iload_n 3, 1), (19, .iconst 1, 1), (20, .if_icmp .lt 127, 3), (23, .iconst 0, 1), (24, .istore 4, 2), (26, .iload 4, 2), (28, .bipush 8, 2), (30, .if_icmp .ge 45, 3), (33, .aload_n 0, 1), (34, .getfield 31, 3), (37, .iload 4, 2), (39, .aload_n 0, 1), (40, .getfield 37, 3), (43, .iload 4, 2), (45, .iaload, 1), (46, .iastore, 1), (47, .aload_n 0, 1), (48, .getfield 31, 3), (51, .bipush 8, 2), (53, .iload 4, 2), (55, .iadd, 1), (56, .aload_n 0, 1), (57, .getfield 37, 3), (60, .bipush 8, 2), (62, .iload_n 3, 1), (63, .imul, 1), (64, .iload 4, 2), (66, .iadd, 1), (67, .iaload, 1), (68, .iastore, 1), (69, .iinc 4 1, 3), (72, .goto (-46), 3), (75, .aload_n 0, 1), (76, .iload_n 1, 1), (77, .iload_n 2, 1), (78, .imul, 1), (79, .iload_n 3, 1), (80, .iadd, 1), (81, .invokevirtual 111, 3), (84, .aload_n 0, 1), (85, .iconst 0, 1), (86, .invokevirtual 114, 3), (89, .iconst 0, 1), (90, .istore 4, 2), (92, .iload 4, 2), (94, .bipush 8, 2), (96, .if_icmp .ge 45, 3), (99, .aload_n 0, 1), (100, .getfield 37, 3), (103, .iload 4, 2), (105, .aload_n 0, 1), (106, .getfield 31, 3), (109, .iload 4, 2), (111, .iaload, 1), (112, .iastore, 1), (113, .aload_n 0, 1), (114, .getfield 37, 3), (117, .bipush 8, 2), (119, .iload_n 3, 1), (120, .imul, 1), (121, .iload 4, 2), (123, .iadd, 1), (124, .aload_n 0, 1), (125, .getfield 31, 3), (128, .bipush 8, 2), (130, .iload 4, 2), (132, .iadd, 1), (133, .iaload, 1), (134, .iastore, 1), (135, .iinc 4 1, 3), (138, .goto (-46), 3), (141, .iinc 3 (-1), 3), (144, .goto (-126), 3), (147, .iinc 2 (-1), 3), (150, .goto (-138), 3), (153, .return_, 1)]
set_option maxRecDepth 100000 in
theorem D_Model_unwrap : DL_Model_unwrap.all (fun q => decide (decode b_Model_unwrap q.1 = .ok (q.2.1, q.2.2))) = true := by decide +kernel
def DL_Model_dropFront : List (Nat × Instr × Nat) := [(0, .aload_n 0, 1), (1, .aload_n 0, 1), (2, .getfield 100, 3), (5, .bipush 8, 2), (7, .isub, 1), (8, .putfield 100, 3), (11, .iconst 0, 1), (12, .istore_n 1, 1), (13, .iload_n 1, 1), (14, .aload_n 0, 1), (15, .getfield 100, 3), (18, .if_icmp .ge 24, 3), (21, .aload_n 0, 1), (22, .getfield 37, 3), (25, .iload_n 1, 1), (26, .aload_n 0, 1), (27, .getfield 37, 3), (30, .iload_n 1, 1), (31, .bipush 8, 2), (33, .iadd, 1), (34, .iaload, 1), (35, .iastore, 1), (36, .iinc 1 1, 3), (39, .goto (-26), 3), (42, .return_, 1)]
set_option maxRecDepth 100000 in
theorem D_Model_dropFront : DL_Model_dropFront.all (fun q => decide (decode b_Model_dropFront q.1 = .ok (q.2.1, q.2.2))) = true := by decide +kernel
def DL_Model_openPadded : List (Nat × Instr × Nat) := [(0, .aload_n 0, 1), (1, .getfield 100, 3), (4, .bipush 16, 2), (6, .if_icmp .ne 11, 3), (9, .aload_n 0, 1), (10, .iconst 1, 1), (11, .invokevirtual 120, 3), (14, .goto 7, 3), (17, .aload_n 0, 1), (18, .invokevirtual 127, 3), (21, .aload_n 0, 1), (22, .getfield 37, 3), (25, .iconst 0, 1), (26, .iaload, 1), (27, .sipush 166, 3), (30, .if_icmp .ne 69, 3), (33, .aload_n 0, 1), (34, .getfield 37, 3), (37, .iconst 1, 1), (38, .iaload, 1), (39, .bipush 89, 2), (41, .if_icmp .ne 58, 3), (44, .aload_n 0, 1), (45, .getfield 37, 3), (48, .iconst 2, 1), (49, .iaload, 1), (50, .bipush 89, 2), (52, .if_icmp .ne 47, 3), (55, .aload_n 0, 1), (56, .getfield 37, 3), (59, .iconst 3, 1), (60, .iaload, 1), (61, .sipush 166, 3), (64, .if_icmp .ne 35, 3), (67, .aload_n 0, 1), (68, .getfield 37, 3), (71, .iconst 4, 1), (72, .iaload, 1), (73, .ifCond .ne 26, 3), (76, .aload_n 0, 1), (77, .getfield 37, 3), (80, .iconst 5, 1), (81, .iaload, 1), (82, .ifCond .ne 17, 3), (85, .aload_n 0, 1), (86, .getfield 37, 3), (89, .bipush 6, 2), (91, .iaload, 1), (92, .ifCond .ne 7, 3), (95, .iconst 1, 1), (96, .goto 4, 3), (99, .iconst 0, 1), (100, .istore_n 1, 1), (101, .aload_n 0, 1), (102, .getfield 37, 3), (105, .bipush 7, 2), (107, .iaload, 1), (108, .istore_n 2, 1), (109, .aload_n 0, 1), (110, .invokevirtual 130, 3), (113, .iload_n 1, 1), (114, .ifCond .eq 26, 3), (117, .iload_n 2, 1), (118, .aload_n 0, 1), (119, .getfield 100, 3), (122, .bipush 8, 2), (124, .isub, 1), (125, .if_icmp .le 15, 3), (128, .iload_n 2, 1), (129, .aload_n 0, 1), (130, .getfield 100, 3), (133, .if_icmp .gt 7, 3), (136, .iconst 1, 1), (137, .goto 4, 3), (140, .iconst 0, 1), (141, .istore_n 1, 1), (142, .iconst 0, 1), (143, .istore_n 3, 1), (144, .iload_n 3, 1), (145, .aload_n 0, 1), (146, .getfield 100, 3), (149, .if_icmp .ge 33, 3), (152, .iload_n 1, 1), (153, .ifCond .eq 21, 3), (156, .iload_n 3, 1), (157, .iload_n 2, 1), (158, .if_icmp .lt 12, 3), (161, .aload_n 0, 1), (162, .getfield 37, 3), (165, .iload_n 3, 1), (166, .iaload, 1), (167, .ifCond .ne 7, 3), (170, .iconst 1, 1), (171, .goto 4, 3), (174, .iconst 0, 1), (175, .istore_n 1, 1), (176, .iinc 3 1, 3), (179, .goto (-35), 3), (182, .aload_n 0, 1), (183, .iload_n 1, 1), (184, .ifCond .eq 7, 3), (187, .iload_n 2, 1), (188, .goto 7, 3), (191, .aload_n 0, 1), (192, .getfield 100, 3), (195, .putfield 100, 3), (198, .iload_n 1, 1), (199, .ireturn, 1)]
set_option maxRecDepth 100000 in
theorem D_Model_openPadded : DL_Model_openPadded.all (fun q => decide (decode b_Model_openPadded q.1 = .ok (q.2.1, q.2.2))) = true := by decide +kernel
def DL_Model_size : List (Nat × Instr × Nat) := [(0, .aload_n 0, 1), (1, .iconst 0, 1), (2, .putfield 64, 3), (5, .aload_n 0, 1), (6, .getfield 136, 3), (9, .ireturn, 1)]
set_option maxRecDepth 100000 in
theorem D_Model_size : DL_Model_size.all (fun q => decide (decode b_Model_size q.1 = .ok (q.2.1, q.2.2))) = true := by decide +kernel
def DL_Model_at : List (Nat × Instr × Nat) := [(0, .aload_n 0, 1), (1, .iload_n 1, 1), (2, .ifCond .lt 11, 3), (5, .iload_n 1, 1), (6, .aload_n 0, 1), (7, .getfield 136, 3), (10, .if_icmp .lt 7, 3), (13, .iconst 1, 1), (14, .goto 4, 3), (17, .iconst 0, 1), (18, .putfield 64, 3), (21, .aload_n 0, 1), (22, .getfield 64, 3), (25, .ifCond .le 7, 3), (28, .iconst 0, 1), (29, .goto 9, 3), (32, .aload_n 0, 1), (33, .getfield 22, 3), (36, .iload_n 1, 1), (37, .iaload, 1), (38, .ireturn, 1)]
set_option maxRecDepth 100000 in
theorem D_Model_at : DL_Model_at.all (fun q => decide (decode b_Model_at q.1 = .ok (q.2.1, q.2.2))) = true := by decide +kernel
def DL_Model_take : List (Nat × Instr × Nat) := [(0, .aload_n 0, 1), (1, .iconst 0, 1), (2, .putfield 64, 3), (5, .aload_n 0, 1), (6, .aload_n 0, 1), (7, .getfield 136, 3), (10, .putfield 133, 3), (13, .iconst 0, 1), (14, .istore_n 1, 1), (15, .iload_n 1, 1), (16, .aload_n 0, 1), (17, .getfield 136, 3), (20, .if_icmp .ge 21, 3), (23, .aload_n 0, 1), (24, .getfield 19, 3), (27, .iload_n 1, 1), (28, .aload_n 0, 1), (29, .getfield 22, 3), (32, .iload_n 1, 1), (33, .iaload, 1), (34, .iastore, 1), (35, .iinc 1 1, 3), (38, .goto (-23), 3), (41, .aload_n 0, 1), (42, .getfield 133, 3), (45, .ireturn, 1)]
set_option maxRecDepth 100000 in
theorem D_Model_take : DL_Model_take.all (fun q => decide (decode b_Model_take q.1 = .ok (q.2.1, q.2.2))) = true := by decide +kernel
theorem cb_6 : (Int8.ofInt 6).toInt32 = nI 6 := by decide +kernel
theorem cb_7 : (Int8.ofInt 7).toInt32 = nI 7 := by decide +kernel
theorem cb_8 : (Int8.ofInt 8).toInt32 = nI 8 := by decide +kernel
theorem cb_9 : (Int8.ofInt 9).toInt32 = nI 9 := by decide +kernel
theorem cb_10 : (Int8.ofInt 10).toInt32 = nI 10 := by decide +kernel
theorem cb_11 : (Int8.ofInt 11).toInt32 = nI 11 := by decide +kernel
theorem cb_12 : (Int8.ofInt 12).toInt32 = nI 12 := by decide +kernel
theorem cb_13 : (Int8.ofInt 13).toInt32 = nI 13 := by decide +kernel
theorem cb_14 : (Int8.ofInt 14).toInt32 = nI 14 := by decide +kernel
theorem cb_15 : (Int8.ofInt 15).toInt32 = nI 15 := by decide +kernel
theorem cb_16 : (Int8.ofInt 16).toInt32 = nI 16 := by decide +kernel
theorem cb_24 : (Int8.ofInt 24).toInt32 = nI 24 := by decide +kernel
theorem cb_40 : (Int8.ofInt 40).toInt32 = nI 40 := by decide +kernel
theorem cb_44 : (Int8.ofInt 44).toInt32 = nI 44 := by decide +kernel
theorem cb_56 : (Int8.ofInt 56).toInt32 = nI 56 := by decide +kernel
theorem cb_64 : (Int8.ofInt 64).toInt32 = nI 64 := by decide +kernel
theorem cb_72 : (Int8.ofInt 72).toInt32 = nI 72 := by decide +kernel
theorem cb_80 : (Int8.ofInt 80).toInt32 = nI 80 := by decide +kernel
theorem cb_88 : (Int8.ofInt 88).toInt32 = nI 88 := by decide +kernel
theorem cb_89 : (Int8.ofInt 89).toInt32 = nI 89 := by decide +kernel
theorem cb_99 : (Int8.ofInt 99).toInt32 = nI 99 := by decide +kernel
theorem cb_112 : (Int8.ofInt 112).toInt32 = nI 112 := by decide +kernel
theorem cb_127 : (Int8.ofInt 127).toInt32 = nI 127 := by decide +kernel
theorem ci_m1 : Int32.ofInt (-1) = (-1) := by decide +kernel
theorem ci_0 : Int32.ofInt 0 = nI 0 := by decide +kernel
theorem ci_1 : Int32.ofInt 1 = nI 1 := by decide +kernel
theorem ci_2 : Int32.ofInt 2 = nI 2 := by decide +kernel
theorem ci_3 : Int32.ofInt 3 = nI 3 := by decide +kernel
theorem ci_4 : Int32.ofInt 4 = nI 4 := by decide +kernel
theorem ci_5 : Int32.ofInt 5 = nI 5 := by decide +kernel
theorem cs_128 : (Int16.ofInt 128).toInt32 = nI 128 := by decide +kernel
theorem cs_135 : (Int16.ofInt 135).toInt32 = nI 135 := by decide +kernel
theorem cs_166 : (Int16.ofInt 166).toInt32 = nI 166 := by decide +kernel
theorem cs_176 : (Int16.ofInt 176).toInt32 = nI 176 := by decide +kernel
theorem cs_200 : (Int16.ofInt 200).toInt32 = nI 200 := by decide +kernel
theorem cs_255 : (Int16.ofInt 255).toInt32 = nI 255 := by decide +kernel
theorem cs_256 : (Int16.ofInt 256).toInt32 = nI 256 := by decide +kernel
theorem cs_283 : (Int16.ofInt 283).toInt32 = nI 283 := by decide +kernel
end
section
theorem m_Desk_init : mI M_Desk_init 0 := ⟨k_im_Desk_init, rfl, k_in_Desk, k_cd_Desk_init, ⟨by decide, by decide, by decide +kernel⟩, rfl⟩
theorem m_Tables_init : mI M_Tables_init 0 := ⟨k_im_Tables_init, rfl, k_in_Tables, k_cd_Tables_init, ⟨by decide, by decide, by decide +kernel⟩, rfl⟩
theorem m_Tables_twice : mS M_Tables_twice 1 := ⟨k_st_Tables_twice, k_in_Tables, k_cd_Tables_twice, ⟨by decide, by decide, by decide +kernel⟩⟩
theorem m_Tables_enter : mV M_Tables_enter 2 := ⟨k_im_Tables_enter, p_se_Tables_enter, k_in_Tables, k_cd_Tables_enter, ⟨by decide, by decide, by decide +kernel⟩⟩
theorem m_Tables_turnLeft : mS M_Tables_turnLeft 2 := ⟨k_st_Tables_turnLeft, k_in_Tables, k_cd_Tables_turnLeft, ⟨by decide, by decide, by decide +kernel⟩⟩
theorem m_Cipher_init : mI M_Cipher_init 1 := ⟨k_im_Cipher_init, rfl, k_in_Cipher, k_cd_Cipher_init, ⟨by decide, by decide, by decide +kernel⟩, rfl⟩
theorem m_Cipher_use : mV M_Cipher_use 4 := ⟨k_im_Cipher_use, k_se_Cipher_use_Cipher_use, k_in_Cipher, k_cd_Cipher_use, ⟨by decide, by decide, by decide +kernel⟩⟩
theorem m_Desk_byteOf : mS M_Desk_byteOf 2 := ⟨k_st_Desk_byteOf, k_in_Desk, k_cd_Desk_byteOf, ⟨by decide, by decide, by decide +kernel⟩⟩
theorem m_Cipher_expandFrom : mV M_Cipher_expandFrom 2 := ⟨k_im_Cipher_expandFrom, p_se_Cipher_expandFrom, k_in_Cipher, k_cd_Cipher_expandFrom, ⟨by decide, by decide, by decide +kernel⟩⟩
theorem m_Wrapping_init : mI M_Wrapping_init 1 := ⟨k_im_Wrapping_init, rfl, k_in_Wrapping, k_cd_Wrapping_init, ⟨by decide, by decide, by decide +kernel⟩, rfl⟩
theorem m_Marker_init : mI M_Marker_init 1 := ⟨k_im_Marker_init, rfl, k_in_Marker, k_cd_Marker_init, ⟨by decide, by decide, by decide +kernel⟩, rfl⟩
theorem m_Row_init : mI M_Row_init 0 := ⟨k_im_Row_init, rfl, k_in_Row, k_cd_Row_init, ⟨by decide, by decide, by decide +kernel⟩, rfl⟩
theorem m_Items_init : mI M_Items_init 0 := ⟨k_im_Items_init, rfl, k_in_Items, k_cd_Items_init, ⟨by decide, by decide, by decide +kernel⟩, rfl⟩
theorem m_Marked_init : mI M_Marked_init 3 := ⟨k_im_Marked_init, rfl, k_in_Marked, k_cd_Marked_init, ⟨by decide, by decide, by decide +kernel⟩, rfl⟩
theorem m_Way_init : mI M_Way_init 0 := ⟨k_im_Way_init, rfl, k_in_Way, k_cd_Way_init, ⟨by decide, by decide, by decide +kernel⟩, rfl⟩
theorem m_Wrapped_init : mI M_Wrapped_init 1 := ⟨k_im_Wrapped_init, rfl, k_in_Wrapped, k_cd_Wrapped_init, ⟨by decide, by decide, by decide +kernel⟩, rfl⟩
theorem m_Padded_init : mI M_Padded_init 2 := ⟨k_im_Padded_init, rfl, k_in_Padded, k_cd_Padded_init, ⟨by decide, by decide, by decide +kernel⟩, rfl⟩
theorem m_Desk_drop : mV M_Desk_drop 0 := ⟨k_im_Desk_drop, k_se_Desk_drop_Desk_drop, k_in_Desk, k_cd_Desk_drop, ⟨by decide, by decide, by decide +kernel⟩⟩
theorem m_Row_clear : mV M_Row_clear 0 := ⟨k_im_Row_clear, k_se_Row_clear_Row_clear, k_in_Row, k_cd_Row_clear, ⟨by decide, by decide, by decide +kernel⟩⟩
theorem m_Desk_forget : mV M_Desk_forget 0 := ⟨k_im_Desk_forget, k_se_Desk_forget_Desk_forget, k_in_Desk, k_cd_Desk_forget, ⟨by decide, by decide, by decide +kernel⟩⟩
theorem m_Desk_mark : mV M_Desk_mark 1 := ⟨k_im_Desk_mark, k_se_Desk_mark_Desk_mark, k_in_Desk, k_cd_Desk_mark, ⟨by decide, by decide, by decide +kernel⟩⟩
theorem m_Marker_join : mV M_Marker_join 3 := ⟨k_im_Marker_join, k_se_Marker_join_Marker_join, k_in_Marker, k_cd_Marker_join, ⟨by decide, by decide, by decide +kernel⟩⟩
theorem m_Row_addZeros : mV M_Row_addZeros 1 := ⟨k_im_Row_addZeros, k_se_Row_addZeros_Row_addZeros, k_in_Row, k_cd_Row_addZeros, ⟨by decide, by decide, by decide +kernel⟩⟩
theorem m_Row_add : mV M_Row_add 1 := ⟨k_im_Row_add, k_se_Row_add_Row_add, k_in_Row, k_cd_Row_add, ⟨by decide, by decide, by decide +kernel⟩⟩
theorem m_Marker_markRow : mV M_Marker_markRow 2 := ⟨k_im_Marker_markRow, k_se_Marker_markRow_Marker_markRow, k_in_Marker, k_cd_Marker_markRow, ⟨by decide, by decide, by decide +kernel⟩⟩
theorem m_Arrays_fill : mS M_Arrays_fill 4 := ⟨k_st_Arrays_fill, k_in_Arrays, k_cd_Arrays_fill, ⟨by decide, by decide, by decide +kernel⟩⟩
theorem m_Arrays_rangeCheck : mS M_Arrays_rangeCheck 3 := ⟨k_st_Arrays_rangeCheck, k_in_Arrays, k_cd_Arrays_rangeCheck, ⟨by decide, by decide, by decide +kernel⟩⟩
theorem m_Marker_addTo : mS M_Marker_addTo 4 := ⟨k_st_Marker_addTo, k_in_Marker, k_cd_Marker_addTo, ⟨by decide, by decide, by decide +kernel⟩⟩
theorem m_Cipher_turn : mV M_Cipher_turn 1 := ⟨k_im_Cipher_turn, k_se_Cipher_turn_Cipher_turn, k_in_Cipher, k_cd_Cipher_turn, ⟨by decide, by decide, by decide +kernel⟩⟩
theorem m_Cipher_addRoundKey : mV M_Cipher_addRoundKey 2 := ⟨k_im_Cipher_addRoundKey, p_se_Cipher_addRoundKey, k_in_Cipher, k_cd_Cipher_addRoundKey, ⟨by decide, by decide, by decide +kernel⟩⟩
theorem m_Cipher_substitute : mV M_Cipher_substitute 1 := ⟨k_im_Cipher_substitute, p_se_Cipher_substitute, k_in_Cipher, k_cd_Cipher_substitute, ⟨by decide, by decide, by decide +kernel⟩⟩
theorem m_Cipher_placeBefore : mS M_Cipher_placeBefore 1 := ⟨k_st_Cipher_placeBefore, k_in_Cipher, k_cd_Cipher_placeBefore, ⟨by decide, by decide, by decide +kernel⟩⟩
theorem m_Cipher_mix : mS M_Cipher_mix 1 := ⟨k_st_Cipher_mix, k_in_Cipher, k_cd_Cipher_mix, ⟨by decide, by decide, by decide +kernel⟩⟩
theorem m_Arrays_fill1 : mS M_Arrays_fill1 2 := ⟨k_st_Arrays_fill1, k_in_Arrays, k_cd_Arrays_fill1, ⟨by decide, by decide, by decide +kernel⟩⟩
theorem m_Marker_doubleBlock : mS M_Marker_doubleBlock 1 := ⟨k_st_Marker_doubleBlock, k_in_Marker, k_cd_Marker_doubleBlock, ⟨by decide, by decide, by decide +kernel⟩⟩
theorem m_Row_become : mV M_Row_become 1 := ⟨k_im_Row_become, k_se_Row_become_Row_become, k_in_Row, k_cd_Row_become, ⟨by decide, by decide, by decide +kernel⟩⟩
theorem m_Row_becomeRest : mV M_Row_becomeRest 2 := ⟨k_im_Row_becomeRest, k_se_Row_becomeRest_Row_becomeRest, k_in_Row, k_cd_Row_becomeRest, ⟨by decide, by decide, by decide +kernel⟩⟩
theorem m_Marker_addToEnd : mS M_Marker_addToEnd 2 := ⟨k_st_Marker_addToEnd, k_in_Marker, k_cd_Marker_addToEnd, ⟨by decide, by decide, by decide +kernel⟩⟩
theorem m_Desk_size : mV M_Desk_size 0 := ⟨k_im_Desk_size, k_se_Desk_size_Desk_size, k_in_Desk, k_cd_Desk_size, ⟨by decide, by decide, by decide +kernel⟩⟩
theorem m_Desk_take : mV M_Desk_take 0 := ⟨k_im_Desk_take, k_se_Desk_take_Desk_take, k_in_Desk, k_cd_Desk_take, ⟨by decide, by decide, by decide +kernel⟩⟩
theorem m_Desk_key : mV M_Desk_key 5 := ⟨k_im_Desk_key, k_se_Desk_key_Desk_key, k_in_Desk, k_cd_Desk_key, ⟨by decide, by decide, by decide +kernel⟩⟩
theorem m_Throwable_init : mI M_Throwable_init 0 := ⟨k_im_Throwable_init, rfl, k_in_Throwable, k_cd_Throwable_init, ⟨by decide, by decide, by decide +kernel⟩, rfl⟩
theorem m_IndexOutOfBoundsException_init : mI M_IndexOutOfBoundsException_init 1 := ⟨k_im_IndexOutOfBoundsException_init, rfl, k_in_IndexOutOfBoundsException, k_cd_IndexOutOfBoundsException_init, ⟨by decide, by decide, by decide +kernel⟩, rfl⟩
theorem m_RuntimeException_init : mI M_RuntimeException_init 1 := ⟨k_im_RuntimeException_init, rfl, k_in_RuntimeException, k_cd_RuntimeException_init, ⟨by decide, by decide, by decide +kernel⟩, rfl⟩
theorem m_Exception_init : mI M_Exception_init 1 := ⟨k_im_Exception_init, rfl, k_in_Exception, k_cd_Exception_init, ⟨by decide, by decide, by decide +kernel⟩, rfl⟩
theorem m_Throwable_init1 : mI M_Throwable_init1 1 := ⟨k_im_Throwable_init1, rfl, k_in_Throwable, k_cd_Throwable_init1, ⟨by decide, by decide, by decide +kernel⟩, rfl⟩
theorem m_Desk_feed : mV M_Desk_feed 2 := ⟨k_im_Desk_feed, k_se_Desk_feed_Desk_feed, k_in_Desk, k_cd_Desk_feed, ⟨by decide, by decide, by decide +kernel⟩⟩
theorem m_IllegalArgumentException_init : mI M_IllegalArgumentException_init 1 := ⟨k_im_IllegalArgumentException_init, rfl, k_in_IllegalArgumentException, k_cd_IllegalArgumentException_init, ⟨by decide, by decide, by decide +kernel⟩, rfl⟩
theorem m_IllegalStateException_init : mI M_IllegalStateException_init 1 := ⟨k_im_IllegalStateException_init, rfl, k_in_IllegalStateException, k_cd_IllegalStateException_init, ⟨by decide, by decide, by decide +kernel⟩, rfl⟩
theorem m_Desk_alter : mV M_Desk_alter 2 := ⟨k_im_Desk_alter, k_se_Desk_alter_Desk_alter, k_in_Desk, k_cd_Desk_alter, ⟨by decide, by decide, by decide +kernel⟩⟩
theorem m_Row_has : mV M_Row_has 1 := ⟨k_im_Row_has, k_se_Row_has_Row_has, k_in_Row, k_cd_Row_has, ⟨by decide, by decide, by decide +kernel⟩⟩
theorem m_Desk_item : mV M_Desk_item 0 := ⟨k_im_Desk_item, k_se_Desk_item_Desk_item, k_in_Desk, k_cd_Desk_item, ⟨by decide, by decide, by decide +kernel⟩⟩
theorem m_Desk_cipher : mV M_Desk_cipher 1 := ⟨k_im_Desk_cipher, k_se_Desk_cipher_Desk_cipher, k_in_Desk, k_cd_Desk_cipher, ⟨by decide, by decide, by decide +kernel⟩⟩
theorem m_Cipher_turnBack : mV M_Cipher_turnBack 1 := ⟨k_im_Cipher_turnBack, k_se_Cipher_turnBack_Cipher_turnBack, k_in_Cipher, k_cd_Cipher_turnBack, ⟨by decide, by decide, by decide +kernel⟩⟩
theorem m_Cipher_unmix : mS M_Cipher_unmix 1 := ⟨k_st_Cipher_unmix, k_in_Cipher, k_cd_Cipher_unmix, ⟨by decide, by decide, by decide +kernel⟩⟩
theorem m_Cipher_substituteBack : mV M_Cipher_substituteBack 1 := ⟨k_im_Cipher_substituteBack, p_se_Cipher_substituteBack, k_in_Cipher, k_cd_Cipher_substituteBack, ⟨by decide, by decide, by decide +kernel⟩⟩
theorem m_Desk_seal : mV M_Desk_seal 1 := ⟨k_im_Desk_seal, k_se_Desk_seal_Desk_seal, k_in_Desk, k_cd_Desk_seal, ⟨by decide, by decide, by decide +kernel⟩⟩
theorem u_Marked_canLock : mU M_Marked_canLock 1 := ⟨k_im_Marked_canLock, k_in_Marked, k_cd_Marked_canLock, ⟨by decide, by decide, by decide +kernel⟩⟩
theorem u_Padded_canLock : mU M_Padded_canLock 1 := ⟨k_im_Padded_canLock, k_in_Padded, k_cd_Padded_canLock, ⟨by decide, by decide, by decide +kernel⟩⟩
theorem u_Wrapped_canLock : mU M_Wrapped_canLock 1 := ⟨k_im_Wrapped_canLock, k_in_Wrapped, k_cd_Wrapped_canLock, ⟨by decide, by decide, by decide +kernel⟩⟩
theorem m_Wrapped_canLock : mV M_Wrapped_canLock 1 := ⟨k_im_Wrapped_canLock, k_se_Wrapped_canLock_Wrapped_canLock, k_in_Wrapped, k_cd_Wrapped_canLock, ⟨by decide, by decide, by decide +kernel⟩⟩
theorem u_Marked_lock : mU M_Marked_lock 2 := ⟨k_im_Marked_lock, k_in_Marked, k_cd_Marked_lock, ⟨by decide, by decide, by decide +kernel⟩⟩
theorem m_Row_addAll : mV M_Row_addAll 2 := ⟨k_im_Row_addAll, k_se_Row_addAll_Row_addAll, k_in_Row, k_cd_Row_addAll, ⟨by decide, by decide, by decide +kernel⟩⟩
theorem m_Marked_addStream : mV M_Marked_addStream 3 := ⟨k_im_Marked_addStream, p_se_Marked_addStream, k_in_Marked, k_cd_Marked_addStream, ⟨by decide, by decide, by decide +kernel⟩⟩
theorem m_Marked_nextBlock : mV M_Marked_nextBlock 0 := ⟨k_im_Marked_nextBlock, p_se_Marked_nextBlock, k_in_Marked, k_cd_Marked_nextBlock, ⟨by decide, by decide, by decide +kernel⟩⟩
theorem u_Padded_lock : mU M_Padded_lock 2 := ⟨k_im_Padded_lock, k_in_Padded, k_cd_Padded_lock, ⟨by decide, by decide, by decide +kernel⟩⟩
theorem m_Padded_addWord : mS M_Padded_addWord 2 := ⟨k_st_Padded_addWord, k_in_Padded, k_cd_Padded_addWord, ⟨by decide, by decide, by decide +kernel⟩⟩
theorem m_Wrapping_wind : mV M_Wrapping_wind 1 := ⟨k_im_Wrapping_wind, k_se_Wrapping_wind_Wrapping_wind, k_in_Wrapping, k_cd_Wrapping_wind, ⟨by decide, by decide, by decide +kernel⟩⟩
theorem m_Wrapping_lift : mV M_Wrapping_lift 2 := ⟨k_im_Wrapping_lift, p_se_Wrapping_lift, k_in_Wrapping, k_cd_Wrapping_lift, ⟨by decide, by decide, by decide +kernel⟩⟩
theorem m_Wrapping_addNumber : mV M_Wrapping_addNumber 1 := ⟨k_im_Wrapping_addNumber, p_se_Wrapping_addNumber, k_in_Wrapping, k_cd_Wrapping_addNumber, ⟨by decide, by decide, by decide +kernel⟩⟩
theorem m_Wrapping_lay : mV M_Wrapping_lay 2 := ⟨k_im_Wrapping_lay, p_se_Wrapping_lay, k_in_Wrapping, k_cd_Wrapping_lay, ⟨by decide, by decide, by decide +kernel⟩⟩
theorem u_Wrapped_lock : mU M_Wrapped_lock 2 := ⟨k_im_Wrapped_lock, k_in_Wrapped, k_cd_Wrapped_lock, ⟨by decide, by decide, by decide +kernel⟩⟩
theorem m_Desk_open : mV M_Desk_open 1 := ⟨k_im_Desk_open, k_se_Desk_open_Desk_open, k_in_Desk, k_cd_Desk_open, ⟨by decide, by decide, by decide +kernel⟩⟩
theorem u_Marked_canUnlock : mU M_Marked_canUnlock 1 := ⟨k_im_Marked_canUnlock, k_in_Marked, k_cd_Marked_canUnlock, ⟨by decide, by decide, by decide +kernel⟩⟩
theorem u_Padded_canUnlock : mU M_Padded_canUnlock 1 := ⟨k_im_Padded_canUnlock, k_in_Padded, k_cd_Padded_canUnlock, ⟨by decide, by decide, by decide +kernel⟩⟩
theorem u_Wrapped_canUnlock : mU M_Wrapped_canUnlock 1 := ⟨k_im_Wrapped_canUnlock, k_in_Wrapped, k_cd_Wrapped_canUnlock, ⟨by decide, by decide, by decide +kernel⟩⟩
theorem u_Marked_unlock : mU M_Marked_unlock 2 := ⟨k_im_Marked_unlock, k_in_Marked, k_cd_Marked_unlock, ⟨by decide, by decide, by decide +kernel⟩⟩
theorem u_Padded_unlock : mU M_Padded_unlock 2 := ⟨k_im_Padded_unlock, k_in_Padded, k_cd_Padded_unlock, ⟨by decide, by decide, by decide +kernel⟩⟩
theorem m_Wrapping_unwind : mV M_Wrapping_unwind 1 := ⟨k_im_Wrapping_unwind, k_se_Wrapping_unwind_Wrapping_unwind, k_in_Wrapping, k_cd_Wrapping_unwind, ⟨by decide, by decide, by decide +kernel⟩⟩
theorem m_Padded_wordAt : mS M_Padded_wordAt 2 := ⟨k_st_Padded_wordAt, k_in_Padded, k_cd_Padded_wordAt, ⟨by decide, by decide, by decide +kernel⟩⟩
theorem m_Padded_cutZeros : mS M_Padded_cutZeros 2 := ⟨k_st_Padded_cutZeros, k_in_Padded, k_cd_Padded_cutZeros, ⟨by decide, by decide, by decide +kernel⟩⟩
theorem u_Wrapped_unlock : mU M_Wrapped_unlock 2 := ⟨k_im_Wrapped_unlock, k_in_Wrapped, k_cd_Wrapped_unlock, ⟨by decide, by decide, by decide +kernel⟩⟩
theorem m_Desk_at : mV M_Desk_at 1 := ⟨k_im_Desk_at, k_se_Desk_at_Desk_at, k_in_Desk, k_cd_Desk_at, ⟨by decide, by decide, by decide +kernel⟩⟩
theorem m_Model_init : mI M_Model_init 0 := ⟨k_im_Model_init, rfl, k_in_Model, k_cd_Model_init, ⟨by decide, by decide, by decide +kernel⟩, rfl⟩
theorem m_Model_power : mS M_Model_power 1 := ⟨k_st_Model_power, k_in_Model, k_cd_Model_power, ⟨by decide, by decide, by decide +kernel⟩⟩
theorem m_Model_product : mS M_Model_product 2 := ⟨k_st_Model_product, k_in_Model, k_cd_Model_product, ⟨by decide, by decide, by decide +kernel⟩⟩
theorem m_Model_around : mS M_Model_around 2 := ⟨k_st_Model_around, k_in_Model, k_cd_Model_around, ⟨by decide, by decide, by decide +kernel⟩⟩
theorem m_Model_expand : mV M_Model_expand 5 := ⟨k_im_Model_expand, p_se_Model_expand, k_in_Model, k_cd_Model_expand, ⟨by decide, by decide, by decide +kernel⟩⟩
theorem m_Model_changed : mV M_Model_changed 1 := ⟨k_im_Model_changed, p_se_Model_changed, k_in_Model, k_cd_Model_changed, ⟨by decide, by decide, by decide +kernel⟩⟩
theorem m_Model_thrown : mV M_Model_thrown 0 := ⟨k_im_Model_thrown, k_se_Model_thrown_Model_thrown, k_in_Model, k_cd_Model_thrown, ⟨by decide, by decide, by decide +kernel⟩⟩
theorem m_Model_key : mV M_Model_key 5 := ⟨k_im_Model_key, k_se_Model_key_Model_key, k_in_Model, k_cd_Model_key, ⟨by decide, by decide, by decide +kernel⟩⟩
theorem m_Model_feed : mV M_Model_feed 2 := ⟨k_im_Model_feed, k_se_Model_feed_Model_feed, k_in_Model, k_cd_Model_feed, ⟨by decide, by decide, by decide +kernel⟩⟩
theorem m_Model_drop : mV M_Model_drop 0 := ⟨k_im_Model_drop, k_se_Model_drop_Model_drop, k_in_Model, k_cd_Model_drop, ⟨by decide, by decide, by decide +kernel⟩⟩
theorem m_Model_alter : mV M_Model_alter 2 := ⟨k_im_Model_alter, k_se_Model_alter_Model_alter, k_in_Model, k_cd_Model_alter, ⟨by decide, by decide, by decide +kernel⟩⟩
theorem m_Model_item : mV M_Model_item 0 := ⟨k_im_Model_item, k_se_Model_item_Model_item, k_in_Model, k_cd_Model_item, ⟨by decide, by decide, by decide +kernel⟩⟩
theorem m_Model_forget : mV M_Model_forget 0 := ⟨k_im_Model_forget, k_se_Model_forget_Model_forget, k_in_Model, k_cd_Model_forget, ⟨by decide, by decide, by decide +kernel⟩⟩
theorem m_Model_cipher : mV M_Model_cipher 1 := ⟨k_im_Model_cipher, k_se_Model_cipher_Model_cipher, k_in_Model, k_cd_Model_cipher, ⟨by decide, by decide, by decide +kernel⟩⟩
theorem m_Model_begin : mV M_Model_begin 0 := ⟨k_im_Model_begin, p_se_Model_begin, k_in_Model, k_cd_Model_begin, ⟨by decide, by decide, by decide +kernel⟩⟩
theorem m_Model_single : mV M_Model_single 1 := ⟨k_im_Model_single, p_se_Model_single, k_in_Model, k_cd_Model_single, ⟨by decide, by decide, by decide +kernel⟩⟩
theorem m_Model_decipher : mV M_Model_decipher 1 := ⟨k_im_Model_decipher, p_se_Model_decipher, k_in_Model, k_cd_Model_decipher, ⟨by decide, by decide, by decide +kernel⟩⟩
theorem m_Model_addKey : mV M_Model_addKey 2 := ⟨k_im_Model_addKey, p_se_Model_addKey, k_in_Model, k_cd_Model_addKey, ⟨by decide, by decide, by decide +kernel⟩⟩
theorem m_Model_encipher : mV M_Model_encipher 1 := ⟨k_im_Model_encipher, p_se_Model_encipher, k_in_Model, k_cd_Model_encipher, ⟨by decide, by decide, by decide +kernel⟩⟩
theorem m_Model_show : mV M_Model_show 0 := ⟨k_im_Model_show, p_se_Model_show, k_in_Model, k_cd_Model_show, ⟨by decide, by decide, by decide +kernel⟩⟩
theorem m_Model_mark : mV M_Model_mark 1 := ⟨k_im_Model_mark, k_se_Model_mark_Model_mark, k_in_Model, k_cd_Model_mark, ⟨by decide, by decide, by decide +kernel⟩⟩
theorem m_Model_markJointly : mV M_Model_markJointly 0 := ⟨k_im_Model_markJointly, p_se_Model_markJointly, k_in_Model, k_cd_Model_markJointly, ⟨by decide, by decide, by decide +kernel⟩⟩
theorem m_Model_markText : mV M_Model_markText 0 := ⟨k_im_Model_markText, p_se_Model_markText, k_in_Model, k_cd_Model_markText, ⟨by decide, by decide, by decide +kernel⟩⟩
theorem m_Model_doubleBlock : mV M_Model_doubleBlock 0 := ⟨k_im_Model_doubleBlock, p_se_Model_doubleBlock, k_in_Model, k_cd_Model_doubleBlock, ⟨by decide, by decide, by decide +kernel⟩⟩
theorem m_Model_bitBehind : mS M_Model_bitBehind 2 := ⟨k_st_Model_bitBehind, k_in_Model, k_cd_Model_bitBehind, ⟨by decide, by decide, by decide +kernel⟩⟩
theorem m_Model_doubleSum : mV M_Model_doubleSum 0 := ⟨k_im_Model_doubleSum, p_se_Model_doubleSum, k_in_Model, k_cd_Model_doubleSum, ⟨by decide, by decide, by decide +kernel⟩⟩
theorem m_Model_seal : mV M_Model_seal 1 := ⟨k_im_Model_seal, k_se_Model_seal_Model_seal, k_in_Model, k_cd_Model_seal, ⟨by decide, by decide, by decide +kernel⟩⟩
theorem m_Model_sealMarked : mV M_Model_sealMarked 0 := ⟨k_im_Model_sealMarked, p_se_Model_sealMarked, k_in_Model, k_cd_Model_sealMarked, ⟨by decide, by decide, by decide +kernel⟩⟩
theorem m_Model_cross : mV M_Model_cross 0 := ⟨k_im_Model_cross, p_se_Model_cross, k_in_Model, k_cd_Model_cross, ⟨by decide, by decide, by decide +kernel⟩⟩
theorem m_Model_front : mV M_Model_front 2 := ⟨k_im_Model_front, p_se_Model_front, k_in_Model, k_cd_Model_front, ⟨by decide, by decide, by decide +kernel⟩⟩
theorem m_Model_wrap : mV M_Model_wrap 0 := ⟨k_im_Model_wrap, p_se_Model_wrap, k_in_Model, k_cd_Model_wrap, ⟨by decide, by decide, by decide +kernel⟩⟩
theorem m_Model_number : mV M_Model_number 1 := ⟨k_im_Model_number, p_se_Model_number, k_in_Model, k_cd_Model_number, ⟨by decide, by decide, by decide +kernel⟩⟩
theorem m_Model_sealPadded : mV M_Model_sealPadded 0 := ⟨k_im_Model_sealPadded, p_se_Model_sealPadded, k_in_Model, k_cd_Model_sealPadded, ⟨by decide, by decide, by decide +kernel⟩⟩
theorem m_Model_open : mV M_Model_open 1 := ⟨k_im_Model_open, k_se_Model_open_Model_open, k_in_Model, k_cd_Model_open, ⟨by decide, by decide, by decide +kernel⟩⟩
theorem m_Model_openMarked : mV M_Model_openMarked 0 := ⟨k_im_Model_openMarked, p_se_Model_openMarked, k_in_Model, k_cd_Model_openMarked, ⟨by decide, by decide, by decide +kernel⟩⟩
theorem m_Model_openWrapped : mV M_Model_openWrapped 0 := ⟨k_im_Model_openWrapped, p_se_Model_openWrapped, k_in_Model, k_cd_Model_openWrapped, ⟨by decide, by decide, by decide +kernel⟩⟩
theorem m_Model_unwrap : mV M_Model_unwrap 0 := ⟨k_im_Model_unwrap, p_se_Model_unwrap, k_in_Model, k_cd_Model_unwrap, ⟨by decide, by decide, by decide +kernel⟩⟩
theorem m_Model_dropFront : mV M_Model_dropFront 0 := ⟨k_im_Model_dropFront, p_se_Model_dropFront, k_in_Model, k_cd_Model_dropFront, ⟨by decide, by decide, by decide +kernel⟩⟩
theorem m_Model_openPadded : mV M_Model_openPadded 0 := ⟨k_im_Model_openPadded, p_se_Model_openPadded, k_in_Model, k_cd_Model_openPadded, ⟨by decide, by decide, by decide +kernel⟩⟩
theorem m_Model_size : mV M_Model_size 0 := ⟨k_im_Model_size, k_se_Model_size_Model_size, k_in_Model, k_cd_Model_size, ⟨by decide, by decide, by decide +kernel⟩⟩
theorem m_Model_at : mV M_Model_at 1 := ⟨k_im_Model_at, k_se_Model_at_Model_at, k_in_Model, k_cd_Model_at, ⟨by decide, by decide, by decide +kernel⟩⟩
theorem m_Model_take : mV M_Model_take 0 := ⟨k_im_Model_take, k_se_Model_take_Model_take, k_in_Model, k_cd_Model_take, ⟨by decide, by decide, by decide +kernel⟩⟩
end
section
theorem c_twice {g : Gp} {h : Hp} {b : Nat} (hb : b < 256) : Con g M_Tables_twice 0 (0, 0) [.int (nI b)] h (Ret (some (.int (nI (tw b)))) h) := by
  refine Con.of (by decide) rfl rfl (L := [some (.int (nI b))]) rfl (fun f C => ?_)
  refine x_iload_n (pc := 0) C (dq D_Tables_twice 0 rfl) rfl ?_
  refine x_sipush (pc := 1) C (dq D_Tables_twice 1 rfl) cs_128 ?_
  refine n_ge (pc := 4) (tgt := 13) C (dq D_Tables_twice 2 rfl) (by decide) (by omega) (fun hq => ?_) (fun hq => ?_)
  · have e : b * 2 ^ 1 ^^^ 283 = tw b := (if_neg (by omega)).symm
    refine x_iload_n (pc := 13) C (dq D_Tables_twice 7 rfl) rfl ?_
    refine x_iconst (pc := 14) C (dq D_Tables_twice 8 rfl) ci_1 ?_
    refine n_ishl (pc := 15) C (dq D_Tables_twice 9 rfl) (by omega) (by omega) ?_
    refine x_sipush (pc := 16) C (dq D_Tables_twice 10 rfl) cs_283 ?_
    refine n_ixor (pc := 19) C (dq D_Tables_twice 11 rfl) ?_
    exact x_iret (pc := 20) C (dq D_Tables_twice 12 rfl) rfl (by decide) (Ret.i e)
  · have e : b * 2 ^ 1 = tw b := (if_pos hq).symm
    refine x_iload_n (pc := 7) C (dq D_Tables_twice 3 rfl) rfl ?_
    refine x_iconst (pc := 8) C (dq D_Tables_twice 4 rfl) ci_1 ?_
    refine n_ishl (pc := 9) C (dq D_Tables_twice 5 rfl) (by omega) (by omega) ?_
    refine x_goto (pc := 10) (tgt := 20) C (dq D_Tables_twice 6 rfl) (by decide) ?_
    exact x_iret (pc := 20) C (dq D_Tables_twice 12 rfl) rfl (by decide) (Ret.i e)
/-- a byte turned left -/
def tl (c n : Nat) : Nat := (c * 2 ^ n ||| c / 2 ^ (8 - n)) &&& 255
theorem c_turnLeft {g : Gp} {h : Hp} {c n : Nat} (hc : c < 256) (hn : 1 ≤ n ∧ n ≤ 4) : Con g M_Tables_turnLeft 0 (0, 0) [.int (nI c), .int (nI n)] h (Ret (some (.int (nI (tl c n)))) h) := by
  have hs : c * 2 ^ n < 2 ^ 32 := by
    have h1 : 2 ^ n ≤ 2 ^ 4 := Nat.pow_le_pow_right (by omega) hn.2
    have h2 : c * 2 ^ n ≤ 255 * 2 ^ 4 := Nat.mul_le_mul (by omega) h1
    omega
  refine Con.of (by decide) rfl rfl (L := [some (.int (nI c)), some (.int (nI n))]) rfl (fun f C => ?_)
  refine x_iload_n (pc := 0) C (dq D_Tables_turnLeft 0 rfl) rfl ?_
  refine x_iload_n (pc := 1) C (dq D_Tables_turnLeft 1 rfl) rfl ?_
  refine n_ishl (pc := 2) C (dq D_Tables_turnLeft 2 rfl) (by omega) hs ?_
  refine x_iload_n (pc := 3) C (dq D_Tables_turnLeft 3 rfl) rfl ?_
  refine x_bipush (pc := 4) C (dq D_Tables_turnLeft 4 rfl) cb_8 ?_
  refine x_iload_n (pc := 6) C (dq D_Tables_turnLeft 5 rfl) rfl ?_
  refine n_isub (pc := 7) C (dq D_Tables_turnLeft 6 rfl) (by omega) ?_
  refine n_iushr (pc := 8) C (dq D_Tables_turnLeft 7 rfl) (by omega) (by omega) ?_
  refine n_ior (pc := 9) C (dq D_Tables_turnLeft 8 rfl) ?_
  refine x_sipush (pc := 10) C (dq D_Tables_turnLeft 9 rfl) cs_255 ?_
  refine n_iand (pc := 13) C (dq D_Tables_turnLeft 10 rfl) ?_
  exact x_iret (pc := 14) C (dq D_Tables_turnLeft 11 rfl) rfl (by decide) (Ret.i rfl)
/-- byte k of a word, from its upper end -/
def bo (w k : Nat) : Nat := (w / 2 ^ (24 - 8 * k)) &&& 255
theorem bo8 (w k : Nat) : bo w k < 256 := Nat.lt_of_le_of_lt Nat.and_le_right (by omega)
theorem c_byteOf {g : Gp} {h : Hp} {w k : Nat} (hw : w < 2 ^ 32) (hk : k < 4) : Con g M_Desk_byteOf 0 (0, 0) [.int (nI w), .int (nI k)] h (Ret (some (.int (nI (bo w k)))) h) := by
  refine Con.of (by decide) rfl rfl (L := [some (.int (nI w)), some (.int (nI k))]) rfl (fun f C => ?_)
  refine x_iload_n (pc := 0) C (dq D_Desk_byteOf 0 rfl) rfl ?_
  refine x_bipush (pc := 1) C (dq D_Desk_byteOf 1 rfl) cb_24 ?_
  refine x_bipush (pc := 3) C (dq D_Desk_byteOf 2 rfl) cb_8 ?_
  refine x_iload_n (pc := 5) C (dq D_Desk_byteOf 3 rfl) rfl ?_
  refine n_imul (pc := 6) C (dq D_Desk_byteOf 4 rfl) ?_
  refine n_isub (pc := 7) C (dq D_Desk_byteOf 5 rfl) (by omega) ?_
  refine n_iushr (pc := 8) C (dq D_Desk_byteOf 6 rfl) (by omega) (by omega) ?_
  refine x_sipush (pc := 9) C (dq D_Desk_byteOf 7 rfl) cs_255 ?_
  refine n_iand (pc := 12) C (dq D_Desk_byteOf 8 rfl) ?_
  exact x_iret (pc := 13) C (dq D_Desk_byteOf 9 rfl) rfl (by decide) (Ret.i rfl)
def pb (k : Nat) : Nat := (k + 4 * (k % 4)) % 16
theorem c_placeBefore {g : Gp} {h : Hp} {k : Nat} (hk : k < 16) : Con g M_Cipher_placeBefore 0 (0, 0) [.int (nI k)] h (Ret (some (.int (nI (pb k)))) h) := by
  refine Con.of (by decide) rfl rfl (L := [some (.int (nI k))]) rfl (fun f C => ?_)
  refine x_iload_n (pc := 0) C (dq D_Cipher_placeBefore 0 rfl) rfl ?_
  refine x_iconst (pc := 1) C (dq D_Cipher_placeBefore 1 rfl) ci_4 ?_
  refine x_iload_n (pc := 2) C (dq D_Cipher_placeBefore 2 rfl) rfl ?_
  refine x_iconst (pc := 3) C (dq D_Cipher_placeBefore 3 rfl) ci_4 ?_
  refine n_irem (pc := 4) C (dq D_Cipher_placeBefore 4 rfl) (by omega) (by omega) (by omega) ?_
  refine n_imul (pc := 5) C (dq D_Cipher_placeBefore 5 rfl) ?_
  refine n_iadd (pc := 6) C (dq D_Cipher_placeBefore 6 rfl) ?_
  refine x_bipush (pc := 7) C (dq D_Cipher_placeBefore 7 rfl) cb_16 ?_
  refine n_irem (pc := 9) C (dq D_Cipher_placeBefore 8 rfl) (by omega) (by omega) (by omega) ?_
  exact x_iret (pc := 10) C (dq D_Cipher_placeBefore 9 rfl) rfl (by decide) (Ret.i rfl)
theorem c_Row_clear {g : Gp} {h : Hp} {r b n : Nat} (hr : h[r]? = some (rwc g b n)) : Con g M_Row_clear 0 (0, 0) [.ref (zA (gz g) r)] h (Ret none (h.set r (rwc g b 0))) := by
  refine Con.of (by decide) rfl rfl (L := [some (.ref (zA (gz g) r))]) rfl (fun f C => ?_)
  refine x_aload_n (pc := 0) C (dq D_Row_clear 0 rfl) rfl ?_
  refine x_iconst (pc := 1) C (dq D_Row_clear 1 rfl) ci_0 ?_
  refine x_put (pc := 2) (ci := 7) (j := 1) (ty := .int) C (dq D_Row_clear 2 rfl) rfl rfl (hr) rfl k_fl_Row_15 (Or.inl rfl) (by decide +kernel) rfl rfl ?_
  simp only [List.set_cons_zero, List.set_cons_succ]
  exact x_vret (pc := 5) C (dq D_Row_clear 3 rfl) rfl (by decide) ⟨rfl, rfl⟩
theorem c_Row_add {g : Gp} {h : Hp} {r b n v : Nat} {B : List Nat} (hr : h[r]? = some (rwc g b n)) (hb : h[b]? = some (ia g B)) (hn : n < B.length ∧ B.length < 2 ^ 31) : Con g M_Row_add 0 (0, 0) [.ref (zA (gz g) r), .int (nI v)] h (Ret none ((h.set b (ia g (B.set n v))).set r (rwc g b (n + 1)))) := by
  have hr2 : (h.set b (ia g (B.set n v)))[r]? = some (rwc g b n) := gs_ne (ne_io hb hr) hr
  refine Con.of (by decide) rfl rfl (L := [some (.ref (zA (gz g) r)), some (.int (nI v))]) rfl (fun f C => ?_)
  refine x_aload_n (pc := 0) C (dq D_Row_add 0 rfl) rfl ?_
  refine x_get (pc := 1) (ci := 7) (j := 0) C (dq D_Row_add 1 rfl) rfl rfl (by first | exact hr | exact hb) rfl k_fl_Row_9 ?_
  refine x_aload_n (pc := 4) C (dq D_Row_add 2 rfl) rfl ?_
  refine x_get (pc := 5) (ci := 7) (j := 1) C (dq D_Row_add 3 rfl) rfl rfl (by first | exact hr | exact hb) rfl k_fl_Row_15 ?_
  refine x_iload_n (pc := 8) C (dq D_Row_add 4 rfl) rfl ?_
  refine x_iast (pc := 9) C (dq D_Row_add 5 rfl) (by first | exact hr | exact hb) (by (try simp only [List.length_set]); omega) ?_
  try rw [List.set_set]
  refine x_aload_n (pc := 10) C (dq D_Row_add 6 rfl) rfl ?_
  refine x_dup (pc := 11) C (dq D_Row_add 7 rfl) rfl ?_
  refine x_get (pc := 12) (ci := 7) (j := 1) C (dq D_Row_add 8 rfl) rfl rfl (hr2) rfl k_fl_Row_15 ?_
  refine x_iconst (pc := 15) C (dq D_Row_add 9 rfl) ci_1 ?_
  refine n_iadd (pc := 16) C (dq D_Row_add 10 rfl) ?_
  refine x_put (pc := 17) (ci := 7) (j := 1) (ty := .int) C (dq D_Row_add 11 rfl) rfl rfl (hr2) rfl k_fl_Row_15 (Or.inl rfl) (by decide +kernel) rfl rfl ?_
  simp only [List.set_cons_zero, List.set_cons_succ]
  exact x_vret (pc := 20) C (dq D_Row_add 12 rfl) rfl (by decide) ⟨rfl, rfl⟩
theorem c_Row_addAll {g : Gp} {h : Hp} {r b n a c : Nat} {A B : List Nat} (hr : h[r]? = some (rwc g b n)) (hb : h[b]? = some (ia g B)) (ha : h[a]? = some (ia g A)) (hn : n + c ≤ B.length ∧ B.length < 2 ^ 31) (hc : c ≤ A.length ∧ A.length < 2 ^ 31) : Con g M_Row_addAll 1 (0, 0) [.ref (zA (gz g) r), .ref (zA (gz g) a), .int (nI c)] h (Ret none ((h.set b (ia g (cpy A B 0 n c))).set r (rwc g b (n + c)))) := by
  have hr2 : (h.set b (ia g (cpy A B 0 n c)))[r]? = some (rwc g b n) := gs_ne (ne_io hb hr) hr
  refine Con.of (by decide) rfl rfl (L := [some (.ref (zA (gz g) r)), some (.ref (zA (gz g) a)), some (.int (nI c))]) rfl (fun f C => ?_)
  refine x_aload_n (pc := 0) C (dq D_Row_addAll 0 rfl) rfl ?_
  refine x_iconst (pc := 1) C (dq D_Row_addAll 1 rfl) ci_0 ?_
  refine x_aload_n (pc := 2) C (dq D_Row_addAll 2 rfl) rfl ?_
  refine x_get (pc := 3) (ci := 7) (j := 0) C (dq D_Row_addAll 3 rfl) rfl rfl (hr) rfl k_fl_Row_9 ?_
  refine x_aload_n (pc := 6) C (dq D_Row_addAll 4 rfl) rfl ?_
  refine x_get (pc := 7) (ci := 7) (j := 1) C (dq D_Row_addAll 5 rfl) rfl rfl (hr) rfl k_fl_Row_15 ?_
  refine x_iload_n (pc := 10) C (dq D_Row_addAll 6 rfl) rfl ?_
  refine x_copy (pc := 11) C (dq D_Row_addAll 7 rfl) k_ml_Row_19 ha hb (by omega) (by omega) (by omega) (by decide) rfl rfl ?_
  refine x_aload_n (pc := 14) C (dq D_Row_addAll 8 rfl) rfl ?_
  refine x_dup (pc := 15) C (dq D_Row_addAll 9 rfl) rfl ?_
  refine x_get (pc := 16) (ci := 7) (j := 1) C (dq D_Row_addAll 10 rfl) rfl rfl (hr2) rfl k_fl_Row_15 ?_
  refine x_iload_n (pc := 19) C (dq D_Row_addAll 11 rfl) rfl ?_
  refine n_iadd (pc := 20) C (dq D_Row_addAll 12 rfl) ?_
  refine x_put (pc := 21) (ci := 7) (j := 1) (ty := .int) C (dq D_Row_addAll 13 rfl) rfl rfl (hr2) rfl k_fl_Row_15 (Or.inl rfl) (by decide +kernel) rfl rfl ?_
  simp only [List.set_cons_zero, List.set_cons_succ]
  exact x_vret (pc := 24) C (dq D_Row_addAll 14 rfl) rfl (by decide) ⟨rfl, rfl⟩
end
section
/-- the key's part r, laid over a block -/
def ark (RK : List Nat) (r k : Nat) (S : List Nat) : List Nat := S.set k (S.getD k 0 ^^^ RK.getD (16 * r + k) 0)
theorem ark_len (RK : List Nat) (r k : Nat) (S : List Nat) : (ark RK r k S).length = S.length := List.length_set
theorem ark8 {RK : List Nat} (h : by8 RK) (r n k : Nat) {S : List Nat} (hS : by8 S) : by8 (it (ark RK r) k n S) := it_inv by8 n k S (fun j T _ _ hT => hT.set (xor8 (hT.at _) (h.at _))) hS
theorem c_addRoundKey {g : Gp} {h : Hp} {c t rk bf blk r : Nat} {RK A : List Nat} (hc : h[c]? = some (cpc g t rk bf)) (hk : h[rk]? = some (ia g RK)) (hb : h[blk]? = some (ia g A)) (hne : blk ≠ rk) (hRK : RK.length = 176) (hA : 16 ≤ A.length ∧ A.length < 1000) (hr : r ≤ 10) :
    Con g M_Cipher_addRoundKey 0 (0, 0) [.ref (zA (gz g) c), .ref (zA (gz g) blk), .int (nI r)] h (Ret none (h.set blk (ia g (it (ark RK r) 0 16 A)))) := by
  refine Con.of (by decide) rfl rfl (L := [some (.ref (zA (gz g) c)), some (.ref (zA (gz g) blk)), some (.int (nI r)), none]) rfl (fun f C => ?_)
  have loop : ∀ (n k : Nat) (S : List Nat), k + n = 16 → S.length = A.length → X g f M_Cipher_addRoundKey (0, 0) (Ret none (h.set blk (ia g (it (ark RK r) k n S)))) (0, 0) 2 [some (.ref (zA (gz g) c)), some (.ref (zA (gz g) blk)), some (.int (nI r)), some (.int (nI k))] [] (h.set blk (ia g S)) := by
    have hc1 : ∀ e, (h.set blk e)[c]? = some (cpc g t rk bf) := fun e => gs_ne (ne_io hb hc) hc
    have hk1 : ∀ e, (h.set blk e)[rk]? = some (ia g RK) := fun e => gs_ne hne hk
    have hb1 : ∀ e, (h.set blk e)[blk]? = some e := fun e => gs_self hb
    intro n
    induction n with
    | zero =>
      intro k S hkn hS
      refine x_iload_n (pc := 2) C (dq D_Cipher_addRoundKey 2 rfl) rfl ?_
      refine x_bipush (pc := 3) C (dq D_Cipher_addRoundKey 3 rfl) cb_16 ?_
      refine n_ge_t (pc := 5) (tgt := 31) C (dq D_Cipher_addRoundKey 4 rfl) (by decide) (by omega) (by omega) ?_
      exact x_vret (pc := 31) C (dq D_Cipher_addRoundKey 21 rfl) rfl (by decide) ⟨rfl, rfl⟩
    | succ n ih =>
      intro k S hkn hS
      refine x_iload_n (pc := 2) C (dq D_Cipher_addRoundKey 2 rfl) rfl ?_
      refine x_bipush (pc := 3) C (dq D_Cipher_addRoundKey 3 rfl) cb_16 ?_
      refine n_ge_f (pc := 5) (tgt := 31) C (dq D_Cipher_addRoundKey 4 rfl) (by decide) (by omega) (by omega) ?_
      refine x_aload_n (pc := 8) C (dq D_Cipher_addRoundKey 5 rfl) rfl ?_
      refine x_iload_n (pc := 9) C (dq D_Cipher_addRoundKey 6 rfl) rfl ?_
      refine x_dup2 (pc := 10) C (dq D_Cipher_addRoundKey 7 rfl) rfl rfl ?_
      refine x_iald (pc := 11) C (dq D_Cipher_addRoundKey 8 rfl) (by first | exact hc1 _ | exact hk1 _ | exact hb1 _) (by (try simp only [List.length_set]); omega) ?_
      refine x_aload_n (pc := 12) C (dq D_Cipher_addRoundKey 9 rfl) rfl ?_
      refine x_get (pc := 13) (ci := 2) (j := 1) C (dq D_Cipher_addRoundKey 10 rfl) rfl rfl (by first | exact hc1 _ | exact hk1 _ | exact hb1 _) rfl k_fl_Cipher_11 ?_
      refine x_bipush (pc := 16) C (dq D_Cipher_addRoundKey 11 rfl) cb_16 ?_
      refine x_iload_n (pc := 18) C (dq D_Cipher_addRoundKey 12 rfl) rfl ?_
      refine n_imul (pc := 19) C (dq D_Cipher_addRoundKey 13 rfl) ?_
      refine x_iload_n (pc := 20) C (dq D_Cipher_addRoundKey 14 rfl) rfl ?_
      refine n_iadd (pc := 21) C (dq D_Cipher_addRoundKey 15 rfl) ?_
      refine x_iald (pc := 22) C (dq D_Cipher_addRoundKey 16 rfl) (by first | exact hc1 _ | exact hk1 _ | exact hb1 _) (by (try simp only [List.length_set]); omega) ?_
      refine n_ixor (pc := 23) C (dq D_Cipher_addRoundKey 17 rfl) ?_
      refine x_iast (pc := 24) C (dq D_Cipher_addRoundKey 18 rfl) (by first | exact hc1 _ | exact hk1 _ | exact hb1 _) (by (try simp only [List.length_set]); omega) ?_
      try rw [List.set_set]
      refine x_iinc (pc := 25) C (dq D_Cipher_addRoundKey 19 rfl) rfl (ii_1 _) rfl rfl ?_
      simp only [List.set_cons_zero, List.set_cons_succ]
      refine x_goto (pc := 28) (tgt := 2) C (dq D_Cipher_addRoundKey 20 rfl) (by decide) ?_
      exact ih (k + 1) (ark RK r k S) (by omega) (by rw [ark_len]; exact hS)
  refine x_iconst (pc := 0) C (dq D_Cipher_addRoundKey 0 rfl) ci_0 ?_
  refine x_istore_n (i := 3) (pc := 1) C (dq D_Cipher_addRoundKey 1 rfl) rfl rfl rfl ?_
  simp only [List.set_cons_zero, List.set_cons_succ]
  have h0 := loop 16 0 A rfl rfl
  rw [gs_id hb] at h0
  exact h0
/-- a table's values in the places before -/
def sb (T X0 : List Nat) (k : Nat) (S : List Nat) : List Nat := S.set k (T.getD (X0.getD (pb k) 0) 0)
theorem sb_len (T X0 : List Nat) (k : Nat) (S : List Nat) : (sb T X0 k S).length = S.length := List.length_set
theorem sb8 {T : List Nat} (h : by8 T) (X0 : List Nat) (n k : Nat) {S : List Nat} (hS : by8 S) : by8 (it (sb T X0) k n S) := it_inv by8 n k S (fun j T _ _ hT => hT.set (h.at _)) hS
theorem c_substitute {g : Gp} {h : Hp} {c t rk bf blk fo ba : Nat} {FO BF A : List Nat} (hc : h[c]? = some (cpc g t rk bf)) (ht : h[t]? = some (tbc g fo ba)) (hf : h[fo]? = some (ia g FO)) (hbf : h[bf]? = some (ia g BF)) (hb : h[blk]? = some (ia g A)) (hne : blk ≠ fo ∧ blk ≠ bf ∧ bf ≠ fo) (hFO : FO.length = 256) (hBF : BF.length = 16) (hA : 16 ≤ A.length ∧ A.length < 1000) (h8 : by8 A) :
    Con g M_Cipher_substitute 1 (0, 0) [.ref (zA (gz g) c), .ref (zA (gz g) blk)] h (Ret none ((h.set bf (ia g (A.take 16))).set blk (ia g (it (sb FO (A.take 16)) 0 16 A)))) := by
  refine Con.of (by decide) rfl rfl (L := [some (.ref (zA (gz g) c)), some (.ref (zA (gz g) blk)), none]) rfl (fun f C => ?_)
  have hX : (A.take 16).length = 16 := by rw [List.length_take]; omega
  have hX8 := h8.take 16
  have hb0 : (h.set bf (ia g (A.take 16)))[blk]? = some (ia g A) := gs_ne (Ne.symm hne.2.1) hb
  have loop : ∀ (n k : Nat) (S : List Nat), k + n = 16 → S.length = A.length → X g f M_Cipher_substitute (0, 0) (Ret none ((h.set bf (ia g (A.take 16))).set blk (ia g (it (sb FO (A.take 16)) k n S)))) (0, 0) 14 [some (.ref (zA (gz g) c)), some (.ref (zA (gz g) blk)), some (.int (nI k))] [] ((h.set bf (ia g (A.take 16))).set blk (ia g S)) := by
    have hc1 : ∀ e, ((h.set bf (ia g (A.take 16))).set blk e)[c]? = some (cpc g t rk bf) := fun e => gs_ne (ne_io hb hc) (gs_ne (ne_io hbf hc) hc)
    have ht1 : ∀ e, ((h.set bf (ia g (A.take 16))).set blk e)[t]? = some (tbc g fo ba) := fun e => gs_ne (ne_io hb ht) (gs_ne (ne_io hbf ht) ht)
    have hf1 : ∀ e, ((h.set bf (ia g (A.take 16))).set blk e)[fo]? = some (ia g FO) := fun e => gs_ne hne.1 (gs_ne hne.2.2 hf)
    have hbf1 : ∀ e, ((h.set bf (ia g (A.take 16))).set blk e)[bf]? = some (ia g (A.take 16)) := fun e => gs_ne hne.2.1 (gs_self hbf)
    have hb1 : ∀ e, ((h.set bf (ia g (A.take 16))).set blk e)[blk]? = some e := fun e => gs_self hb0
    intro n
    induction n with
    | zero =>
      intro k S hkn hS
      refine x_iload_n (pc := 14) C (dq D_Cipher_substitute 9 rfl) rfl ?_
      refine x_bipush (pc := 15) C (dq D_Cipher_substitute 10 rfl) cb_16 ?_
      refine n_ge_t (pc := 17) (tgt := 46) C (dq D_Cipher_substitute 11 rfl) (by decide) (by omega) (by omega) ?_
      exact x_vret (pc := 46) C (dq D_Cipher_substitute 26 rfl) rfl (by decide) ⟨rfl, rfl⟩
    | succ n ih =>
      intro k S hkn hS
      have hp : pb k < 16 := Nat.mod_lt _ (by omega)
      have hv : (A.take 16).getD (pb k) 0 < 256 := hX8.at _
      refine x_iload_n (pc := 14) C (dq D_Cipher_substitute 9 rfl) rfl ?_
      refine x_bipush (pc := 15) C (dq D_Cipher_substitute 10 rfl) cb_16 ?_
      refine n_ge_f (pc := 17) (tgt := 46) C (dq D_Cipher_substitute 11 rfl) (by decide) (by omega) (by omega) ?_
      refine x_aload_n (pc := 20) C (dq D_Cipher_substitute 12 rfl) rfl ?_
      refine x_iload_n (pc := 21) C (dq D_Cipher_substitute 13 rfl) rfl ?_
      refine x_aload_n (pc := 22) C (dq D_Cipher_substitute 14 rfl) rfl ?_
      refine x_get (pc := 23) (ci := 2) (j := 0) C (dq D_Cipher_substitute 15 rfl) rfl rfl (by first | exact hc1 _ | exact ht1 _ | exact hf1 _ | exact hbf1 _ | exact hb1 _) rfl k_fl_Cipher_18 ?_
      refine x_get (pc := 26) (ci := 8) (j := 0) C (dq D_Cipher_substitute 16 rfl) rfl rfl (by first | exact hc1 _ | exact ht1 _ | exact hf1 _ | exact hbf1 _ | exact hb1 _) rfl k_fl_Cipher_40 ?_
      refine x_aload_n (pc := 29) C (dq D_Cipher_substitute 17 rfl) rfl ?_
      refine x_get (pc := 30) (ci := 2) (j := 2) C (dq D_Cipher_substitute 18 rfl) rfl rfl (by first | exact hc1 _ | exact ht1 _ | exact hf1 _ | exact hbf1 _ | exact hb1 _) rfl k_fl_Cipher_15 ?_
      refine x_iload_n (pc := 33) C (dq D_Cipher_substitute 19 rfl) rfl ?_
      refine x_cS1 (pc := 34) (M := M_Cipher_placeBefore) C (dq D_Cipher_substitute 20 rfl) k_ml_Cipher_66 m_Cipher_placeBefore (c_placeBefore (by omega)) rfl rfl rfl rfl (by decide) ?_
      refine x_iald (pc := 37) C (dq D_Cipher_substitute 21 rfl) (by first | exact hc1 _ | exact ht1 _ | exact hf1 _ | exact hbf1 _ | exact hb1 _) (by (try simp only [List.length_set]); omega) ?_
      refine x_iald (pc := 38) C (dq D_Cipher_substitute 22 rfl) (by first | exact hc1 _ | exact ht1 _ | exact hf1 _ | exact hbf1 _ | exact hb1 _) (by (try simp only [List.length_set]); omega) ?_
      refine x_iast (pc := 39) C (dq D_Cipher_substitute 23 rfl) (by first | exact hc1 _ | exact ht1 _ | exact hf1 _ | exact hbf1 _ | exact hb1 _) (by (try simp only [List.length_set]); omega) ?_
      try rw [List.set_set]
      refine x_iinc (pc := 40) C (dq D_Cipher_substitute 24 rfl) rfl (ii_1 _) rfl rfl ?_
      simp only [List.set_cons_zero, List.set_cons_succ]
      refine x_goto (pc := 43) (tgt := 14) C (dq D_Cipher_substitute 25 rfl) (by decide) ?_
      exact ih (k + 1) (sb FO (A.take 16) k S) (by omega) (by rw [sb_len]; exact hS)
  refine x_aload_n (pc := 0) C (dq D_Cipher_substitute 0 rfl) rfl ?_
  refine x_iconst (pc := 1) C (dq D_Cipher_substitute 1 rfl) ci_0 ?_
  refine x_aload_n (pc := 2) C (dq D_Cipher_substitute 2 rfl) rfl ?_
  refine x_get (pc := 3) (ci := 2) (j := 2) C (dq D_Cipher_substitute 3 rfl) rfl rfl (hc) rfl k_fl_Cipher_15 ?_
  refine x_iconst (pc := 6) C (dq D_Cipher_substitute 4 rfl) ci_0 ?_
  refine x_bipush (pc := 7) C (dq D_Cipher_substitute 5 rfl) cb_16 ?_
  refine x_copy (pc := 9) C (dq D_Cipher_substitute 6 rfl) k_ml_Cipher_60 hb hbf (by omega) (by omega) (by omega) (by decide) rfl rfl ?_
  rw [cpyT hA.1 hBF]
  refine x_iconst (pc := 12) C (dq D_Cipher_substitute 7 rfl) ci_0 ?_
  refine x_istore_n (i := 2) (pc := 13) C (dq D_Cipher_substitute 8 rfl) rfl rfl rfl ?_
  simp only [List.set_cons_zero, List.set_cons_succ]
  have h0 := loop 16 0 A rfl rfl
  rw [gs_id hb0] at h0
  exact h0
def sbB (T X0 : List Nat) (k : Nat) (S : List Nat) : List Nat := S.set (pb k) (T.getD (X0.getD k 0) 0)
theorem sbB_len (T X0 : List Nat) (k : Nat) (S : List Nat) : (sbB T X0 k S).length = S.length := List.length_set
theorem sbB8 {T : List Nat} (h : by8 T) (X0 : List Nat) (n k : Nat) {S : List Nat} (hS : by8 S) : by8 (it (sbB T X0) k n S) := it_inv by8 n k S (fun j T _ _ hT => hT.set (h.at _)) hS
theorem c_substituteBack {g : Gp} {h : Hp} {c t rk bf blk fo ba : Nat} {BA BF A : List Nat} (hc : h[c]? = some (cpc g t rk bf)) (ht : h[t]? = some (tbc g fo ba)) (hf : h[ba]? = some (ia g BA)) (hbf : h[bf]? = some (ia g BF)) (hb : h[blk]? = some (ia g A)) (hne : blk ≠ ba ∧ blk ≠ bf ∧ bf ≠ ba) (hBA : BA.length = 256) (hBF : BF.length = 16) (hA : 16 ≤ A.length ∧ A.length < 1000) (h8 : by8 A) :
    Con g M_Cipher_substituteBack 1 (0, 0) [.ref (zA (gz g) c), .ref (zA (gz g) blk)] h (Ret none ((h.set bf (ia g (A.take 16))).set blk (ia g (it (sbB BA (A.take 16)) 0 16 A)))) := by
  refine Con.of (by decide) rfl rfl (L := [some (.ref (zA (gz g) c)), some (.ref (zA (gz g) blk)), none]) rfl (fun f C => ?_)
  have hX : (A.take 16).length = 16 := by rw [List.length_take]; omega
  have hX8 := h8.take 16
  have hb0 : (h.set bf (ia g (A.take 16)))[blk]? = some (ia g A) := gs_ne (Ne.symm hne.2.1) hb
  have loop : ∀ (n k : Nat) (S : List Nat), k + n = 16 → S.length = A.length → X g f M_Cipher_substituteBack (0, 0) (Ret none ((h.set bf (ia g (A.take 16))).set blk (ia g (it (sbB BA (A.take 16)) k n S)))) (0, 0) 14 [some (.ref (zA (gz g) c)), some (.ref (zA (gz g) blk)), some (.int (nI k))] [] ((h.set bf (ia g (A.take 16))).set blk (ia g S)) := by
    have hc1 : ∀ e, ((h.set bf (ia g (A.take 16))).set blk e)[c]? = some (cpc g t rk bf) := fun e => gs_ne (ne_io hb hc) (gs_ne (ne_io hbf hc) hc)
    have ht1 : ∀ e, ((h.set bf (ia g (A.take 16))).set blk e)[t]? = some (tbc g fo ba) := fun e => gs_ne (ne_io hb ht) (gs_ne (ne_io hbf ht) ht)
    have hf1 : ∀ e, ((h.set bf (ia g (A.take 16))).set blk e)[ba]? = some (ia g BA) := fun e => gs_ne hne.1 (gs_ne hne.2.2 hf)
    have hbf1 : ∀ e, ((h.set bf (ia g (A.take 16))).set blk e)[bf]? = some (ia g (A.take 16)) := fun e => gs_ne hne.2.1 (gs_self hbf)
    have hb1 : ∀ e, ((h.set bf (ia g (A.take 16))).set blk e)[blk]? = some e := fun e => gs_self hb0
    intro n
    induction n with
    | zero =>
      intro k S hkn hS
      refine x_iload_n (pc := 14) C (dq D_Cipher_substituteBack 9 rfl) rfl ?_
      refine x_bipush (pc := 15) C (dq D_Cipher_substituteBack 10 rfl) cb_16 ?_
      refine n_ge_t (pc := 17) (tgt := 46) C (dq D_Cipher_substituteBack 11 rfl) (by decide) (by omega) (by omega) ?_
      exact x_vret (pc := 46) C (dq D_Cipher_substituteBack 26 rfl) rfl (by decide) ⟨rfl, rfl⟩
    | succ n ih =>
      intro k S hkn hS
      have hp : pb k < 16 := Nat.mod_lt _ (by omega)
      have hv : (A.take 16).getD k 0 < 256 := hX8.at _
      refine x_iload_n (pc := 14) C (dq D_Cipher_substituteBack 9 rfl) rfl ?_
      refine x_bipush (pc := 15) C (dq D_Cipher_substituteBack 10 rfl) cb_16 ?_
      refine n_ge_f (pc := 17) (tgt := 46) C (dq D_Cipher_substituteBack 11 rfl) (by decide) (by omega) (by omega) ?_
      refine x_aload_n (pc := 20) C (dq D_Cipher_substituteBack 12 rfl) rfl ?_
      refine x_iload_n (pc := 21) C (dq D_Cipher_substituteBack 13 rfl) rfl ?_
      refine x_cS1 (pc := 22) (M := M_Cipher_placeBefore) C (dq D_Cipher_substituteBack 14 rfl) k_ml_Cipher_66 m_Cipher_placeBefore (c_placeBefore (by omega)) rfl rfl rfl rfl (by decide) ?_
      refine x_aload_n (pc := 25) C (dq D_Cipher_substituteBack 15 rfl) rfl ?_
      refine x_get (pc := 26) (ci := 2) (j := 0) C (dq D_Cipher_substituteBack 16 rfl) rfl rfl (by first | exact hc1 _ | exact ht1 _ | exact hf1 _ | exact hbf1 _ | exact hb1 _) rfl k_fl_Cipher_18 ?_
      refine x_get (pc := 29) (ci := 8) (j := 1) C (dq D_Cipher_substituteBack 17 rfl) rfl rfl (by first | exact hc1 _ | exact ht1 _ | exact hf1 _ | exact hbf1 _ | exact hb1 _) rfl k_fl_Cipher_69 ?_
      refine x_aload_n (pc := 32) C (dq D_Cipher_substituteBack 18 rfl) rfl ?_
      refine x_get (pc := 33) (ci := 2) (j := 2) C (dq D_Cipher_substituteBack 19 rfl) rfl rfl (by first | exact hc1 _ | exact ht1 _ | exact hf1 _ | exact hbf1 _ | exact hb1 _) rfl k_fl_Cipher_15 ?_
      refine x_iload_n (pc := 36) C (dq D_Cipher_substituteBack 20 rfl) rfl ?_
      refine x_iald (pc := 37) C (dq D_Cipher_substituteBack 21 rfl) (by first | exact hc1 _ | exact ht1 _ | exact hf1 _ | exact hbf1 _ | exact hb1 _) (by (try simp only [List.length_set]); omega) ?_
      refine x_iald (pc := 38) C (dq D_Cipher_substituteBack 22 rfl) (by first | exact hc1 _ | exact ht1 _ | exact hf1 _ | exact hbf1 _ | exact hb1 _) (by (try simp only [List.length_set]); omega) ?_
      refine x_iast (pc := 39) C (dq D_Cipher_substituteBack 23 rfl) (by first | exact hc1 _ | exact ht1 _ | exact hf1 _ | exact hbf1 _ | exact hb1 _) (by (try simp only [List.length_set]); omega) ?_
      try rw [List.set_set]
      refine x_iinc (pc := 40) C (dq D_Cipher_substituteBack 24 rfl) rfl (ii_1 _) rfl rfl ?_
      simp only [List.set_cons_zero, List.set_cons_succ]
      refine x_goto (pc := 43) (tgt := 14) C (dq D_Cipher_substituteBack 25 rfl) (by decide) ?_
      exact ih (k + 1) (sbB BA (A.take 16) k S) (by omega) (by rw [sbB_len]; exact hS)
  refine x_aload_n (pc := 0) C (dq D_Cipher_substituteBack 0 rfl) rfl ?_
  refine x_iconst (pc := 1) C (dq D_Cipher_substituteBack 1 rfl) ci_0 ?_
  refine x_aload_n (pc := 2) C (dq D_Cipher_substituteBack 2 rfl) rfl ?_
  refine x_get (pc := 3) (ci := 2) (j := 2) C (dq D_Cipher_substituteBack 3 rfl) rfl rfl (hc) rfl k_fl_Cipher_15 ?_
  refine x_iconst (pc := 6) C (dq D_Cipher_substituteBack 4 rfl) ci_0 ?_
  refine x_bipush (pc := 7) C (dq D_Cipher_substituteBack 5 rfl) cb_16 ?_
  refine x_copy (pc := 9) C (dq D_Cipher_substituteBack 6 rfl) k_ml_Cipher_60 hb hbf (by omega) (by omega) (by omega) (by decide) rfl rfl ?_
  rw [cpyT hA.1 hBF]
  refine x_iconst (pc := 12) C (dq D_Cipher_substituteBack 7 rfl) ci_0 ?_
  refine x_istore_n (i := 2) (pc := 13) C (dq D_Cipher_substituteBack 8 rfl) rfl rfl rfl ?_
  simp only [List.set_cons_zero, List.set_cons_succ]
  have h0 := loop 16 0 A rfl rfl
  rw [gs_id hb0] at h0
  exact h0
end
section
/-- four bytes from place k on, mixed -/
def mxs (k : Nat) (S : List Nat) : List Nat :=
  (((S.set k ((S.getD k 0 ^^^ (((S.getD k 0 ^^^ S.getD (k + 1) 0) ^^^ S.getD (k + 2) 0) ^^^ S.getD (k + 3) 0)) ^^^ tw (S.getD k 0 ^^^ S.getD (k + 1) 0))).set (k + 1) ((S.getD (k + 1) 0 ^^^ (((S.getD k 0 ^^^ S.getD (k + 1) 0) ^^^ S.getD (k + 2) 0) ^^^ S.getD (k + 3) 0)) ^^^ tw (S.getD (k + 1) 0 ^^^ S.getD (k + 2) 0))).set (k + 2) ((S.getD (k + 2) 0 ^^^ (((S.getD k 0 ^^^ S.getD (k + 1) 0) ^^^ S.getD (k + 2) 0) ^^^ S.getD (k + 3) 0)) ^^^ tw (S.getD (k + 2) 0 ^^^ S.getD (k + 3) 0))).set (k + 3) ((S.getD (k + 3) 0 ^^^ (((S.getD k 0 ^^^ S.getD (k + 1) 0) ^^^ S.getD (k + 2) 0) ^^^ S.getD (k + 3) 0)) ^^^ tw (S.getD (k + 3) 0 ^^^ S.getD k 0))
theorem mxs_len (k : Nat) (S : List Nat) : (mxs k S).length = S.length := by simp [mxs]
theorem mxs8 (k : Nat) {S : List Nat} (h : by8 S) : by8 (mxs k S) := by
  have a := h.at k
  have b := h.at (k + 1)
  have c := h.at (k + 2)
  have d := h.at (k + 3)
  have e := xor8 (xor8 (xor8 a b) c) d
  exact (((h.set (xor8 (xor8 a e) (tw8 _ (xor8 a b)))).set (xor8 (xor8 b e) (tw8 _ (xor8 b c)))).set (xor8 (xor8 c e) (tw8 _ (xor8 c d)))).set (xor8 (xor8 d e) (tw8 _ (xor8 d a)))
def mix (S : List Nat) : List Nat := it (fun j => mxs (4 * j)) 0 4 S
theorem mix_len (S : List Nat) : (mix S).length = S.length := it_len (fun k S => mxs_len (4 * k) S) 4 0 S
theorem mix8 {S : List Nat} (h : by8 S) : by8 (mix S) := it_inv by8 4 0 S (fun j T _ _ hT => mxs8 (4 * j) hT) h
theorem c_mix {g : Gp} {h : Hp} {blk : Nat} {A : List Nat} (hb : h[blk]? = some (ia g A)) (hA : 16 ≤ A.length ∧ A.length < 1000) (h8 : by8 A) :
    Con g M_Cipher_mix 1 (0, 0) [.ref (zA (gz g) blk)] h (Ret none (h.set blk (ia g (mix A)))) := by
  refine Con.of (by decide) rfl rfl (L := [some (.ref (zA (gz g) blk)), none, none, none, none, none, none]) rfl (fun f C => ?_)
  have loop : ∀ (n k : Nat) (S : List Nat) (l2 l3 l4 l5 l6 : Option Value), k + n = 4 → S.length = A.length → by8 S → X g f M_Cipher_mix (0, 0) (Ret none (h.set blk (ia g (it (fun j => mxs (4 * j)) k n S)))) (0, 0) 2 [some (.ref (zA (gz g) blk)), some (.int (nI (4 * k))), l2, l3, l4, l5, l6] [] (h.set blk (ia g S)) := by
    have hb1 : ∀ e, (h.set blk e)[blk]? = some e := fun e => gs_self hb
    intro n
    induction n with
    | zero =>
      intro k S l2 l3 l4 l5 l6 hkn hS h8
      refine x_iload_n (pc := 2) C (dq D_Cipher_mix 2 rfl) rfl ?_
      refine x_bipush (pc := 3) C (dq D_Cipher_mix 3 rfl) cb_16 ?_
      refine n_ge_t (pc := 5) (tgt := 117) C (dq D_Cipher_mix 4 rfl) (by decide) (by omega) (by omega) ?_
      exact x_vret (pc := 117) C (dq D_Cipher_mix 87 rfl) rfl (by decide) ⟨rfl, rfl⟩
    | succ n ih =>
      intro k S l2 l3 l4 l5 l6 hkn hS h8
      have a := h8.at (4 * k)
      have b := h8.at (4 * k + 1)
      have c := h8.at (4 * k + 2)
      have d := h8.at (4 * k + 3)
      refine x_iload_n (pc := 2) C (dq D_Cipher_mix 2 rfl) rfl ?_
      refine x_bipush (pc := 3) C (dq D_Cipher_mix 3 rfl) cb_16 ?_
      refine n_ge_f (pc := 5) (tgt := 117) C (dq D_Cipher_mix 4 rfl) (by decide) (by omega) (by omega) ?_
      refine x_aload_n (pc := 8) C (dq D_Cipher_mix 5 rfl) rfl ?_
      refine x_iload_n (pc := 9) C (dq D_Cipher_mix 6 rfl) rfl ?_
      refine x_iald (pc := 10) C (dq D_Cipher_mix 7 rfl) (hb1 _) (by (try simp only [List.length_set]); omega) ?_
      refine x_istore_n (i := 2) (pc := 11) C (dq D_Cipher_mix 8 rfl) rfl rfl rfl ?_
      simp only [List.set_cons_zero, List.set_cons_succ]
      refine x_aload_n (pc := 12) C (dq D_Cipher_mix 9 rfl) rfl ?_
      refine x_iload_n (pc := 13) C (dq D_Cipher_mix 10 rfl) rfl ?_
      refine x_iconst (pc := 14) C (dq D_Cipher_mix 11 rfl) ci_1 ?_
      refine n_iadd (pc := 15) C (dq D_Cipher_mix 12 rfl) ?_
      refine x_iald (pc := 16) C (dq D_Cipher_mix 13 rfl) (hb1 _) (by (try simp only [List.length_set]); omega) ?_
      refine x_istore_n (i := 3) (pc := 17) C (dq D_Cipher_mix 14 rfl) rfl rfl rfl ?_
      simp only [List.set_cons_zero, List.set_cons_succ]
      refine x_aload_n (pc := 18) C (dq D_Cipher_mix 15 rfl) rfl ?_
      refine x_iload_n (pc := 19) C (dq D_Cipher_mix 16 rfl) rfl ?_
      refine x_iconst (pc := 20) C (dq D_Cipher_mix 17 rfl) ci_2 ?_
      refine n_iadd (pc := 21) C (dq D_Cipher_mix 18 rfl) ?_
      refine x_iald (pc := 22) C (dq D_Cipher_mix 19 rfl) (hb1 _) (by (try simp only [List.length_set]); omega) ?_
      refine x_istore (i := 4) (pc := 23) C (dq D_Cipher_mix 20 rfl) rfl rfl rfl ?_
      simp only [List.set_cons_zero, List.set_cons_succ]
      refine x_aload_n (pc := 25) C (dq D_Cipher_mix 21 rfl) rfl ?_
      refine x_iload_n (pc := 26) C (dq D_Cipher_mix 22 rfl) rfl ?_
      refine x_iconst (pc := 27) C (dq D_Cipher_mix 23 rfl) ci_3 ?_
      refine n_iadd (pc := 28) C (dq D_Cipher_mix 24 rfl) ?_
      refine x_iald (pc := 29) C (dq D_Cipher_mix 25 rfl) (hb1 _) (by (try simp only [List.length_set]); omega) ?_
      refine x_istore (i := 5) (pc := 30) C (dq D_Cipher_mix 26 rfl) rfl rfl rfl ?_
      simp only [List.set_cons_zero, List.set_cons_succ]
      refine x_iload_n (pc := 32) C (dq D_Cipher_mix 27 rfl) rfl ?_
      refine x_iload_n (pc := 33) C (dq D_Cipher_mix 28 rfl) rfl ?_
      refine n_ixor (pc := 34) C (dq D_Cipher_mix 29 rfl) ?_
      refine x_iload (pc := 35) C (dq D_Cipher_mix 30 rfl) rfl ?_
      refine n_ixor (pc := 37) C (dq D_Cipher_mix 31 rfl) ?_
      refine x_iload (pc := 38) C (dq D_Cipher_mix 32 rfl) rfl ?_
      refine n_ixor (pc := 40) C (dq D_Cipher_mix 33 rfl) ?_
      refine x_istore (i := 6) (pc := 41) C (dq D_Cipher_mix 34 rfl) rfl rfl rfl ?_
      simp only [List.set_cons_zero, List.set_cons_succ]
      refine x_aload_n (pc := 43) C (dq D_Cipher_mix 35 rfl) rfl ?_
      refine x_iload_n (pc := 44) C (dq D_Cipher_mix 36 rfl) rfl ?_
      refine x_iload_n (pc := 45) C (dq D_Cipher_mix 37 rfl) rfl ?_
      refine x_iload (pc := 46) C (dq D_Cipher_mix 38 rfl) rfl ?_
      refine n_ixor (pc := 48) C (dq D_Cipher_mix 39 rfl) ?_
      refine x_iload_n (pc := 49) C (dq D_Cipher_mix 40 rfl) rfl ?_
      refine x_iload_n (pc := 50) C (dq D_Cipher_mix 41 rfl) rfl ?_
      refine n_ixor (pc := 51) C (dq D_Cipher_mix 42 rfl) ?_
      refine x_cS1 (pc := 52) (M := M_Tables_twice) C (dq D_Cipher_mix 43 rfl) k_ml_Cipher_34 m_Tables_twice (c_twice (xor8 a b)) rfl rfl rfl rfl (by decide) ?_
      refine n_ixor (pc := 55) C (dq D_Cipher_mix 44 rfl) ?_
      refine x_iast (pc := 56) C (dq D_Cipher_mix 45 rfl) (hb1 _) (by (try simp only [List.length_set]); omega) ?_
      try rw [List.set_set]
      refine x_aload_n (pc := 57) C (dq D_Cipher_mix 46 rfl) rfl ?_
      refine x_iload_n (pc := 58) C (dq D_Cipher_mix 47 rfl) rfl ?_
      refine x_iconst (pc := 59) C (dq D_Cipher_mix 48 rfl) ci_1 ?_
      refine n_iadd (pc := 60) C (dq D_Cipher_mix 49 rfl) ?_
      refine x_iload_n (pc := 61) C (dq D_Cipher_mix 50 rfl) rfl ?_
      refine x_iload (pc := 62) C (dq D_Cipher_mix 51 rfl) rfl ?_
      refine n_ixor (pc := 64) C (dq D_Cipher_mix 52 rfl) ?_
      refine x_iload_n (pc := 65) C (dq D_Cipher_mix 53 rfl) rfl ?_
      refine x_iload (pc := 66) C (dq D_Cipher_mix 54 rfl) rfl ?_
      refine n_ixor (pc := 68) C (dq D_Cipher_mix 55 rfl) ?_
      refine x_cS1 (pc := 69) (M := M_Tables_twice) C (dq D_Cipher_mix 56 rfl) k_ml_Cipher_34 m_Tables_twice (c_twice (xor8 b c)) rfl rfl rfl rfl (by decide) ?_
      refine n_ixor (pc := 72) C (dq D_Cipher_mix 57 rfl) ?_
      refine x_iast (pc := 73) C (dq D_Cipher_mix 58 rfl) (hb1 _) (by (try simp only [List.length_set]); omega) ?_
      try rw [List.set_set]
      refine x_aload_n (pc := 74) C (dq D_Cipher_mix 59 rfl) rfl ?_
      refine x_iload_n (pc := 75) C (dq D_Cipher_mix 60 rfl) rfl ?_
      refine x_iconst (pc := 76) C (dq D_Cipher_mix 61 rfl) ci_2 ?_
      refine n_iadd (pc := 77) C (dq D_Cipher_mix 62 rfl) ?_
      refine x_iload (pc := 78) C (dq D_Cipher_mix 63 rfl) rfl ?_
      refine x_iload (pc := 80) C (dq D_Cipher_mix 64 rfl) rfl ?_
      refine n_ixor (pc := 82) C (dq D_Cipher_mix 65 rfl) ?_
      refine x_iload (pc := 83) C (dq D_Cipher_mix 66 rfl) rfl ?_
      refine x_iload (pc := 85) C (dq D_Cipher_mix 67 rfl) rfl ?_
      refine n_ixor (pc := 87) C (dq D_Cipher_mix 68 rfl) ?_
      refine x_cS1 (pc := 88) (M := M_Tables_twice) C (dq D_Cipher_mix 69 rfl) k_ml_Cipher_34 m_Tables_twice (c_twice (xor8 c d)) rfl rfl rfl rfl (by decide) ?_
      refine n_ixor (pc := 91) C (dq D_Cipher_mix 70 rfl) ?_
      refine x_iast (pc := 92) C (dq D_Cipher_mix 71 rfl) (hb1 _) (by (try simp only [List.length_set]); omega) ?_
      try rw [List.set_set]
      refine x_aload_n (pc := 93) C (dq D_Cipher_mix 72 rfl) rfl ?_
      refine x_iload_n (pc := 94) C (dq D_Cipher_mix 73 rfl) rfl ?_
      refine x_iconst (pc := 95) C (dq D_Cipher_mix 74 rfl) ci_3 ?_
      refine n_iadd (pc := 96) C (dq D_Cipher_mix 75 rfl) ?_
      refine x_iload (pc := 97) C (dq D_Cipher_mix 76 rfl) rfl ?_
      refine x_iload (pc := 99) C (dq D_Cipher_mix 77 rfl) rfl ?_
      refine n_ixor (pc := 101) C (dq D_Cipher_mix 78 rfl) ?_
      refine x_iload (pc := 102) C (dq D_Cipher_mix 79 rfl) rfl ?_
      refine x_iload_n (pc := 104) C (dq D_Cipher_mix 80 rfl) rfl ?_
      refine n_ixor (pc := 105) C (dq D_Cipher_mix 81 rfl) ?_
      refine x_cS1 (pc := 106) (M := M_Tables_twice) C (dq D_Cipher_mix 82 rfl) k_ml_Cipher_34 m_Tables_twice (c_twice (xor8 d a)) rfl rfl rfl rfl (by decide) ?_
      refine n_ixor (pc := 109) C (dq D_Cipher_mix 83 rfl) ?_
      refine x_iast (pc := 110) C (dq D_Cipher_mix 84 rfl) (hb1 _) (by (try simp only [List.length_set]); omega) ?_
      try rw [List.set_set]
      refine x_iinc (pc := 111) C (dq D_Cipher_mix 85 rfl) rfl (ii_4 _) rfl rfl ?_
      simp only [List.set_cons_zero, List.set_cons_succ]
      refine x_goto (pc := 114) (tgt := 2) C (dq D_Cipher_mix 86 rfl) (by decide) ?_
      exact ih (k + 1) (mxs (4 * k) S) _ _ _ _ _ (by omega) (by rw [mxs_len]; exact hS) (mxs8 _ h8)
  refine x_iconst (pc := 0) C (dq D_Cipher_mix 0 rfl) ci_0 ?_
  refine x_istore_n (i := 1) (pc := 1) C (dq D_Cipher_mix 1 rfl) rfl rfl rfl ?_
  simp only [List.set_cons_zero, List.set_cons_succ]
  have h0 := loop 4 0 A none none none none none rfl rfl h8
  rw [gs_id hb] at h0
  exact h0
def unmix (S : List Nat) : List Nat := mix (mix (mix S))
theorem c_unmix {g : Gp} {h : Hp} {blk : Nat} {A : List Nat} (hb : h[blk]? = some (ia g A)) (hA : 16 ≤ A.length ∧ A.length < 1000) (h8 : by8 A) :
    Con g M_Cipher_unmix 2 (0, 0) [.ref (zA (gz g) blk)] h (Ret none (h.set blk (ia g (unmix A)))) := by
  have hb1 : ∀ e, (h.set blk e)[blk]? = some e := fun e => gs_self hb
  refine Con.of (by decide) rfl rfl (L := [some (.ref (zA (gz g) blk))]) rfl (fun f C => ?_)
  refine x_aload_n (pc := 0) C (dq D_Cipher_unmix 0 rfl) rfl ?_
  refine x_cS0 (pc := 1) (M := M_Cipher_mix) C (dq D_Cipher_unmix 1 rfl) k_ml_Cipher_51 m_Cipher_mix (c_mix hb hA h8) rfl rfl rfl rfl (by decide) ?_
  refine x_aload_n (pc := 4) C (dq D_Cipher_unmix 2 rfl) rfl ?_
  refine x_cS0 (pc := 5) (M := M_Cipher_mix) C (dq D_Cipher_unmix 3 rfl) k_ml_Cipher_51 m_Cipher_mix (c_mix (hb1 _) (by rw [mix_len]; exact hA) (mix8 h8)) rfl rfl rfl rfl (by decide) ?_
  rw [List.set_set]
  refine x_aload_n (pc := 8) C (dq D_Cipher_unmix 4 rfl) rfl ?_
  refine x_cS0 (pc := 9) (M := M_Cipher_mix) C (dq D_Cipher_unmix 5 rfl) k_ml_Cipher_51 m_Cipher_mix (c_mix (hb1 _) (by rw [mix_len, mix_len]; exact hA) (mix8 (mix8 h8))) rfl rfl rfl rfl (by decide) ?_
  rw [List.set_set]
  exact x_vret (pc := 12) C (dq D_Cipher_unmix 6 rfl) rfl (by decide) ⟨rfl, rfl⟩
end
section
/-- a round, and all of them -/
def rnd (FO RK : List Nat) (r : Nat) (S : List Nat) : List Nat := it (ark RK r) 0 16 (if r < 10 then mix (it (sb FO (S.take 16)) 0 16 S) else it (sb FO (S.take 16)) 0 16 S)
def trn (FO RK S : List Nat) : List Nat := it (fun i => rnd FO RK (i + 1)) 0 10 (it (ark RK 0) 0 16 S)
theorem arks_len (RK : List Nat) (r : Nat) (S : List Nat) : (it (ark RK r) 0 16 S).length = S.length := it_len (ark_len RK r) 16 0 S
theorem sbs_len (T X0 S : List Nat) : (it (sb T X0) 0 16 S).length = S.length := it_len (sb_len T X0) 16 0 S
theorem rnd_len (FO RK : List Nat) (r : Nat) (S : List Nat) : (rnd FO RK r S).length = S.length := by
  unfold rnd
  rw [arks_len]
  split
  · rw [mix_len, sbs_len]
  · rw [sbs_len]
theorem rnd8 {FO RK : List Nat} (hF : by8 FO) (hK : by8 RK) (r : Nat) {S : List Nat} (h : by8 S) : by8 (rnd FO RK r S) := by
  unfold rnd
  refine ark8 hK r 16 0 ?_
  split
  · exact mix8 (sb8 hF _ 16 0 h)
  · exact sb8 hF _ 16 0 h
theorem trn_len (FO RK S : List Nat) : (trn FO RK S).length = S.length := by
  unfold trn
  rw [it_len (fun i S => rnd_len FO RK (i + 1) S), arks_len]
theorem trn8 {FO RK : List Nat} (hF : by8 FO) (hK : by8 RK) {S : List Nat} (h : by8 S) : by8 (trn FO RK S) :=
  it_inv by8 10 0 _ (fun j T _ _ hT => rnd8 hF hK (j + 1) hT) (ark8 hK 0 16 0 h)
/-- a cipher and its tables among the cells -/
def cip (g : Gp) (h : Hp) (c t rk bf fo ba : Nat) (FO BA RK : List Nat) : Prop :=
  h[c]? = some (cpc g t rk bf) ∧ h[t]? = some (tbc g fo ba) ∧ h[fo]? = some (ia g FO) ∧ h[ba]? = some (ia g BA) ∧ h[rk]? = some (ia g RK) ∧ (∃ BF, h[bf]? = some (ia g BF) ∧ BF.length = 16) ∧ FO.length = 256 ∧ BA.length = 256 ∧ RK.length = 176 ∧ by8 FO ∧ by8 BA ∧ by8 RK ∧ bf ≠ fo ∧ bf ≠ ba ∧ bf ≠ rk ∧ rk ≠ fo ∧ rk ≠ ba
/-- the cipher stays what it is where only its own row, or a block, changes -/
theorem cip.blk {g : Gp} {h : Hp} {c t rk bf fo ba q : Nat} {FO BA RK : List Nat} {e : va_E} {x : ClassId × vp_A} (H : cip g h c t rk bf fo ba FO BA RK) (hq : h[q]? = some (.inl x)) (h1 : q ≠ fo ∧ q ≠ ba ∧ q ≠ rk ∧ q ≠ bf) : cip g (h.set q e) c t rk bf fo ba FO BA RK := by
  obtain ⟨a1, a2, a3, a4, a5, ⟨BF, a6, a7⟩, a8⟩ := H
  exact ⟨gs_ne (ne_io hq a1) a1, gs_ne (ne_io hq a2) a2, gs_ne h1.1 a3, gs_ne h1.2.1 a4, gs_ne h1.2.2.1 a5, ⟨BF, gs_ne h1.2.2.2 a6, a7⟩, a8⟩
theorem cip.bf {g : Gp} {h : Hp} {c t rk bf fo ba : Nat} {FO BA RK F : List Nat} (H : cip g h c t rk bf fo ba FO BA RK) (hF : F.length = 16) : cip g (h.set bf (ia g F)) c t rk bf fo ba FO BA RK := by
  obtain ⟨a1, a2, a3, a4, a5, ⟨BF, a6, a7⟩, a8⟩ := H
  have b := a8.2.2.2.2.2.2
  exact ⟨gs_ne (ne_io a6 a1) a1, gs_ne (ne_io a6 a2) a2, gs_ne b.1 a3, gs_ne b.2.1 a4, gs_ne b.2.2.1 a5, ⟨F, gs_self a6, hF⟩, a8⟩
theorem cip.bfa {g : Gp} {h : Hp} {c t rk bf fo ba : Nat} {FO BA RK : List Nat} (H : cip g h c t rk bf fo ba FO BA RK) : ∃ BF, h[bf]? = some (ia g BF) ∧ BF.length = 16 := H.2.2.2.2.2.1
/-- the cells behind a turn: the row 'before' anyhow, the block turned -/
def tnd (g : Gp) (h : Hp) (bf blk : Nat) (B : List Nat) : Outcome → Hp → Prop := fun o h' => o = .returned none ∧ ∃ F : List Nat, F.length = 16 ∧ h' = (h.set bf (ia g F)).set blk (ia g B)
theorem c_turn {g : Gp} {h : Hp} {c t rk bf blk fo ba : Nat} {FO BA RK A : List Nat} (hc : cip g h c t rk bf fo ba FO BA RK) (hb : h[blk]? = some (ia g A)) (hne : blk ≠ fo ∧ blk ≠ ba ∧ blk ≠ rk ∧ blk ≠ bf) (hA : 16 ≤ A.length ∧ A.length < 1000) (h8 : by8 A) :
    Con g M_Cipher_turn 2 (0, 0) [.ref (zA (gz g) c), .ref (zA (gz g) blk)] h (tnd g h bf blk (trn FO RK A)) := by
  obtain ⟨BF, hbf, hBF⟩ := hc.bfa
  have hF8 := hc.2.2.2.2.2.2.2.2.2.1
  have hK8 := hc.2.2.2.2.2.2.2.2.2.2.2.1
  have hRK := hc.2.2.2.2.2.2.2.2.1
  have hFO := hc.2.2.2.2.2.2.1
  have hnf := hc.2.2.2.2.2.2.2.2.2.2.2.2.1
  have hbl0 : ∀ F : List Nat, (h.set bf (ia g F))[blk]? = some (ia g A) := fun F => gs_ne (Ne.symm hne.2.2.2) hb
  have hcw : ∀ F S : List Nat, F.length = 16 → cip g ((h.set bf (ia g F)).set blk (ia g S)) c t rk bf fo ba FO BA RK := fun F S hF => (hc.bf hF).blk (hbl0 F) hne
  have hbw : ∀ F S : List Nat, ((h.set bf (ia g F)).set blk (ia g S))[blk]? = some (ia g S) := fun F S => gs_self (hbl0 F)
  have hbfw : ∀ F S : List Nat, ((h.set bf (ia g F)).set blk (ia g S))[bf]? = some (ia g F) := fun F S => gs_ne hne.2.2.2 (gs_self hbf)
  refine Con.of (by decide) rfl rfl (L := [some (.ref (zA (gz g) c)), some (.ref (zA (gz g) blk)), none]) rfl (fun f C => ?_)
  have loop : ∀ (n i : Nat) (F S : List Nat), i + n = 10 → F.length = 16 → S.length = A.length → by8 S → X g f M_Cipher_turn (0, 0) (tnd g h bf blk (it (fun i => rnd FO RK (i + 1)) i n S)) (0, 0) 8 [some (.ref (zA (gz g) c)), some (.ref (zA (gz g) blk)), some (.int (nI (i + 1)))] [] ((h.set bf (ia g F)).set blk (ia g S)) := by
    intro n
    induction n with
    | zero =>
      intro i F S hin hF hS h8
      refine x_iload_n (pc := 8) C (dq D_Cipher_turn 6 rfl) rfl ?_
      refine x_bipush (pc := 9) C (dq D_Cipher_turn 7 rfl) cb_10 ?_
      refine n_gt_t (pc := 11) (tgt := 41) C (dq D_Cipher_turn 8 rfl) (by decide) (by omega) (by omega) ?_
      exact x_vret (pc := 41) C (dq D_Cipher_turn 23 rfl) rfl (by decide) ⟨rfl, F, hF, rfl⟩
    | succ n ih =>
      intro i F S hin hF hS h8
      have hw := hcw F S hF
      have hT : (S.take 16).length = 16 := by rw [List.length_take]; omega
      refine x_iload_n (pc := 8) C (dq D_Cipher_turn 6 rfl) rfl ?_
      refine x_bipush (pc := 9) C (dq D_Cipher_turn 7 rfl) cb_10 ?_
      refine n_gt_f (pc := 11) (tgt := 41) C (dq D_Cipher_turn 8 rfl) (by decide) (by omega) (by omega) ?_
      refine x_aload_n (pc := 14) C (dq D_Cipher_turn 9 rfl) rfl ?_
      refine x_aload_n (pc := 15) C (dq D_Cipher_turn 10 rfl) rfl ?_
      refine x_cV0 (pc := 16) (ci := 2) (M := M_Cipher_substitute) C (dq D_Cipher_turn 11 rfl) k_ml_Cipher_47 m_Cipher_substitute rfl rfl (hw.1) (c_substitute hw.1 hw.2.1 hw.2.2.1 (hbfw F S) (hbw F S) ⟨hne.1, hne.2.2.2, hnf⟩ hFO hF (by omega) h8) rfl rfl rfl rfl (by decide) ?_
      rw [gs_in (Ne.symm hne.2.2.2), List.set_set]
      have hl1 : (it (sb FO (S.take 16)) 0 16 S).length = A.length := by rw [sbs_len]; exact hS
      have h81 := sb8 hF8 (S.take 16) 16 0 h8
      have key : ∀ B : List Nat, B.length = A.length → by8 B → it (ark RK (i + 1)) 0 16 B = rnd FO RK (i + 1) S → X g f M_Cipher_turn (0, 0) (tnd g h bf blk (it (fun i => rnd FO RK (i + 1)) i (n + 1) S)) (0, 0) 29 [some (.ref (zA (gz g) c)), some (.ref (zA (gz g) blk)), some (.int (nI (i + 1)))] [] ((h.set bf (ia g (S.take 16))).set blk (ia g B)) := by
        intro B hB hB8 he
        have hw2 := hcw (S.take 16) B hT
        refine x_aload_n (pc := 29) C (dq D_Cipher_turn 17 rfl) rfl ?_
        refine x_aload_n (pc := 30) C (dq D_Cipher_turn 18 rfl) rfl ?_
        refine x_iload_n (pc := 31) C (dq D_Cipher_turn 19 rfl) rfl ?_
        refine x_cV0 (pc := 32) (ci := 2) (M := M_Cipher_addRoundKey) C (dq D_Cipher_turn 20 rfl) k_ml_Cipher_43 m_Cipher_addRoundKey rfl rfl (hw2.1) (c_addRoundKey hw2.1 hw2.2.2.2.2.1 (hbw _ _) hne.2.2.1 hRK (by omega) (by omega)) rfl rfl rfl rfl (by decide) ?_
        refine x_iinc (pc := 35) C (dq D_Cipher_turn 21 rfl) rfl (ii_1 _) rfl rfl ?_
        simp only [List.set_cons_zero, List.set_cons_succ]
        rw [List.set_set, he]
        refine x_goto (pc := 38) (tgt := 8) C (dq D_Cipher_turn 22 rfl) (by decide) ?_
        exact ih (i + 1) (S.take 16) (rnd FO RK (i + 1) S) (by omega) hT (by rw [rnd_len]; exact hS) (rnd8 hF8 hK8 _ h8)
      refine x_iload_n (pc := 19) C (dq D_Cipher_turn 12 rfl) rfl ?_
      refine x_bipush (pc := 20) C (dq D_Cipher_turn 13 rfl) cb_10 ?_
      refine n_ge (pc := 22) (tgt := 29) C (dq D_Cipher_turn 14 rfl) (by decide) (by omega) (fun hq => ?_) (fun hq => ?_)
      · refine key _ hl1 h81 ?_
        unfold rnd
        rw [if_neg (by omega)]
      · refine x_aload_n (pc := 25) C (dq D_Cipher_turn 15 rfl) rfl ?_
        refine x_cS0 (pc := 26) (M := M_Cipher_mix) C (dq D_Cipher_turn 16 rfl) k_ml_Cipher_51 m_Cipher_mix (c_mix (hbw _ _) (by omega) h81) rfl rfl rfl rfl (by decide) ?_
        rw [List.set_set]
        refine key _ (by rw [mix_len]; exact hl1) (mix8 h81) ?_
        unfold rnd
        rw [if_pos hq]
  refine x_aload_n (pc := 0) C (dq D_Cipher_turn 0 rfl) rfl ?_
  refine x_aload_n (pc := 1) C (dq D_Cipher_turn 1 rfl) rfl ?_
  refine x_iconst (pc := 2) C (dq D_Cipher_turn 2 rfl) ci_0 ?_
  refine x_cV0 (pc := 3) (ci := 2) (M := M_Cipher_addRoundKey) C (dq D_Cipher_turn 3 rfl) k_ml_Cipher_43 m_Cipher_addRoundKey rfl rfl (hc.1) (c_addRoundKey (r := 0) hc.1 hc.2.2.2.2.1 hb hne.2.2.1 hRK hA (by omega)) rfl rfl rfl rfl (by decide) ?_
  refine x_iconst (pc := 6) C (dq D_Cipher_turn 4 rfl) ci_1 ?_
  refine x_istore_n (i := 2) (pc := 7) C (dq D_Cipher_turn 5 rfl) rfl rfl rfl ?_
  simp only [List.set_cons_zero, List.set_cons_succ]
  have h0 := loop 10 0 BF (it (ark RK 0) 0 16 A) rfl hBF (arks_len RK 0 A) (ark8 hK8 0 16 0 h8)
  rw [gs_id hbf] at h0
  exact h0
end
section
def rndB (BA RK : List Nat) (r : Nat) (S : List Nat) : List Nat := it (sbB BA ((if r < 10 then unmix (it (ark RK r) 0 16 S) else it (ark RK r) 0 16 S).take 16)) 0 16 (if r < 10 then unmix (it (ark RK r) 0 16 S) else it (ark RK r) 0 16 S)
def trnB (BA RK S : List Nat) : List Nat := it (ark RK 0) 0 16 (it (fun i => rndB BA RK (10 - i)) 0 10 S)
theorem unmix_len (S : List Nat) : (unmix S).length = S.length := by
  unfold unmix
  rw [mix_len, mix_len, mix_len]
theorem unmix8 {S : List Nat} (h : by8 S) : by8 (unmix S) := mix8 (mix8 (mix8 h))
theorem sbBs_len (T X0 S : List Nat) : (it (sbB T X0) 0 16 S).length = S.length := it_len (sbB_len T X0) 16 0 S
theorem rndB_len (BA RK : List Nat) (r : Nat) (S : List Nat) : (rndB BA RK r S).length = S.length := by
  unfold rndB
  rw [sbBs_len]
  split
  · rw [unmix_len, arks_len]
  · rw [arks_len]
theorem rndB8 {BA RK : List Nat} (hB : by8 BA) (hK : by8 RK) (r : Nat) {S : List Nat} (h : by8 S) : by8 (rndB BA RK r S) := by
  unfold rndB
  refine sbB8 hB _ 16 0 ?_
  split
  · exact unmix8 (ark8 hK r 16 0 h)
  · exact ark8 hK r 16 0 h
theorem trnB_len (BA RK S : List Nat) : (trnB BA RK S).length = S.length := by
  unfold trnB
  rw [arks_len, it_len (fun i S => rndB_len BA RK (10 - i) S)]
theorem trnB8 {BA RK : List Nat} (hB : by8 BA) (hK : by8 RK) {S : List Nat} (h : by8 S) : by8 (trnB BA RK S) :=
  ark8 hK 0 16 0 (it_inv by8 10 0 _ (fun j T _ _ hT => rndB8 hB hK (10 - j) hT) h)
theorem c_turnBack {g : Gp} {h : Hp} {c t rk bf blk fo ba : Nat} {FO BA RK A : List Nat} (hc : cip g h c t rk bf fo ba FO BA RK) (hb : h[blk]? = some (ia g A)) (hne : blk ≠ fo ∧ blk ≠ ba ∧ blk ≠ rk ∧ blk ≠ bf) (hA : 16 ≤ A.length ∧ A.length < 1000) (h8 : by8 A) :
    Con g M_Cipher_turnBack 3 (0, 0) [.ref (zA (gz g) c), .ref (zA (gz g) blk)] h (tnd g h bf blk (trnB BA RK A)) := by
  obtain ⟨BF, hbf, hBF⟩ := hc.bfa
  have hB8 := hc.2.2.2.2.2.2.2.2.2.2.1
  have hK8 := hc.2.2.2.2.2.2.2.2.2.2.2.1
  have hRK := hc.2.2.2.2.2.2.2.2.1
  have hBA := hc.2.2.2.2.2.2.2.1
  have hnf := hc.2.2.2.2.2.2.2.2.2.2.2.2.2.1
  have hbl0 : ∀ F : List Nat, (h.set bf (ia g F))[blk]? = some (ia g A) := fun F => gs_ne (Ne.symm hne.2.2.2) hb
  have hcw : ∀ F S : List Nat, F.length = 16 → cip g ((h.set bf (ia g F)).set blk (ia g S)) c t rk bf fo ba FO BA RK := fun F S hF => (hc.bf hF).blk (hbl0 F) hne
  have hbw : ∀ F S : List Nat, ((h.set bf (ia g F)).set blk (ia g S))[blk]? = some (ia g S) := fun F S => gs_self (hbl0 F)
  have hbfw : ∀ F S : List Nat, ((h.set bf (ia g F)).set blk (ia g S))[bf]? = some (ia g F) := fun F S => gs_ne hne.2.2.2 (gs_self hbf)
  refine Con.of (by decide) rfl rfl (L := [some (.ref (zA (gz g) c)), some (.ref (zA (gz g) blk)), none]) rfl (fun f C => ?_)
  have loop : ∀ (n i : Nat) (F S : List Nat), i + n = 10 → F.length = 16 → S.length = A.length → by8 S → X g f M_Cipher_turnBack (0, 0) (tnd g h bf blk (it (ark RK 0) 0 16 (it (fun i => rndB BA RK (10 - i)) i n S))) (0, 0) 3 [some (.ref (zA (gz g) c)), some (.ref (zA (gz g) blk)), some (.int (nI (10 - i)))] [] ((h.set bf (ia g F)).set blk (ia g S)) := by
    intro n
    induction n with
    | zero =>
      intro i F S hin hF hS h8
      have hw := hcw F S hF
      refine x_iload_n (pc := 3) C (dq D_Cipher_turnBack 2 rfl) rfl ?_
      refine x_iconst (pc := 4) C (dq D_Cipher_turnBack 3 rfl) ci_1 ?_
      refine n_lt_t (pc := 5) (tgt := 35) C (dq D_Cipher_turnBack 4 rfl) (by decide) (by omega) (by omega) ?_
      refine x_aload_n (pc := 35) C (dq D_Cipher_turnBack 19 rfl) rfl ?_
      refine x_aload_n (pc := 36) C (dq D_Cipher_turnBack 20 rfl) rfl ?_
      refine x_iconst (pc := 37) C (dq D_Cipher_turnBack 21 rfl) ci_0 ?_
      refine x_cV0 (pc := 38) (ci := 2) (M := M_Cipher_addRoundKey) C (dq D_Cipher_turnBack 22 rfl) k_ml_Cipher_43 m_Cipher_addRoundKey rfl rfl (hw.1) (c_addRoundKey (r := 0) hw.1 hw.2.2.2.2.1 (hbw _ _) hne.2.2.1 hRK (by omega) (by omega)) rfl rfl rfl rfl (by decide) ?_
      rw [List.set_set]
      exact x_vret (pc := 41) C (dq D_Cipher_turnBack 23 rfl) rfl (by decide) ⟨rfl, F, hF, rfl⟩
    | succ n ih =>
      intro i F S hin hF hS h8
      have hw := hcw F S hF
      refine x_iload_n (pc := 3) C (dq D_Cipher_turnBack 2 rfl) rfl ?_
      refine x_iconst (pc := 4) C (dq D_Cipher_turnBack 3 rfl) ci_1 ?_
      refine n_lt_f (pc := 5) (tgt := 35) C (dq D_Cipher_turnBack 4 rfl) (by decide) (by omega) (by omega) ?_
      refine x_aload_n (pc := 8) C (dq D_Cipher_turnBack 5 rfl) rfl ?_
      refine x_aload_n (pc := 9) C (dq D_Cipher_turnBack 6 rfl) rfl ?_
      refine x_iload_n (pc := 10) C (dq D_Cipher_turnBack 7 rfl) rfl ?_
      refine x_cV0 (pc := 11) (ci := 2) (M := M_Cipher_addRoundKey) C (dq D_Cipher_turnBack 8 rfl) k_ml_Cipher_43 m_Cipher_addRoundKey rfl rfl (hw.1) (c_addRoundKey hw.1 hw.2.2.2.2.1 (hbw F S) hne.2.2.1 hRK (by omega) (by omega)) rfl rfl rfl rfl (by decide) ?_
      rw [List.set_set]
      have hl1 : (it (ark RK (10 - i)) 0 16 S).length = A.length := by rw [arks_len]; exact hS
      have h81 := ark8 hK8 (10 - i) 16 0 h8
      have key : ∀ B : List Nat, B.length = A.length → by8 B → it (sbB BA (B.take 16)) 0 16 B = rndB BA RK (10 - i) S → X g f M_Cipher_turnBack (0, 0) (tnd g h bf blk (it (ark RK 0) 0 16 (it (fun i => rndB BA RK (10 - i)) i (n + 1) S))) (0, 0) 24 [some (.ref (zA (gz g) c)), some (.ref (zA (gz g) blk)), some (.int (nI (10 - i)))] [] ((h.set bf (ia g F)).set blk (ia g B)) := by
        intro B hB hB81 he
        have hw2 := hcw F B hF
        have hT : (B.take 16).length = 16 := by rw [List.length_take]; omega
        refine x_aload_n (pc := 24) C (dq D_Cipher_turnBack 14 rfl) rfl ?_
        refine x_aload_n (pc := 25) C (dq D_Cipher_turnBack 15 rfl) rfl ?_
        refine x_cV0 (pc := 26) (ci := 2) (M := M_Cipher_substituteBack) C (dq D_Cipher_turnBack 16 rfl) k_ml_Cipher_57 m_Cipher_substituteBack rfl rfl (hw2.1) (c_substituteBack hw2.1 hw2.2.1 hw2.2.2.2.1 (hbfw F B) (hbw F B) ⟨hne.2.1, hne.2.2.2, hnf⟩ hBA hF (by omega) hB81) rfl rfl rfl rfl (by decide) ?_
        rw [gs_in (Ne.symm hne.2.2.2), List.set_set, he]
        refine x_iinc (pc := 29) C (dq D_Cipher_turnBack 17 rfl) rfl (iim (by omega)) rfl rfl ?_
        simp only [List.set_cons_zero, List.set_cons_succ]
        refine x_goto (pc := 32) (tgt := 3) C (dq D_Cipher_turnBack 18 rfl) (by decide) ?_
        rw [show 10 - i - 1 = 10 - (i + 1) by omega]
        exact ih (i + 1) (B.take 16) (rndB BA RK (10 - i) S) (by omega) hT (by rw [rndB_len]; exact hS) (rndB8 hB8 hK8 _ h8)
      refine x_iload_n (pc := 14) C (dq D_Cipher_turnBack 9 rfl) rfl ?_
      refine x_bipush (pc := 15) C (dq D_Cipher_turnBack 10 rfl) cb_10 ?_
      refine n_ge (pc := 17) (tgt := 24) C (dq D_Cipher_turnBack 11 rfl) (by decide) (by omega) (fun hq => ?_) (fun hq => ?_)
      · refine key _ hl1 h81 ?_
        unfold rndB
        rw [if_neg (by omega)]
      · refine x_aload_n (pc := 20) C (dq D_Cipher_turnBack 12 rfl) rfl ?_
        refine x_cS0 (pc := 21) (M := M_Cipher_unmix) C (dq D_Cipher_turnBack 13 rfl) k_ml_Cipher_54 m_Cipher_unmix (c_unmix (hbw _ _) (by omega) h81) rfl rfl rfl rfl (by decide) ?_
        rw [List.set_set]
        refine key _ (by rw [unmix_len]; exact hl1) (unmix8 h81) ?_
        unfold rndB
        rw [if_pos hq]
  refine x_bipush (pc := 0) C (dq D_Cipher_turnBack 0 rfl) cb_10 ?_
  refine x_istore_n (i := 2) (pc := 2) C (dq D_Cipher_turnBack 1 rfl) rfl rfl rfl ?_
  simp only [List.set_cons_zero, List.set_cons_succ]
  have h0 := loop 10 0 BF A rfl hBF rfl h8
  rw [gs_id hbf, gs_id hb] at h0
  exact h0
end
section
/-- the schedule of keys: four bytes through the table, the power, the other twelve -/
def ex1 (FO : List Nat) (s k : Nat) (R : List Nat) : List Nat := R.set (s + k) (R.getD (s - 16 + k) 0 ^^^ FO.getD (R.getD (s - 4 + (k + 1) % 4) 0) 0)
def ex2 (s k : Nat) (R : List Nat) : List Nat := R.set (s + k) (R.getD (s - 16 + k) 0 ^^^ R.getD (s + k - 4) 0)
def exm (s pw : Nat) (R : List Nat) : List Nat := R.set s (R.getD s 0 ^^^ pw)
def exf (FO : List Nat) (s pw : Nat) (R : List Nat) : List Nat := it (ex2 s) 4 12 (exm s pw (it (ex1 FO s) 0 4 R))
theorem ex1_len (FO : List Nat) (s k : Nat) (R : List Nat) : (ex1 FO s k R).length = R.length := List.length_set
theorem ex2_len (s k : Nat) (R : List Nat) : (ex2 s k R).length = R.length := List.length_set
theorem ex18 {FO : List Nat} (hF : by8 FO) (s k n : Nat) {R : List Nat} (h : by8 R) : by8 (it (ex1 FO s) k n R) := it_inv by8 n k R (fun j T _ _ hT => hT.set (xor8 (hT.at _) (hF.at _))) h
theorem ex28 (s k n : Nat) {R : List Nat} (h : by8 R) : by8 (it (ex2 s) k n R) := it_inv by8 n k R (fun j T _ _ hT => hT.set (xor8 (hT.at _) (hT.at _))) h
theorem exf_len (FO : List Nat) (s pw : Nat) (R : List Nat) : (exf FO s pw R).length = R.length := by
  unfold exf exm
  rw [it_len (ex2_len s), List.length_set, it_len (ex1_len FO s)]
theorem exf8 {FO : List Nat} (hF : by8 FO) (s : Nat) {pw : Nat} (hp : pw < 256) {R : List Nat} (h : by8 R) : by8 (exf FO s pw R) :=
  ex28 s 4 12 ((ex18 hF s 0 4 h).set (xor8 ((ex18 hF s 0 4 h).at _) hp))
theorem c_expandFrom {g : Gp} {h : Hp} {c t rk bf fo ba s pw : Nat} {FO R : List Nat} (hc : h[c]? = some (cpc g t rk bf)) (ht : h[t]? = some (tbc g fo ba)) (hf : h[fo]? = some (ia g FO)) (hk : h[rk]? = some (ia g R)) (hne : rk ≠ fo) (hFO : FO.length = 256) (hR : R.length = 176) (hs : 16 ≤ s ∧ s ≤ 160) (hF8 : by8 FO) (hp : pw < 256) (h8 : by8 R) :
    Con g M_Cipher_expandFrom 0 (0, 0) [.ref (zA (gz g) c), .int (nI s), .int (nI pw)] h (Ret none (h.set rk (ia g (exf FO s pw R)))) := by
  have hc1 : ∀ e, (h.set rk e)[c]? = some (cpc g t rk bf) := fun e => gs_ne (ne_io hk hc) hc
  have ht1 : ∀ e, (h.set rk e)[t]? = some (tbc g fo ba) := fun e => gs_ne (ne_io hk ht) ht
  have hf1 : ∀ e, (h.set rk e)[fo]? = some (ia g FO) := fun e => gs_ne hne hf
  have hk1 : ∀ e, (h.set rk e)[rk]? = some e := fun e => gs_self hk
  refine Con.of (by decide) rfl rfl (L := [some (.ref (zA (gz g) c)), some (.int (nI s)), some (.int (nI pw)), none, none]) rfl (fun f C => ?_)
  have loop2 : ∀ (n k : Nat) (S : List Nat) (l4 : Option Value), k + n = 16 → 4 ≤ k → S.length = 176 → X g f M_Cipher_expandFrom (0, 0) (Ret none (h.set rk (ia g (it (ex2 s) k n S)))) (0, 0) 71 [some (.ref (zA (gz g) c)), some (.int (nI s)), some (.int (nI pw)), some (.int (nI k)), l4] [] (h.set rk (ia g S)) := by
    intro n
    induction n with
    | zero =>
      intro k S l4 hkn hk4 hS
      refine x_iload_n (pc := 71) C (dq D_Cipher_expandFrom 50 rfl) rfl ?_
      refine x_bipush (pc := 72) C (dq D_Cipher_expandFrom 51 rfl) cb_16 ?_
      refine n_ge_t (pc := 74) (tgt := 113) C (dq D_Cipher_expandFrom 52 rfl) (by decide) (by omega) (by omega) ?_
      exact x_vret (pc := 113) C (dq D_Cipher_expandFrom 78 rfl) rfl (by decide) ⟨rfl, rfl⟩
    | succ n ih =>
      intro k S l4 hkn hk4 hS
      refine x_iload_n (pc := 71) C (dq D_Cipher_expandFrom 50 rfl) rfl ?_
      refine x_bipush (pc := 72) C (dq D_Cipher_expandFrom 51 rfl) cb_16 ?_
      refine n_ge_f (pc := 74) (tgt := 113) C (dq D_Cipher_expandFrom 52 rfl) (by decide) (by omega) (by omega) ?_
      refine x_aload_n (pc := 77) C (dq D_Cipher_expandFrom 53 rfl) rfl ?_
      refine x_get (pc := 78) (ci := 2) (j := 1) C (dq D_Cipher_expandFrom 54 rfl) rfl rfl (by first | exact hc1 _ | exact hk1 _) rfl k_fl_Cipher_11 ?_
      refine x_iload_n (pc := 81) C (dq D_Cipher_expandFrom 55 rfl) rfl ?_
      refine x_iload_n (pc := 82) C (dq D_Cipher_expandFrom 56 rfl) rfl ?_
      refine n_iadd (pc := 83) C (dq D_Cipher_expandFrom 57 rfl) ?_
      refine x_aload_n (pc := 84) C (dq D_Cipher_expandFrom 58 rfl) rfl ?_
      refine x_get (pc := 85) (ci := 2) (j := 1) C (dq D_Cipher_expandFrom 59 rfl) rfl rfl (by first | exact hc1 _ | exact hk1 _) rfl k_fl_Cipher_11 ?_
      refine x_iload_n (pc := 88) C (dq D_Cipher_expandFrom 60 rfl) rfl ?_
      refine x_bipush (pc := 89) C (dq D_Cipher_expandFrom 61 rfl) cb_16 ?_
      refine n_isub (pc := 91) C (dq D_Cipher_expandFrom 62 rfl) (by omega) ?_
      refine x_iload_n (pc := 92) C (dq D_Cipher_expandFrom 63 rfl) rfl ?_
      refine n_iadd (pc := 93) C (dq D_Cipher_expandFrom 64 rfl) ?_
      refine x_iald (pc := 94) C (dq D_Cipher_expandFrom 65 rfl) (by first | exact hc1 _ | exact hk1 _) (by (try simp only [List.length_set]); omega) ?_
      refine x_aload_n (pc := 95) C (dq D_Cipher_expandFrom 66 rfl) rfl ?_
      refine x_get (pc := 96) (ci := 2) (j := 1) C (dq D_Cipher_expandFrom 67 rfl) rfl rfl (by first | exact hc1 _ | exact hk1 _) rfl k_fl_Cipher_11 ?_
      refine x_iload_n (pc := 99) C (dq D_Cipher_expandFrom 68 rfl) rfl ?_
      refine x_iload_n (pc := 100) C (dq D_Cipher_expandFrom 69 rfl) rfl ?_
      refine n_iadd (pc := 101) C (dq D_Cipher_expandFrom 70 rfl) ?_
      refine x_iconst (pc := 102) C (dq D_Cipher_expandFrom 71 rfl) ci_4 ?_
      refine n_isub (pc := 103) C (dq D_Cipher_expandFrom 72 rfl) (by omega) ?_
      refine x_iald (pc := 104) C (dq D_Cipher_expandFrom 73 rfl) (by first | exact hc1 _ | exact hk1 _) (by (try simp only [List.length_set]); omega) ?_
      refine n_ixor (pc := 105) C (dq D_Cipher_expandFrom 74 rfl) ?_
      refine x_iast (pc := 106) C (dq D_Cipher_expandFrom 75 rfl) (by first | exact hc1 _ | exact hk1 _) (by (try simp only [List.length_set]); omega) ?_
      try rw [List.set_set]
      refine x_iinc (pc := 107) C (dq D_Cipher_expandFrom 76 rfl) rfl (ii_1 _) rfl rfl ?_
      simp only [List.set_cons_zero, List.set_cons_succ]
      refine x_goto (pc := 110) (tgt := 71) C (dq D_Cipher_expandFrom 77 rfl) (by decide) ?_
      exact ih (k + 1) (ex2 s k S) l4 (by omega) (by omega) (by rw [ex2_len]; exact hS)
  have loop1 : ∀ (n k : Nat) (S : List Nat) (l4 : Option Value), k + n = 4 → S.length = 176 → by8 S → X g f M_Cipher_expandFrom (0, 0) (Ret none (h.set rk (ia g (it (ex2 s) 4 12 (exm s pw (it (ex1 FO s) k n S)))))) (0, 0) 2 [some (.ref (zA (gz g) c)), some (.int (nI s)), some (.int (nI pw)), some (.int (nI k)), l4] [] (h.set rk (ia g S)) := by
    intro n
    induction n with
    | zero =>
      intro k S l4 hkn hS h8
      refine x_iload_n (pc := 2) C (dq D_Cipher_expandFrom 2 rfl) rfl ?_
      refine x_iconst (pc := 3) C (dq D_Cipher_expandFrom 3 rfl) ci_4 ?_
      refine n_ge_t (pc := 4) (tgt := 59) C (dq D_Cipher_expandFrom 4 rfl) (by decide) (by omega) (by omega) ?_
      refine x_aload_n (pc := 59) C (dq D_Cipher_expandFrom 40 rfl) rfl ?_
      refine x_get (pc := 60) (ci := 2) (j := 1) C (dq D_Cipher_expandFrom 41 rfl) rfl rfl (by first | exact hc1 _ | exact hk1 _) rfl k_fl_Cipher_11 ?_
      refine x_iload_n (pc := 63) C (dq D_Cipher_expandFrom 42 rfl) rfl ?_
      refine x_dup2 (pc := 64) C (dq D_Cipher_expandFrom 43 rfl) rfl rfl ?_
      refine x_iald (pc := 65) C (dq D_Cipher_expandFrom 44 rfl) (by first | exact hc1 _ | exact hk1 _) (by (try simp only [List.length_set]); omega) ?_
      refine x_iload_n (pc := 66) C (dq D_Cipher_expandFrom 45 rfl) rfl ?_
      refine n_ixor (pc := 67) C (dq D_Cipher_expandFrom 46 rfl) ?_
      refine x_iast (pc := 68) C (dq D_Cipher_expandFrom 47 rfl) (by first | exact hc1 _ | exact hk1 _) (by (try simp only [List.length_set]); omega) ?_
      try rw [List.set_set]
      refine x_iconst (pc := 69) C (dq D_Cipher_expandFrom 48 rfl) ci_4 ?_
      refine x_istore_n (i := 3) (pc := 70) C (dq D_Cipher_expandFrom 49 rfl) rfl rfl rfl ?_
      simp only [List.set_cons_zero, List.set_cons_succ]
      exact loop2 12 4 (exm s pw S) l4 rfl (by omega) (by rw [exm, List.length_set]; exact hS)
    | succ n ih =>
      intro k S l4 hkn hS h8
      have hv := h8.at (s - 4 + (k + 1) % 4)
      refine x_iload_n (pc := 2) C (dq D_Cipher_expandFrom 2 rfl) rfl ?_
      refine x_iconst (pc := 3) C (dq D_Cipher_expandFrom 3 rfl) ci_4 ?_
      refine n_ge_f (pc := 4) (tgt := 59) C (dq D_Cipher_expandFrom 4 rfl) (by decide) (by omega) (by omega) ?_
      refine x_aload_n (pc := 7) C (dq D_Cipher_expandFrom 5 rfl) rfl ?_
      refine x_get (pc := 8) (ci := 2) (j := 1) C (dq D_Cipher_expandFrom 6 rfl) rfl rfl (by first | exact hc1 _ | exact ht1 _ | exact hf1 _ | exact hk1 _) rfl k_fl_Cipher_11 ?_
      refine x_iload_n (pc := 11) C (dq D_Cipher_expandFrom 7 rfl) rfl ?_
      refine x_iconst (pc := 12) C (dq D_Cipher_expandFrom 8 rfl) ci_4 ?_
      refine n_isub (pc := 13) C (dq D_Cipher_expandFrom 9 rfl) (by omega) ?_
      refine x_iload_n (pc := 14) C (dq D_Cipher_expandFrom 10 rfl) rfl ?_
      refine x_iconst (pc := 15) C (dq D_Cipher_expandFrom 11 rfl) ci_1 ?_
      refine n_iadd (pc := 16) C (dq D_Cipher_expandFrom 12 rfl) ?_
      refine x_iconst (pc := 17) C (dq D_Cipher_expandFrom 13 rfl) ci_4 ?_
      refine n_irem (pc := 18) C (dq D_Cipher_expandFrom 14 rfl) (by omega) (by omega) (by omega) ?_
      refine n_iadd (pc := 19) C (dq D_Cipher_expandFrom 15 rfl) ?_
      refine x_iald (pc := 20) C (dq D_Cipher_expandFrom 16 rfl) (by first | exact hc1 _ | exact ht1 _ | exact hf1 _ | exact hk1 _) (by (try simp only [List.length_set]); omega) ?_
      refine x_istore (i := 4) (pc := 21) C (dq D_Cipher_expandFrom 17 rfl) rfl rfl rfl ?_
      simp only [List.set_cons_zero, List.set_cons_succ]
      refine x_aload_n (pc := 23) C (dq D_Cipher_expandFrom 18 rfl) rfl ?_
      refine x_get (pc := 24) (ci := 2) (j := 1) C (dq D_Cipher_expandFrom 19 rfl) rfl rfl (by first | exact hc1 _ | exact ht1 _ | exact hf1 _ | exact hk1 _) rfl k_fl_Cipher_11 ?_
      refine x_iload_n (pc := 27) C (dq D_Cipher_expandFrom 20 rfl) rfl ?_
      refine x_iload_n (pc := 28) C (dq D_Cipher_expandFrom 21 rfl) rfl ?_
      refine n_iadd (pc := 29) C (dq D_Cipher_expandFrom 22 rfl) ?_
      refine x_aload_n (pc := 30) C (dq D_Cipher_expandFrom 23 rfl) rfl ?_
      refine x_get (pc := 31) (ci := 2) (j := 1) C (dq D_Cipher_expandFrom 24 rfl) rfl rfl (by first | exact hc1 _ | exact ht1 _ | exact hf1 _ | exact hk1 _) rfl k_fl_Cipher_11 ?_
      refine x_iload_n (pc := 34) C (dq D_Cipher_expandFrom 25 rfl) rfl ?_
      refine x_bipush (pc := 35) C (dq D_Cipher_expandFrom 26 rfl) cb_16 ?_
      refine n_isub (pc := 37) C (dq D_Cipher_expandFrom 27 rfl) (by omega) ?_
      refine x_iload_n (pc := 38) C (dq D_Cipher_expandFrom 28 rfl) rfl ?_
      refine n_iadd (pc := 39) C (dq D_Cipher_expandFrom 29 rfl) ?_
      refine x_iald (pc := 40) C (dq D_Cipher_expandFrom 30 rfl) (by first | exact hc1 _ | exact ht1 _ | exact hf1 _ | exact hk1 _) (by (try simp only [List.length_set]); omega) ?_
      refine x_aload_n (pc := 41) C (dq D_Cipher_expandFrom 31 rfl) rfl ?_
      refine x_get (pc := 42) (ci := 2) (j := 0) C (dq D_Cipher_expandFrom 32 rfl) rfl rfl (by first | exact hc1 _ | exact ht1 _ | exact hf1 _ | exact hk1 _) rfl k_fl_Cipher_18 ?_
      refine x_get (pc := 45) (ci := 8) (j := 0) C (dq D_Cipher_expandFrom 33 rfl) rfl rfl (by first | exact hc1 _ | exact ht1 _ | exact hf1 _ | exact hk1 _) rfl k_fl_Cipher_40 ?_
      refine x_iload (pc := 48) C (dq D_Cipher_expandFrom 34 rfl) rfl ?_
      refine x_iald (pc := 50) C (dq D_Cipher_expandFrom 35 rfl) (by first | exact hc1 _ | exact ht1 _ | exact hf1 _ | exact hk1 _) (by (try simp only [List.length_set]); omega) ?_
      refine n_ixor (pc := 51) C (dq D_Cipher_expandFrom 36 rfl) ?_
      refine x_iast (pc := 52) C (dq D_Cipher_expandFrom 37 rfl) (by first | exact hc1 _ | exact ht1 _ | exact hf1 _ | exact hk1 _) (by (try simp only [List.length_set]); omega) ?_
      try rw [List.set_set]
      refine x_iinc (pc := 53) C (dq D_Cipher_expandFrom 38 rfl) rfl (ii_1 _) rfl rfl ?_
      simp only [List.set_cons_zero, List.set_cons_succ]
      refine x_goto (pc := 56) (tgt := 2) C (dq D_Cipher_expandFrom 39 rfl) (by decide) ?_
      exact ih (k + 1) (ex1 FO s k S) _ (by omega) (by rw [ex1_len]; exact hS) (h8.set (xor8 (h8.at _) (hF8.at _)))
  refine x_iconst (pc := 0) C (dq D_Cipher_expandFrom 0 rfl) ci_0 ?_
  refine x_istore_n (i := 3) (pc := 1) C (dq D_Cipher_expandFrom 1 rfl) rfl rfl rfl ?_
  simp only [List.set_cons_zero, List.set_cons_succ]
  have h0 := loop1 4 0 R none rfl hR h8
  rw [gs_id hk] at h0
  exact h0
def us1 (a b c d k : Nat) (R : List Nat) : List Nat := (((R.set k (bo a k)).set (4 + k) (bo b k)).set (8 + k) (bo c k)).set (12 + k) (bo d k)
def us2 (FO : List Nat) (i : Nat) (q : Nat × List Nat) : Nat × List Nat := (tw q.1, exf FO (16 + 16 * i) q.1 q.2)
/-- the keys of four words, laid over a row -/
def keys (FO : List Nat) (a b c d : Nat) (R : List Nat) : List Nat := (it (us2 FO) 0 10 (1, it (us1 a b c d) 0 4 R)).2
theorem us1_len (a b c d k : Nat) (R : List Nat) : (us1 a b c d k R).length = R.length := by simp [us1]
theorem us18 (a b c d k n : Nat) {R : List Nat} (h : by8 R) : by8 (it (us1 a b c d) k n R) := it_inv by8 n k R (fun j T _ _ hT => (((hT.set (bo8 _ _)).set (bo8 _ _)).set (bo8 _ _)).set (bo8 _ _)) h
theorem us2_ok {FO : List Nat} (hF : by8 FO) (n k : Nat) (q : Nat × List Nat) (h : q.1 < 256 ∧ q.2.length = 176 ∧ by8 q.2) : (it (us2 FO) k n q).1 < 256 ∧ (it (us2 FO) k n q).2.length = 176 ∧ by8 (it (us2 FO) k n q).2 :=
  it_inv (fun q : Nat × List Nat => q.1 < 256 ∧ q.2.length = 176 ∧ by8 q.2) n k q (fun j T _ _ hT => by
    obtain ⟨a1, a2, a3⟩ := hT
    have b1 : tw T.1 < 256 := tw8 T.1 a1
    have b2 : (exf FO (16 + 16 * j) T.1 T.2).length = 176 := (exf_len FO (16 + 16 * j) T.1 T.2).trans a2
    have b3 : by8 (exf FO (16 + 16 * j) T.1 T.2) := exf8 hF (16 + 16 * j) a1 a3
    unfold us2
    dsimp only
    exact ⟨b1, b2, b3⟩) h
theorem keys_ok {FO R : List Nat} (hF : by8 FO) (a b c d : Nat) (hR : R.length = 176) (h : by8 R) : (keys FO a b c d R).length = 176 ∧ by8 (keys FO a b c d R) :=
  (us2_ok hF 10 0 _ ⟨show 1 < 256 by omega, by rw [it_len (us1_len a b c d)]; exact hR, us18 a b c d 0 4 h⟩).2
theorem c_use {g : Gp} {h : Hp} {cc t rk bf fo ba a b c d : Nat} {FO R : List Nat} (hc : h[cc]? = some (cpc g t rk bf)) (ht : h[t]? = some (tbc g fo ba)) (hf : h[fo]? = some (ia g FO)) (hk : h[rk]? = some (ia g R)) (hne : rk ≠ fo) (hFO : FO.length = 256) (hR : R.length = 176) (hF8 : by8 FO) (h8 : by8 R) (ha : a < 2 ^ 32) (hb : b < 2 ^ 32) (hcc : c < 2 ^ 32) (hd : d < 2 ^ 32) :
    Con g M_Cipher_use 1 (0, 0) [.ref (zA (gz g) cc), .int (nI a), .int (nI b), .int (nI c), .int (nI d)] h (Ret none (h.set rk (ia g (keys FO a b c d R)))) := by
  have hc1 : ∀ e, (h.set rk e)[cc]? = some (cpc g t rk bf) := fun e => gs_ne (ne_io hk hc) hc
  have ht1 : ∀ e, (h.set rk e)[t]? = some (tbc g fo ba) := fun e => gs_ne (ne_io hk ht) ht
  have hf1 : ∀ e, (h.set rk e)[fo]? = some (ia g FO) := fun e => gs_ne hne hf
  have hk1 : ∀ e, (h.set rk e)[rk]? = some e := fun e => gs_self hk
  refine Con.of (by decide) rfl rfl (L := [some (.ref (zA (gz g) cc)), some (.int (nI a)), some (.int (nI b)), some (.int (nI c)), some (.int (nI d)), none, none]) rfl (fun f C => ?_)
  have loop2 : ∀ (n i pw : Nat) (S : List Nat), i + n = 10 → pw < 256 → S.length = 176 → by8 S → X g f M_Cipher_use (0, 0) (Ret none (h.set rk (ia g (it (us2 FO) i n (pw, S)).2))) (0, 0) 83 [some (.ref (zA (gz g) cc)), some (.int (nI a)), some (.int (nI b)), some (.int (nI c)), some (.int (nI d)), some (.int (nI pw)), some (.int (nI (16 + 16 * i)))] [] (h.set rk (ia g S)) := by
    intro n
    induction n with
    | zero =>
      intro i pw S hin hp hS h8
      refine x_iload (pc := 83) C (dq D_Cipher_use 45 rfl) rfl ?_
      refine x_aload_n (pc := 85) C (dq D_Cipher_use 46 rfl) rfl ?_
      refine x_get (pc := 86) (ci := 2) (j := 1) C (dq D_Cipher_use 47 rfl) rfl rfl (by first | exact hc1 _ | exact hk1 _) rfl k_fl_Cipher_11 ?_
      refine x_alen (pc := 89) C (dq D_Cipher_use 48 rfl) (by first | exact hc1 _ | exact hk1 _) ?_
      refine n_ge_t (pc := 90) (tgt := 114) C (dq D_Cipher_use 49 rfl) (by decide) (by omega) (by omega) ?_
      exact x_vret (pc := 114) C (dq D_Cipher_use 59 rfl) rfl (by decide) ⟨rfl, rfl⟩
    | succ n ih =>
      intro i pw S hin hp hS h8
      refine x_iload (pc := 83) C (dq D_Cipher_use 45 rfl) rfl ?_
      refine x_aload_n (pc := 85) C (dq D_Cipher_use 46 rfl) rfl ?_
      refine x_get (pc := 86) (ci := 2) (j := 1) C (dq D_Cipher_use 47 rfl) rfl rfl (by first | exact hc1 _ | exact hk1 _) rfl k_fl_Cipher_11 ?_
      refine x_alen (pc := 89) C (dq D_Cipher_use 48 rfl) (by first | exact hc1 _ | exact hk1 _) ?_
      refine n_ge_f (pc := 90) (tgt := 114) C (dq D_Cipher_use 49 rfl) (by decide) (by omega) (by omega) ?_
      refine x_aload_n (pc := 93) C (dq D_Cipher_use 50 rfl) rfl ?_
      refine x_iload (pc := 94) C (dq D_Cipher_use 51 rfl) rfl ?_
      refine x_iload (pc := 96) C (dq D_Cipher_use 52 rfl) rfl ?_
      refine x_cV0 (pc := 98) (ci := 2) (M := M_Cipher_expandFrom) C (dq D_Cipher_use 53 rfl) k_ml_Cipher_30 m_Cipher_expandFrom rfl rfl (by first | exact hc1 _ | exact hk1 _) (c_expandFrom (hc1 _) (ht1 _) (hf1 _) (hk1 _) hne hFO hS (by omega) hF8 hp h8) rfl rfl rfl rfl (by decide) ?_
      rw [List.set_set]
      refine x_iload (pc := 101) C (dq D_Cipher_use 54 rfl) rfl ?_
      refine x_cS1 (pc := 103) (M := M_Tables_twice) C (dq D_Cipher_use 55 rfl) k_ml_Cipher_34 m_Tables_twice (c_twice hp) rfl rfl rfl rfl (by decide) ?_
      refine x_istore (i := 5) (pc := 106) C (dq D_Cipher_use 56 rfl) rfl rfl rfl ?_
      simp only [List.set_cons_zero, List.set_cons_succ]
      refine x_iinc (pc := 108) C (dq D_Cipher_use 57 rfl) rfl (ii_16 _) rfl rfl ?_
      simp only [List.set_cons_zero, List.set_cons_succ]
      refine x_goto (pc := 111) (tgt := 83) C (dq D_Cipher_use 58 rfl) (by decide) ?_
      exact ih (i + 1) (tw pw) (exf FO (16 + 16 * i) pw S) (by omega) (tw8 _ hp) (by rw [exf_len]; exact hS) (exf8 hF8 _ hp h8)
  have loop1 : ∀ (n k : Nat) (S : List Nat), k + n = 4 → S.length = 176 → by8 S → X g f M_Cipher_use (0, 0) (Ret none (h.set rk (ia g (it (us2 FO) 0 10 (1, it (us1 a b c d) k n S)).2))) (0, 0) 3 [some (.ref (zA (gz g) cc)), some (.int (nI a)), some (.int (nI b)), some (.int (nI c)), some (.int (nI d)), some (.int (nI k)), none] [] (h.set rk (ia g S)) := by
    intro n
    induction n with
    | zero =>
      intro k S hkn hS h8
      refine x_iload (pc := 3) C (dq D_Cipher_use 2 rfl) rfl ?_
      refine x_iconst (pc := 5) C (dq D_Cipher_use 3 rfl) ci_4 ?_
      refine n_ge_t (pc := 6) (tgt := 76) C (dq D_Cipher_use 4 rfl) (by decide) (by omega) (by omega) ?_
      refine x_iconst (pc := 76) C (dq D_Cipher_use 41 rfl) ci_1 ?_
      refine x_istore (i := 5) (pc := 77) C (dq D_Cipher_use 42 rfl) rfl rfl rfl ?_
      simp only [List.set_cons_zero, List.set_cons_succ]
      refine x_bipush (pc := 79) C (dq D_Cipher_use 43 rfl) cb_16 ?_
      refine x_istore (i := 6) (pc := 81) C (dq D_Cipher_use 44 rfl) rfl rfl rfl ?_
      simp only [List.set_cons_zero, List.set_cons_succ]
      exact loop2 10 0 1 S rfl (by omega) hS h8
    | succ n ih =>
      intro k S hkn hS h8
      refine x_iload (pc := 3) C (dq D_Cipher_use 2 rfl) rfl ?_
      refine x_iconst (pc := 5) C (dq D_Cipher_use 3 rfl) ci_4 ?_
      refine n_ge_f (pc := 6) (tgt := 76) C (dq D_Cipher_use 4 rfl) (by decide) (by omega) (by omega) ?_
      refine x_aload_n (pc := 9) C (dq D_Cipher_use 5 rfl) rfl ?_
      refine x_get (pc := 10) (ci := 2) (j := 1) C (dq D_Cipher_use 6 rfl) rfl rfl (by first | exact hc1 _ | exact hk1 _) rfl k_fl_Cipher_11 ?_
      refine x_iload (pc := 13) C (dq D_Cipher_use 7 rfl) rfl ?_
      refine x_iload_n (pc := 15) C (dq D_Cipher_use 8 rfl) rfl ?_
      refine x_iload (pc := 16) C (dq D_Cipher_use 9 rfl) rfl ?_
      refine x_cSN1 (pc := 18) (M := M_Desk_byteOf) C (dq D_Cipher_use 10 rfl) q_ml_Cipher_26 m_Desk_byteOf (c_byteOf ha (by omega)) rfl rfl rfl rfl (by decide) ?_
      refine x_iast (pc := 21) C (dq D_Cipher_use 11 rfl) (by first | exact hc1 _ | exact hk1 _) (by (try simp only [List.length_set]); omega) ?_
      try rw [List.set_set]
      refine x_aload_n (pc := 22) C (dq D_Cipher_use 12 rfl) rfl ?_
      refine x_get (pc := 23) (ci := 2) (j := 1) C (dq D_Cipher_use 13 rfl) rfl rfl (by first | exact hc1 _ | exact hk1 _) rfl k_fl_Cipher_11 ?_
      refine x_iconst (pc := 26) C (dq D_Cipher_use 14 rfl) ci_4 ?_
      refine x_iload (pc := 27) C (dq D_Cipher_use 15 rfl) rfl ?_
      refine n_iadd (pc := 29) C (dq D_Cipher_use 16 rfl) ?_
      refine x_iload_n (pc := 30) C (dq D_Cipher_use 17 rfl) rfl ?_
      refine x_iload (pc := 31) C (dq D_Cipher_use 18 rfl) rfl ?_
      refine x_cSN1 (pc := 33) (M := M_Desk_byteOf) C (dq D_Cipher_use 19 rfl) q_ml_Cipher_26 m_Desk_byteOf (c_byteOf hb (by omega)) rfl rfl rfl rfl (by decide) ?_
      refine x_iast (pc := 36) C (dq D_Cipher_use 20 rfl) (by first | exact hc1 _ | exact hk1 _) (by rw [List.length_set]; omega) ?_
      try rw [List.set_set]
      refine x_aload_n (pc := 37) C (dq D_Cipher_use 21 rfl) rfl ?_
      refine x_get (pc := 38) (ci := 2) (j := 1) C (dq D_Cipher_use 22 rfl) rfl rfl (by first | exact hc1 _ | exact hk1 _) rfl k_fl_Cipher_11 ?_
      refine x_bipush (pc := 41) C (dq D_Cipher_use 23 rfl) cb_8 ?_
      refine x_iload (pc := 43) C (dq D_Cipher_use 24 rfl) rfl ?_
      refine n_iadd (pc := 45) C (dq D_Cipher_use 25 rfl) ?_
      refine x_iload_n (pc := 46) C (dq D_Cipher_use 26 rfl) rfl ?_
      refine x_iload (pc := 47) C (dq D_Cipher_use 27 rfl) rfl ?_
      refine x_cSN1 (pc := 49) (M := M_Desk_byteOf) C (dq D_Cipher_use 28 rfl) q_ml_Cipher_26 m_Desk_byteOf (c_byteOf hcc (by omega)) rfl rfl rfl rfl (by decide) ?_
      refine x_iast (pc := 52) C (dq D_Cipher_use 29 rfl) (by first | exact hc1 _ | exact hk1 _) (by rw [List.length_set, List.length_set]; omega) ?_
      try rw [List.set_set]
      refine x_aload_n (pc := 53) C (dq D_Cipher_use 30 rfl) rfl ?_
      refine x_get (pc := 54) (ci := 2) (j := 1) C (dq D_Cipher_use 31 rfl) rfl rfl (by first | exact hc1 _ | exact hk1 _) rfl k_fl_Cipher_11 ?_
      refine x_bipush (pc := 57) C (dq D_Cipher_use 32 rfl) cb_12 ?_
      refine x_iload (pc := 59) C (dq D_Cipher_use 33 rfl) rfl ?_
      refine n_iadd (pc := 61) C (dq D_Cipher_use 34 rfl) ?_
      refine x_iload (pc := 62) C (dq D_Cipher_use 35 rfl) rfl ?_
      refine x_iload (pc := 64) C (dq D_Cipher_use 36 rfl) rfl ?_
      refine x_cSN1 (pc := 66) (M := M_Desk_byteOf) C (dq D_Cipher_use 37 rfl) q_ml_Cipher_26 m_Desk_byteOf (c_byteOf hd (by omega)) rfl rfl rfl rfl (by decide) ?_
      refine x_iast (pc := 69) C (dq D_Cipher_use 38 rfl) (by first | exact hc1 _ | exact hk1 _) (by rw [List.length_set, List.length_set, List.length_set]; omega) ?_
      try rw [List.set_set]
      refine x_iinc (pc := 70) C (dq D_Cipher_use 39 rfl) rfl (ii_1 _) rfl rfl ?_
      simp only [List.set_cons_zero, List.set_cons_succ]
      refine x_goto (pc := 73) (tgt := 3) C (dq D_Cipher_use 40 rfl) (by decide) ?_
      exact ih (k + 1) (us1 a b c d k S) (by omega) (by rw [us1_len]; exact hS) ((((h8.set (bo8 _ _)).set (bo8 _ _)).set (bo8 _ _)).set (bo8 _ _))
  refine x_iconst (pc := 0) C (dq D_Cipher_use 0 rfl) ci_0 ?_
  refine x_istore (i := 5) (pc := 1) C (dq D_Cipher_use 1 rfl) rfl rfl rfl ?_
  simp only [List.set_cons_zero, List.set_cons_succ]
  have h0 := loop1 4 0 R rfl hR h8
  rw [gs_id hk] at h0
  exact h0
end
section
theorem c_Row_has {g : Gp} {h : Hp} {r b n : Nat} {x : Int32} (hr : h[r]? = some (rwc g b n)) : Con g M_Row_has 0 (0, 0) [.ref (zA (gz g) r), .int x] h (Ret (some (.int (if x < 0 ∨ nI n ≤ x then nI 0 else nI 1))) h) := by
  refine Con.of (by decide) rfl rfl (L := [some (.ref (zA (gz g) r)), some (.int x)]) rfl (fun f C => ?_)
  refine x_iload_n (pc := 0) C (dq D_Row_has 0 rfl) rfl ?_
  refine x_iflt (pc := 1) (tgt := 16) C (dq D_Row_has 1 rfl) (by decide) (fun hq => ?_) (fun hq => ?_)
  · rw [if_pos (Or.inl hq)]
    refine x_iconst (pc := 16) C (dq D_Row_has 8 rfl) ci_0 ?_
    exact x_zret (pc := 17) C (dq D_Row_has 9 rfl) rfl rfl (by decide) ⟨rfl, rfl⟩
  · have hq0 := hq
    refine x_iload_n (pc := 4) C (dq D_Row_has 2 rfl) rfl ?_
    refine x_aload_n (pc := 5) C (dq D_Row_has 3 rfl) rfl ?_
    refine x_get (pc := 6) (ci := 7) (j := 1) C (dq D_Row_has 4 rfl) rfl rfl (hr) rfl k_fl_Row_15 ?_
    refine x_ge (pc := 9) (tgt := 16) C (dq D_Row_has 5 rfl) (by decide) (fun hq => ?_) (fun hq => ?_)
    · rw [if_pos (Or.inr hq)]
      refine x_iconst (pc := 16) C (dq D_Row_has 8 rfl) ci_0 ?_
      exact x_zret (pc := 17) C (dq D_Row_has 9 rfl) rfl rfl (by decide) ⟨rfl, rfl⟩
    · rw [if_neg (fun z => z.elim hq0 hq)]
      refine x_iconst (pc := 12) C (dq D_Row_has 6 rfl) ci_1 ?_
      refine x_goto (pc := 13) (tgt := 17) C (dq D_Row_has 7 rfl) (by decide) ?_
      exact x_zret (pc := 17) C (dq D_Row_has 9 rfl) rfl rfl (by decide) ⟨rfl, rfl⟩
def zr (k : Nat) (B : List Nat) : List Nat := B.set k 0
theorem zr_len (k : Nat) (B : List Nat) : (zr k B).length = B.length := List.length_set
theorem c_Row_addZeros {g : Gp} {h : Hp} {r b n m : Nat} {B : List Nat} (hr : h[r]? = some (rwc g b n)) (hb : h[b]? = some (ia g B)) (hm : n ≤ m ∧ m ≤ B.length ∧ B.length < 1000) : Con g M_Row_addZeros 1 (0, 0) [.ref (zA (gz g) r), .int (nI m)] h (Ret none ((h.set b (ia g (it zr n (m - n) B))).set r (rwc g b m))) := by
  have hbr := ne_io hb hr
  have hr0 : ∀ e, (h.set b e)[r]? = some (rwc g b n) := fun e => gs_ne hbr hr
  have hr1 : ∀ e k, ((h.set b e).set r (rwc g b k))[r]? = some (rwc g b k) := fun e k => gs_self (hr0 e)
  have hb1 : ∀ e k, ((h.set b e).set r (rwc g b k))[b]? = some e := fun e k => gs_ne (Ne.symm hbr) (gs_self hb)
  refine Con.of (by decide) rfl rfl (L := [some (.ref (zA (gz g) r)), some (.int (nI m)), none]) rfl (fun f C => ?_)
  have loop : ∀ (d k : Nat) (S : List Nat), k + d = m → S.length = B.length → X g f M_Row_addZeros (0, 0) (Ret none ((h.set b (ia g (it zr k d S))).set r (rwc g b m))) (0, 0) 5 [some (.ref (zA (gz g) r)), some (.int (nI m)), some (.int (nI k))] [] ((h.set b (ia g S)).set r (rwc g b k)) := by
    intro d
    induction d with
    | zero =>
      intro k S hkd hS
      obtain rfl : k = m := by omega
      refine x_iload_n (pc := 5) C (dq D_Row_addZeros 3 rfl) rfl ?_
      refine x_iload_n (pc := 6) C (dq D_Row_addZeros 4 rfl) rfl ?_
      refine n_ge_t (pc := 7) (tgt := 21) C (dq D_Row_addZeros 5 rfl) (by decide) (by omega) (by omega) ?_
      exact x_vret (pc := 21) C (dq D_Row_addZeros 11 rfl) rfl (by decide) ⟨rfl, rfl⟩
    | succ d ih =>
      intro k S hkd hS
      refine x_iload_n (pc := 5) C (dq D_Row_addZeros 3 rfl) rfl ?_
      refine x_iload_n (pc := 6) C (dq D_Row_addZeros 4 rfl) rfl ?_
      refine n_ge_f (pc := 7) (tgt := 21) C (dq D_Row_addZeros 5 rfl) (by decide) (by omega) (by omega) ?_
      refine x_aload_n (pc := 10) C (dq D_Row_addZeros 6 rfl) rfl ?_
      refine x_iconst (pc := 11) C (dq D_Row_addZeros 7 rfl) ci_0 ?_
      refine x_cV0 (pc := 12) (ci := 7) (M := M_Row_add) C (dq D_Row_addZeros 8 rfl) k_ml_Row_25 m_Row_add rfl rfl (hr1 _ _) (c_Row_add (v := 0) (hr1 _ _) (hb1 _ _) (by omega)) rfl rfl rfl rfl (by decide) ?_
      rw [gs_in hbr, List.set_set]
      refine x_iinc (pc := 15) C (dq D_Row_addZeros 9 rfl) rfl (ii_1 _) rfl rfl ?_
      simp only [List.set_cons_zero, List.set_cons_succ]
      refine x_goto (pc := 18) (tgt := 5) C (dq D_Row_addZeros 10 rfl) (by decide) ?_
      exact ih (k + 1) (zr k S) (by omega) (by rw [zr_len]; exact hS)
  refine x_aload_n (pc := 0) C (dq D_Row_addZeros 0 rfl) rfl ?_
  refine x_get (pc := 1) (ci := 7) (j := 1) C (dq D_Row_addZeros 1 rfl) rfl rfl (hr) rfl k_fl_Row_15 ?_
  refine x_istore_n (i := 2) (pc := 4) C (dq D_Row_addZeros 2 rfl) rfl rfl rfl ?_
  simp only [List.set_cons_zero, List.set_cons_succ]
  have h0 := loop (m - n) n B (by omega) rfl
  rw [gs_id hb, gs_id hr] at h0
  exact h0
theorem c_Row_becomeRest {g : Gp} {h : Hp} {r b n o q m s : Nat} {B Q : List Nat} (hr : h[r]? = some (rwc g b n)) (hb : h[b]? = some (ia g B)) (ho : h[o]? = some (rwc g q m)) (hq : h[q]? = some (ia g Q)) (hs : s ≤ m) (hm : m ≤ Q.length ∧ Q.length < 1000) (hB : m - s ≤ B.length ∧ B.length < 1000) :
    Con g M_Row_becomeRest 1 (0, 0) [.ref (zA (gz g) r), .ref (zA (gz g) o), .int (nI s)] h (Ret none ((h.set r (rwc g b (m - s))).set b (ia g (cpy Q B s 0 (m - s))))) := by
  have hrb := ne_io hb hr
  have hrq := ne_io hq hr
  have hr1 : (h.set r (rwc g b (m - s)))[r]? = some (rwc g b (m - s)) := gs_self hr
  have hb1 : (h.set r (rwc g b (m - s)))[b]? = some (ia g B) := gs_ne (Ne.symm hrb) hb
  have hq1 : (h.set r (rwc g b (m - s)))[q]? = some (ia g Q) := gs_ne (Ne.symm hrq) hq
  obtain ⟨v, ho1⟩ : ∃ v, (h.set r (rwc g b (m - s)))[o]? = some (.inr (7, [.ref (zA (gz g) q), v])) := by
    by_cases e : r = o
    · subst e
      rw [ho] at hr
      obtain ⟨hqb, -⟩ : zA (gz g) q = zA (gz g) b ∧ nI m = nI n := by simpa using hr
      exact ⟨_, by rw [hqb]; exact hr1⟩
    · exact ⟨_, gs_ne e ho⟩
  refine Con.of (by decide) rfl rfl (L := [some (.ref (zA (gz g) r)), some (.ref (zA (gz g) o)), some (.int (nI s))]) rfl (fun f C => ?_)
  refine x_aload_n (pc := 0) C (dq D_Row_becomeRest 0 rfl) rfl ?_
  refine x_aload_n (pc := 1) C (dq D_Row_becomeRest 1 rfl) rfl ?_
  refine x_get (pc := 2) (ci := 7) (j := 1) C (dq D_Row_becomeRest 2 rfl) rfl rfl (ho) rfl k_fl_Row_15 ?_
  refine x_iload_n (pc := 5) C (dq D_Row_becomeRest 3 rfl) rfl ?_
  refine n_isub (pc := 6) C (dq D_Row_becomeRest 4 rfl) (by omega) ?_
  refine x_put (pc := 7) (ci := 7) (j := 1) (ty := .int) C (dq D_Row_becomeRest 5 rfl) rfl rfl (hr) rfl k_fl_Row_15 (Or.inl rfl) (by decide +kernel) rfl rfl ?_
  simp only [List.set_cons_zero, List.set_cons_succ]
  refine x_aload_n (pc := 10) C (dq D_Row_becomeRest 6 rfl) rfl ?_
  refine x_get (pc := 11) (ci := 7) (j := 0) C (dq D_Row_becomeRest 7 rfl) rfl rfl (by first | exact hr1 | exact ho1) rfl k_fl_Row_9 ?_
  refine x_iload_n (pc := 14) C (dq D_Row_becomeRest 8 rfl) rfl ?_
  refine x_aload_n (pc := 15) C (dq D_Row_becomeRest 9 rfl) rfl ?_
  refine x_get (pc := 16) (ci := 7) (j := 0) C (dq D_Row_becomeRest 10 rfl) rfl rfl (by first | exact hr1 | exact ho1) rfl k_fl_Row_9 ?_
  refine x_iconst (pc := 19) C (dq D_Row_becomeRest 11 rfl) ci_0 ?_
  refine x_aload_n (pc := 20) C (dq D_Row_becomeRest 12 rfl) rfl ?_
  refine x_get (pc := 21) (ci := 7) (j := 1) C (dq D_Row_becomeRest 13 rfl) rfl rfl (by first | exact hr1 | exact ho1) rfl k_fl_Row_15 ?_
  refine x_copy (pc := 24) C (dq D_Row_becomeRest 14 rfl) k_ml_Row_19 hq1 hb1 (by omega) (by omega) (by omega) (by decide) rfl rfl ?_
  exact x_vret (pc := 27) C (dq D_Row_becomeRest 15 rfl) rfl (by decide) ⟨rfl, rfl⟩
theorem c_Row_become {g : Gp} {h : Hp} {r b n o q m : Nat} {B Q : List Nat} (hr : h[r]? = some (rwc g b n)) (hb : h[b]? = some (ia g B)) (ho : h[o]? = some (rwc g q m)) (hq : h[q]? = some (ia g Q)) (hm : m ≤ Q.length ∧ Q.length < 1000) (hB : m ≤ B.length ∧ B.length < 1000) :
    Con g M_Row_become 2 (0, 0) [.ref (zA (gz g) r), .ref (zA (gz g) o)] h (Ret none ((h.set r (rwc g b m)).set b (ia g (cpy Q B 0 0 m)))) := by
  refine Con.of (by decide) rfl rfl (L := [some (.ref (zA (gz g) r)), some (.ref (zA (gz g) o))]) rfl (fun f C => ?_)
  refine x_aload_n (pc := 0) C (dq D_Row_become 0 rfl) rfl ?_
  refine x_aload_n (pc := 1) C (dq D_Row_become 1 rfl) rfl ?_
  refine x_iconst (pc := 2) C (dq D_Row_become 2 rfl) ci_0 ?_
  refine x_cV0 (pc := 3) (ci := 7) (M := M_Row_becomeRest) C (dq D_Row_become 3 rfl) k_ml_Row_29 m_Row_becomeRest rfl rfl (hr) (c_Row_becomeRest (s := 0) hr hb ho hq (by omega) hm (by omega)) rfl rfl rfl rfl (by decide) ?_
  exact x_vret (pc := 6) C (dq D_Row_become 4 rfl) rfl (by decide) ⟨rfl, rfl⟩
end
section
/-- a row's bytes laid over a block -/
def adt (F : List Nat) (s k : Nat) (S : List Nat) : List Nat := S.set k (S.getD k 0 ^^^ F.getD (s + k) 0)
theorem adt_len (F : List Nat) (s k : Nat) (S : List Nat) : (adt F s k S).length = S.length := List.length_set
theorem adt8 {F : List Nat} (hF : by8 F) (s k n : Nat) {S : List Nat} (h : by8 S) : by8 (it (adt F s) k n S) := it_inv by8 n k S (fun j T _ _ hT => hT.set (xor8 (hT.at _) (hF.at _))) h
theorem c_addTo {g : Gp} {h : Hp} {blk fr s m : Nat} {A F : List Nat} (hb : h[blk]? = some (ia g A)) (hf : h[fr]? = some (ia g F)) (hne : blk ≠ fr) (hA : m ≤ A.length ∧ A.length < 1000) (hF : s + m ≤ F.length ∧ F.length < 1000) :
    Con g M_Marker_addTo 0 (0, 0) [.ref (zA (gz g) blk), .ref (zA (gz g) fr), .int (nI s), .int (nI m)] h (Ret none (h.set blk (ia g (it (adt F s) 0 m A)))) := by
  have hb1 : ∀ e, (h.set blk e)[blk]? = some e := fun e => gs_self hb
  have hf1 : ∀ e, (h.set blk e)[fr]? = some (ia g F) := fun e => gs_ne hne hf
  refine Con.of (by decide) rfl rfl (L := [some (.ref (zA (gz g) blk)), some (.ref (zA (gz g) fr)), some (.int (nI s)), some (.int (nI m)), none]) rfl (fun f C => ?_)
  have loop : ∀ (n k : Nat) (S : List Nat), k + n = m → S.length = A.length → X g f M_Marker_addTo (0, 0) (Ret none (h.set blk (ia g (it (adt F s) k n S)))) (0, 0) 3 [some (.ref (zA (gz g) blk)), some (.ref (zA (gz g) fr)), some (.int (nI s)), some (.int (nI m)), some (.int (nI k))] [] (h.set blk (ia g S)) := by
    intro n
    induction n with
    | zero =>
      intro k S hkn hS
      refine x_iload (pc := 3) C (dq D_Marker_addTo 2 rfl) rfl ?_
      refine x_iload_n (pc := 5) C (dq D_Marker_addTo 3 rfl) rfl ?_
      refine n_ge_t (pc := 6) (tgt := 28) C (dq D_Marker_addTo 4 rfl) (by decide) (by omega) (by omega) ?_
      exact x_vret (pc := 28) C (dq D_Marker_addTo 18 rfl) rfl (by decide) ⟨rfl, rfl⟩
    | succ n ih =>
      intro k S hkn hS
      refine x_iload (pc := 3) C (dq D_Marker_addTo 2 rfl) rfl ?_
      refine x_iload_n (pc := 5) C (dq D_Marker_addTo 3 rfl) rfl ?_
      refine n_ge_f (pc := 6) (tgt := 28) C (dq D_Marker_addTo 4 rfl) (by decide) (by omega) (by omega) ?_
      refine x_aload_n (pc := 9) C (dq D_Marker_addTo 5 rfl) rfl ?_
      refine x_iload (pc := 10) C (dq D_Marker_addTo 6 rfl) rfl ?_
      refine x_dup2 (pc := 12) C (dq D_Marker_addTo 7 rfl) rfl rfl ?_
      refine x_iald (pc := 13) C (dq D_Marker_addTo 8 rfl) (by first | exact hb1 _ | exact hf1 _) (by (try simp only [List.length_set]); omega) ?_
      refine x_aload_n (pc := 14) C (dq D_Marker_addTo 9 rfl) rfl ?_
      refine x_iload_n (pc := 15) C (dq D_Marker_addTo 10 rfl) rfl ?_
      refine x_iload (pc := 16) C (dq D_Marker_addTo 11 rfl) rfl ?_
      refine n_iadd (pc := 18) C (dq D_Marker_addTo 12 rfl) ?_
      refine x_iald (pc := 19) C (dq D_Marker_addTo 13 rfl) (by first | exact hb1 _ | exact hf1 _) (by (try simp only [List.length_set]); omega) ?_
      refine n_ixor (pc := 20) C (dq D_Marker_addTo 14 rfl) ?_
      refine x_iast (pc := 21) C (dq D_Marker_addTo 15 rfl) (by first | exact hb1 _ | exact hf1 _) (by (try simp only [List.length_set]); omega) ?_
      try rw [List.set_set]
      refine x_iinc (pc := 22) C (dq D_Marker_addTo 16 rfl) rfl (ii_1 _) rfl rfl ?_
      simp only [List.set_cons_zero, List.set_cons_succ]
      refine x_goto (pc := 25) (tgt := 3) C (dq D_Marker_addTo 17 rfl) (by decide) ?_
      exact ih (k + 1) (adt F s k S) (by omega) (by rw [adt_len]; exact hS)
  refine x_iconst (pc := 0) C (dq D_Marker_addTo 0 rfl) ci_0 ?_
  refine x_istore (i := 4) (pc := 1) C (dq D_Marker_addTo 1 rfl) rfl rfl rfl ?_
  simp only [List.set_cons_zero, List.set_cons_succ]
  have h0 := loop m 0 A (by omega) rfl
  rw [gs_id hb] at h0
  exact h0
/-- a block over the end of a row -/
def ate (F : List Nat) (s k : Nat) (S : List Nat) : List Nat := S.set (s + k) (S.getD (s + k) 0 ^^^ F.getD k 0)
theorem ate_len (F : List Nat) (s k : Nat) (S : List Nat) : (ate F s k S).length = S.length := List.length_set
theorem ate8 {F : List Nat} (hF : by8 F) (s k n : Nat) {S : List Nat} (h : by8 S) : by8 (it (ate F s) k n S) := it_inv by8 n k S (fun j T _ _ hT => hT.set (xor8 (hT.at _) (hF.at _))) h
theorem c_addToEnd {g : Gp} {h : Hp} {r b n blk : Nat} {B F : List Nat} (hr : h[r]? = some (rwc g b n)) (hb : h[b]? = some (ia g B)) (hf : h[blk]? = some (ia g F)) (hne : b ≠ blk) (hn : 16 ≤ n ∧ n ≤ B.length ∧ B.length < 1000) (hF : 16 ≤ F.length ∧ F.length < 1000) :
    Con g M_Marker_addToEnd 0 (0, 0) [.ref (zA (gz g) r), .ref (zA (gz g) blk)] h (Ret none (h.set b (ia g (it (ate F (n - 16)) 0 16 B)))) := by
  have hb1 : ∀ e, (h.set b e)[b]? = some e := fun e => gs_self hb
  have hf1 : ∀ e, (h.set b e)[blk]? = some (ia g F) := fun e => gs_ne hne hf
  have hr1 : ∀ e, (h.set b e)[r]? = some (rwc g b n) := fun e => gs_ne (ne_io hb hr) hr
  refine Con.of (by decide) rfl rfl (L := [some (.ref (zA (gz g) r)), some (.ref (zA (gz g) blk)), none, none]) rfl (fun f C => ?_)
  have loop : ∀ (d k : Nat) (S : List Nat), k + d = 16 → S.length = B.length → X g f M_Marker_addToEnd (0, 0) (Ret none (h.set b (ia g (it (ate F (n - 16)) k d S)))) (0, 0) 10 [some (.ref (zA (gz g) r)), some (.ref (zA (gz g) blk)), some (.int (nI (n - 16))), some (.int (nI k))] [] (h.set b (ia g S)) := by
    intro d
    induction d with
    | zero =>
      intro k S hkn hS
      refine x_iload_n (pc := 10) C (dq D_Marker_addToEnd 7 rfl) rfl ?_
      refine x_bipush (pc := 11) C (dq D_Marker_addToEnd 8 rfl) cb_16 ?_
      refine n_ge_t (pc := 13) (tgt := 36) C (dq D_Marker_addToEnd 9 rfl) (by decide) (by omega) (by omega) ?_
      exact x_vret (pc := 36) C (dq D_Marker_addToEnd 24 rfl) rfl (by decide) ⟨rfl, rfl⟩
    | succ d ih =>
      intro k S hkn hS
      refine x_iload_n (pc := 10) C (dq D_Marker_addToEnd 7 rfl) rfl ?_
      refine x_bipush (pc := 11) C (dq D_Marker_addToEnd 8 rfl) cb_16 ?_
      refine n_ge_f (pc := 13) (tgt := 36) C (dq D_Marker_addToEnd 9 rfl) (by decide) (by omega) (by omega) ?_
      refine x_aload_n (pc := 16) C (dq D_Marker_addToEnd 10 rfl) rfl ?_
      refine x_get (pc := 17) (ci := 7) (j := 0) C (dq D_Marker_addToEnd 11 rfl) rfl rfl (by first | exact hr1 _ | exact hb1 _ | exact hf1 _) rfl k_fl_Marker_39 ?_
      refine x_iload_n (pc := 20) C (dq D_Marker_addToEnd 12 rfl) rfl ?_
      refine x_iload_n (pc := 21) C (dq D_Marker_addToEnd 13 rfl) rfl ?_
      refine n_iadd (pc := 22) C (dq D_Marker_addToEnd 14 rfl) ?_
      refine x_dup2 (pc := 23) C (dq D_Marker_addToEnd 15 rfl) rfl rfl ?_
      refine x_iald (pc := 24) C (dq D_Marker_addToEnd 16 rfl) (by first | exact hr1 _ | exact hb1 _ | exact hf1 _) (by (try simp only [List.length_set]); omega) ?_
      refine x_aload_n (pc := 25) C (dq D_Marker_addToEnd 17 rfl) rfl ?_
      refine x_iload_n (pc := 26) C (dq D_Marker_addToEnd 18 rfl) rfl ?_
      refine x_iald (pc := 27) C (dq D_Marker_addToEnd 19 rfl) (by first | exact hr1 _ | exact hb1 _ | exact hf1 _) (by (try simp only [List.length_set]); omega) ?_
      refine n_ixor (pc := 28) C (dq D_Marker_addToEnd 20 rfl) ?_
      refine x_iast (pc := 29) C (dq D_Marker_addToEnd 21 rfl) (by first | exact hr1 _ | exact hb1 _ | exact hf1 _) (by (try simp only [List.length_set]); omega) ?_
      try rw [List.set_set]
      refine x_iinc (pc := 30) C (dq D_Marker_addToEnd 22 rfl) rfl (ii_1 _) rfl rfl ?_
      simp only [List.set_cons_zero, List.set_cons_succ]
      refine x_goto (pc := 33) (tgt := 10) C (dq D_Marker_addToEnd 23 rfl) (by decide) ?_
      exact ih (k + 1) (ate F (n - 16) k S) (by omega) (by rw [ate_len]; exact hS)
  refine x_aload_n (pc := 0) C (dq D_Marker_addToEnd 0 rfl) rfl ?_
  refine x_get (pc := 1) (ci := 7) (j := 1) C (dq D_Marker_addToEnd 1 rfl) rfl rfl (hr) rfl k_fl_Marker_29 ?_
  refine x_bipush (pc := 4) C (dq D_Marker_addToEnd 2 rfl) cb_16 ?_
  refine n_isub (pc := 6) C (dq D_Marker_addToEnd 3 rfl) (by omega) ?_
  refine x_istore_n (i := 2) (pc := 7) C (dq D_Marker_addToEnd 4 rfl) rfl rfl rfl ?_
  simp only [List.set_cons_zero, List.set_cons_succ]
  refine x_iconst (pc := 8) C (dq D_Marker_addToEnd 5 rfl) ci_0 ?_
  refine x_istore_n (i := 3) (pc := 9) C (dq D_Marker_addToEnd 6 rfl) rfl rfl rfl ?_
  simp only [List.set_cons_zero, List.set_cons_succ]
  have h0 := loop 16 0 B rfl rfl
  rw [gs_id hb] at h0
  exact h0
/-- a block doubled -/
def dbs (k : Nat) (S : List Nat) : List Nat := S.set k (((S.getD k 0 * 2 ^ 1) &&& 255) ||| (S.getD (k + 1) 0 / 2 ^ 7))
def dbe (hi : Nat) (S : List Nat) : List Nat := S.set 15 (((S.getD 15 0 * 2 ^ 1) &&& 255) ^^^ (hi * 135))
def dbl (S : List Nat) : List Nat := dbe (S.getD 0 0 / 2 ^ 7) (it dbs 0 15 S)
theorem dbs_len (k : Nat) (S : List Nat) : (dbs k S).length = S.length := List.length_set
theorem and8 (a : Nat) : a &&& 255 < 256 := Nat.lt_of_le_of_lt Nat.and_le_right (by omega)
theorem dbs8 (k n : Nat) {S : List Nat} (h : by8 S) : by8 (it dbs k n S) := it_inv by8 n k S (fun j T _ _ hT => hT.set (Nat.or_lt_two_pow (n := 8) (and8 _) (by have := hT.at (j + 1); omega))) h
theorem dbl_len (S : List Nat) : (dbl S).length = S.length := by
  unfold dbl dbe
  rw [List.length_set, it_len dbs_len]
theorem dbl8 {S : List Nat} (h : by8 S) : by8 (dbl S) := by
  have h0 := h.at 0
  exact (dbs8 0 15 h).set (xor8 (and8 _) (by omega))
theorem c_doubleBlock {g : Gp} {h : Hp} {blk : Nat} {A : List Nat} (hb : h[blk]? = some (ia g A)) (hA : 16 ≤ A.length ∧ A.length < 1000) (h8 : by8 A) :
    Con g M_Marker_doubleBlock 0 (0, 0) [.ref (zA (gz g) blk)] h (Ret none (h.set blk (ia g (dbl A)))) := by
  have hb1 : ∀ e, (h.set blk e)[blk]? = some e := fun e => gs_self hb
  have hz := h8.at 0
  refine Con.of (by decide) rfl rfl (L := [some (.ref (zA (gz g) blk)), none, none]) rfl (fun f C => ?_)
  have loop : ∀ (d k : Nat) (S : List Nat), k + d = 15 → S.length = A.length → by8 S → X g f M_Marker_doubleBlock (0, 0) (Ret none (h.set blk (ia g (dbe (A.getD 0 0 / 2 ^ 7) (it dbs k d S))))) (0, 0) 9 [some (.ref (zA (gz g) blk)), some (.int (nI (A.getD 0 0 / 2 ^ 7))), some (.int (nI k))] [] (h.set blk (ia g S)) := by
    intro d
    induction d with
    | zero =>
      intro k S hkn hS h8
      have h15 := h8.at 15
      refine x_iload_n (pc := 9) C (dq D_Marker_doubleBlock 8 rfl) rfl ?_
      refine x_bipush (pc := 10) C (dq D_Marker_doubleBlock 9 rfl) cb_15 ?_
      refine n_ge_t (pc := 12) (tgt := 42) C (dq D_Marker_doubleBlock 10 rfl) (by decide) (by omega) (by omega) ?_
      refine x_aload_n (pc := 42) C (dq D_Marker_doubleBlock 31 rfl) rfl ?_
      refine x_bipush (pc := 43) C (dq D_Marker_doubleBlock 32 rfl) cb_15 ?_
      refine x_aload_n (pc := 45) C (dq D_Marker_doubleBlock 33 rfl) rfl ?_
      refine x_bipush (pc := 46) C (dq D_Marker_doubleBlock 34 rfl) cb_15 ?_
      refine x_iald (pc := 48) C (dq D_Marker_doubleBlock 35 rfl) (hb1 _) (by (try simp only [List.length_set]); omega) ?_
      refine x_iconst (pc := 49) C (dq D_Marker_doubleBlock 36 rfl) ci_1 ?_
      refine n_ishl (pc := 50) C (dq D_Marker_doubleBlock 37 rfl) (by omega) (by omega) ?_
      refine x_sipush (pc := 51) C (dq D_Marker_doubleBlock 38 rfl) cs_255 ?_
      refine n_iand (pc := 54) C (dq D_Marker_doubleBlock 39 rfl) ?_
      refine x_iload_n (pc := 55) C (dq D_Marker_doubleBlock 40 rfl) rfl ?_
      refine x_sipush (pc := 56) C (dq D_Marker_doubleBlock 41 rfl) cs_135 ?_
      refine n_imul (pc := 59) C (dq D_Marker_doubleBlock 42 rfl) ?_
      refine n_ixor (pc := 60) C (dq D_Marker_doubleBlock 43 rfl) ?_
      refine x_iast (pc := 61) C (dq D_Marker_doubleBlock 44 rfl) (hb1 _) (by (try simp only [List.length_set]); omega) ?_
      try rw [List.set_set]
      exact x_vret (pc := 62) C (dq D_Marker_doubleBlock 45 rfl) rfl (by decide) ⟨rfl, rfl⟩
    | succ d ih =>
      intro k S hkn hS h8
      have h1 := h8.at k
      have h2 := h8.at (k + 1)
      refine x_iload_n (pc := 9) C (dq D_Marker_doubleBlock 8 rfl) rfl ?_
      refine x_bipush (pc := 10) C (dq D_Marker_doubleBlock 9 rfl) cb_15 ?_
      refine n_ge_f (pc := 12) (tgt := 42) C (dq D_Marker_doubleBlock 10 rfl) (by decide) (by omega) (by omega) ?_
      refine x_aload_n (pc := 15) C (dq D_Marker_doubleBlock 11 rfl) rfl ?_
      refine x_iload_n (pc := 16) C (dq D_Marker_doubleBlock 12 rfl) rfl ?_
      refine x_aload_n (pc := 17) C (dq D_Marker_doubleBlock 13 rfl) rfl ?_
      refine x_iload_n (pc := 18) C (dq D_Marker_doubleBlock 14 rfl) rfl ?_
      refine x_iald (pc := 19) C (dq D_Marker_doubleBlock 15 rfl) (hb1 _) (by (try simp only [List.length_set]); omega) ?_
      refine x_iconst (pc := 20) C (dq D_Marker_doubleBlock 16 rfl) ci_1 ?_
      refine n_ishl (pc := 21) C (dq D_Marker_doubleBlock 17 rfl) (by omega) (by omega) ?_
      refine x_sipush (pc := 22) C (dq D_Marker_doubleBlock 18 rfl) cs_255 ?_
      refine n_iand (pc := 25) C (dq D_Marker_doubleBlock 19 rfl) ?_
      refine x_aload_n (pc := 26) C (dq D_Marker_doubleBlock 20 rfl) rfl ?_
      refine x_iload_n (pc := 27) C (dq D_Marker_doubleBlock 21 rfl) rfl ?_
      refine x_iconst (pc := 28) C (dq D_Marker_doubleBlock 22 rfl) ci_1 ?_
      refine n_iadd (pc := 29) C (dq D_Marker_doubleBlock 23 rfl) ?_
      refine x_iald (pc := 30) C (dq D_Marker_doubleBlock 24 rfl) (hb1 _) (by (try simp only [List.length_set]); omega) ?_
      refine x_bipush (pc := 31) C (dq D_Marker_doubleBlock 25 rfl) cb_7 ?_
      refine n_ishr (pc := 33) C (dq D_Marker_doubleBlock 26 rfl) (by omega) (by omega) ?_
      refine n_ior (pc := 34) C (dq D_Marker_doubleBlock 27 rfl) ?_
      refine x_iast (pc := 35) C (dq D_Marker_doubleBlock 28 rfl) (hb1 _) (by (try simp only [List.length_set]); omega) ?_
      try rw [List.set_set]
      refine x_iinc (pc := 36) C (dq D_Marker_doubleBlock 29 rfl) rfl (ii_1 _) rfl rfl ?_
      simp only [List.set_cons_zero, List.set_cons_succ]
      refine x_goto (pc := 39) (tgt := 9) C (dq D_Marker_doubleBlock 30 rfl) (by decide) ?_
      exact ih (k + 1) (dbs k S) (by omega) (by rw [dbs_len]; exact hS) (h8.set (Nat.or_lt_two_pow (n := 8) (and8 _) (by omega)))
  refine x_aload_n (pc := 0) C (dq D_Marker_doubleBlock 0 rfl) rfl ?_
  refine x_iconst (pc := 1) C (dq D_Marker_doubleBlock 1 rfl) ci_0 ?_
  refine x_iald (pc := 2) C (dq D_Marker_doubleBlock 2 rfl) (hb) (by (try simp only [List.length_set]); omega) ?_
  refine x_bipush (pc := 3) C (dq D_Marker_doubleBlock 3 rfl) cb_7 ?_
  refine n_ishr (pc := 5) C (dq D_Marker_doubleBlock 4 rfl) (by omega) (by omega) ?_
  refine x_istore_n (i := 1) (pc := 6) C (dq D_Marker_doubleBlock 5 rfl) rfl rfl rfl ?_
  simp only [List.set_cons_zero, List.set_cons_succ]
  refine x_iconst (pc := 7) C (dq D_Marker_doubleBlock 6 rfl) ci_0 ?_
  refine x_istore_n (i := 2) (pc := 8) C (dq D_Marker_doubleBlock 7 rfl) rfl rfl rfl ?_
  simp only [List.set_cons_zero, List.set_cons_succ]
  have h0 := loop 15 0 A rfl rfl h8
  rw [gs_id hb] at h0
  exact h0
end
section
abbrev wrc (g : Gp) (c kb : Nat) : va_E := .inr (10, [.ref (zA (gz g) c), .ref (zA (gz g) kb)])
theorem cpy8 {A B : List Nat} {sp dp n : Nat} (hA : by8 A) (hB : by8 B) : by8 (cpy A B sp dp n) := by
  intro v hv
  unfold cpy at hv
  rcases List.mem_append.mp hv with h | h
  · exact hB v (List.mem_of_mem_take h)
  · rcases List.mem_append.mp h with h | h
    · exact hA v (List.mem_of_mem_drop (List.mem_of_mem_take h))
    · exact hB v (List.mem_of_mem_drop h)
/-- A and row i of eight bytes -/
def lf (B : List Nat) (i : Nat) : List Nat := B.take 8 ++ (B.drop (8 * i)).take 8
def ly (K B : List Nat) (i : Nat) : List Nat := cpy K (cpy K B 0 0 8) 8 (8 * i) 8
def nm (K : List Nat) (x : Nat) : List Nat := K.set 7 (K.getD 7 0 ^^^ x)
theorem lf_eq {B K : List Nat} {i : Nat} (hB : 8 ≤ B.length) (hK : K.length = 16) : cpy B (cpy B K 0 0 8) (8 * i) 8 8 = lf B i := by
  unfold cpy lf
  have h1 : (List.take 8 B).length = 8 := by rw [List.length_take]; omega
  simp only [List.take_zero, List.nil_append, List.drop_zero, Nat.zero_add]
  rw [List.take_append_of_le_length (by omega), List.take_of_length_le (l := List.take 8 B) (by omega), List.drop_append]
  rw [List.drop_of_length_le (l := List.take 8 B) (by omega), h1, List.nil_append, List.drop_drop, List.drop_of_length_le (l := K) (by omega), List.append_nil]
theorem lf_len {B : List Nat} {i : Nat} (h : 8 * i + 8 ≤ B.length) : (lf B i).length = 16 := by
  unfold lf
  rw [List.length_append, List.length_take, List.length_take, List.length_drop]
  omega
theorem lf8 {B : List Nat} (i : Nat) (h : by8 B) : by8 (lf B i) := (h.take 8).app (fun v hv => h v (List.mem_of_mem_drop (List.mem_of_mem_take hv)))
theorem ly_len {K B : List Nat} {i : Nat} (hK : K.length = 16) (h : 8 * i + 8 ≤ B.length) : (ly K B i).length = B.length := by
  unfold ly
  have h1 : (cpy K B 0 0 8).length = B.length := cpy_length (by omega) (by omega)
  rw [cpy_length (by omega) (by omega), h1]
theorem ly8 {K B : List Nat} (i : Nat) (hK : by8 K) (h : by8 B) : by8 (ly K B i) := cpy8 hK (cpy8 hK h)
theorem nm_len (K : List Nat) (x : Nat) : (nm K x).length = K.length := List.length_set
theorem nm8 {K : List Nat} {x : Nat} (h : by8 K) (hx : x < 256) : by8 (nm K x) := h.set (xor8 (h.at _) hx)
theorem c_lift {g : Gp} {h : Hp} {w c kb r b n i : Nat} {K B : List Nat} (hw : h[w]? = some (wrc g c kb)) (hk : h[kb]? = some (ia g K)) (hr : h[r]? = some (rwc g b n)) (hb : h[b]? = some (ia g B)) (hne : kb ≠ b) (hK : K.length = 16) (hi : 8 * i + 8 ≤ B.length ∧ B.length < 1000) :
    Con g M_Wrapping_lift 1 (0, 0) [.ref (zA (gz g) w), .ref (zA (gz g) r), .int (nI i)] h (Ret none (h.set kb (ia g (lf B i)))) := by
  have hk1 : ∀ e, (h.set kb e)[kb]? = some e := fun e => gs_self hk
  have hw1 : ∀ e, (h.set kb e)[w]? = some (wrc g c kb) := fun e => gs_ne (ne_io hk hw) hw
  have hr1 : ∀ e, (h.set kb e)[r]? = some (rwc g b n) := fun e => gs_ne (ne_io hk hr) hr
  have hb1 : ∀ e, (h.set kb e)[b]? = some (ia g B) := fun e => gs_ne hne hb
  have hl : (cpy B K 0 0 8).length = 16 := by rw [cpy_length (by omega) (by omega)]; exact hK
  refine Con.of (by decide) rfl rfl (L := [some (.ref (zA (gz g) w)), some (.ref (zA (gz g) r)), some (.int (nI i))]) rfl (fun f C => ?_)
  refine x_aload_n (pc := 0) C (dq D_Wrapping_lift 0 rfl) rfl ?_
  refine x_get (pc := 1) (ci := 7) (j := 0) C (dq D_Wrapping_lift 1 rfl) rfl rfl (by first | exact hw | exact hr) rfl k_fl_Wrapping_45 ?_
  refine x_iconst (pc := 4) C (dq D_Wrapping_lift 2 rfl) ci_0 ?_
  refine x_aload_n (pc := 5) C (dq D_Wrapping_lift 3 rfl) rfl ?_
  refine x_get (pc := 6) (ci := 10) (j := 1) C (dq D_Wrapping_lift 4 rfl) rfl rfl (by first | exact hw | exact hr) rfl k_fl_Wrapping_9 ?_
  refine x_iconst (pc := 9) C (dq D_Wrapping_lift 5 rfl) ci_0 ?_
  refine x_bipush (pc := 10) C (dq D_Wrapping_lift 6 rfl) cb_8 ?_
  refine x_copy (pc := 12) C (dq D_Wrapping_lift 7 rfl) k_ml_Wrapping_48 hb hk (by omega) (by omega) (by omega) (by decide) rfl rfl ?_
  refine x_aload_n (pc := 15) C (dq D_Wrapping_lift 8 rfl) rfl ?_
  refine x_get (pc := 16) (ci := 7) (j := 0) C (dq D_Wrapping_lift 9 rfl) rfl rfl (by first | exact hw1 _ | exact hr1 _) rfl k_fl_Wrapping_45 ?_
  refine x_bipush (pc := 19) C (dq D_Wrapping_lift 10 rfl) cb_8 ?_
  refine x_iload_n (pc := 21) C (dq D_Wrapping_lift 11 rfl) rfl ?_
  refine n_imul (pc := 22) C (dq D_Wrapping_lift 12 rfl) ?_
  refine x_aload_n (pc := 23) C (dq D_Wrapping_lift 13 rfl) rfl ?_
  refine x_get (pc := 24) (ci := 10) (j := 1) C (dq D_Wrapping_lift 14 rfl) rfl rfl (by first | exact hw1 _ | exact hr1 _) rfl k_fl_Wrapping_9 ?_
  refine x_bipush (pc := 27) C (dq D_Wrapping_lift 15 rfl) cb_8 ?_
  refine x_bipush (pc := 29) C (dq D_Wrapping_lift 16 rfl) cb_8 ?_
  refine x_copy (pc := 31) C (dq D_Wrapping_lift 17 rfl) k_ml_Wrapping_48 (hb1 _) (hk1 _) (by omega) (by omega) (by omega) (by decide) rfl rfl ?_
  rw [List.set_set, lf_eq (by omega) hK]
  exact x_vret (pc := 34) C (dq D_Wrapping_lift 18 rfl) rfl (by decide) ⟨rfl, rfl⟩
theorem c_lay {g : Gp} {h : Hp} {w c kb r b n i : Nat} {K B : List Nat} (hw : h[w]? = some (wrc g c kb)) (hk : h[kb]? = some (ia g K)) (hr : h[r]? = some (rwc g b n)) (hb : h[b]? = some (ia g B)) (hne : kb ≠ b) (hK : K.length = 16) (hi : 8 * i + 8 ≤ B.length ∧ B.length < 1000) :
    Con g M_Wrapping_lay 1 (0, 0) [.ref (zA (gz g) w), .ref (zA (gz g) r), .int (nI i)] h (Ret none (h.set b (ia g (ly K B i)))) := by
  have hk1 : ∀ e, (h.set b e)[kb]? = some (ia g K) := fun e => gs_ne (Ne.symm hne) hk
  have hw1 : ∀ e, (h.set b e)[w]? = some (wrc g c kb) := fun e => gs_ne (ne_io hb hw) hw
  have hr1 : ∀ e, (h.set b e)[r]? = some (rwc g b n) := fun e => gs_ne (ne_io hb hr) hr
  have hb1 : ∀ e, (h.set b e)[b]? = some e := fun e => gs_self hb
  have hl : (cpy K B 0 0 8).length = B.length := cpy_length (by omega) (by omega)
  refine Con.of (by decide) rfl rfl (L := [some (.ref (zA (gz g) w)), some (.ref (zA (gz g) r)), some (.int (nI i))]) rfl (fun f C => ?_)
  refine x_aload_n (pc := 0) C (dq D_Wrapping_lay 0 rfl) rfl ?_
  refine x_get (pc := 1) (ci := 10) (j := 1) C (dq D_Wrapping_lay 1 rfl) rfl rfl (by first | exact hw | exact hr) rfl k_fl_Wrapping_9 ?_
  refine x_iconst (pc := 4) C (dq D_Wrapping_lay 2 rfl) ci_0 ?_
  refine x_aload_n (pc := 5) C (dq D_Wrapping_lay 3 rfl) rfl ?_
  refine x_get (pc := 6) (ci := 7) (j := 0) C (dq D_Wrapping_lay 4 rfl) rfl rfl (by first | exact hw | exact hr) rfl k_fl_Wrapping_45 ?_
  refine x_iconst (pc := 9) C (dq D_Wrapping_lay 5 rfl) ci_0 ?_
  refine x_bipush (pc := 10) C (dq D_Wrapping_lay 6 rfl) cb_8 ?_
  refine x_copy (pc := 12) C (dq D_Wrapping_lay 7 rfl) k_ml_Wrapping_48 hk hb (by omega) (by omega) (by omega) (by decide) rfl rfl ?_
  refine x_aload_n (pc := 15) C (dq D_Wrapping_lay 8 rfl) rfl ?_
  refine x_get (pc := 16) (ci := 10) (j := 1) C (dq D_Wrapping_lay 9 rfl) rfl rfl (by first | exact hw1 _ | exact hr1 _) rfl k_fl_Wrapping_9 ?_
  refine x_bipush (pc := 19) C (dq D_Wrapping_lay 10 rfl) cb_8 ?_
  refine x_aload_n (pc := 21) C (dq D_Wrapping_lay 11 rfl) rfl ?_
  refine x_get (pc := 22) (ci := 7) (j := 0) C (dq D_Wrapping_lay 12 rfl) rfl rfl (by first | exact hw1 _ | exact hr1 _) rfl k_fl_Wrapping_45 ?_
  refine x_bipush (pc := 25) C (dq D_Wrapping_lay 13 rfl) cb_8 ?_
  refine x_iload_n (pc := 27) C (dq D_Wrapping_lay 14 rfl) rfl ?_
  refine n_imul (pc := 28) C (dq D_Wrapping_lay 15 rfl) ?_
  refine x_bipush (pc := 29) C (dq D_Wrapping_lay 16 rfl) cb_8 ?_
  refine x_copy (pc := 31) C (dq D_Wrapping_lay 17 rfl) k_ml_Wrapping_48 (hk1 _) (hb1 _) (by omega) (by omega) (by omega) (by decide) rfl rfl ?_
  rw [List.set_set]
  exact x_vret (pc := 34) C (dq D_Wrapping_lay 18 rfl) rfl (by decide) ⟨rfl, rfl⟩
theorem c_addNumber {g : Gp} {h : Hp} {w c kb x : Nat} {K : List Nat} (hw : h[w]? = some (wrc g c kb)) (hk : h[kb]? = some (ia g K)) (hK : K.length = 16) :
    Con g M_Wrapping_addNumber 0 (0, 0) [.ref (zA (gz g) w), .int (nI x)] h (Ret none (h.set kb (ia g (nm K x)))) := by
  refine Con.of (by decide) rfl rfl (L := [some (.ref (zA (gz g) w)), some (.int (nI x))]) rfl (fun f C => ?_)
  refine x_aload_n (pc := 0) C (dq D_Wrapping_addNumber 0 rfl) rfl ?_
  refine x_get (pc := 1) (ci := 10) (j := 1) C (dq D_Wrapping_addNumber 1 rfl) rfl rfl (by first | exact hw | exact hk) rfl k_fl_Wrapping_9 ?_
  refine x_bipush (pc := 4) C (dq D_Wrapping_addNumber 2 rfl) cb_7 ?_
  refine x_dup2 (pc := 6) C (dq D_Wrapping_addNumber 3 rfl) rfl rfl ?_
  refine x_iald (pc := 7) C (dq D_Wrapping_addNumber 4 rfl) (by first | exact hw | exact hk) (by (try simp only [List.length_set]); omega) ?_
  refine x_iload_n (pc := 8) C (dq D_Wrapping_addNumber 5 rfl) rfl ?_
  refine n_ixor (pc := 9) C (dq D_Wrapping_addNumber 6 rfl) ?_
  refine x_iast (pc := 10) C (dq D_Wrapping_addNumber 7 rfl) (by first | exact hw | exact hk) (by (try simp only [List.length_set]); omega) ?_
  try rw [List.set_set]
  exact x_vret (pc := 11) C (dq D_Wrapping_addNumber 8 rfl) rfl (by decide) ⟨rfl, rfl⟩
/-- a turn of the wrapping at row i, all rows, all six -/
def ws (FO RK : List Nat) (n j i : Nat) (B : List Nat) : List Nat := ly (nm (trn FO RK (lf B i)) (n * j + i)) B i
def wr (FO RK : List Nat) (n j : Nat) (B : List Nat) : List Nat := it (fun i => ws FO RK n j (i + 1)) 0 n B
def wnd (FO RK : List Nat) (n : Nat) (B : List Nat) : List Nat := it (wr FO RK n) 0 6 B
theorem ws_ok {FO RK : List Nat} (hF : by8 FO) (hK : by8 RK) {n j i m : Nat} {B : List Nat} (hi : 8 * i + 8 ≤ m) (hx : n * j + i < 256) (h : B.length = m ∧ by8 B) : (ws FO RK n j i B).length = m ∧ by8 (ws FO RK n j i B) := by
  have h1 : (nm (trn FO RK (lf B i)) (n * j + i)).length = 16 := by rw [nm_len, trn_len, lf_len (by omega)]
  exact ⟨by rw [ws, ly_len h1 (by omega)]; exact h.1, ly8 i (nm8 (trn8 hF hK (lf8 i h.2)) hx) h.2⟩
theorem num_lt {n j i : Nat} (hn : n ≤ 10) (hj : j < 6) (hi : i ≤ n) : n * j + i < 256 := by
  have : n * j ≤ 10 * 5 := Nat.mul_le_mul hn (by omega)
  omega
theorem wr_ok {FO RK : List Nat} (hF : by8 FO) (hK : by8 RK) {n j m : Nat} (hn : n ≤ 10) (hm : 8 * n + 8 ≤ m) (hj : j < 6) {B : List Nat} (h : B.length = m ∧ by8 B) : (wr FO RK n j B).length = m ∧ by8 (wr FO RK n j B) :=
  it_inv (fun B : List Nat => B.length = m ∧ by8 B) n 0 B (fun i T _ hi hT => ws_ok hF hK (by omega) (num_lt hn hj (by omega)) hT) h
theorem wnd_ok {FO RK : List Nat} (hF : by8 FO) (hK : by8 RK) {n m : Nat} (hn : n ≤ 10) (hm : 8 * n + 8 ≤ m) {B : List Nat} (h : B.length = m ∧ by8 B) : (wnd FO RK n B).length = m ∧ by8 (wnd FO RK n B) :=
  it_inv (fun B : List Nat => B.length = m ∧ by8 B) 6 0 B (fun j T _ hj hT => wr_ok hF hK hn hm (by omega) hT) h
/-- the cells behind a winding: 'before' and the block anyhow -/
def wnp (g : Gp) (h : Hp) (bf kb b : Nat) (B : List Nat) : Outcome → Hp → Prop := fun o h' => o = .returned none ∧ ∃ F K : List Nat, F.length = 16 ∧ K.length = 16 ∧ by8 K ∧ h' = ((h.set bf (ia g F)).set kb (ia g K)).set b (ia g B)
theorem c_wind {g : Gp} {h : Hp} {w c t rk bf fo ba kb r b n : Nat} {FO BA RK K B : List Nat} (hc : cip g h c t rk bf fo ba FO BA RK) (hw : h[w]? = some (wrc g c kb)) (hk : h[kb]? = some (ia g K)) (hr : h[r]? = some (rwc g b n)) (hb : h[b]? = some (ia g B)) (hnk : kb ≠ fo ∧ kb ≠ ba ∧ kb ≠ rk ∧ kb ≠ bf) (hnb : b ≠ fo ∧ b ≠ ba ∧ b ≠ rk ∧ b ≠ bf) (hne : kb ≠ b) (hK : K.length = 16) (hK8 : by8 K) (hn : 16 ≤ n ∧ n ≤ B.length ∧ B.length = 88) (hB8 : by8 B) :
    Con g M_Wrapping_wind 3 (0, 0) [.ref (zA (gz g) w), .ref (zA (gz g) r)] h (wnp g h bf kb b (wnd FO RK (n / 8 - 1) B)) := by
  obtain ⟨BF, hbf, hBF⟩ := hc.bfa
  have hF8 := hc.2.2.2.2.2.2.2.2.2.1
  have hR8 := hc.2.2.2.2.2.2.2.2.2.2.2.1
  generalize hN : n / 8 - 1 = N
  have hN1 : N ≤ 10 ∧ 8 * N + 8 ≤ 88 := by omega
  have e1 : ∀ F K B : List Nat, (((h.set bf (ia g F)).set kb (ia g K)).set b (ia g B))[w]? = some (wrc g c kb) := fun F K B => gs_ne (ne_io hb hw) (gs_ne (ne_io hk hw) (gs_ne (ne_io hbf hw) hw))
  have e2 : ∀ F K B : List Nat, (((h.set bf (ia g F)).set kb (ia g K)).set b (ia g B))[r]? = some (rwc g b n) := fun F K B => gs_ne (ne_io hb hr) (gs_ne (ne_io hk hr) (gs_ne (ne_io hbf hr) hr))
  have k0 : ∀ F : List Nat, (h.set bf (ia g F))[kb]? = some (ia g K) := fun F => gs_ne (Ne.symm hnk.2.2.2) hk
  have b0 : ∀ F K : List Nat, ((h.set bf (ia g F)).set kb (ia g K))[b]? = some (ia g B) := fun F K => gs_ne hne (gs_ne (Ne.symm hnb.2.2.2) hb)
  have e3 : ∀ F K B : List Nat, (((h.set bf (ia g F)).set kb (ia g K)).set b (ia g B))[kb]? = some (ia g K) := fun F K B => gs_ne (Ne.symm hne) (gs_self (k0 F))
  have e4 : ∀ F K B : List Nat, (((h.set bf (ia g F)).set kb (ia g K)).set b (ia g B))[b]? = some (ia g B) := fun F K B => gs_self (b0 F K)
  have e5 : ∀ F K B : List Nat, F.length = 16 → cip g (((h.set bf (ia g F)).set kb (ia g K)).set b (ia g B)) c t rk bf fo ba FO BA RK := fun F K B hF => ((hc.bf hF).blk (k0 F) hnk).blk (b0 F K) hnb
  have s1 : ∀ (F K B : List Nat) (e : va_E), (((h.set bf (ia g F)).set kb (ia g K)).set b (ia g B)).set kb e = ((h.set bf (ia g F)).set kb e).set b (ia g B) := fun F K B e => gs_in hne
  have s2 : ∀ (F K B : List Nat) (e e' : va_E), ((((h.set bf (ia g F)).set kb (ia g K)).set b (ia g B)).set bf e).set kb e' = ((h.set bf e).set kb e').set b (ia g B) := fun F K B e e' => by
    rw [List.set_comm _ _ hnb.2.2.2, List.set_comm _ _ hnk.2.2.2, List.set_set, gs_in hne]
  refine Con.of (by decide) rfl rfl (L := [some (.ref (zA (gz g) w)), some (.ref (zA (gz g) r)), none, none, none]) rfl (fun f C => ?_)
  have rows : ∀ (d i j : Nat) (F K S : List Nat), i + d = N → j < 6 → F.length = 16 → K.length = 16 → by8 K → S.length = 88 → by8 S →
      (∀ F K : List Nat, F.length = 16 → K.length = 16 → by8 K → X g f M_Wrapping_wind (0, 0) (wnp g h bf kb b (wnd FO RK N B)) (0, 0) 68 [some (.ref (zA (gz g) w)), some (.ref (zA (gz g) r)), some (.int (nI N)), some (.int (nI j)), some (.int (nI (N + 1)))] [] (((h.set bf (ia g F)).set kb (ia g K)).set b (ia g (it (fun i => ws FO RK N j (i + 1)) i d S)))) →
      X g f M_Wrapping_wind (0, 0) (wnp g h bf kb b (wnd FO RK N B)) (0, 0) 21 [some (.ref (zA (gz g) w)), some (.ref (zA (gz g) r)), some (.int (nI N)), some (.int (nI j)), some (.int (nI (i + 1)))] [] (((h.set bf (ia g F)).set kb (ia g K)).set b (ia g S)) := by
    intro d
    induction d with
    | zero =>
      intro i j F K S hid hj hF hK hK8 hS hS8 go
      obtain rfl : i = N := by omega
      refine x_iload (pc := 21) C (dq D_Wrapping_wind 14 rfl) rfl ?_
      refine x_iload_n (pc := 23) C (dq D_Wrapping_wind 15 rfl) rfl ?_
      refine n_gt_t (pc := 24) (tgt := 68) C (dq D_Wrapping_wind 16 rfl) (by decide) (by omega) (by omega) ?_
      exact go F K hF hK hK8
    | succ d ih =>
      intro i j F K S hid hj hF hK hK8 hS hS8 go
      have hl := lf_len (B := S) (i := i + 1) (by omega)
      have hl8 := lf8 (i + 1) hS8
      refine x_iload (pc := 21) C (dq D_Wrapping_wind 14 rfl) rfl ?_
      refine x_iload_n (pc := 23) C (dq D_Wrapping_wind 15 rfl) rfl ?_
      refine n_gt_f (pc := 24) (tgt := 68) C (dq D_Wrapping_wind 16 rfl) (by decide) (by omega) (by omega) ?_
      refine x_aload_n (pc := 27) C (dq D_Wrapping_wind 17 rfl) rfl ?_
      refine x_aload_n (pc := 28) C (dq D_Wrapping_wind 18 rfl) rfl ?_
      refine x_iload (pc := 29) C (dq D_Wrapping_wind 19 rfl) rfl ?_
      refine x_cV0 (pc := 31) (ci := 10) (M := M_Wrapping_lift) C (dq D_Wrapping_wind 20 rfl) k_ml_Wrapping_25 m_Wrapping_lift rfl rfl (e1 _ _ _) (c_lift (e1 _ _ _) (e3 _ _ _) (e2 _ _ _) (e4 _ _ _) hne hK (by omega)) rfl rfl rfl rfl (by decide) ?_
      rw [s1]
      refine x_aload_n (pc := 34) C (dq D_Wrapping_wind 21 rfl) rfl ?_
      refine x_get (pc := 35) (ci := 10) (j := 0) C (dq D_Wrapping_wind 22 rfl) rfl rfl (by first | exact e1 _ _ _ | exact (e5 _ _ _ hF).1) rfl k_fl_Wrapping_15 ?_
      refine x_aload_n (pc := 38) C (dq D_Wrapping_wind 23 rfl) rfl ?_
      refine x_get (pc := 39) (ci := 10) (j := 1) C (dq D_Wrapping_wind 24 rfl) rfl rfl (by first | exact e1 _ _ _ | exact (e5 _ _ _ hF).1) rfl k_fl_Wrapping_9 ?_
      refine x_cV (pc := 42) (ci := 2) (M := M_Cipher_turn) C (dq D_Wrapping_wind 25 rfl) k_ml_Wrapping_29 m_Cipher_turn rfl rfl (by first | exact e1 _ _ _ | exact (e5 _ _ _ hF).1) (c_turn (e5 _ _ _ hF) (e3 _ _ _) hnk (by omega) hl8) rfl rfl rfl rfl (by decide) (fun o h2 hp => ?_)
      obtain ⟨rfl, F2, hF2, rfl⟩ := hp
      refine ⟨none, rfl, ?_⟩
      rw [s2]
      have ht : (trn FO RK (lf S (i + 1))).length = 16 := by rw [trn_len]; exact hl
      have ht8 := trn8 hF8 hR8 hl8
      have hx := num_lt hN1.1 hj (show i + 1 ≤ N by omega)
      show X g f M_Wrapping_wind (0, 0) (wnp g h bf kb b (wnd FO RK N B)) (0, 0) 45 [some (.ref (zA (gz g) w)), some (.ref (zA (gz g) r)), some (.int (nI N)), some (.int (nI j)), some (.int (nI (i + 1)))] [] (((h.set bf (ia g F2)).set kb (ia g (trn FO RK (lf S (i + 1))))).set b (ia g S))
      refine x_aload_n (pc := 45) C (dq D_Wrapping_wind 26 rfl) rfl ?_
      refine x_iload_n (pc := 46) C (dq D_Wrapping_wind 27 rfl) rfl ?_
      refine x_iload_n (pc := 47) C (dq D_Wrapping_wind 28 rfl) rfl ?_
      refine n_imul (pc := 48) C (dq D_Wrapping_wind 29 rfl) ?_
      refine x_iload (pc := 49) C (dq D_Wrapping_wind 30 rfl) rfl ?_
      refine n_iadd (pc := 51) C (dq D_Wrapping_wind 31 rfl) ?_
      refine x_cV0 (pc := 52) (ci := 10) (M := M_Wrapping_addNumber) C (dq D_Wrapping_wind 32 rfl) k_ml_Wrapping_35 m_Wrapping_addNumber rfl rfl (e1 _ _ _) (c_addNumber (e1 _ _ _) (e3 _ _ _) ht) rfl rfl rfl rfl (by decide) ?_
      rw [s1]
      refine x_aload_n (pc := 55) C (dq D_Wrapping_wind 33 rfl) rfl ?_
      refine x_aload_n (pc := 56) C (dq D_Wrapping_wind 34 rfl) rfl ?_
      refine x_iload (pc := 57) C (dq D_Wrapping_wind 35 rfl) rfl ?_
      refine x_cV0 (pc := 59) (ci := 10) (M := M_Wrapping_lay) C (dq D_Wrapping_wind 36 rfl) k_ml_Wrapping_39 m_Wrapping_lay rfl rfl (e1 _ _ _) (c_lay (e1 _ _ _) (e3 _ _ _) (e2 _ _ _) (e4 _ _ _) hne (by rw [nm_len]; exact ht) (by omega)) rfl rfl rfl rfl (by decide) ?_
      rw [List.set_set]
      refine x_iinc (pc := 62) C (dq D_Wrapping_wind 37 rfl) rfl (ii_1 _) rfl rfl ?_
      simp only [List.set_cons_zero, List.set_cons_succ]
      refine x_goto (pc := 65) (tgt := 21) C (dq D_Wrapping_wind 38 rfl) (by decide) ?_
      obtain ⟨q1, q2⟩ := ws_ok hF8 hR8 (m := 88) (by omega) hx ⟨hS, hS8⟩
      exact ih (i + 1) j F2 _ (ws FO RK N j (i + 1) S) (by omega) hj hF2 (by rw [nm_len]; exact ht) (nm8 ht8 hx) q1 q2 go
  have turns : ∀ (d j : Nat) (F K S : List Nat) (l4 : Option Value), j + d = 6 → F.length = 16 → K.length = 16 → by8 K → S.length = 88 → by8 S → it (wr FO RK N) j d S = wnd FO RK N B →
      X g f M_Wrapping_wind (0, 0) (wnp g h bf kb b (wnd FO RK N B)) (0, 0) 12 [some (.ref (zA (gz g) w)), some (.ref (zA (gz g) r)), some (.int (nI N)), some (.int (nI j)), l4] [] (((h.set bf (ia g F)).set kb (ia g K)).set b (ia g S)) := by
    intro d
    induction d with
    | zero =>
      intro j F K S l4 hjd hF hK hK8 hS hS8 he
      refine x_iload_n (pc := 12) C (dq D_Wrapping_wind 9 rfl) rfl ?_
      refine x_bipush (pc := 13) C (dq D_Wrapping_wind 10 rfl) cb_6 ?_
      refine n_ge_t (pc := 15) (tgt := 74) C (dq D_Wrapping_wind 11 rfl) (by decide) (by omega) (by omega) ?_
      exact x_vret (pc := 74) C (dq D_Wrapping_wind 41 rfl) rfl (by decide) ⟨rfl, F, K, hF, hK, hK8, by rw [← he]; rfl⟩
    | succ d ih =>
      intro j F K S l4 hjd hF hK hK8 hS hS8 he
      refine x_iload_n (pc := 12) C (dq D_Wrapping_wind 9 rfl) rfl ?_
      refine x_bipush (pc := 13) C (dq D_Wrapping_wind 10 rfl) cb_6 ?_
      refine n_ge_f (pc := 15) (tgt := 74) C (dq D_Wrapping_wind 11 rfl) (by decide) (by omega) (by omega) ?_
      refine x_iconst (pc := 18) C (dq D_Wrapping_wind 12 rfl) ci_1 ?_
      refine x_istore (i := 4) (pc := 19) C (dq D_Wrapping_wind 13 rfl) rfl rfl rfl ?_
      simp only [List.set_cons_zero, List.set_cons_succ]
      refine rows N 0 j F K S (by omega) (by omega) hF hK hK8 hS hS8 (fun F2 K2 hF2 hK2 hK28 => ?_)
      obtain ⟨q1, q2⟩ := wr_ok hF8 hR8 (n := N) (j := j) (m := 88) (by omega) (by omega) (by omega) ⟨hS, hS8⟩
      refine x_iinc (pc := 68) C (dq D_Wrapping_wind 39 rfl) rfl (ii_1 _) rfl rfl ?_
      simp only [List.set_cons_zero, List.set_cons_succ]
      refine x_goto (pc := 71) (tgt := 12) C (dq D_Wrapping_wind 40 rfl) (by decide) ?_
      exact ih (j + 1) F2 K2 (wr FO RK N j S) _ (by omega) hF2 hK2 hK28 q1 q2 he
  refine x_aload_n (pc := 0) C (dq D_Wrapping_wind 0 rfl) rfl ?_
  refine x_get (pc := 1) (ci := 7) (j := 1) C (dq D_Wrapping_wind 1 rfl) rfl rfl (hr) rfl k_fl_Wrapping_19 ?_
  refine x_bipush (pc := 4) C (dq D_Wrapping_wind 2 rfl) cb_8 ?_
  refine n_idiv (pc := 6) C (dq D_Wrapping_wind 3 rfl) (by omega) (by omega) (by omega) ?_
  refine x_iconst (pc := 7) C (dq D_Wrapping_wind 4 rfl) ci_1 ?_
  refine n_isub (pc := 8) C (dq D_Wrapping_wind 5 rfl) (by omega) ?_
  rw [hN]
  refine x_istore_n (i := 2) (pc := 9) C (dq D_Wrapping_wind 6 rfl) rfl rfl rfl ?_
  simp only [List.set_cons_zero, List.set_cons_succ]
  refine x_iconst (pc := 10) C (dq D_Wrapping_wind 7 rfl) ci_0 ?_
  refine x_istore_n (i := 3) (pc := 11) C (dq D_Wrapping_wind 8 rfl) rfl rfl rfl ?_
  simp only [List.set_cons_zero, List.set_cons_succ]
  have h0 := turns 6 0 BF K B none rfl hBF hK hK8 hn.2.2 hB8 rfl
  rw [gs_id hbf, gs_id hk, gs_id hb] at h0
  exact h0
end
section
/-- a turn of the unwrapping at row i, all rows, all six -/
def uws (BA RK : List Nat) (n j i : Nat) (B : List Nat) : List Nat := ly (trnB BA RK (nm (lf B i) (n * j + i))) B i
def uwr (BA RK : List Nat) (n j : Nat) (B : List Nat) : List Nat := it (fun i => uws BA RK n j (n - i)) 0 n B
def uwn (BA RK : List Nat) (n : Nat) (B : List Nat) : List Nat := it (fun j => uwr BA RK n (5 - j)) 0 6 B
theorem uws_ok {BA RK : List Nat} (hB : by8 BA) (hK : by8 RK) {n j i m : Nat} {B : List Nat} (hi : 8 * i + 8 ≤ m) (hx : n * j + i < 256) (h : B.length = m ∧ by8 B) : (uws BA RK n j i B).length = m ∧ by8 (uws BA RK n j i B) := by
  have h1 : (trnB BA RK (nm (lf B i) (n * j + i))).length = 16 := by rw [trnB_len, nm_len, lf_len (by omega)]
  exact ⟨by rw [uws, ly_len h1 (by omega)]; exact h.1, ly8 i (trnB8 hB hK (nm8 (lf8 i h.2) hx)) h.2⟩
theorem uwr_ok {BA RK : List Nat} (hB : by8 BA) (hK : by8 RK) {n j m : Nat} (hn : n ≤ 10) (hm : 8 * n + 8 ≤ m) (hj : j < 6) {B : List Nat} (h : B.length = m ∧ by8 B) : (uwr BA RK n j B).length = m ∧ by8 (uwr BA RK n j B) :=
  it_inv (fun B : List Nat => B.length = m ∧ by8 B) n 0 B (fun i T _ hi hT => uws_ok hB hK (by omega) (num_lt hn hj (by omega)) hT) h
theorem uwn_ok {BA RK : List Nat} (hB : by8 BA) (hK : by8 RK) {n m : Nat} (hn : n ≤ 10) (hm : 8 * n + 8 ≤ m) {B : List Nat} (h : B.length = m ∧ by8 B) : (uwn BA RK n B).length = m ∧ by8 (uwn BA RK n B) :=
  it_inv (fun B : List Nat => B.length = m ∧ by8 B) 6 0 B (fun j T _ hj hT => uwr_ok hB hK hn hm (by omega) hT) h
theorem c_unwind {g : Gp} {h : Hp} {w c t rk bf fo ba kb r b n : Nat} {FO BA RK K B : List Nat} (hc : cip g h c t rk bf fo ba FO BA RK) (hw : h[w]? = some (wrc g c kb)) (hk : h[kb]? = some (ia g K)) (hr : h[r]? = some (rwc g b n)) (hb : h[b]? = some (ia g B)) (hnk : kb ≠ fo ∧ kb ≠ ba ∧ kb ≠ rk ∧ kb ≠ bf) (hnb : b ≠ fo ∧ b ≠ ba ∧ b ≠ rk ∧ b ≠ bf) (hne : kb ≠ b) (hK : K.length = 16) (hK8 : by8 K) (hn : 16 ≤ n ∧ n ≤ B.length ∧ B.length = 88) (hB8 : by8 B) :
    Con g M_Wrapping_unwind 4 (0, 0) [.ref (zA (gz g) w), .ref (zA (gz g) r)] h (wnp g h bf kb b (uwn BA RK (n / 8 - 1) B)) := by
  obtain ⟨BF, hbf, hBF⟩ := hc.bfa
  have hB88 := hc.2.2.2.2.2.2.2.2.2.2.1
  have hR8 := hc.2.2.2.2.2.2.2.2.2.2.2.1
  generalize hN : n / 8 - 1 = N
  have hN1 : N ≤ 10 ∧ 8 * N + 8 ≤ 88 := by omega
  have e1 : ∀ F K B : List Nat, (((h.set bf (ia g F)).set kb (ia g K)).set b (ia g B))[w]? = some (wrc g c kb) := fun F K B => gs_ne (ne_io hb hw) (gs_ne (ne_io hk hw) (gs_ne (ne_io hbf hw) hw))
  have e2 : ∀ F K B : List Nat, (((h.set bf (ia g F)).set kb (ia g K)).set b (ia g B))[r]? = some (rwc g b n) := fun F K B => gs_ne (ne_io hb hr) (gs_ne (ne_io hk hr) (gs_ne (ne_io hbf hr) hr))
  have k0 : ∀ F : List Nat, (h.set bf (ia g F))[kb]? = some (ia g K) := fun F => gs_ne (Ne.symm hnk.2.2.2) hk
  have b0 : ∀ F K : List Nat, ((h.set bf (ia g F)).set kb (ia g K))[b]? = some (ia g B) := fun F K => gs_ne hne (gs_ne (Ne.symm hnb.2.2.2) hb)
  have e3 : ∀ F K B : List Nat, (((h.set bf (ia g F)).set kb (ia g K)).set b (ia g B))[kb]? = some (ia g K) := fun F K B => gs_ne (Ne.symm hne) (gs_self (k0 F))
  have e4 : ∀ F K B : List Nat, (((h.set bf (ia g F)).set kb (ia g K)).set b (ia g B))[b]? = some (ia g B) := fun F K B => gs_self (b0 F K)
  have e5 : ∀ F K B : List Nat, F.length = 16 → cip g (((h.set bf (ia g F)).set kb (ia g K)).set b (ia g B)) c t rk bf fo ba FO BA RK := fun F K B hF => ((hc.bf hF).blk (k0 F) hnk).blk (b0 F K) hnb
  have s1 : ∀ (F K B : List Nat) (e : va_E), (((h.set bf (ia g F)).set kb (ia g K)).set b (ia g B)).set kb e = ((h.set bf (ia g F)).set kb e).set b (ia g B) := fun F K B e => gs_in hne
  have s2 : ∀ (F K B : List Nat) (e e' : va_E), ((((h.set bf (ia g F)).set kb (ia g K)).set b (ia g B)).set bf e).set kb e' = ((h.set bf e).set kb e').set b (ia g B) := fun F K B e e' => by
    rw [List.set_comm _ _ hnb.2.2.2, List.set_comm _ _ hnk.2.2.2, List.set_set, gs_in hne]
  refine Con.of (by decide) rfl rfl (L := [some (.ref (zA (gz g) w)), some (.ref (zA (gz g) r)), none, none, none]) rfl (fun f C => ?_)
  have rows : ∀ (d i j : Nat) (F K S : List Nat), i + d = N → j < 6 → F.length = 16 → K.length = 16 → by8 K → S.length = 88 → by8 S →
      (∀ F K : List Nat, F.length = 16 → K.length = 16 → by8 K → X g f M_Wrapping_unwind (0, 0) (wnp g h bf kb b (uwn BA RK N B)) (0, 0) 66 [some (.ref (zA (gz g) w)), some (.ref (zA (gz g) r)), some (.int (nI N)), some (.int (nI j)), some (.int (nI 0))] [] (((h.set bf (ia g F)).set kb (ia g K)).set b (ia g (it (fun i => uws BA RK N j (N - i)) i d S)))) →
      X g f M_Wrapping_unwind (0, 0) (wnp g h bf kb b (uwn BA RK N B)) (0, 0) 19 [some (.ref (zA (gz g) w)), some (.ref (zA (gz g) r)), some (.int (nI N)), some (.int (nI j)), some (.int (nI d))] [] (((h.set bf (ia g F)).set kb (ia g K)).set b (ia g S)) := by
    intro d
    induction d with
    | zero =>
      intro i j F K S hid hj hF hK hK8 hS hS8 go
      refine x_iload (pc := 19) C (dq D_Wrapping_unwind 13 rfl) rfl ?_
      refine x_iconst (pc := 21) C (dq D_Wrapping_unwind 14 rfl) ci_1 ?_
      refine n_lt_t (pc := 22) (tgt := 66) C (dq D_Wrapping_unwind 15 rfl) (by decide) (by omega) (by omega) ?_
      exact go F K hF hK hK8
    | succ d ih =>
      intro i j F K S hid hj hF hK hK8 hS hS8 go
      have hl := lf_len (B := S) (i := d + 1) (by omega)
      have hl8 := lf8 (d + 1) hS8
      have hx := num_lt hN1.1 hj (show d + 1 ≤ N by omega)
      refine x_iload (pc := 19) C (dq D_Wrapping_unwind 13 rfl) rfl ?_
      refine x_iconst (pc := 21) C (dq D_Wrapping_unwind 14 rfl) ci_1 ?_
      refine n_lt_f (pc := 22) (tgt := 66) C (dq D_Wrapping_unwind 15 rfl) (by decide) (by omega) (by omega) ?_
      refine x_aload_n (pc := 25) C (dq D_Wrapping_unwind 16 rfl) rfl ?_
      refine x_aload_n (pc := 26) C (dq D_Wrapping_unwind 17 rfl) rfl ?_
      refine x_iload (pc := 27) C (dq D_Wrapping_unwind 18 rfl) rfl ?_
      refine x_cV0 (pc := 29) (ci := 10) (M := M_Wrapping_lift) C (dq D_Wrapping_unwind 19 rfl) k_ml_Wrapping_25 m_Wrapping_lift rfl rfl (e1 _ _ _) (c_lift (e1 _ _ _) (e3 _ _ _) (e2 _ _ _) (e4 _ _ _) hne hK (by omega)) rfl rfl rfl rfl (by decide) ?_
      rw [s1]
      refine x_aload_n (pc := 32) C (dq D_Wrapping_unwind 20 rfl) rfl ?_
      refine x_iload_n (pc := 33) C (dq D_Wrapping_unwind 21 rfl) rfl ?_
      refine x_iload_n (pc := 34) C (dq D_Wrapping_unwind 22 rfl) rfl ?_
      refine n_imul (pc := 35) C (dq D_Wrapping_unwind 23 rfl) ?_
      refine x_iload (pc := 36) C (dq D_Wrapping_unwind 24 rfl) rfl ?_
      refine n_iadd (pc := 38) C (dq D_Wrapping_unwind 25 rfl) ?_
      refine x_cV0 (pc := 39) (ci := 10) (M := M_Wrapping_addNumber) C (dq D_Wrapping_unwind 26 rfl) k_ml_Wrapping_35 m_Wrapping_addNumber rfl rfl (e1 _ _ _) (c_addNumber (e1 _ _ _) (e3 _ _ _) hl) rfl rfl rfl rfl (by decide) ?_
      rw [s1]
      have hm : (nm (lf S (d + 1)) (N * j + (d + 1))).length = 16 := by rw [nm_len]; exact hl
      have hm8 := nm8 hl8 hx
      refine x_aload_n (pc := 42) C (dq D_Wrapping_unwind 27 rfl) rfl ?_
      refine x_get (pc := 43) (ci := 10) (j := 0) C (dq D_Wrapping_unwind 28 rfl) rfl rfl (by first | exact e1 _ _ _ | exact (e5 _ _ _ hF).1) rfl k_fl_Wrapping_15 ?_
      refine x_aload_n (pc := 46) C (dq D_Wrapping_unwind 29 rfl) rfl ?_
      refine x_get (pc := 47) (ci := 10) (j := 1) C (dq D_Wrapping_unwind 30 rfl) rfl rfl (by first | exact e1 _ _ _ | exact (e5 _ _ _ hF).1) rfl k_fl_Wrapping_9 ?_
      refine x_cV (pc := 50) (ci := 2) (M := M_Cipher_turnBack) C (dq D_Wrapping_unwind 31 rfl) k_ml_Wrapping_42 m_Cipher_turnBack rfl rfl (by first | exact e1 _ _ _ | exact (e5 _ _ _ hF).1) (c_turnBack (e5 _ _ _ hF) (e3 _ _ _) hnk (by omega) hm8) rfl rfl rfl rfl (by decide) (fun o h2 hp => ?_)
      obtain ⟨rfl, F2, hF2, rfl⟩ := hp
      refine ⟨none, rfl, ?_⟩
      rw [s2]
      have ht : (trnB BA RK (nm (lf S (d + 1)) (N * j + (d + 1)))).length = 16 := by rw [trnB_len]; exact hm
      have ht8 := trnB8 hB88 hR8 hm8
      show X g f M_Wrapping_unwind (0, 0) (wnp g h bf kb b (uwn BA RK N B)) (0, 0) 53 [some (.ref (zA (gz g) w)), some (.ref (zA (gz g) r)), some (.int (nI N)), some (.int (nI j)), some (.int (nI (d + 1)))] [] (((h.set bf (ia g F2)).set kb (ia g (trnB BA RK (nm (lf S (d + 1)) (N * j + (d + 1)))))).set b (ia g S))
      refine x_aload_n (pc := 53) C (dq D_Wrapping_unwind 32 rfl) rfl ?_
      refine x_aload_n (pc := 54) C (dq D_Wrapping_unwind 33 rfl) rfl ?_
      refine x_iload (pc := 55) C (dq D_Wrapping_unwind 34 rfl) rfl ?_
      refine x_cV0 (pc := 57) (ci := 10) (M := M_Wrapping_lay) C (dq D_Wrapping_unwind 35 rfl) k_ml_Wrapping_39 m_Wrapping_lay rfl rfl (e1 _ _ _) (c_lay (e1 _ _ _) (e3 _ _ _) (e2 _ _ _) (e4 _ _ _) hne ht (by omega)) rfl rfl rfl rfl (by decide) ?_
      rw [List.set_set]
      refine x_iinc (pc := 60) C (dq D_Wrapping_unwind 36 rfl) rfl (iim (by omega)) rfl rfl ?_
      simp only [List.set_cons_zero, List.set_cons_succ]
      refine x_goto (pc := 63) (tgt := 19) C (dq D_Wrapping_unwind 37 rfl) (by decide) ?_
      obtain ⟨q1, q2⟩ := uws_ok hB88 hR8 (m := 88) (by omega) hx ⟨hS, hS8⟩
      have e0 : N - i = d + 1 := by omega
      refine ih (i + 1) j F2 _ (uws BA RK N j (d + 1) S) (by omega) hj hF2 ht ht8 q1 q2 ?_
      intro F3 K3 a1 a2 a3
      have := go F3 K3 a1 a2 a3
      rw [it, e0] at this
      exact this
  have turns : ∀ (d j : Nat) (x : Int32) (F K S : List Nat) (l4 : Option Value), j + d = 6 → (d = 0 → x = -1) → (∀ e, d = e + 1 → x = nI e) → F.length = 16 → K.length = 16 → by8 K → S.length = 88 → by8 S → it (fun j => uwr BA RK N (5 - j)) j d S = uwn BA RK N B →
      X g f M_Wrapping_unwind (0, 0) (wnp g h bf kb b (uwn BA RK N B)) (0, 0) 12 [some (.ref (zA (gz g) w)), some (.ref (zA (gz g) r)), some (.int (nI N)), some (.int (x)), l4] [] (((h.set bf (ia g F)).set kb (ia g K)).set b (ia g S)) := by
    intro d
    induction d with
    | zero =>
      intro j x F K S l4 hjd hx0 hx1 hF hK hK8 hS hS8 he
      obtain rfl := hx0 rfl
      refine x_iload_n (pc := 12) C (dq D_Wrapping_unwind 9 rfl) rfl ?_
      refine x_iflt (pc := 13) (tgt := 72) C (dq D_Wrapping_unwind 10 rfl) (by decide) (fun _ => ?_) (fun q => absurd (by decide) q)
      exact x_vret (pc := 72) C (dq D_Wrapping_unwind 40 rfl) rfl (by decide) ⟨rfl, F, K, hF, hK, hK8, by rw [← he]; rfl⟩
    | succ d ih =>
      intro j x F K S l4 hjd hx0 hx1 hF hK hK8 hS hS8 he
      obtain rfl := hx1 d rfl
      have e0 : 5 - j = d := by omega
      refine x_iload_n (pc := 12) C (dq D_Wrapping_unwind 9 rfl) rfl ?_
      refine n_iflt_f (pc := 13) (tgt := 72) C (dq D_Wrapping_unwind 10 rfl) (by decide) (by omega) (by omega) ?_
      refine x_iload_n (pc := 16) C (dq D_Wrapping_unwind 11 rfl) rfl ?_
      refine x_istore (i := 4) (pc := 17) C (dq D_Wrapping_unwind 12 rfl) rfl rfl rfl ?_
      simp only [List.set_cons_zero, List.set_cons_succ]
      refine rows N 0 d F K S (by omega) (by omega) hF hK hK8 hS hS8 (fun F2 K2 hF2 hK2 hK28 => ?_)
      obtain ⟨q1, q2⟩ := uwr_ok hB88 hR8 (n := N) (j := d) (m := 88) (by omega) (by omega) (by omega) ⟨hS, hS8⟩
      refine x_iinc (pc := 66) C (dq D_Wrapping_unwind 38 rfl) rfl rfl rfl rfl ?_
      simp only [List.set_cons_zero, List.set_cons_succ]
      refine x_goto (pc := 69) (tgt := 12) C (dq D_Wrapping_unwind 39 rfl) (by decide) ?_
      refine ih (j + 1) _ F2 K2 (uwr BA RK N d S) _ (by omega) (fun z => by subst z; decide +kernel) (fun e z => by subst z; exact iim (by omega)) hF2 hK2 hK28 q1 q2 ?_
      rw [it, e0] at he
      exact he
  refine x_aload_n (pc := 0) C (dq D_Wrapping_unwind 0 rfl) rfl ?_
  refine x_get (pc := 1) (ci := 7) (j := 1) C (dq D_Wrapping_unwind 1 rfl) rfl rfl (hr) rfl k_fl_Wrapping_19 ?_
  refine x_bipush (pc := 4) C (dq D_Wrapping_unwind 2 rfl) cb_8 ?_
  refine n_idiv (pc := 6) C (dq D_Wrapping_unwind 3 rfl) (by omega) (by omega) (by omega) ?_
  refine x_iconst (pc := 7) C (dq D_Wrapping_unwind 4 rfl) ci_1 ?_
  refine n_isub (pc := 8) C (dq D_Wrapping_unwind 5 rfl) (by omega) ?_
  rw [hN]
  refine x_istore_n (i := 2) (pc := 9) C (dq D_Wrapping_unwind 6 rfl) rfl rfl rfl ?_
  simp only [List.set_cons_zero, List.set_cons_succ]
  refine x_iconst (pc := 10) C (dq D_Wrapping_unwind 7 rfl) ci_5 ?_
  refine x_istore_n (i := 3) (pc := 11) C (dq D_Wrapping_unwind 8 rfl) rfl rfl rfl ?_
  simp only [List.set_cons_zero, List.set_cons_succ]
  have h0 := turns 6 0 (nI 5) BF K B none rfl (fun z => by cases z) (fun e z => by rw [show e = 5 by omega]) hBF hK hK8 hn.2.2 hB8 rfl
  rw [gs_id hbf, gs_id hk, gs_id hb] at h0
  exact h0
end
section
def fls (v k : Nat) (S : List Nat) : List Nat := S.set k v
theorem fls_len (v k : Nat) (S : List Nat) : (fls v k S).length = S.length := List.length_set
theorem c_rangeCheck {g : Gp} {h : Hp} {l a b : Nat} (hab : a ≤ b ∧ b ≤ l ∧ l < 2 ^ 31) : Con g M_Arrays_rangeCheck 0 (0, 0) [.int (nI l), .int (nI a), .int (nI b)] h (Ret none h) := by
  refine Con.of (by decide) rfl rfl (L := [some (.int (nI l)), some (.int (nI a)), some (.int (nI b))]) rfl (fun f C => ?_)
  refine x_iload_n (pc := 0) C (dq D_Arrays_rangeCheck 0 rfl) rfl ?_
  refine x_iload_n (pc := 1) C (dq D_Arrays_rangeCheck 1 rfl) rfl ?_
  refine n_le_t (pc := 2) (tgt := 46) C (dq D_Arrays_rangeCheck 2 rfl) (by decide) (by omega) (by omega) ?_
  refine x_iload_n (pc := 46) C (dq D_Arrays_rangeCheck 21 rfl) rfl ?_
  refine n_ifge_t (pc := 47) (tgt := 59) C (dq D_Arrays_rangeCheck 22 rfl) (by decide) (by omega) (by omega) ?_
  refine x_iload_n (pc := 59) C (dq D_Arrays_rangeCheck 28 rfl) rfl ?_
  refine x_iload_n (pc := 60) C (dq D_Arrays_rangeCheck 29 rfl) rfl ?_
  refine n_le_t (pc := 61) (tgt := 73) C (dq D_Arrays_rangeCheck 30 rfl) (by decide) (by omega) (by omega) ?_
  exact x_vret (pc := 73) C (dq D_Arrays_rangeCheck 36 rfl) rfl (by decide) ⟨rfl, rfl⟩
theorem c_fill4 {g : Gp} {h : Hp} {blk a b v : Nat} {A : List Nat} (hb : h[blk]? = some (ia g A)) (hab : a ≤ b ∧ b ≤ A.length ∧ A.length < 1000) : Con g M_Arrays_fill 1 (0, 0) [.ref (zA (gz g) blk), .int (nI a), .int (nI b), .int (nI v)] h (Ret none (h.set blk (ia g (it (fls v) a (b - a) A)))) := by
  have hb1 : ∀ e, (h.set blk e)[blk]? = some e := fun e => gs_self hb
  refine Con.of (by decide) rfl rfl (L := [some (.ref (zA (gz g) blk)), some (.int (nI a)), some (.int (nI b)), some (.int (nI v)), none]) rfl (fun f C => ?_)
  have loop : ∀ (d k : Nat) (S : List Nat), k + d = b → S.length = A.length → X g f M_Arrays_fill (0, 0) (Ret none (h.set blk (ia g (it (fls v) k d S)))) (0, 0) 10 [some (.ref (zA (gz g) blk)), some (.int (nI a)), some (.int (nI b)), some (.int (nI v)), some (.int (nI k))] [] (h.set blk (ia g S)) := by
    intro d
    induction d with
    | zero =>
      intro k S hkd hS
      refine x_iload (pc := 10) C (dq D_Arrays_fill 7 rfl) rfl ?_
      refine x_iload_n (pc := 12) C (dq D_Arrays_fill 8 rfl) rfl ?_
      refine n_ge_t (pc := 13) (tgt := 27) C (dq D_Arrays_fill 9 rfl) (by decide) (by omega) (by omega) ?_
      exact x_vret (pc := 27) C (dq D_Arrays_fill 16 rfl) rfl (by decide) ⟨rfl, rfl⟩
    | succ d ih =>
      intro k S hkd hS
      refine x_iload (pc := 10) C (dq D_Arrays_fill 7 rfl) rfl ?_
      refine x_iload_n (pc := 12) C (dq D_Arrays_fill 8 rfl) rfl ?_
      refine n_ge_f (pc := 13) (tgt := 27) C (dq D_Arrays_fill 9 rfl) (by decide) (by omega) (by omega) ?_
      refine x_aload_n (pc := 16) C (dq D_Arrays_fill 10 rfl) rfl ?_
      refine x_iload (pc := 17) C (dq D_Arrays_fill 11 rfl) rfl ?_
      refine x_iload_n (pc := 19) C (dq D_Arrays_fill 12 rfl) rfl ?_
      refine x_iast (pc := 20) C (dq D_Arrays_fill 13 rfl) (hb1 _) (by (try simp only [List.length_set]); omega) ?_
      try rw [List.set_set]
      refine x_iinc (pc := 21) C (dq D_Arrays_fill 14 rfl) rfl (ii_1 _) rfl rfl ?_
      simp only [List.set_cons_zero, List.set_cons_succ]
      refine x_goto (pc := 24) (tgt := 10) C (dq D_Arrays_fill 15 rfl) (by decide) ?_
      exact ih (k + 1) (fls v k S) (by omega) (by rw [fls_len]; exact hS)
  refine x_aload_n (pc := 0) C (dq D_Arrays_fill 0 rfl) rfl ?_
  refine x_alen (pc := 1) C (dq D_Arrays_fill 1 rfl) (hb) ?_
  refine x_iload_n (pc := 2) C (dq D_Arrays_fill 2 rfl) rfl ?_
  refine x_iload_n (pc := 3) C (dq D_Arrays_fill 3 rfl) rfl ?_
  refine x_cS0 (pc := 4) (M := M_Arrays_rangeCheck) C (dq D_Arrays_fill 4 rfl) k_ml_Arrays_13 m_Arrays_rangeCheck (c_rangeCheck (by omega)) rfl rfl rfl rfl (by decide) ?_
  refine x_iload_n (pc := 7) C (dq D_Arrays_fill 5 rfl) rfl ?_
  refine x_istore (i := 4) (pc := 8) C (dq D_Arrays_fill 6 rfl) rfl rfl rfl ?_
  simp only [List.set_cons_zero, List.set_cons_succ]
  have h0 := loop (b - a) a A (by omega) rfl
  rw [gs_id hb] at h0
  exact h0
theorem c_fill2 {g : Gp} {h : Hp} {blk v : Nat} {A : List Nat} (hb : h[blk]? = some (ia g A)) (hA : A.length < 1000) : Con g M_Arrays_fill1 0 (0, 0) [.ref (zA (gz g) blk), .int (nI v)] h (Ret none (h.set blk (ia g (it (fls v) 0 A.length A)))) := by
  have hb1 : ∀ e, (h.set blk e)[blk]? = some e := fun e => gs_self hb
  refine Con.of (by decide) rfl rfl (L := [some (.ref (zA (gz g) blk)), some (.int (nI v)), none, none]) rfl (fun f C => ?_)
  have loop : ∀ (d k : Nat) (S : List Nat), k + d = A.length → S.length = A.length → X g f M_Arrays_fill1 (0, 0) (Ret none (h.set blk (ia g (it (fls v) k d S)))) (0, 0) 5 [some (.ref (zA (gz g) blk)), some (.int (nI v)), some (.int (nI k)), some (.int (nI A.length))] [] (h.set blk (ia g S)) := by
    intro d
    induction d with
    | zero =>
      intro k S hkd hS
      refine x_iload_n (pc := 5) C (dq D_Arrays_fill1 5 rfl) rfl ?_
      refine x_iload_n (pc := 6) C (dq D_Arrays_fill1 6 rfl) rfl ?_
      refine n_ge_t (pc := 7) (tgt := 20) C (dq D_Arrays_fill1 7 rfl) (by decide) (by omega) (by omega) ?_
      exact x_vret (pc := 20) C (dq D_Arrays_fill1 14 rfl) rfl (by decide) ⟨rfl, rfl⟩
    | succ d ih =>
      intro k S hkd hS
      refine x_iload_n (pc := 5) C (dq D_Arrays_fill1 5 rfl) rfl ?_
      refine x_iload_n (pc := 6) C (dq D_Arrays_fill1 6 rfl) rfl ?_
      refine n_ge_f (pc := 7) (tgt := 20) C (dq D_Arrays_fill1 7 rfl) (by decide) (by omega) (by omega) ?_
      refine x_aload_n (pc := 10) C (dq D_Arrays_fill1 8 rfl) rfl ?_
      refine x_iload_n (pc := 11) C (dq D_Arrays_fill1 9 rfl) rfl ?_
      refine x_iload_n (pc := 12) C (dq D_Arrays_fill1 10 rfl) rfl ?_
      refine x_iast (pc := 13) C (dq D_Arrays_fill1 11 rfl) (hb1 _) (by (try simp only [List.length_set]); omega) ?_
      try rw [List.set_set]
      refine x_iinc (pc := 14) C (dq D_Arrays_fill1 12 rfl) rfl (ii_1 _) rfl rfl ?_
      simp only [List.set_cons_zero, List.set_cons_succ]
      refine x_goto (pc := 17) (tgt := 5) C (dq D_Arrays_fill1 13 rfl) (by decide) ?_
      exact ih (k + 1) (fls v k S) (by omega) (by rw [fls_len]; exact hS)
  refine x_iconst (pc := 0) C (dq D_Arrays_fill1 0 rfl) ci_0 ?_
  refine x_istore_n (i := 2) (pc := 1) C (dq D_Arrays_fill1 1 rfl) rfl rfl rfl ?_
  simp only [List.set_cons_zero, List.set_cons_succ]
  refine x_aload_n (pc := 2) C (dq D_Arrays_fill1 2 rfl) rfl ?_
  refine x_alen (pc := 3) C (dq D_Arrays_fill1 3 rfl) (hb) ?_
  refine x_istore_n (i := 3) (pc := 4) C (dq D_Arrays_fill1 4 rfl) rfl rfl rfl ?_
  simp only [List.set_cons_zero, List.set_cons_succ]
  have h0 := loop A.length 0 A (by omega) rfl
  rw [gs_id hb] at h0
  exact h0
end
section
/-! The reference: its object is cell 44, its arrays the cells 45 to 58. -/
abbrev moc (g : Gp) (cd ni no nt nr nl : Nat) : va_E := .inr (1, [.int (nI cd), .ref (zA (gz g) 45), .ref (zA (gz g) 46), .ref (zA (gz g) 47), .int (nI ni), .ref (zA (gz g) 48), .int (nI no), .ref (zA (gz g) 49), .int (nI nt), .ref (zA (gz g) 50), .ref (zA (gz g) 51), .ref (zA (gz g) 52), .ref (zA (gz g) 53), .int (nI nr), .ref (zA (gz g) 54), .int (nI nl), .ref (zA (gz g) 55), .ref (zA (gz g) 56), .ref (zA (gz g) 57), .ref (zA (gz g) 58)])
/-- a step of the product, and the product -/
def pst (a b i v : Nat) : Nat := if (b / 2 ^ i) &&& 1 = 1 then (if 255 < v * 2 then (v * 2) ^^^ 283 else v * 2) ^^^ a else (if 255 < v * 2 then (v * 2) ^^^ 283 else v * 2)
def prd (a b : Nat) : Nat := it (fun j => pst a b (7 - j)) 0 8 0
theorem dbl8a : ∀ v, v < 256 → (if 255 < v * 2 then (v * 2) ^^^ 283 else v * 2) < 256 := by decide +kernel
theorem pst8 {a b i v : Nat} (ha : a < 256) (hv : v < 256) : pst a b i v < 256 := by
  unfold pst
  have h1 := dbl8a v hv
  split
  · exact xor8 h1 ha
  · exact h1
theorem prd8 {a b : Nat} (ha : a < 256) : prd a b < 256 := it_inv (fun v => v < 256) 8 0 0 (fun j v _ _ hv => pst8 ha hv) (by decide)
theorem c_product {g : Gp} {h : Hp} {a b : Nat} (ha : a < 256) (hb : b < 256) : Con g M_Model_product 0 (0, 0) [.int (nI a), .int (nI b)] h (Ret (some (.int (nI (prd a b)))) h) := by
  refine Con.of (by decide) rfl rfl (L := [some (.int (nI a)), some (.int (nI b)), none, none]) rfl (fun f C => ?_)
  have loop : ∀ (d j v : Nat) (x : Int32), j + d = 8 → (d = 0 → x = -1) → (∀ e, d = e + 1 → x = nI e) → v < 256 → X g f M_Model_product (0, 0) (Ret (some (.int (nI (it (fun j => pst a b (7 - j)) j d v)))) h) (0, 0) 5 [some (.int (nI a)), some (.int (nI b)), some (.int (nI v)), some (.int x)] [] h := by
    intro d
    induction d with
    | zero =>
      intro j v x hjd hx0 hx1 hv
      obtain rfl := hx0 rfl
      refine x_iload_n (pc := 5) C (dq D_Model_product 4 rfl) rfl ?_
      refine x_iflt (pc := 6) (tgt := 53) C (dq D_Model_product 5 rfl) (by decide) (fun _ => ?_) (fun q => absurd (by decide) q)
      refine x_iload_n (pc := 53) C (dq D_Model_product 34 rfl) rfl ?_
      exact x_iret (pc := 54) C (dq D_Model_product 35 rfl) rfl (by decide) (Ret.i rfl)
    | succ d ih =>
      intro j v x hjd hx0 hx1 hv
      obtain rfl := hx1 d rfl
      have e0 : 7 - j = d := by omega
      have q1 := dbl8a v hv
      have q2 : (b / 2 ^ d) &&& 1 < 2 := Nat.lt_of_le_of_lt Nat.and_le_right (by omega)
      have step : ∀ u : Nat, u = pst a b d v → X g f M_Model_product (0, 0) (Ret (some (.int (nI (it (fun j => pst a b (7 - j)) j (d + 1) v)))) h) (0, 0) 46 [some (.int (nI a)), some (.int (nI b)), some (.int (nI (if 255 < v * 2 then (v * 2) ^^^ 283 else v * 2))), some (.int (nI d))] [.int (nI u)] h := by
        intro u hu
        refine x_istore_n (i := 2) (pc := 46) C (dq D_Model_product 31 rfl) rfl rfl rfl ?_
        simp only [List.set_cons_zero, List.set_cons_succ]
        refine x_iinc (pc := 47) C (dq D_Model_product 32 rfl) rfl rfl rfl rfl ?_
        simp only [List.set_cons_zero, List.set_cons_succ]
        refine x_goto (pc := 50) (tgt := 5) C (dq D_Model_product 33 rfl) (by decide) ?_
        have h0 := ih (j + 1) u (nI d + Int32.ofInt (-1)) (by omega) (fun z => by subst z; decide +kernel) (fun e z => by subst z; exact iim (by omega)) (by rw [hu]; exact pst8 ha hv)
        rw [it, e0, ← hu]
        exact h0
      have mid : X g f M_Model_product (0, 0) (Ret (some (.int (nI (it (fun j => pst a b (7 - j)) j (d + 1) v)))) h) (0, 0) 29 [some (.int (nI a)), some (.int (nI b)), some (.int (nI (v * 2))), some (.int (nI d))] [.int (nI (if 255 < v * 2 then (v * 2) ^^^ 283 else v * 2))] h := by
        generalize hw : (if 255 < v * 2 then (v * 2) ^^^ 283 else v * 2) = w at step q1 ⊢
        refine x_istore_n (i := 2) (pc := 29) C (dq D_Model_product 18 rfl) rfl rfl rfl ?_
        simp only [List.set_cons_zero, List.set_cons_succ]
        refine x_iload_n (pc := 30) C (dq D_Model_product 19 rfl) rfl ?_
        refine x_iload_n (pc := 31) C (dq D_Model_product 20 rfl) rfl ?_
        refine n_ishr (pc := 32) C (dq D_Model_product 21 rfl) (by omega) (by omega) ?_
        refine x_iconst (pc := 33) C (dq D_Model_product 22 rfl) ci_1 ?_
        refine n_iand (pc := 34) C (dq D_Model_product 23 rfl) ?_
        refine x_iconst (pc := 35) C (dq D_Model_product 24 rfl) ci_1 ?_
        refine n_ne (pc := 36) (tgt := 45) C (dq D_Model_product 25 rfl) (by decide) (by omega) (fun hq => ?_) (fun hq => ?_)
        · refine x_iload_n (pc := 45) C (dq D_Model_product 30 rfl) rfl ?_
          exact step w (by unfold pst; rw [hw, if_neg hq])
        · refine x_iload_n (pc := 39) C (dq D_Model_product 26 rfl) rfl ?_
          refine x_iload_n (pc := 40) C (dq D_Model_product 27 rfl) rfl ?_
          refine n_ixor (pc := 41) C (dq D_Model_product 28 rfl) ?_
          refine x_goto (pc := 42) (tgt := 46) C (dq D_Model_product 29 rfl) (by decide) ?_
          exact step (w ^^^ a) (by unfold pst; rw [hw, if_pos hq])
      refine x_iload_n (pc := 5) C (dq D_Model_product 4 rfl) rfl ?_
      refine n_iflt_f (pc := 6) (tgt := 53) C (dq D_Model_product 5 rfl) (by decide) (by omega) (by omega) ?_
      refine x_iload_n (pc := 9) C (dq D_Model_product 6 rfl) rfl ?_
      refine x_iconst (pc := 10) C (dq D_Model_product 7 rfl) ci_2 ?_
      refine n_imul (pc := 11) C (dq D_Model_product 8 rfl) ?_
      refine x_istore_n (i := 2) (pc := 12) C (dq D_Model_product 9 rfl) rfl rfl rfl ?_
      simp only [List.set_cons_zero, List.set_cons_succ]
      refine x_iload_n (pc := 13) C (dq D_Model_product 10 rfl) rfl ?_
      refine x_sipush (pc := 14) C (dq D_Model_product 11 rfl) cs_255 ?_
      refine n_le (pc := 17) (tgt := 28) C (dq D_Model_product 12 rfl) (by decide) (by omega) (fun hq => ?_) (fun hq => ?_)
      · rw [if_neg (by omega)] at mid
        refine x_iload_n (pc := 28) C (dq D_Model_product 17 rfl) rfl ?_
        exact mid
      · rw [if_pos (by omega)] at mid
        refine x_iload_n (pc := 20) C (dq D_Model_product 13 rfl) rfl ?_
        refine x_sipush (pc := 21) C (dq D_Model_product 14 rfl) cs_283 ?_
        refine n_ixor (pc := 24) C (dq D_Model_product 15 rfl) ?_
        refine x_goto (pc := 25) (tgt := 29) C (dq D_Model_product 16 rfl) (by decide) ?_
        exact mid
  refine x_iconst (pc := 0) C (dq D_Model_product 0 rfl) ci_0 ?_
  refine x_istore_n (i := 2) (pc := 1) C (dq D_Model_product 1 rfl) rfl rfl rfl ?_
  simp only [List.set_cons_zero, List.set_cons_succ]
  refine x_bipush (pc := 2) C (dq D_Model_product 2 rfl) cb_7 ?_
  refine x_istore_n (i := 3) (pc := 4) C (dq D_Model_product 3 rfl) rfl rfl rfl ?_
  simp only [List.set_cons_zero, List.set_cons_succ]
  exact loop 8 0 0 (nI 7) rfl (fun z => by cases z) (fun e z => by rw [show e = 7 by omega]) (by omega)
def pws2 (_ : Nat) (q : Nat × Nat) : Nat × Nat := (prd q.1 q.1, prd q.2 (prd q.1 q.1))
def pow (b : Nat) : Nat := (it pws2 0 7 (b, 1)).2
theorem pow8 {b : Nat} (hb : b < 256) : pow b < 256 := (it_inv (fun q : Nat × Nat => q.1 < 256 ∧ q.2 < 256) 7 0 (b, 1) (fun j q _ _ hq => ⟨prd8 hq.1, prd8 hq.2⟩) ⟨hb, show 1 < 256 by omega⟩).2
theorem c_power {g : Gp} {h : Hp} {b : Nat} (hb : b < 256) : Con g M_Model_power 1 (0, 0) [.int (nI b)] h (Ret (some (.int (nI (pow b)))) h) := by
  refine Con.of (by decide) rfl rfl (L := [some (.int (nI b)), none, none, none]) rfl (fun f C => ?_)
  have loop : ∀ (d k : Nat) (q : Nat × Nat), k + d = 7 → q.1 < 256 → q.2 < 256 → X g f M_Model_power (0, 0) (Ret (some (.int (nI (it pws2 k d q).2))) h) (0, 0) 6 [some (.int (nI b)), some (.int (nI q.1)), some (.int (nI q.2)), some (.int (nI k))] [] h := by
    intro d
    induction d with
    | zero =>
      intro k q hkd h1 h2
      refine x_iload_n (pc := 6) C (dq D_Model_power 6 rfl) rfl ?_
      refine x_bipush (pc := 7) C (dq D_Model_power 7 rfl) cb_7 ?_
      refine n_ge_t (pc := 9) (tgt := 30) C (dq D_Model_power 8 rfl) (by decide) (by omega) (by omega) ?_
      refine x_iload_n (pc := 30) C (dq D_Model_power 19 rfl) rfl ?_
      exact x_iret (pc := 31) C (dq D_Model_power 20 rfl) rfl (by decide) (Ret.i rfl)
    | succ d ih =>
      intro k q hkd h1 h2
      have h3 := prd8 (b := q.1) h1
      refine x_iload_n (pc := 6) C (dq D_Model_power 6 rfl) rfl ?_
      refine x_bipush (pc := 7) C (dq D_Model_power 7 rfl) cb_7 ?_
      refine n_ge_f (pc := 9) (tgt := 30) C (dq D_Model_power 8 rfl) (by decide) (by omega) (by omega) ?_
      refine x_iload_n (pc := 12) C (dq D_Model_power 9 rfl) rfl ?_
      refine x_iload_n (pc := 13) C (dq D_Model_power 10 rfl) rfl ?_
      refine x_cS1 (pc := 14) (M := M_Model_product) C (dq D_Model_power 11 rfl) k_ml_Model_68 m_Model_product (c_product h1 h1) rfl rfl rfl rfl (by decide) ?_
      refine x_istore_n (i := 1) (pc := 17) C (dq D_Model_power 12 rfl) rfl rfl rfl ?_
      simp only [List.set_cons_zero, List.set_cons_succ]
      refine x_iload_n (pc := 18) C (dq D_Model_power 13 rfl) rfl ?_
      refine x_iload_n (pc := 19) C (dq D_Model_power 14 rfl) rfl ?_
      refine x_cS1 (pc := 20) (M := M_Model_product) C (dq D_Model_power 15 rfl) k_ml_Model_68 m_Model_product (c_product h2 h3) rfl rfl rfl rfl (by decide) ?_
      refine x_istore_n (i := 2) (pc := 23) C (dq D_Model_power 16 rfl) rfl rfl rfl ?_
      simp only [List.set_cons_zero, List.set_cons_succ]
      refine x_iinc (pc := 24) C (dq D_Model_power 17 rfl) rfl (ii_1 _) rfl rfl ?_
      simp only [List.set_cons_zero, List.set_cons_succ]
      refine x_goto (pc := 27) (tgt := 6) C (dq D_Model_power 18 rfl) (by decide) ?_
      exact ih (k + 1) (pws2 k q) (by omega) h3 (prd8 h2)
  refine x_iload_n (pc := 0) C (dq D_Model_power 0 rfl) rfl ?_
  refine x_istore_n (i := 1) (pc := 1) C (dq D_Model_power 1 rfl) rfl rfl rfl ?_
  simp only [List.set_cons_zero, List.set_cons_succ]
  refine x_iconst (pc := 2) C (dq D_Model_power 2 rfl) ci_1 ?_
  refine x_istore_n (i := 2) (pc := 3) C (dq D_Model_power 3 rfl) rfl rfl rfl ?_
  simp only [List.set_cons_zero, List.set_cons_succ]
  refine x_iconst (pc := 4) C (dq D_Model_power 4 rfl) ci_0 ?_
  refine x_istore_n (i := 3) (pc := 5) C (dq D_Model_power 5 rfl) rfl rfl rfl ?_
  simp only [List.set_cons_zero, List.set_cons_succ]
  exact loop 7 0 (b, 1) rfl hb (by show 1 < 256; omega)
def arn (c n : Nat) : Nat := ((c * 2 ^ n) &&& 255) ||| (c / 2 ^ (8 - n))
theorem c_around {g : Gp} {h : Hp} {c n : Nat} (hc : c < 256) (hn : 1 ≤ n ∧ n ≤ 4) : Con g M_Model_around 0 (0, 0) [.int (nI c), .int (nI n)] h (Ret (some (.int (nI (arn c n)))) h) := by
  have hs : c * 2 ^ n < 2 ^ 32 := by
    have h1 : 2 ^ n ≤ 2 ^ 4 := Nat.pow_le_pow_right (by omega) hn.2
    have h2 : c * 2 ^ n ≤ 255 * 2 ^ 4 := Nat.mul_le_mul (by omega) h1
    omega
  refine Con.of (by decide) rfl rfl (L := [some (.int (nI c)), some (.int (nI n))]) rfl (fun f C => ?_)
  refine x_iload_n (pc := 0) C (dq D_Model_around 0 rfl) rfl ?_
  refine x_iload_n (pc := 1) C (dq D_Model_around 1 rfl) rfl ?_
  refine n_ishl (pc := 2) C (dq D_Model_around 2 rfl) (by omega) hs ?_
  refine x_sipush (pc := 3) C (dq D_Model_around 3 rfl) cs_255 ?_
  refine n_iand (pc := 6) C (dq D_Model_around 4 rfl) ?_
  refine x_iload_n (pc := 7) C (dq D_Model_around 5 rfl) rfl ?_
  refine x_bipush (pc := 8) C (dq D_Model_around 6 rfl) cb_8 ?_
  refine x_iload_n (pc := 10) C (dq D_Model_around 7 rfl) rfl ?_
  refine n_isub (pc := 11) C (dq D_Model_around 8 rfl) (by omega) ?_
  refine n_ishr (pc := 12) C (dq D_Model_around 9 rfl) (by omega) (by omega) ?_
  refine n_ior (pc := 13) C (dq D_Model_around 10 rfl) ?_
  exact x_iret (pc := 14) C (dq D_Model_around 11 rfl) rfl (by decide) (Ret.i rfl)
theorem c_bitBehind {g : Gp} {h : Hp} {k v : Nat} (hk : k < 100) (hv : v < 256) : Con g M_Model_bitBehind 0 (0, 0) [.int (nI k), .int (nI v)] h (Ret (some (.int (nI (if k < 15 then v / 2 ^ 7 else 0)))) h) := by
  refine Con.of (by decide) rfl rfl (L := [some (.int (nI k)), some (.int (nI v))]) rfl (fun f C => ?_)
  refine x_iload_n (pc := 0) C (dq D_Model_bitBehind 0 rfl) rfl ?_
  refine x_bipush (pc := 1) C (dq D_Model_bitBehind 1 rfl) cb_15 ?_
  refine n_ge (pc := 3) (tgt := 13) C (dq D_Model_bitBehind 2 rfl) (by decide) (by omega) (fun hq => ?_) (fun hq => ?_)
  · rw [if_neg (by omega)]
    refine x_iconst (pc := 13) C (dq D_Model_bitBehind 7 rfl) ci_0 ?_
    exact x_iret (pc := 14) C (dq D_Model_bitBehind 8 rfl) rfl (by decide) (Ret.i rfl)
  · rw [if_pos hq]
    refine x_iload_n (pc := 6) C (dq D_Model_bitBehind 3 rfl) rfl ?_
    refine x_bipush (pc := 7) C (dq D_Model_bitBehind 4 rfl) cb_7 ?_
    refine n_ishr (pc := 9) C (dq D_Model_bitBehind 5 rfl) (by omega) (by omega) ?_
    refine x_goto (pc := 10) (tgt := 14) C (dq D_Model_bitBehind 6 rfl) (by decide) ?_
    exact x_iret (pc := 14) C (dq D_Model_bitBehind 8 rfl) rfl (by decide) (Ret.i rfl)
end
section
/-- a word through the table, byte by byte -/
def chg (T : List Nat) (w : Nat) : Nat := ((T.getD (w / 2 ^ 24 &&& 255) 0 * 2 ^ 24 ||| T.getD (w / 2 ^ 16 &&& 255) 0 * 2 ^ 16) ||| T.getD (w / 2 ^ 8 &&& 255) 0 * 2 ^ 8) ||| T.getD (w &&& 255) 0
theorem chg32 {T : List Nat} (h : by8 T) (w : Nat) : chg T w < 2 ^ 32 := by
  have a := h.at (w / 2 ^ 24 &&& 255)
  have b := h.at (w / 2 ^ 16 &&& 255)
  have c := h.at (w / 2 ^ 8 &&& 255)
  have d := h.at (w &&& 255)
  exact Nat.or_lt_two_pow (Nat.or_lt_two_pow (Nat.or_lt_two_pow (by omega) (by omega)) (by omega)) (by omega)
theorem c_changed {g : Gp} {h : Hp} {cd ni no nt nr nl w : Nat} {T : List Nat} (hm : h[44]? = some (moc g cd ni no nt nr nl)) (ht : h[46]? = some (ia g T)) (hT : T.length = 256) (h8 : by8 T) (hw : w < 2 ^ 32) : Con g M_Model_changed 0 (0, 0) [.ref (zA (gz g) 44), .int (nI w)] h (Ret (some (.int (nI (chg T w)))) h) := by
  have a := h8.at (w / 2 ^ 24 &&& 255)
  have b := h8.at (w / 2 ^ 16 &&& 255)
  have c := h8.at (w / 2 ^ 8 &&& 255)
  have a1 := and8 (w / 2 ^ 24)
  have b1 := and8 (w / 2 ^ 16)
  have c1 := and8 (w / 2 ^ 8)
  have d1 := and8 w
  refine Con.of (by decide) rfl rfl (L := [some (.ref (zA (gz g) 44)), some (.int (nI w))]) rfl (fun f C => ?_)
  refine x_aload_n (pc := 0) C (dq D_Model_changed 0 rfl) rfl ?_
  refine x_get (pc := 1) (ci := 1) (j := 2) C (dq D_Model_changed 1 rfl) rfl rfl (hm) rfl k_fl_Model_13 ?_
  refine x_iload_n (pc := 4) C (dq D_Model_changed 2 rfl) rfl ?_
  refine x_bipush (pc := 5) C (dq D_Model_changed 3 rfl) cb_24 ?_
  refine x_ishr (pc := 7) C (dq D_Model_changed 4 rfl) ?_
  refine x_sipush (pc := 8) C (dq D_Model_changed 5 rfl) cs_255 ?_
  refine x_iand (pc := 11) C (dq D_Model_changed 6 rfl) ?_
  rw [ws255 hw (by omega)]
  refine x_iald (pc := 12) C (dq D_Model_changed 7 rfl) (by first | exact hm | exact ht) (by (try simp only [List.length_set]); omega) ?_
  refine x_bipush (pc := 13) C (dq D_Model_changed 8 rfl) cb_24 ?_
  refine n_ishl (pc := 15) C (dq D_Model_changed 9 rfl) (by omega) (by omega) ?_
  refine x_aload_n (pc := 16) C (dq D_Model_changed 10 rfl) rfl ?_
  refine x_get (pc := 17) (ci := 1) (j := 2) C (dq D_Model_changed 11 rfl) rfl rfl (by first | exact hm | exact ht) rfl k_fl_Model_13 ?_
  refine x_iload_n (pc := 20) C (dq D_Model_changed 12 rfl) rfl ?_
  refine x_bipush (pc := 21) C (dq D_Model_changed 13 rfl) cb_16 ?_
  refine x_ishr (pc := 23) C (dq D_Model_changed 14 rfl) ?_
  refine x_sipush (pc := 24) C (dq D_Model_changed 15 rfl) cs_255 ?_
  refine x_iand (pc := 27) C (dq D_Model_changed 16 rfl) ?_
  rw [ws255 hw (by omega)]
  refine x_iald (pc := 28) C (dq D_Model_changed 17 rfl) (by first | exact hm | exact ht) (by (try simp only [List.length_set]); omega) ?_
  refine x_bipush (pc := 29) C (dq D_Model_changed 18 rfl) cb_16 ?_
  refine n_ishl (pc := 31) C (dq D_Model_changed 19 rfl) (by omega) (by omega) ?_
  refine n_ior (pc := 32) C (dq D_Model_changed 20 rfl) ?_
  refine x_aload_n (pc := 33) C (dq D_Model_changed 21 rfl) rfl ?_
  refine x_get (pc := 34) (ci := 1) (j := 2) C (dq D_Model_changed 22 rfl) rfl rfl (by first | exact hm | exact ht) rfl k_fl_Model_13 ?_
  refine x_iload_n (pc := 37) C (dq D_Model_changed 23 rfl) rfl ?_
  refine x_bipush (pc := 38) C (dq D_Model_changed 24 rfl) cb_8 ?_
  refine x_ishr (pc := 40) C (dq D_Model_changed 25 rfl) ?_
  refine x_sipush (pc := 41) C (dq D_Model_changed 26 rfl) cs_255 ?_
  refine x_iand (pc := 44) C (dq D_Model_changed 27 rfl) ?_
  rw [ws255 hw (by omega)]
  refine x_iald (pc := 45) C (dq D_Model_changed 28 rfl) (by first | exact hm | exact ht) (by (try simp only [List.length_set]); omega) ?_
  refine x_bipush (pc := 46) C (dq D_Model_changed 29 rfl) cb_8 ?_
  refine n_ishl (pc := 48) C (dq D_Model_changed 30 rfl) (by omega) (by omega) ?_
  refine n_ior (pc := 49) C (dq D_Model_changed 31 rfl) ?_
  refine x_aload_n (pc := 50) C (dq D_Model_changed 32 rfl) rfl ?_
  refine x_get (pc := 51) (ci := 1) (j := 2) C (dq D_Model_changed 33 rfl) rfl rfl (by first | exact hm | exact ht) rfl k_fl_Model_13 ?_
  refine x_iload_n (pc := 54) C (dq D_Model_changed 34 rfl) rfl ?_
  refine x_sipush (pc := 55) C (dq D_Model_changed 35 rfl) cs_255 ?_
  refine n_iand (pc := 58) C (dq D_Model_changed 36 rfl) ?_
  refine x_iald (pc := 59) C (dq D_Model_changed 37 rfl) (by first | exact hm | exact ht) (by (try simp only [List.length_set]); omega) ?_
  refine n_ior (pc := 60) C (dq D_Model_changed 38 rfl) ?_
  exact x_iret (pc := 61) C (dq D_Model_changed 39 rfl) rfl (by decide) (Ret.i rfl)
/-- the reference's key laid over a block -/
def mak (W : List Nat) (f r k : Nat) (S : List Nat) : List Nat := S.set k (S.getD k 0 ^^^ ((W.getD (f + 4 * r + k / 4) 0 / 2 ^ (24 - 8 * (k % 4))) &&& 255))
theorem mak_len (W : List Nat) (f r k : Nat) (S : List Nat) : (mak W f r k S).length = S.length := List.length_set
theorem mak8 (W : List Nat) (f r k n : Nat) {S : List Nat} (hS : by8 S) : by8 (it (mak W f r) k n S) := it_inv by8 n k S (fun j T _ _ hT => hT.set (xor8 (hT.at _) (and8 _))) hS
theorem c_addKey {g : Gp} {h : Hp} {cd ni no nt nr nl f0 r : Nat} {W B : List Nat} (hm : h[44]? = some (moc g cd ni no nt nr nl)) (hw : h[45]? = some (ia g W)) (hb : h[52]? = some (ia g B)) (hW : W.length = 88) (h32 : by32 W) (hB : B.length = 16) (hr : r ≤ 10) (hf : f0 ≤ 44) :
    Con g M_Model_addKey 0 (0, 0) [.ref (zA (gz g) 44), .int (nI f0), .int (nI r)] h (Ret none (h.set 52 (ia g (it (mak W f0 r) 0 16 B)))) := by
  have hm1 : ∀ e, (h.set 52 e)[44]? = some (moc g cd ni no nt nr nl) := fun e => gs_ne (by decide) hm
  have hw1 : ∀ e, (h.set 52 e)[45]? = some (ia g W) := fun e => gs_ne (by decide) hw
  have hb1 : ∀ e, (h.set 52 e)[52]? = some e := fun e => gs_self hb
  refine Con.of (by decide) rfl rfl (L := [some (.ref (zA (gz g) 44)), some (.int (nI f0)), some (.int (nI r)), none]) rfl (fun f C => ?_)
  have loop : ∀ (n k : Nat) (S : List Nat), k + n = 16 → S.length = 16 → X g f M_Model_addKey (0, 0) (Ret none (h.set 52 (ia g (it (mak W f0 r) k n S)))) (0, 0) 2 [some (.ref (zA (gz g) 44)), some (.int (nI f0)), some (.int (nI r)), some (.int (nI k))] [] (h.set 52 (ia g S)) := by
    intro n
    induction n with
    | zero =>
      intro k S hkn hS
      refine x_iload_n (pc := 2) C (dq D_Model_addKey 2 rfl) rfl ?_
      refine x_bipush (pc := 3) C (dq D_Model_addKey 3 rfl) cb_16 ?_
      refine n_ge_t (pc := 5) (tgt := 55) C (dq D_Model_addKey 4 rfl) (by decide) (by omega) (by omega) ?_
      exact x_vret (pc := 55) C (dq D_Model_addKey 38 rfl) rfl (by decide) ⟨rfl, rfl⟩
    | succ n ih =>
      intro k S hkn hS
      refine x_iload_n (pc := 2) C (dq D_Model_addKey 2 rfl) rfl ?_
      refine x_bipush (pc := 3) C (dq D_Model_addKey 3 rfl) cb_16 ?_
      refine n_ge_f (pc := 5) (tgt := 55) C (dq D_Model_addKey 4 rfl) (by decide) (by omega) (by omega) ?_
      refine x_aload_n (pc := 8) C (dq D_Model_addKey 5 rfl) rfl ?_
      refine x_get (pc := 9) (ci := 1) (j := 11) C (dq D_Model_addKey 6 rfl) rfl rfl (by first | exact hm1 _ | exact hw1 _ | exact hb1 _) rfl k_fl_Model_31 ?_
      refine x_iload_n (pc := 12) C (dq D_Model_addKey 7 rfl) rfl ?_
      refine x_aload_n (pc := 13) C (dq D_Model_addKey 8 rfl) rfl ?_
      refine x_get (pc := 14) (ci := 1) (j := 11) C (dq D_Model_addKey 9 rfl) rfl rfl (by first | exact hm1 _ | exact hw1 _ | exact hb1 _) rfl k_fl_Model_31 ?_
      refine x_iload_n (pc := 17) C (dq D_Model_addKey 10 rfl) rfl ?_
      refine x_iald (pc := 18) C (dq D_Model_addKey 11 rfl) (by first | exact hm1 _ | exact hw1 _ | exact hb1 _) (by (try simp only [List.length_set]); omega) ?_
      refine x_aload_n (pc := 19) C (dq D_Model_addKey 12 rfl) rfl ?_
      refine x_get (pc := 20) (ci := 1) (j := 1) C (dq D_Model_addKey 13 rfl) rfl rfl (by first | exact hm1 _ | exact hw1 _ | exact hb1 _) rfl k_fl_Model_7 ?_
      refine x_iload_n (pc := 23) C (dq D_Model_addKey 14 rfl) rfl ?_
      refine x_iconst (pc := 24) C (dq D_Model_addKey 15 rfl) ci_4 ?_
      refine x_iload_n (pc := 25) C (dq D_Model_addKey 16 rfl) rfl ?_
      refine n_imul (pc := 26) C (dq D_Model_addKey 17 rfl) ?_
      refine n_iadd (pc := 27) C (dq D_Model_addKey 18 rfl) ?_
      refine x_iload_n (pc := 28) C (dq D_Model_addKey 19 rfl) rfl ?_
      refine x_iconst (pc := 29) C (dq D_Model_addKey 20 rfl) ci_4 ?_
      refine n_idiv (pc := 30) C (dq D_Model_addKey 21 rfl) (by omega) (by omega) (by omega) ?_
      refine n_iadd (pc := 31) C (dq D_Model_addKey 22 rfl) ?_
      refine x_iald (pc := 32) C (dq D_Model_addKey 23 rfl) (by first | exact hm1 _ | exact hw1 _ | exact hb1 _) (by (try simp only [List.length_set]); omega) ?_
      refine x_bipush (pc := 33) C (dq D_Model_addKey 24 rfl) cb_24 ?_
      refine x_bipush (pc := 35) C (dq D_Model_addKey 25 rfl) cb_8 ?_
      refine x_iload_n (pc := 37) C (dq D_Model_addKey 26 rfl) rfl ?_
      refine x_iconst (pc := 38) C (dq D_Model_addKey 27 rfl) ci_4 ?_
      refine n_irem (pc := 39) C (dq D_Model_addKey 28 rfl) (by omega) (by omega) (by omega) ?_
      refine n_imul (pc := 40) C (dq D_Model_addKey 29 rfl) ?_
      refine n_isub (pc := 41) C (dq D_Model_addKey 30 rfl) (by omega) ?_
      refine x_ishr (pc := 42) C (dq D_Model_addKey 31 rfl) ?_
      refine x_sipush (pc := 43) C (dq D_Model_addKey 32 rfl) cs_255 ?_
      refine x_iand (pc := 46) C (dq D_Model_addKey 33 rfl) ?_
      rw [ws255 (h32.at _) (by omega)]
      refine n_ixor (pc := 47) C (dq D_Model_addKey 34 rfl) ?_
      refine x_iast (pc := 48) C (dq D_Model_addKey 35 rfl) (by first | exact hm1 _ | exact hw1 _ | exact hb1 _) (by (try simp only [List.length_set]); omega) ?_
      try rw [List.set_set]
      refine x_iinc (pc := 49) C (dq D_Model_addKey 36 rfl) rfl (ii_1 _) rfl rfl ?_
      simp only [List.set_cons_zero, List.set_cons_succ]
      refine x_goto (pc := 52) (tgt := 2) C (dq D_Model_addKey 37 rfl) (by decide) ?_
      exact ih (k + 1) (mak W f0 r k S) (by omega) (by rw [mak_len]; exact hS)
  refine x_iconst (pc := 0) C (dq D_Model_addKey 0 rfl) ci_0 ?_
  refine x_istore_n (i := 3) (pc := 1) C (dq D_Model_addKey 1 rfl) rfl rfl rfl ?_
  simp only [List.set_cons_zero, List.set_cons_succ]
  have h0 := loop 16 0 B rfl hB
  rw [gs_id hb] at h0
  exact h0
/-- the reference's places moved through its table -/
def msb (T B : List Nat) (c k : Nat) (M : List Nat) : List Nat := M.set (4 * c + k) (T.getD (B.getD (4 * ((c + k) % 4) + k) 0) 0)
def msv (T B : List Nat) (c : Nat) (M : List Nat) : List Nat := it (msb T B c) 0 4 M
/-- the reference's mixing -/
def mmx (r : Nat) (M : List Nat) (k : Nat) (B : List Nat) : List Nat := B.set k (if r = 10 then M.getD k 0 else ((prd (M.getD (k / 4 * 4 + k % 4) 0) 2 ^^^ prd (M.getD (k / 4 * 4 + (k % 4 + 1) % 4) 0) 3) ^^^ M.getD (k / 4 * 4 + (k % 4 + 2) % 4) 0) ^^^ M.getD (k / 4 * 4 + (k % 4 + 3) % 4) 0)
theorem msb_len (T B : List Nat) (c k : Nat) (M : List Nat) : (msb T B c k M).length = M.length := List.length_set
theorem msv_len (T B : List Nat) (c : Nat) (M : List Nat) : (msv T B c M).length = M.length := it_len (msb_len T B c) 4 0 M
theorem mmx_len (r : Nat) (M : List Nat) (k : Nat) (B : List Nat) : (mmx r M k B).length = B.length := List.length_set
theorem msv8 {T : List Nat} (hT : by8 T) (B : List Nat) (c n k : Nat) {M : List Nat} (h : by8 M) : by8 (it (msb T B c) k n M) := it_inv by8 n k M (fun j S _ _ hS => hS.set (hT.at _)) h
theorem mmx8 (r : Nat) {M : List Nat} (hM : by8 M) (n k : Nat) {B : List Nat} (h : by8 B) : by8 (it (mmx r M) k n B) := it_inv by8 n k B (fun j S _ _ hS => hS.set (by
  split
  · exact hM.at _
  · exact xor8 (xor8 (xor8 (prd8 (hM.at _)) (prd8 (hM.at _))) (hM.at _)) (hM.at _))) h
/-- a round of the reference on block and moved places -/
def mrd (T W : List Nat) (f r : Nat) (q : List Nat × List Nat) : List Nat × List Nat :=
  (it (mak W f r) 0 16 (it (mmx r (it (msv T q.1) 0 4 q.2)) 0 16 q.1), it (msv T q.1) 0 4 q.2)
def menc (T W : List Nat) (f : Nat) (q : List Nat × List Nat) : List Nat × List Nat := it (fun i => mrd T W f (i + 1)) 0 10 (it (mak W f 0) 0 16 q.1, q.2)
/-- block and moved places are sixteen bytes each -/
def bm16 (q : List Nat × List Nat) : Prop := q.1.length = 16 ∧ by8 q.1 ∧ q.2.length = 16 ∧ by8 q.2
theorem msvs_ok {T B : List Nat} (hT : by8 T) (c n : Nat) {M : List Nat} (h : M.length = 16 ∧ by8 M) : (it (msv T B) c n M).length = 16 ∧ by8 (it (msv T B) c n M) :=
  it_inv (fun M : List Nat => M.length = 16 ∧ by8 M) n c M (fun j S _ _ hS => ⟨by rw [msv_len]; exact hS.1, msv8 hT B j 4 0 hS.2⟩) h
theorem mrd_ok {T : List Nat} (hT : by8 T) (W : List Nat) (f r : Nat) {q : List Nat × List Nat} (h : bm16 q) : bm16 (mrd T W f r q) := by
  obtain ⟨a, b, c, d⟩ := h
  obtain ⟨u, v⟩ := msvs_ok (B := q.1) hT 0 4 ⟨c, d⟩
  have h1 : (it (mak W f r) 0 16 (it (mmx r (it (msv T q.1) 0 4 q.2)) 0 16 q.1)).length = 16 := by
    rw [it_len (mak_len W f r), it_len (mmx_len r _)]
    exact a
  have h2 : by8 (it (mak W f r) 0 16 (it (mmx r (it (msv T q.1) 0 4 q.2)) 0 16 q.1)) := mak8 W f r 0 16 (mmx8 r v 16 0 b)
  unfold bm16 mrd
  dsimp only
  exact ⟨h1, h2, u, v⟩
theorem menc_ok {T : List Nat} (hT : by8 T) (W : List Nat) (f : Nat) {q : List Nat × List Nat} (h : bm16 q) : bm16 (menc T W f q) := by
  have h1 : (it (mak W f 0) 0 16 q.1).length = 16 := by
    rw [it_len (mak_len W f 0)]
    exact h.1
  have h2 : by8 (it (mak W f 0) 0 16 q.1) := mak8 W f 0 0 16 h.2.1
  have h3 : bm16 (it (mak W f 0) 0 16 q.1, q.2) := by
    unfold bm16
    dsimp only
    exact ⟨h1, h2, h.2.2⟩
  unfold menc
  exact it_inv bm16 10 0 _ (fun j s _ _ hs => mrd_ok hT W f (j + 1) hs) h3
/-- what the cipher of the reference needs among the cells -/
def mci (g : Gp) (h : Hp) (cd ni no nt nr nl : Nat) (W T U : List Nat) : Prop := h[44]? = some (moc g cd ni no nt nr nl) ∧ h[45]? = some (ia g W) ∧ h[46]? = some (ia g T) ∧ h[47]? = some (ia g U) ∧ W.length = 88 ∧ T.length = 256 ∧ U.length = 256 ∧ by32 W ∧ by8 T ∧ by8 U
theorem mci.at {g : Gp} {h : Hp} {cd ni no nt nr nl a : Nat} {W T U : List Nat} {e : va_E} (H : mci g h cd ni no nt nr nl W T U) (ha : Nat.ble 48 a = true) : mci g (h.set a e) cd ni no nt nr nl W T U := by
  have ha := Nat.le_of_ble_eq_true ha
  exact ⟨gs_ne (by omega) H.1, gs_ne (by omega) H.2.1, gs_ne (by omega) H.2.2.1, gs_ne (by omega) H.2.2.2.1, H.2.2.2.2⟩
theorem c_encipher {g : Gp} {h : Hp} {cd ni no nt nr nl f0 : Nat} {W T U B M : List Nat} (hc : mci g h cd ni no nt nr nl W T U) (hb : h[52]? = some (ia g B)) (hv : h[53]? = some (ia g M)) (hq : bm16 (B, M)) (hf : f0 ≤ 44) :
    Con g M_Model_encipher 1 (0, 0) [.ref (zA (gz g) 44), .int (nI f0)] h (Ret none ((h.set 53 (ia g (menc T W f0 (B, M)).2)).set 52 (ia g (menc T W f0 (B, M)).1))) := by
  have v1 : ∀ (e e' : va_E), ((h.set 53 e).set 52 e')[53]? = some e := fun e e' => gs_ne (by decide) (gs_self hv)
  have b1 : ∀ (e e' : va_E), ((h.set 53 e).set 52 e')[52]? = some e' := fun e e' => gs_self (gs_ne (by decide) hb)
  have c1 : ∀ (e e' : va_E), mci g ((h.set 53 e).set 52 e') cd ni no nt nr nl W T U := fun e e' => mci.at (mci.at hc rfl) rfl
  have hT8 := hc.2.2.2.2.2.2.2.2.1
  have hT := hc.2.2.2.2.2.1
  refine Con.of (by decide) rfl rfl (L := [some (.ref (zA (gz g) 44)), some (.int (nI f0)), none, none, none, none]) rfl (fun f C => ?_)
  have loop : ∀ (n i : Nat) (q : List Nat × List Nat) (l3 l4 l5 : Option Value), i + n = 10 → bm16 q → it (fun i => mrd T W f0 (i + 1)) i n q = menc T W f0 (B, M) → X g f M_Model_encipher (0, 0) (Ret none ((h.set 53 (ia g (menc T W f0 (B, M)).2)).set 52 (ia g (menc T W f0 (B, M)).1))) (0, 0) 8 [some (.ref (zA (gz g) 44)), some (.int (nI f0)), some (.int (nI (i + 1))), l3, l4, l5] [] ((h.set 53 (ia g q.2)).set 52 (ia g q.1)) := by
    intro n
    induction n with
    | zero =>
      intro i q l3 l4 l5 hin hq he
      refine x_iload_n (pc := 8) C (dq D_Model_encipher 6 rfl) rfl ?_
      refine x_bipush (pc := 9) C (dq D_Model_encipher 7 rfl) cb_10 ?_
      refine n_gt_t (pc := 11) (tgt := 196) C (dq D_Model_encipher 8 rfl) (by decide) (by omega) (by omega) ?_
      exact x_vret (pc := 196) C (dq D_Model_encipher 124 rfl) rfl (by decide) ⟨rfl, by rw [← he]; rfl⟩
    | succ n ih =>
      intro i q l3 l4 l5 hin hq he
      obtain ⟨hq1, hq2, hq3, hq4⟩ := hq
      obtain ⟨S, M0⟩ := q
      dsimp only at hq1 hq2 hq3 hq4 he ⊢
      -- the mixing
      have mixing : ∀ (n k : Nat) (R V : List Nat) (l4 l5 : Option Value), k + n = 16 → R.length = 16 → V.length = 16 → by8 V → it (mmx (i + 1) V) k n R = it (mmx (i + 1) V) 0 16 S → V = it (msv T S) 0 4 M0 → X g f M_Model_encipher (0, 0) (Ret none ((h.set 53 (ia g (menc T W f0 (B, M)).2)).set 52 (ia g (menc T W f0 (B, M)).1))) (0, 0) 76 [some (.ref (zA (gz g) 44)), some (.int (nI f0)), some (.int (nI (i + 1))), some (.int (nI k)), l4, l5] [] ((h.set 53 (ia g V)).set 52 (ia g R)) := by
        intro n2
        induction n2 with
        | zero =>
          intro k R V l4 l5 hkn hR hV hV8 he2 heV
          have e1 : R = it (mmx (i + 1) V) 0 16 S := he2
          refine x_iload_n (pc := 76) C (dq D_Model_encipher 48 rfl) rfl ?_
          refine x_bipush (pc := 77) C (dq D_Model_encipher 49 rfl) cb_16 ?_
          refine n_ge_t (pc := 79) (tgt := 184) C (dq D_Model_encipher 50 rfl) (by decide) (by omega) (by omega) ?_
          refine x_aload_n (pc := 184) C (dq D_Model_encipher 118 rfl) rfl ?_
          refine x_iload_n (pc := 185) C (dq D_Model_encipher 119 rfl) rfl ?_
          refine x_iload_n (pc := 186) C (dq D_Model_encipher 120 rfl) rfl ?_
          refine x_cV0 (pc := 187) (ci := 1) (M := M_Model_addKey) C (dq D_Model_encipher 121 rfl) k_ml_Model_74 m_Model_addKey rfl rfl ((c1 _ _).1) (c_addKey (c1 _ _).1 (c1 _ _).2.1 (b1 _ _) hc.2.2.2.2.1 hc.2.2.2.2.2.2.2.1 hR (by omega) hf) rfl rfl rfl rfl (by decide) ?_
          rw [List.set_set]
          refine x_iinc (pc := 190) C (dq D_Model_encipher 122 rfl) rfl (ii_1 _) rfl rfl ?_
          simp only [List.set_cons_zero, List.set_cons_succ]
          refine x_goto (pc := 193) (tgt := 8) C (dq D_Model_encipher 123 rfl) (by decide) ?_
          have e2 : (it (mak W f0 (i + 1)) 0 16 R, V) = mrd T W f0 (i + 1) (S, M0) := by
            unfold mrd
            rw [← heV, e1]
          have h0 := ih (i + 1) (mrd T W f0 (i + 1) (S, M0)) (some (.int (nI k))) l4 l5 (by omega) (mrd_ok hT8 W f0 (i + 1) ⟨hq1, hq2, hq3, hq4⟩) he
          rw [← e2] at h0
          exact h0
        | succ n2 ih2 =>
          intro k R V l4 l5 hkn hR hV hV8 he2 heV
          have p0 := hV8.at (k / 4 * 4 + k % 4)
          have p1 := hV8.at (k / 4 * 4 + (k % 4 + 1) % 4)
          have fin : ∀ v : Nat, v = (if i + 1 = 10 then V.getD k 0 else ((prd (V.getD (k / 4 * 4 + k % 4) 0) 2 ^^^ prd (V.getD (k / 4 * 4 + (k % 4 + 1) % 4) 0) 3) ^^^ V.getD (k / 4 * 4 + (k % 4 + 2) % 4) 0) ^^^ V.getD (k / 4 * 4 + (k % 4 + 3) % 4) 0) → X g f M_Model_encipher (0, 0) (Ret none ((h.set 53 (ia g (menc T W f0 (B, M)).2)).set 52 (ia g (menc T W f0 (B, M)).1))) (0, 0) 177 [some (.ref (zA (gz g) 44)), some (.int (nI f0)), some (.int (nI (i + 1))), some (.int (nI k)), some (.int (nI (k / 4 * 4))), some (.int (nI (k % 4)))] [.int (nI v), .int (nI k), .ref (zA (gz g) 52)] ((h.set 53 (ia g V)).set 52 (ia g R)) := by
            intro v hv0
            refine x_iast (pc := 177) C (dq D_Model_encipher 115 rfl) (b1 _ _) (by (try simp only [List.length_set]); omega) ?_
            try rw [List.set_set]
            refine x_iinc (pc := 178) C (dq D_Model_encipher 116 rfl) rfl (ii_1 _) rfl rfl ?_
            simp only [List.set_cons_zero, List.set_cons_succ]
            refine x_goto (pc := 181) (tgt := 76) C (dq D_Model_encipher 117 rfl) (by decide) ?_
            refine ih2 (k + 1) (R.set k v) V _ _ (by omega) (by rw [List.length_set]; exact hR) hV hV8 ?_ heV
            rw [hv0]
            exact he2
          refine x_iload_n (pc := 76) C (dq D_Model_encipher 48 rfl) rfl ?_
          refine x_bipush (pc := 77) C (dq D_Model_encipher 49 rfl) cb_16 ?_
          refine n_ge_f (pc := 79) (tgt := 184) C (dq D_Model_encipher 50 rfl) (by decide) (by omega) (by omega) ?_
          refine x_iload_n (pc := 82) C (dq D_Model_encipher 51 rfl) rfl ?_
          refine x_iconst (pc := 83) C (dq D_Model_encipher 52 rfl) ci_4 ?_
          refine n_idiv (pc := 84) C (dq D_Model_encipher 53 rfl) (by omega) (by omega) (by omega) ?_
          refine x_iconst (pc := 85) C (dq D_Model_encipher 54 rfl) ci_4 ?_
          refine n_imul (pc := 86) C (dq D_Model_encipher 55 rfl) ?_
          refine x_istore (i := 4) (pc := 87) C (dq D_Model_encipher 56 rfl) rfl rfl rfl ?_
          simp only [List.set_cons_zero, List.set_cons_succ]
          refine x_iload_n (pc := 89) C (dq D_Model_encipher 57 rfl) rfl ?_
          refine x_iconst (pc := 90) C (dq D_Model_encipher 58 rfl) ci_4 ?_
          refine n_irem (pc := 91) C (dq D_Model_encipher 59 rfl) (by omega) (by omega) (by omega) ?_
          refine x_istore (i := 5) (pc := 92) C (dq D_Model_encipher 60 rfl) rfl rfl rfl ?_
          simp only [List.set_cons_zero, List.set_cons_succ]
          refine x_aload_n (pc := 94) C (dq D_Model_encipher 61 rfl) rfl ?_
          refine x_get (pc := 95) (ci := 1) (j := 11) C (dq D_Model_encipher 62 rfl) rfl rfl ((c1 _ _).1) rfl k_fl_Model_31 ?_
          refine x_iload_n (pc := 98) C (dq D_Model_encipher 63 rfl) rfl ?_
          refine x_iload_n (pc := 99) C (dq D_Model_encipher 64 rfl) rfl ?_
          refine x_bipush (pc := 100) C (dq D_Model_encipher 65 rfl) cb_10 ?_
          refine n_ne (pc := 102) (tgt := 114) C (dq D_Model_encipher 66 rfl) (by decide) (by omega) (fun hq => ?_) (fun hq => ?_)
          · rw [if_neg hq] at fin
            refine x_aload_n (pc := 114) C (dq D_Model_encipher 72 rfl) rfl ?_
            refine x_get (pc := 115) (ci := 1) (j := 12) C (dq D_Model_encipher 73 rfl) rfl rfl (by first | exact (c1 _ _).1 | exact v1 _ _) rfl k_fl_Model_34 ?_
            refine x_iload (pc := 118) C (dq D_Model_encipher 74 rfl) rfl ?_
            refine x_iload (pc := 120) C (dq D_Model_encipher 75 rfl) rfl ?_
            refine n_iadd (pc := 122) C (dq D_Model_encipher 76 rfl) ?_
            refine x_iald (pc := 123) C (dq D_Model_encipher 77 rfl) (by first | exact (c1 _ _).1 | exact v1 _ _) (by (try simp only [List.length_set]); omega) ?_
            refine x_iconst (pc := 124) C (dq D_Model_encipher 78 rfl) ci_2 ?_
            refine x_cS1 (pc := 125) (M := M_Model_product) C (dq D_Model_encipher 79 rfl) k_ml_Model_68 m_Model_product (c_product p0 (by omega)) rfl rfl rfl rfl (by decide) ?_
            refine x_aload_n (pc := 128) C (dq D_Model_encipher 80 rfl) rfl ?_
            refine x_get (pc := 129) (ci := 1) (j := 12) C (dq D_Model_encipher 81 rfl) rfl rfl (by first | exact (c1 _ _).1 | exact v1 _ _) rfl k_fl_Model_34 ?_
            refine x_iload (pc := 132) C (dq D_Model_encipher 82 rfl) rfl ?_
            refine x_iload (pc := 134) C (dq D_Model_encipher 83 rfl) rfl ?_
            refine x_iconst (pc := 136) C (dq D_Model_encipher 84 rfl) ci_1 ?_
            refine n_iadd (pc := 137) C (dq D_Model_encipher 85 rfl) ?_
            refine x_iconst (pc := 138) C (dq D_Model_encipher 86 rfl) ci_4 ?_
            refine n_irem (pc := 139) C (dq D_Model_encipher 87 rfl) (by omega) (by omega) (by omega) ?_
            refine n_iadd (pc := 140) C (dq D_Model_encipher 88 rfl) ?_
            refine x_iald (pc := 141) C (dq D_Model_encipher 89 rfl) (by first | exact (c1 _ _).1 | exact v1 _ _) (by (try simp only [List.length_set]); omega) ?_
            refine x_iconst (pc := 142) C (dq D_Model_encipher 90 rfl) ci_3 ?_
            refine x_cS1 (pc := 143) (M := M_Model_product) C (dq D_Model_encipher 91 rfl) k_ml_Model_68 m_Model_product (c_product p1 (by omega)) rfl rfl rfl rfl (by decide) ?_
            refine n_ixor (pc := 146) C (dq D_Model_encipher 92 rfl) ?_
            refine x_aload_n (pc := 147) C (dq D_Model_encipher 93 rfl) rfl ?_
            refine x_get (pc := 148) (ci := 1) (j := 12) C (dq D_Model_encipher 94 rfl) rfl rfl (by first | exact (c1 _ _).1 | exact v1 _ _) rfl k_fl_Model_34 ?_
            refine x_iload (pc := 151) C (dq D_Model_encipher 95 rfl) rfl ?_
            refine x_iload (pc := 153) C (dq D_Model_encipher 96 rfl) rfl ?_
            refine x_iconst (pc := 155) C (dq D_Model_encipher 97 rfl) ci_2 ?_
            refine n_iadd (pc := 156) C (dq D_Model_encipher 98 rfl) ?_
            refine x_iconst (pc := 157) C (dq D_Model_encipher 99 rfl) ci_4 ?_
            refine n_irem (pc := 158) C (dq D_Model_encipher 100 rfl) (by omega) (by omega) (by omega) ?_
            refine n_iadd (pc := 159) C (dq D_Model_encipher 101 rfl) ?_
            refine x_iald (pc := 160) C (dq D_Model_encipher 102 rfl) (by first | exact (c1 _ _).1 | exact v1 _ _) (by (try simp only [List.length_set]); omega) ?_
            refine n_ixor (pc := 161) C (dq D_Model_encipher 103 rfl) ?_
            refine x_aload_n (pc := 162) C (dq D_Model_encipher 104 rfl) rfl ?_
            refine x_get (pc := 163) (ci := 1) (j := 12) C (dq D_Model_encipher 105 rfl) rfl rfl (by first | exact (c1 _ _).1 | exact v1 _ _) rfl k_fl_Model_34 ?_
            refine x_iload (pc := 166) C (dq D_Model_encipher 106 rfl) rfl ?_
            refine x_iload (pc := 168) C (dq D_Model_encipher 107 rfl) rfl ?_
            refine x_iconst (pc := 170) C (dq D_Model_encipher 108 rfl) ci_3 ?_
            refine n_iadd (pc := 171) C (dq D_Model_encipher 109 rfl) ?_
            refine x_iconst (pc := 172) C (dq D_Model_encipher 110 rfl) ci_4 ?_
            refine n_irem (pc := 173) C (dq D_Model_encipher 111 rfl) (by omega) (by omega) (by omega) ?_
            refine n_iadd (pc := 174) C (dq D_Model_encipher 112 rfl) ?_
            refine x_iald (pc := 175) C (dq D_Model_encipher 113 rfl) (by first | exact (c1 _ _).1 | exact v1 _ _) (by (try simp only [List.length_set]); omega) ?_
            refine n_ixor (pc := 176) C (dq D_Model_encipher 114 rfl) ?_
            exact fin _ rfl
          · rw [if_pos hq] at fin
            refine x_aload_n (pc := 105) C (dq D_Model_encipher 67 rfl) rfl ?_
            refine x_get (pc := 106) (ci := 1) (j := 12) C (dq D_Model_encipher 68 rfl) rfl rfl (by first | exact (c1 _ _).1 | exact v1 _ _) rfl k_fl_Model_34 ?_
            refine x_iload_n (pc := 109) C (dq D_Model_encipher 69 rfl) rfl ?_
            refine x_iald (pc := 110) C (dq D_Model_encipher 70 rfl) (by first | exact (c1 _ _).1 | exact v1 _ _) (by (try simp only [List.length_set]); omega) ?_
            refine x_goto (pc := 111) (tgt := 177) C (dq D_Model_encipher 71 rfl) (by decide) ?_
            exact fin _ rfl
      -- the moving
      have inner : ∀ (n k c : Nat) (V : List Nat) (l5 : Option Value), k + n = 4 → c < 4 → V.length = 16 → (∀ l4, X g f M_Model_encipher (0, 0) (Ret none ((h.set 53 (ia g (menc T W f0 (B, M)).2)).set 52 (ia g (menc T W f0 (B, M)).1))) (0, 0) 68 [some (.ref (zA (gz g) 44)), some (.int (nI f0)), some (.int (nI (i + 1))), some (.int (nI c)), l4, l5] [] ((h.set 53 (ia g (it (msb T S c) k n V))).set 52 (ia g S))) → X g f M_Model_encipher (0, 0) (Ret none ((h.set 53 (ia g (menc T W f0 (B, M)).2)).set 52 (ia g (menc T W f0 (B, M)).1))) (0, 0) 24 [some (.ref (zA (gz g) 44)), some (.int (nI f0)), some (.int (nI (i + 1))), some (.int (nI c)), some (.int (nI k)), l5] [] ((h.set 53 (ia g V)).set 52 (ia g S)) := by
        intro n2
        induction n2 with
        | zero =>
          intro k c V l5 hkn hc4 hV go
          refine x_iload (pc := 24) C (dq D_Model_encipher 16 rfl) rfl ?_
          refine x_iconst (pc := 26) C (dq D_Model_encipher 17 rfl) ci_4 ?_
          refine n_ge_t (pc := 27) (tgt := 68) C (dq D_Model_encipher 18 rfl) (by decide) (by omega) (by omega) ?_
          exact go _
        | succ n2 ih2 =>
          intro k c V l5 hkn hc4 hV go
          have p0 := hq2.at (4 * ((c + k) % 4) + k)
          refine x_iload (pc := 24) C (dq D_Model_encipher 16 rfl) rfl ?_
          refine x_iconst (pc := 26) C (dq D_Model_encipher 17 rfl) ci_4 ?_
          refine n_ge_f (pc := 27) (tgt := 68) C (dq D_Model_encipher 18 rfl) (by decide) (by omega) (by omega) ?_
          refine x_aload_n (pc := 30) C (dq D_Model_encipher 19 rfl) rfl ?_
          refine x_get (pc := 31) (ci := 1) (j := 12) C (dq D_Model_encipher 20 rfl) rfl rfl (by first | exact (c1 _ _).1 | exact v1 _ _ | exact b1 _ _ | exact (c1 _ _).2.2.1) rfl k_fl_Model_34 ?_
          refine x_iconst (pc := 34) C (dq D_Model_encipher 21 rfl) ci_4 ?_
          refine x_iload_n (pc := 35) C (dq D_Model_encipher 22 rfl) rfl ?_
          refine n_imul (pc := 36) C (dq D_Model_encipher 23 rfl) ?_
          refine x_iload (pc := 37) C (dq D_Model_encipher 24 rfl) rfl ?_
          refine n_iadd (pc := 39) C (dq D_Model_encipher 25 rfl) ?_
          refine x_aload_n (pc := 40) C (dq D_Model_encipher 26 rfl) rfl ?_
          refine x_get (pc := 41) (ci := 1) (j := 2) C (dq D_Model_encipher 27 rfl) rfl rfl (by first | exact (c1 _ _).1 | exact v1 _ _ | exact b1 _ _ | exact (c1 _ _).2.2.1) rfl k_fl_Model_13 ?_
          refine x_aload_n (pc := 44) C (dq D_Model_encipher 28 rfl) rfl ?_
          refine x_get (pc := 45) (ci := 1) (j := 11) C (dq D_Model_encipher 29 rfl) rfl rfl (by first | exact (c1 _ _).1 | exact v1 _ _ | exact b1 _ _ | exact (c1 _ _).2.2.1) rfl k_fl_Model_31 ?_
          refine x_iconst (pc := 48) C (dq D_Model_encipher 30 rfl) ci_4 ?_
          refine x_iload_n (pc := 49) C (dq D_Model_encipher 31 rfl) rfl ?_
          refine x_iload (pc := 50) C (dq D_Model_encipher 32 rfl) rfl ?_
          refine n_iadd (pc := 52) C (dq D_Model_encipher 33 rfl) ?_
          refine x_iconst (pc := 53) C (dq D_Model_encipher 34 rfl) ci_4 ?_
          refine n_irem (pc := 54) C (dq D_Model_encipher 35 rfl) (by omega) (by omega) (by omega) ?_
          refine n_imul (pc := 55) C (dq D_Model_encipher 36 rfl) ?_
          refine x_iload (pc := 56) C (dq D_Model_encipher 37 rfl) rfl ?_
          refine n_iadd (pc := 58) C (dq D_Model_encipher 38 rfl) ?_
          refine x_iald (pc := 59) C (dq D_Model_encipher 39 rfl) (by first | exact (c1 _ _).1 | exact v1 _ _ | exact b1 _ _ | exact (c1 _ _).2.2.1) (by (try simp only [List.length_set]); omega) ?_
          refine x_iald (pc := 60) C (dq D_Model_encipher 40 rfl) (by first | exact (c1 _ _).1 | exact v1 _ _ | exact b1 _ _ | exact (c1 _ _).2.2.1) (by (try simp only [List.length_set]); omega) ?_
          refine x_iast (pc := 61) C (dq D_Model_encipher 41 rfl) (by first | exact (c1 _ _).1 | exact v1 _ _ | exact b1 _ _ | exact (c1 _ _).2.2.1) (by (try simp only [List.length_set]); omega) ?_
          try rw [List.set_set]
          refine x_iinc (pc := 62) C (dq D_Model_encipher 42 rfl) rfl (ii_1 _) rfl rfl ?_
          simp only [List.set_cons_zero, List.set_cons_succ]
          rw [gs_in (show (53 : Nat) ≠ 52 by decide)]
          refine x_goto (pc := 65) (tgt := 24) C (dq D_Model_encipher 43 rfl) (by decide) ?_
          exact ih2 (k + 1) c (msb T S c k V) l5 (by omega) hc4 (by rw [msb_len]; exact hV) go
      have outer : ∀ (n c : Nat) (V : List Nat) (l4 l5 : Option Value), c + n = 4 → V.length = 16 → by8 V → it (msv T S) c n V = it (msv T S) 0 4 M0 → X g f M_Model_encipher (0, 0) (Ret none ((h.set 53 (ia g (menc T W f0 (B, M)).2)).set 52 (ia g (menc T W f0 (B, M)).1))) (0, 0) 16 [some (.ref (zA (gz g) 44)), some (.int (nI f0)), some (.int (nI (i + 1))), some (.int (nI c)), l4, l5] [] ((h.set 53 (ia g V)).set 52 (ia g S)) := by
        intro n2
        induction n2 with
        | zero =>
          intro c V l4 l5 hcn hV hV8 heV
          refine x_iload_n (pc := 16) C (dq D_Model_encipher 11 rfl) rfl ?_
          refine x_iconst (pc := 17) C (dq D_Model_encipher 12 rfl) ci_4 ?_
          refine n_ge_t (pc := 18) (tgt := 74) C (dq D_Model_encipher 13 rfl) (by decide) (by omega) (by omega) ?_
          refine x_iconst (pc := 74) C (dq D_Model_encipher 46 rfl) ci_0 ?_
          refine x_istore_n (i := 3) (pc := 75) C (dq D_Model_encipher 47 rfl) rfl rfl rfl ?_
          simp only [List.set_cons_zero, List.set_cons_succ]
          exact mixing 16 0 S V l4 l5 rfl hq1 hV hV8 rfl heV
        | succ n2 ih2 =>
          intro c V l4 l5 hcn hV hV8 heV
          refine x_iload_n (pc := 16) C (dq D_Model_encipher 11 rfl) rfl ?_
          refine x_iconst (pc := 17) C (dq D_Model_encipher 12 rfl) ci_4 ?_
          refine n_ge_f (pc := 18) (tgt := 74) C (dq D_Model_encipher 13 rfl) (by decide) (by omega) (by omega) ?_
          refine x_iconst (pc := 21) C (dq D_Model_encipher 14 rfl) ci_0 ?_
          refine x_istore (i := 4) (pc := 22) C (dq D_Model_encipher 15 rfl) rfl rfl rfl ?_
          simp only [List.set_cons_zero, List.set_cons_succ]
          refine inner 4 0 c V l5 rfl (by omega) hV (fun l4 => ?_)
          refine x_iinc (pc := 68) C (dq D_Model_encipher 44 rfl) rfl (ii_1 _) rfl rfl ?_
          simp only [List.set_cons_zero, List.set_cons_succ]
          refine x_goto (pc := 71) (tgt := 16) C (dq D_Model_encipher 45 rfl) (by decide) ?_
          exact ih2 (c + 1) (msv T S c V) l4 l5 (by omega) (by rw [msv_len]; exact hV) (msv8 hT8 S c 4 0 hV8) heV
      refine x_iload_n (pc := 8) C (dq D_Model_encipher 6 rfl) rfl ?_
      refine x_bipush (pc := 9) C (dq D_Model_encipher 7 rfl) cb_10 ?_
      refine n_gt_f (pc := 11) (tgt := 196) C (dq D_Model_encipher 8 rfl) (by decide) (by omega) (by omega) ?_
      refine x_iconst (pc := 14) C (dq D_Model_encipher 9 rfl) ci_0 ?_
      refine x_istore_n (i := 3) (pc := 15) C (dq D_Model_encipher 10 rfl) rfl rfl rfl ?_
      simp only [List.set_cons_zero, List.set_cons_succ]
      exact outer 4 0 M0 l4 l5 rfl hq3 hq4 rfl
  refine x_aload_n (pc := 0) C (dq D_Model_encipher 0 rfl) rfl ?_
  refine x_iload_n (pc := 1) C (dq D_Model_encipher 1 rfl) rfl ?_
  refine x_iconst (pc := 2) C (dq D_Model_encipher 2 rfl) ci_0 ?_
  refine x_cV0 (pc := 3) (ci := 1) (M := M_Model_addKey) C (dq D_Model_encipher 3 rfl) k_ml_Model_74 m_Model_addKey rfl rfl (hc.1) (c_addKey (r := 0) hc.1 hc.2.1 hb hc.2.2.2.2.1 hc.2.2.2.2.2.2.2.1 hq.1 (by omega) hf) rfl rfl rfl rfl (by decide) ?_
  refine x_iconst (pc := 6) C (dq D_Model_encipher 4 rfl) ci_1 ?_
  refine x_istore_n (i := 2) (pc := 7) C (dq D_Model_encipher 5 rfl) rfl rfl rfl ?_
  simp only [List.set_cons_zero, List.set_cons_succ]
  have h0 := loop 10 0 (it (mak W f0 0) 0 16 B, M) none none none rfl ⟨by show (it (mak W f0 0) 0 16 B).length = 16; rw [it_len (mak_len W f0 0)]; exact hq.1, mak8 W f0 0 0 16 hq.2.1, hq.2.2⟩ rfl
  dsimp only at h0
  rw [gs_id hv] at h0
  exact h0
end
section
/-- the reference's unmixing and its places moved back -/
def mum (r : Nat) (B : List Nat) (k : Nat) (M : List Nat) : List Nat := M.set k (if r = 10 then B.getD k 0 else ((prd (B.getD (k / 4 * 4 + k % 4) 0) 14 ^^^ prd (B.getD (k / 4 * 4 + (k % 4 + 1) % 4) 0) 11) ^^^ prd (B.getD (k / 4 * 4 + (k % 4 + 2) % 4) 0) 13) ^^^ prd (B.getD (k / 4 * 4 + (k % 4 + 3) % 4) 0) 9)
def mub (U M : List Nat) (c k : Nat) (B : List Nat) : List Nat := B.set (4 * ((c + k) % 4) + k) (U.getD (M.getD (4 * c + k) 0) 0)
def muv (U M : List Nat) (c : Nat) (B : List Nat) : List Nat := it (mub U M c) 0 4 B
theorem mum_len (r : Nat) (B : List Nat) (k : Nat) (M : List Nat) : (mum r B k M).length = M.length := List.length_set
theorem mub_len (U M : List Nat) (c k : Nat) (B : List Nat) : (mub U M c k B).length = B.length := List.length_set
theorem muv_len (U M : List Nat) (c : Nat) (B : List Nat) : (muv U M c B).length = B.length := it_len (mub_len U M c) 4 0 B
theorem mum8 (r : Nat) {B : List Nat} (hB : by8 B) (n k : Nat) {M : List Nat} (h : by8 M) : by8 (it (mum r B) k n M) := it_inv by8 n k M (fun j S _ _ hS => hS.set (by
  split
  · exact hB.at _
  · exact xor8 (xor8 (xor8 (prd8 (hB.at _)) (prd8 (hB.at _))) (prd8 (hB.at _))) (prd8 (hB.at _)))) h
theorem muv8 {U : List Nat} (hU : by8 U) (M : List Nat) (c n k : Nat) {B : List Nat} (h : by8 B) : by8 (it (mub U M c) k n B) := it_inv by8 n k B (fun j S _ _ hS => hS.set (hU.at _)) h
theorem muvs_ok {U M : List Nat} (hU : by8 U) (c n : Nat) {B : List Nat} (h : B.length = 16 ∧ by8 B) : (it (muv U M) c n B).length = 16 ∧ by8 (it (muv U M) c n B) :=
  it_inv (fun B : List Nat => B.length = 16 ∧ by8 B) n c B (fun j S _ _ hS => ⟨by rw [muv_len]; exact hS.1, muv8 hU M j 4 0 hS.2⟩) h
/-- a round back: block, moved places -/
def mrb (U W : List Nat) (f r : Nat) (q : List Nat × List Nat) : List Nat × List Nat :=
  (it (muv U (it (mum r (it (mak W f r) 0 16 q.1)) 0 16 q.2)) 0 4 (it (mak W f r) 0 16 q.1), it (mum r (it (mak W f r) 0 16 q.1)) 0 16 q.2)
def mdec (U W : List Nat) (f : Nat) (q : List Nat × List Nat) : List Nat × List Nat := (it (mak W f 0) 0 16 (it (fun i => mrb U W f (10 - i)) 0 10 q).1, (it (fun i => mrb U W f (10 - i)) 0 10 q).2)
theorem mrb_ok {U : List Nat} (hU : by8 U) (W : List Nat) (f r : Nat) {q : List Nat × List Nat} (h : bm16 q) : bm16 (mrb U W f r q) := by
  obtain ⟨a, b, c, d⟩ := h
  have h1 : (it (mak W f r) 0 16 q.1).length = 16 := by
    rw [it_len (mak_len W f r)]
    exact a
  have h2 : by8 (it (mak W f r) 0 16 q.1) := mak8 W f r 0 16 b
  have h3 : (it (mum r (it (mak W f r) 0 16 q.1)) 0 16 q.2).length = 16 := by
    rw [it_len (mum_len r _)]
    exact c
  have h4 : by8 (it (mum r (it (mak W f r) 0 16 q.1)) 0 16 q.2) := mum8 r h2 16 0 d
  obtain ⟨h5, h6⟩ := muvs_ok (M := it (mum r (it (mak W f r) 0 16 q.1)) 0 16 q.2) hU 0 4 ⟨h1, h2⟩
  unfold bm16 mrb
  dsimp only
  exact ⟨h5, h6, h3, h4⟩
theorem mrbs_ok {U : List Nat} (hU : by8 U) (W : List Nat) (f k n : Nat) {q : List Nat × List Nat} (h : bm16 q) : bm16 (it (fun i => mrb U W f (10 - i)) k n q) :=
  it_inv bm16 n k q (fun j s _ _ hs => mrb_ok hU W f (10 - j) hs) h
theorem mdec_ok {U : List Nat} (hU : by8 U) (W : List Nat) (f : Nat) {q : List Nat × List Nat} (h : bm16 q) : bm16 (mdec U W f q) := by
  obtain ⟨a, b, c, d⟩ := mrbs_ok hU W f 0 10 h
  have h1 : (it (mak W f 0) 0 16 (it (fun i => mrb U W f (10 - i)) 0 10 q).1).length = 16 := by
    rw [it_len (mak_len W f 0)]
    exact a
  have h2 := mak8 W f 0 0 16 b
  unfold bm16 mdec
  dsimp only
  exact ⟨h1, h2, c, d⟩
theorem c_decipher {g : Gp} {h : Hp} {cd ni no nt nr nl f0 : Nat} {W T U B M : List Nat} (hc : mci g h cd ni no nt nr nl W T U) (hb : h[52]? = some (ia g B)) (hv : h[53]? = some (ia g M)) (hq : bm16 (B, M)) (hf : f0 ≤ 44) :
    Con g M_Model_decipher 1 (0, 0) [.ref (zA (gz g) 44), .int (nI f0)] h (Ret none ((h.set 53 (ia g (mdec U W f0 (B, M)).2)).set 52 (ia g (mdec U W f0 (B, M)).1))) := by
  have v1 : ∀ (e e' : va_E), ((h.set 53 e).set 52 e')[53]? = some e := fun e e' => gs_ne (by decide) (gs_self hv)
  have b1 : ∀ (e e' : va_E), ((h.set 53 e).set 52 e')[52]? = some e' := fun e e' => gs_self (gs_ne (by decide) hb)
  have c1 : ∀ (e e' : va_E), mci g ((h.set 53 e).set 52 e') cd ni no nt nr nl W T U := fun e e' => mci.at (mci.at hc rfl) rfl
  have hU8 := hc.2.2.2.2.2.2.2.2.2
  have hU := hc.2.2.2.2.2.2.1
  refine Con.of (by decide) rfl rfl (L := [some (.ref (zA (gz g) 44)), some (.int (nI f0)), none, none, none, none]) rfl (fun f C => ?_)
  have loop : ∀ (n i : Nat) (q : List Nat × List Nat) (l3 l4 l5 : Option Value), i + n = 10 → bm16 q → it (fun i => mrb U W f0 (10 - i)) i n q = it (fun i => mrb U W f0 (10 - i)) 0 10 (B, M) → X g f M_Model_decipher (0, 0) (Ret none ((h.set 53 (ia g (mdec U W f0 (B, M)).2)).set 52 (ia g (mdec U W f0 (B, M)).1))) (0, 0) 3 [some (.ref (zA (gz g) 44)), some (.int (nI f0)), some (.int (nI (10 - i))), l3, l4, l5] [] ((h.set 53 (ia g q.2)).set 52 (ia g q.1)) := by
    intro n
    induction n with
    | zero =>
      intro i q l3 l4 l5 hin hq he
      have e1 : q = it (fun i => mrb U W f0 (10 - i)) 0 10 (B, M) := he
      refine x_iload_n (pc := 3) C (dq D_Model_decipher 2 rfl) rfl ?_
      refine x_iconst (pc := 4) C (dq D_Model_decipher 3 rfl) ci_1 ?_
      refine n_lt_t (pc := 5) (tgt := 202) C (dq D_Model_decipher 4 rfl) (by decide) (by omega) (by omega) ?_
      refine x_aload_n (pc := 202) C (dq D_Model_decipher 124 rfl) rfl ?_
      refine x_iload_n (pc := 203) C (dq D_Model_decipher 125 rfl) rfl ?_
      refine x_iconst (pc := 204) C (dq D_Model_decipher 126 rfl) ci_0 ?_
      refine x_cV0 (pc := 205) (ci := 1) (M := M_Model_addKey) C (dq D_Model_decipher 127 rfl) k_ml_Model_74 m_Model_addKey rfl rfl ((c1 _ _).1) (c_addKey (r := 0) (c1 _ _).1 (c1 _ _).2.1 (b1 _ _) hc.2.2.2.2.1 hc.2.2.2.2.2.2.2.1 hq.1 (by omega) hf) rfl rfl rfl rfl (by decide) ?_
      rw [List.set_set]
      exact x_vret (pc := 208) C (dq D_Model_decipher 128 rfl) rfl (by decide) ⟨rfl, by unfold mdec; rw [← e1]⟩
    | succ n ih =>
      intro i q l3 l4 l5 hin hq he
      obtain ⟨hq1, hq2, hq3, hq4⟩ := hq
      obtain ⟨S0, M0⟩ := q
      dsimp only at hq1 hq2 hq3 hq4 he ⊢
      have hS : (it (mak W f0 (10 - i)) 0 16 S0).length = 16 := by
        rw [it_len (mak_len W f0 _)]
        exact hq1
      have hS8 : by8 (it (mak W f0 (10 - i)) 0 16 S0) := mak8 W f0 _ 0 16 hq2
      generalize hSe : it (mak W f0 (10 - i)) 0 16 S0 = S at hS hS8
      have hV : (it (mum (10 - i) S) 0 16 M0).length = 16 := by
        rw [it_len (mum_len _ _)]
        exact hq3
      have hV8 : by8 (it (mum (10 - i) S) 0 16 M0) := mum8 _ hS8 16 0 hq4
      -- the moving back
      have moving : ∀ (V : List Nat), V = it (mum (10 - i) S) 0 16 M0 → V.length = 16 → by8 V → ∀ (l4 l5 : Option Value), X g f M_Model_decipher (0, 0) (Ret none ((h.set 53 (ia g (mdec U W f0 (B, M)).2)).set 52 (ia g (mdec U W f0 (B, M)).1))) (0, 0) 138 [some (.ref (zA (gz g) 44)), some (.int (nI f0)), some (.int (nI (10 - i))), some (.int (nI 0)), l4, l5] [] ((h.set 53 (ia g V)).set 52 (ia g S)) := by
        intro V hVe hV hV8
        have inner : ∀ (n k c : Nat) (R : List Nat) (l5 : Option Value), k + n = 4 → c < 4 → R.length = 16 → (∀ l4, X g f M_Model_decipher (0, 0) (Ret none ((h.set 53 (ia g (mdec U W f0 (B, M)).2)).set 52 (ia g (mdec U W f0 (B, M)).1))) (0, 0) 190 [some (.ref (zA (gz g) 44)), some (.int (nI f0)), some (.int (nI (10 - i))), some (.int (nI c)), l4, l5] [] ((h.set 53 (ia g V)).set 52 (ia g (it (mub U V c) k n R)))) → X g f M_Model_decipher (0, 0) (Ret none ((h.set 53 (ia g (mdec U W f0 (B, M)).2)).set 52 (ia g (mdec U W f0 (B, M)).1))) (0, 0) 146 [some (.ref (zA (gz g) 44)), some (.int (nI f0)), some (.int (nI (10 - i))), some (.int (nI c)), some (.int (nI k)), l5] [] ((h.set 53 (ia g V)).set 52 (ia g R)) := by
          intro n2
          induction n2 with
          | zero =>
            intro k c R l5 hkn hc4 hR go
            refine x_iload (pc := 146) C (dq D_Model_decipher 92 rfl) rfl ?_
            refine x_iconst (pc := 148) C (dq D_Model_decipher 93 rfl) ci_4 ?_
            refine n_ge_t (pc := 149) (tgt := 190) C (dq D_Model_decipher 94 rfl) (by decide) (by omega) (by omega) ?_
            exact go _
          | succ n2 ih2 =>
            intro k c R l5 hkn hc4 hR go
            have p0 := hV8.at (4 * c + k)
            refine x_iload (pc := 146) C (dq D_Model_decipher 92 rfl) rfl ?_
            refine x_iconst (pc := 148) C (dq D_Model_decipher 93 rfl) ci_4 ?_
            refine n_ge_f (pc := 149) (tgt := 190) C (dq D_Model_decipher 94 rfl) (by decide) (by omega) (by omega) ?_
            refine x_aload_n (pc := 152) C (dq D_Model_decipher 95 rfl) rfl ?_
            refine x_get (pc := 153) (ci := 1) (j := 11) C (dq D_Model_decipher 96 rfl) rfl rfl (by first | exact (c1 _ _).1 | exact v1 _ _ | exact b1 _ _ | exact (c1 _ _).2.2.2.1) rfl k_fl_Model_31 ?_
            refine x_iconst (pc := 156) C (dq D_Model_decipher 97 rfl) ci_4 ?_
            refine x_iload_n (pc := 157) C (dq D_Model_decipher 98 rfl) rfl ?_
            refine x_iload (pc := 158) C (dq D_Model_decipher 99 rfl) rfl ?_
            refine n_iadd (pc := 160) C (dq D_Model_decipher 100 rfl) ?_
            refine x_iconst (pc := 161) C (dq D_Model_decipher 101 rfl) ci_4 ?_
            refine n_irem (pc := 162) C (dq D_Model_decipher 102 rfl) (by omega) (by omega) (by omega) ?_
            refine n_imul (pc := 163) C (dq D_Model_decipher 103 rfl) ?_
            refine x_iload (pc := 164) C (dq D_Model_decipher 104 rfl) rfl ?_
            refine n_iadd (pc := 166) C (dq D_Model_decipher 105 rfl) ?_
            refine x_aload_n (pc := 167) C (dq D_Model_decipher 106 rfl) rfl ?_
            refine x_get (pc := 168) (ci := 1) (j := 3) C (dq D_Model_decipher 107 rfl) rfl rfl (by first | exact (c1 _ _).1 | exact v1 _ _ | exact b1 _ _ | exact (c1 _ _).2.2.2.1) rfl k_fl_Model_16 ?_
            refine x_aload_n (pc := 171) C (dq D_Model_decipher 108 rfl) rfl ?_
            refine x_get (pc := 172) (ci := 1) (j := 12) C (dq D_Model_decipher 109 rfl) rfl rfl (by first | exact (c1 _ _).1 | exact v1 _ _ | exact b1 _ _ | exact (c1 _ _).2.2.2.1) rfl k_fl_Model_34 ?_
            refine x_iconst (pc := 175) C (dq D_Model_decipher 110 rfl) ci_4 ?_
            refine x_iload_n (pc := 176) C (dq D_Model_decipher 111 rfl) rfl ?_
            refine n_imul (pc := 177) C (dq D_Model_decipher 112 rfl) ?_
            refine x_iload (pc := 178) C (dq D_Model_decipher 113 rfl) rfl ?_
            refine n_iadd (pc := 180) C (dq D_Model_decipher 114 rfl) ?_
            refine x_iald (pc := 181) C (dq D_Model_decipher 115 rfl) (by first | exact (c1 _ _).1 | exact v1 _ _ | exact b1 _ _ | exact (c1 _ _).2.2.2.1) (by (try simp only [List.length_set]); omega) ?_
            refine x_iald (pc := 182) C (dq D_Model_decipher 116 rfl) (by first | exact (c1 _ _).1 | exact v1 _ _ | exact b1 _ _ | exact (c1 _ _).2.2.2.1) (by (try simp only [List.length_set]); omega) ?_
            refine x_iast (pc := 183) C (dq D_Model_decipher 117 rfl) (by first | exact (c1 _ _).1 | exact v1 _ _ | exact b1 _ _ | exact (c1 _ _).2.2.2.1) (by (try simp only [List.length_set]); omega) ?_
            try rw [List.set_set]
            refine x_iinc (pc := 184) C (dq D_Model_decipher 118 rfl) rfl (ii_1 _) rfl rfl ?_
            simp only [List.set_cons_zero, List.set_cons_succ]
            refine x_goto (pc := 187) (tgt := 146) C (dq D_Model_decipher 119 rfl) (by decide) ?_
            exact ih2 (k + 1) c (mub U V c k R) l5 (by omega) hc4 (by rw [mub_len]; exact hR) go
        have outer : ∀ (n c : Nat) (R : List Nat) (l4 l5 : Option Value), c + n = 4 → R.length = 16 → it (muv U V) c n R = it (muv U V) 0 4 S → X g f M_Model_decipher (0, 0) (Ret none ((h.set 53 (ia g (mdec U W f0 (B, M)).2)).set 52 (ia g (mdec U W f0 (B, M)).1))) (0, 0) 138 [some (.ref (zA (gz g) 44)), some (.int (nI f0)), some (.int (nI (10 - i))), some (.int (nI c)), l4, l5] [] ((h.set 53 (ia g V)).set 52 (ia g R)) := by
          intro n2
          induction n2 with
          | zero =>
            intro c R l4 l5 hcn hR heR
            have e1 : R = it (muv U V) 0 4 S := heR
            refine x_iload_n (pc := 138) C (dq D_Model_decipher 87 rfl) rfl ?_
            refine x_iconst (pc := 139) C (dq D_Model_decipher 88 rfl) ci_4 ?_
            refine n_ge_t (pc := 140) (tgt := 196) C (dq D_Model_decipher 89 rfl) (by decide) (by omega) (by omega) ?_
            refine x_iinc (pc := 196) C (dq D_Model_decipher 122 rfl) rfl (iim (by omega)) rfl rfl ?_
            simp only [List.set_cons_zero, List.set_cons_succ]
            refine x_goto (pc := 199) (tgt := 3) C (dq D_Model_decipher 123 rfl) (by decide) ?_
            have e2 : (R, V) = mrb U W f0 (10 - i) (S0, M0) := by
              unfold mrb
              dsimp only
              rw [hSe, ← hVe, e1]
            have e3 : 10 - i - 1 = 10 - (i + 1) := by omega
            have h0 := ih (i + 1) (mrb U W f0 (10 - i) (S0, M0)) (some (.int (nI c))) l4 l5 (by omega) (mrb_ok hU8 W f0 (10 - i) ⟨hq1, hq2, hq3, hq4⟩) he
            rw [← e2] at h0
            rw [e3]
            exact h0
          | succ n2 ih2 =>
            intro c R l4 l5 hcn hR heR
            refine x_iload_n (pc := 138) C (dq D_Model_decipher 87 rfl) rfl ?_
            refine x_iconst (pc := 139) C (dq D_Model_decipher 88 rfl) ci_4 ?_
            refine n_ge_f (pc := 140) (tgt := 196) C (dq D_Model_decipher 89 rfl) (by decide) (by omega) (by omega) ?_
            refine x_iconst (pc := 143) C (dq D_Model_decipher 90 rfl) ci_0 ?_
            refine x_istore (i := 4) (pc := 144) C (dq D_Model_decipher 91 rfl) rfl rfl rfl ?_
            simp only [List.set_cons_zero, List.set_cons_succ]
            refine inner 4 0 c R l5 rfl (by omega) hR (fun l4 => ?_)
            refine x_iinc (pc := 190) C (dq D_Model_decipher 120 rfl) rfl (ii_1 _) rfl rfl ?_
            simp only [List.set_cons_zero, List.set_cons_succ]
            refine x_goto (pc := 193) (tgt := 138) C (dq D_Model_decipher 121 rfl) (by decide) ?_
            exact ih2 (c + 1) (muv U V c R) l4 l5 (by omega) (by rw [muv_len]; exact hR) heR
        intro l4 l5
        exact outer 4 0 S l4 l5 rfl hS rfl
      -- the unmixing
      have unmixing : ∀ (n k : Nat) (V : List Nat) (l4 l5 : Option Value), k + n = 16 → V.length = 16 → by8 V → it (mum (10 - i) S) k n V = it (mum (10 - i) S) 0 16 M0 → X g f M_Model_decipher (0, 0) (Ret none ((h.set 53 (ia g (mdec U W f0 (B, M)).2)).set 52 (ia g (mdec U W f0 (B, M)).1))) (0, 0) 16 [some (.ref (zA (gz g) 44)), some (.int (nI f0)), some (.int (nI (10 - i))), some (.int (nI k)), l4, l5] [] ((h.set 53 (ia g V)).set 52 (ia g S)) := by
        intro n2
        induction n2 with
        | zero =>
          intro k V l4 l5 hkn hV hV8 heV
          refine x_iload_n (pc := 16) C (dq D_Model_decipher 11 rfl) rfl ?_
          refine x_bipush (pc := 17) C (dq D_Model_decipher 12 rfl) cb_16 ?_
          refine n_ge_t (pc := 19) (tgt := 136) C (dq D_Model_decipher 13 rfl) (by decide) (by omega) (by omega) ?_
          refine x_iconst (pc := 136) C (dq D_Model_decipher 85 rfl) ci_0 ?_
          refine x_istore_n (i := 3) (pc := 137) C (dq D_Model_decipher 86 rfl) rfl rfl rfl ?_
          simp only [List.set_cons_zero, List.set_cons_succ]
          exact moving V heV hV hV8 l4 l5
        | succ n2 ih2 =>
          intro k V l4 l5 hkn hV hV8 heV
          have p0 := hS8.at (k / 4 * 4 + k % 4)
          have p1 := hS8.at (k / 4 * 4 + (k % 4 + 1) % 4)
          have p2 := hS8.at (k / 4 * 4 + (k % 4 + 2) % 4)
          have p3 := hS8.at (k / 4 * 4 + (k % 4 + 3) % 4)
          have fin : ∀ v : Nat, v = (if 10 - i = 10 then S.getD k 0 else ((prd (S.getD (k / 4 * 4 + k % 4) 0) 14 ^^^ prd (S.getD (k / 4 * 4 + (k % 4 + 1) % 4) 0) 11) ^^^ prd (S.getD (k / 4 * 4 + (k % 4 + 2) % 4) 0) 13) ^^^ prd (S.getD (k / 4 * 4 + (k % 4 + 3) % 4) 0) 9) → X g f M_Model_decipher (0, 0) (Ret none ((h.set 53 (ia g (mdec U W f0 (B, M)).2)).set 52 (ia g (mdec U W f0 (B, M)).1))) (0, 0) 129 [some (.ref (zA (gz g) 44)), some (.int (nI f0)), some (.int (nI (10 - i))), some (.int (nI k)), some (.int (nI (k / 4 * 4))), some (.int (nI (k % 4)))] [.int (nI v), .int (nI k), .ref (zA (gz g) 53)] ((h.set 53 (ia g V)).set 52 (ia g S)) := by
            intro v hv0
            have hv8 : v < 256 := by
              rw [hv0]
              split
              · exact hS8.at _
              · exact xor8 (xor8 (xor8 (prd8 p0) (prd8 p1)) (prd8 p2)) (prd8 p3)
            refine x_iast (pc := 129) C (dq D_Model_decipher 82 rfl) (v1 _ _) (by (try simp only [List.length_set]); omega) ?_
            try rw [List.set_set]
            rw [gs_in (show (53 : Nat) ≠ 52 by decide)]
            refine x_iinc (pc := 130) C (dq D_Model_decipher 83 rfl) rfl (ii_1 _) rfl rfl ?_
            simp only [List.set_cons_zero, List.set_cons_succ]
            refine x_goto (pc := 133) (tgt := 16) C (dq D_Model_decipher 84 rfl) (by decide) ?_
            refine ih2 (k + 1) (V.set k v) _ _ (by omega) (by rw [List.length_set]; exact hV) (hV8.set hv8) ?_
            rw [hv0]
            exact heV
          refine x_iload_n (pc := 16) C (dq D_Model_decipher 11 rfl) rfl ?_
          refine x_bipush (pc := 17) C (dq D_Model_decipher 12 rfl) cb_16 ?_
          refine n_ge_f (pc := 19) (tgt := 136) C (dq D_Model_decipher 13 rfl) (by decide) (by omega) (by omega) ?_
          refine x_iload_n (pc := 22) C (dq D_Model_decipher 14 rfl) rfl ?_
          refine x_iconst (pc := 23) C (dq D_Model_decipher 15 rfl) ci_4 ?_
          refine n_idiv (pc := 24) C (dq D_Model_decipher 16 rfl) (by omega) (by omega) (by omega) ?_
          refine x_iconst (pc := 25) C (dq D_Model_decipher 17 rfl) ci_4 ?_
          refine n_imul (pc := 26) C (dq D_Model_decipher 18 rfl) ?_
          refine x_istore (i := 4) (pc := 27) C (dq D_Model_decipher 19 rfl) rfl rfl rfl ?_
          simp only [List.set_cons_zero, List.set_cons_succ]
          refine x_iload_n (pc := 29) C (dq D_Model_decipher 20 rfl) rfl ?_
          refine x_iconst (pc := 30) C (dq D_Model_decipher 21 rfl) ci_4 ?_
          refine n_irem (pc := 31) C (dq D_Model_decipher 22 rfl) (by omega) (by omega) (by omega) ?_
          refine x_istore (i := 5) (pc := 32) C (dq D_Model_decipher 23 rfl) rfl rfl rfl ?_
          simp only [List.set_cons_zero, List.set_cons_succ]
          refine x_aload_n (pc := 34) C (dq D_Model_decipher 24 rfl) rfl ?_
          refine x_get (pc := 35) (ci := 1) (j := 12) C (dq D_Model_decipher 25 rfl) rfl rfl ((c1 _ _).1) rfl k_fl_Model_34 ?_
          refine x_iload_n (pc := 38) C (dq D_Model_decipher 26 rfl) rfl ?_
          refine x_iload_n (pc := 39) C (dq D_Model_decipher 27 rfl) rfl ?_
          refine x_bipush (pc := 40) C (dq D_Model_decipher 28 rfl) cb_10 ?_
          refine n_ne (pc := 42) (tgt := 54) C (dq D_Model_decipher 29 rfl) (by decide) (by omega) (fun hq => ?_) (fun hq => ?_)
          · rw [if_neg hq] at fin
            refine x_aload_n (pc := 54) C (dq D_Model_decipher 35 rfl) rfl ?_
            refine x_get (pc := 55) (ci := 1) (j := 11) C (dq D_Model_decipher 36 rfl) rfl rfl (by first | exact (c1 _ _).1 | exact b1 _ _) rfl k_fl_Model_31 ?_
            refine x_iload (pc := 58) C (dq D_Model_decipher 37 rfl) rfl ?_
            refine x_iload (pc := 60) C (dq D_Model_decipher 38 rfl) rfl ?_
            refine n_iadd (pc := 62) C (dq D_Model_decipher 39 rfl) ?_
            refine x_iald (pc := 63) C (dq D_Model_decipher 40 rfl) (by first | exact (c1 _ _).1 | exact b1 _ _) (by (try simp only [List.length_set]); omega) ?_
            refine x_bipush (pc := 64) C (dq D_Model_decipher 41 rfl) cb_14 ?_
            refine x_cS1 (pc := 66) (M := M_Model_product) C (dq D_Model_decipher 42 rfl) k_ml_Model_68 m_Model_product (c_product p0 (by omega)) rfl rfl rfl rfl (by decide) ?_
            refine x_aload_n (pc := 69) C (dq D_Model_decipher 43 rfl) rfl ?_
            refine x_get (pc := 70) (ci := 1) (j := 11) C (dq D_Model_decipher 44 rfl) rfl rfl (by first | exact (c1 _ _).1 | exact b1 _ _) rfl k_fl_Model_31 ?_
            refine x_iload (pc := 73) C (dq D_Model_decipher 45 rfl) rfl ?_
            refine x_iload (pc := 75) C (dq D_Model_decipher 46 rfl) rfl ?_
            refine x_iconst (pc := 77) C (dq D_Model_decipher 47 rfl) ci_1 ?_
            refine n_iadd (pc := 78) C (dq D_Model_decipher 48 rfl) ?_
            refine x_iconst (pc := 79) C (dq D_Model_decipher 49 rfl) ci_4 ?_
            refine n_irem (pc := 80) C (dq D_Model_decipher 50 rfl) (by omega) (by omega) (by omega) ?_
            refine n_iadd (pc := 81) C (dq D_Model_decipher 51 rfl) ?_
            refine x_iald (pc := 82) C (dq D_Model_decipher 52 rfl) (by first | exact (c1 _ _).1 | exact b1 _ _) (by (try simp only [List.length_set]); omega) ?_
            refine x_bipush (pc := 83) C (dq D_Model_decipher 53 rfl) cb_11 ?_
            refine x_cS1 (pc := 85) (M := M_Model_product) C (dq D_Model_decipher 54 rfl) k_ml_Model_68 m_Model_product (c_product p1 (by omega)) rfl rfl rfl rfl (by decide) ?_
            refine n_ixor (pc := 88) C (dq D_Model_decipher 55 rfl) ?_
            refine x_aload_n (pc := 89) C (dq D_Model_decipher 56 rfl) rfl ?_
            refine x_get (pc := 90) (ci := 1) (j := 11) C (dq D_Model_decipher 57 rfl) rfl rfl (by first | exact (c1 _ _).1 | exact b1 _ _) rfl k_fl_Model_31 ?_
            refine x_iload (pc := 93) C (dq D_Model_decipher 58 rfl) rfl ?_
            refine x_iload (pc := 95) C (dq D_Model_decipher 59 rfl) rfl ?_
            refine x_iconst (pc := 97) C (dq D_Model_decipher 60 rfl) ci_2 ?_
            refine n_iadd (pc := 98) C (dq D_Model_decipher 61 rfl) ?_
            refine x_iconst (pc := 99) C (dq D_Model_decipher 62 rfl) ci_4 ?_
            refine n_irem (pc := 100) C (dq D_Model_decipher 63 rfl) (by omega) (by omega) (by omega) ?_
            refine n_iadd (pc := 101) C (dq D_Model_decipher 64 rfl) ?_
            refine x_iald (pc := 102) C (dq D_Model_decipher 65 rfl) (by first | exact (c1 _ _).1 | exact b1 _ _) (by (try simp only [List.length_set]); omega) ?_
            refine x_bipush (pc := 103) C (dq D_Model_decipher 66 rfl) cb_13 ?_
            refine x_cS1 (pc := 105) (M := M_Model_product) C (dq D_Model_decipher 67 rfl) k_ml_Model_68 m_Model_product (c_product p2 (by omega)) rfl rfl rfl rfl (by decide) ?_
            refine n_ixor (pc := 108) C (dq D_Model_decipher 68 rfl) ?_
            refine x_aload_n (pc := 109) C (dq D_Model_decipher 69 rfl) rfl ?_
            refine x_get (pc := 110) (ci := 1) (j := 11) C (dq D_Model_decipher 70 rfl) rfl rfl (by first | exact (c1 _ _).1 | exact b1 _ _) rfl k_fl_Model_31 ?_
            refine x_iload (pc := 113) C (dq D_Model_decipher 71 rfl) rfl ?_
            refine x_iload (pc := 115) C (dq D_Model_decipher 72 rfl) rfl ?_
            refine x_iconst (pc := 117) C (dq D_Model_decipher 73 rfl) ci_3 ?_
            refine n_iadd (pc := 118) C (dq D_Model_decipher 74 rfl) ?_
            refine x_iconst (pc := 119) C (dq D_Model_decipher 75 rfl) ci_4 ?_
            refine n_irem (pc := 120) C (dq D_Model_decipher 76 rfl) (by omega) (by omega) (by omega) ?_
            refine n_iadd (pc := 121) C (dq D_Model_decipher 77 rfl) ?_
            refine x_iald (pc := 122) C (dq D_Model_decipher 78 rfl) (by first | exact (c1 _ _).1 | exact b1 _ _) (by (try simp only [List.length_set]); omega) ?_
            refine x_bipush (pc := 123) C (dq D_Model_decipher 79 rfl) cb_9 ?_
            refine x_cS1 (pc := 125) (M := M_Model_product) C (dq D_Model_decipher 80 rfl) k_ml_Model_68 m_Model_product (c_product p3 (by omega)) rfl rfl rfl rfl (by decide) ?_
            refine n_ixor (pc := 128) C (dq D_Model_decipher 81 rfl) ?_
            exact fin _ rfl
          · rw [if_pos hq] at fin
            refine x_aload_n (pc := 45) C (dq D_Model_decipher 30 rfl) rfl ?_
            refine x_get (pc := 46) (ci := 1) (j := 11) C (dq D_Model_decipher 31 rfl) rfl rfl (by first | exact (c1 _ _).1 | exact b1 _ _) rfl k_fl_Model_31 ?_
            refine x_iload_n (pc := 49) C (dq D_Model_decipher 32 rfl) rfl ?_
            refine x_iald (pc := 50) C (dq D_Model_decipher 33 rfl) (by first | exact (c1 _ _).1 | exact b1 _ _) (by (try simp only [List.length_set]); omega) ?_
            refine x_goto (pc := 51) (tgt := 129) C (dq D_Model_decipher 34 rfl) (by decide) ?_
            exact fin _ rfl
      refine x_iload_n (pc := 3) C (dq D_Model_decipher 2 rfl) rfl ?_
      refine x_iconst (pc := 4) C (dq D_Model_decipher 3 rfl) ci_1 ?_
      refine n_lt_f (pc := 5) (tgt := 202) C (dq D_Model_decipher 4 rfl) (by decide) (by omega) (by omega) ?_
      refine x_aload_n (pc := 8) C (dq D_Model_decipher 5 rfl) rfl ?_
      refine x_iload_n (pc := 9) C (dq D_Model_decipher 6 rfl) rfl ?_
      refine x_iload_n (pc := 10) C (dq D_Model_decipher 7 rfl) rfl ?_
      refine x_cV0 (pc := 11) (ci := 1) (M := M_Model_addKey) C (dq D_Model_decipher 8 rfl) k_ml_Model_74 m_Model_addKey rfl rfl ((c1 _ _).1) (c_addKey (c1 _ _).1 (c1 _ _).2.1 (b1 _ _) hc.2.2.2.2.1 hc.2.2.2.2.2.2.2.1 hq1 (by omega) hf) rfl rfl rfl rfl (by decide) ?_
      rw [List.set_set, hSe]
      refine x_iconst (pc := 14) C (dq D_Model_decipher 9 rfl) ci_0 ?_
      refine x_istore_n (i := 3) (pc := 15) C (dq D_Model_decipher 10 rfl) rfl rfl rfl ?_
      simp only [List.set_cons_zero, List.set_cons_succ]
      exact unmixing 16 0 M0 l4 l5 rfl hq3 hq4 rfl
  refine x_bipush (pc := 0) C (dq D_Model_decipher 0 rfl) cb_10 ?_
  refine x_istore_n (i := 2) (pc := 2) C (dq D_Model_decipher 1 rfl) rfl rfl rfl ?_
  simp only [List.set_cons_zero, List.set_cons_succ]
  have h0 := loop 10 0 (B, M) none none none rfl hq rfl
  dsimp only at h0
  rw [gs_id hv, gs_id hb] at h0
  exact h0
/-- the reference's doubling -/
def mds (k : Nat) (S : List Nat) : List Nat := S.set k (((S.getD k 0 * 2) &&& 255) + (if k < 15 then S.getD (if k < 15 then k + 1 else 15) 0 / 2 ^ 7 else 0))
def mde (hi : Nat) (S : List Nat) : List Nat := S.set 15 (if hi = 1 then S.getD 15 0 ^^^ 135 else S.getD 15 0)
def mdb (S : List Nat) : List Nat := mde (S.getD 0 0 / 2 ^ 7) (it mds 0 16 S)
theorem mds_len (k : Nat) (S : List Nat) : (mds k S).length = S.length := List.length_set
theorem dbl8b : ∀ a, a < 256 → ∀ b, b < 2 → ((a * 2) &&& 255) + b < 256 := by decide +kernel
theorem mds8v {S : List Nat} (h : by8 S) (k : Nat) : ((S.getD k 0 * 2) &&& 255) + (if k < 15 then S.getD (if k < 15 then k + 1 else 15) 0 / 2 ^ 7 else 0) < 256 := by
  refine dbl8b _ (h.at k) _ ?_
  have h1 := h.at (k + 1)
  by_cases hk : k < 15
  · rw [if_pos hk, if_pos hk]
    omega
  · rw [if_neg hk]
    omega
theorem mds8 (k n : Nat) {S : List Nat} (h : by8 S) : by8 (it mds k n S) := it_inv by8 n k S (fun j T _ _ hT => hT.set (mds8v hT j)) h
theorem mdb_len (S : List Nat) : (mdb S).length = S.length := by
  unfold mdb mde
  rw [List.length_set, it_len mds_len]
theorem mdb8 {S : List Nat} (h : by8 S) : by8 (mdb S) := by
  have h1 := mds8 0 16 h
  exact h1.set (by
    split
    · exact xor8 (h1.at _) (by omega)
    · exact h1.at _)
theorem cm_doubleSum {g : Gp} {h : Hp} {cd ni no nt nr nl : Nat} {A : List Nat} (hm : h[44]? = some (moc g cd ni no nt nr nl)) (hb : h[57]? = some (ia g A)) (hA : A.length = 16) (h8 : by8 A) :
    Con g M_Model_doubleSum 1 (0, 0) [.ref (zA (gz g) 44)] h (Ret none (h.set 57 (ia g (mdb A)))) := by
  have hb1 : ∀ e, (h.set 57 e)[57]? = some e := fun e => gs_self hb
  have hm1 : ∀ e, (h.set 57 e)[44]? = some (moc g cd ni no nt nr nl) := fun e => gs_ne (by decide) hm
  have hz := h8.at 0
  refine Con.of (by decide) rfl rfl (L := [some (.ref (zA (gz g) 44)), none, none]) rfl (fun f C => ?_)
  have loop : ∀ (d k : Nat) (S : List Nat), k + d = 16 → S.length = 16 → by8 S → X g f M_Model_doubleSum (0, 0) (Ret none (h.set 57 (ia g (mde (A.getD 0 0 / 2 ^ 7) (it mds k d S))))) (0, 0) 12 [some (.ref (zA (gz g) 44)), some (.int (nI (A.getD 0 0 / 2 ^ 7))), some (.int (nI k))] [] (h.set 57 (ia g S)) := by
    intro d
    induction d with
    | zero =>
      intro k S hkn hS h8
      refine x_iload_n (pc := 12) C (dq D_Model_doubleSum 9 rfl) rfl ?_
      refine x_bipush (pc := 13) C (dq D_Model_doubleSum 10 rfl) cb_16 ?_
      refine n_ge_t (pc := 15) (tgt := 66) C (dq D_Model_doubleSum 11 rfl) (by decide) (by omega) (by omega) ?_
      refine x_aload_n (pc := 66) C (dq D_Model_doubleSum 40 rfl) rfl ?_
      refine x_get (pc := 67) (ci := 1) (j := 18) C (dq D_Model_doubleSum 41 rfl) rfl rfl (hm1 _) rfl k_fl_Model_46 ?_
      refine x_bipush (pc := 70) C (dq D_Model_doubleSum 42 rfl) cb_15 ?_
      refine x_iload_n (pc := 72) C (dq D_Model_doubleSum 43 rfl) rfl ?_
      refine x_iconst (pc := 73) C (dq D_Model_doubleSum 44 rfl) ci_1 ?_
      refine n_ne (pc := 74) (tgt := 91) C (dq D_Model_doubleSum 45 rfl) (by decide) (by omega) (fun hq => ?_) (fun hq => ?_)
      · refine x_aload_n (pc := 91) C (dq D_Model_doubleSum 53 rfl) rfl ?_
        refine x_get (pc := 92) (ci := 1) (j := 18) C (dq D_Model_doubleSum 54 rfl) rfl rfl (by first | exact hm1 _ | exact hb1 _) rfl k_fl_Model_46 ?_
        refine x_bipush (pc := 95) C (dq D_Model_doubleSum 55 rfl) cb_15 ?_
        refine x_iald (pc := 97) C (dq D_Model_doubleSum 56 rfl) (by first | exact hm1 _ | exact hb1 _) (by (try simp only [List.length_set]); omega) ?_
        refine x_iast (pc := 98) C (dq D_Model_doubleSum 57 rfl) (by first | exact hm1 _ | exact hb1 _) (by (try simp only [List.length_set]); omega) ?_
        try rw [List.set_set]
        exact x_vret (pc := 99) C (dq D_Model_doubleSum 58 rfl) rfl (by decide) ⟨rfl, by show h.set 57 (ia g (S.set 15 _)) = h.set 57 (ia g (S.set 15 _)); rw [if_neg hq]; rfl⟩
      · refine x_aload_n (pc := 77) C (dq D_Model_doubleSum 46 rfl) rfl ?_
        refine x_get (pc := 78) (ci := 1) (j := 18) C (dq D_Model_doubleSum 47 rfl) rfl rfl (by first | exact hm1 _ | exact hb1 _) rfl k_fl_Model_46 ?_
        refine x_bipush (pc := 81) C (dq D_Model_doubleSum 48 rfl) cb_15 ?_
        refine x_iald (pc := 83) C (dq D_Model_doubleSum 49 rfl) (by first | exact hm1 _ | exact hb1 _) (by (try simp only [List.length_set]); omega) ?_
        refine x_sipush (pc := 84) C (dq D_Model_doubleSum 50 rfl) cs_135 ?_
        refine n_ixor (pc := 87) C (dq D_Model_doubleSum 51 rfl) ?_
        refine x_goto (pc := 88) (tgt := 98) C (dq D_Model_doubleSum 52 rfl) (by decide) ?_
        refine x_iast (pc := 98) C (dq D_Model_doubleSum 57 rfl) (by first | exact hm1 _ | exact hb1 _) (by (try simp only [List.length_set]); omega) ?_
        try rw [List.set_set]
        exact x_vret (pc := 99) C (dq D_Model_doubleSum 58 rfl) rfl (by decide) ⟨rfl, by show h.set 57 (ia g (S.set 15 _)) = h.set 57 (ia g (S.set 15 _)); rw [if_pos hq]; rfl⟩
    | succ d ih =>
      intro k S hkn hS h8
      have h1 := h8.at k
      have fin : ∀ j : Nat, j = (if k < 15 then k + 1 else 15) → X g f M_Model_doubleSum (0, 0) (Ret none (h.set 57 (ia g (mde (A.getD 0 0 / 2 ^ 7) (it mds k (d + 1) S))))) (0, 0) 54 [some (.ref (zA (gz g) 44)), some (.int (nI (A.getD 0 0 / 2 ^ 7))), some (.int (nI k))] [.int (nI j), .ref (zA (gz g) 57), .int (nI k), .int (nI ((S.getD k 0 * 2) &&& 255)), .int (nI k), .ref (zA (gz g) 57)] (h.set 57 (ia g S)) := by
        intro j hj
        have hj1 : j < 16 := by rw [hj]; split <;> omega
        have h2 := h8.at j
        refine x_iald (pc := 54) C (dq D_Model_doubleSum 34 rfl) (by first | exact hm1 _ | exact hb1 _) (by (try simp only [List.length_set]); omega) ?_
        refine x_cS1 (pc := 55) (M := M_Model_bitBehind) C (dq D_Model_doubleSum 35 rfl) k_ml_Model_78 m_Model_bitBehind (c_bitBehind (by omega) h2) rfl rfl rfl rfl (by decide) ?_
        refine n_iadd (pc := 58) C (dq D_Model_doubleSum 36 rfl) ?_
        refine x_iast (pc := 59) C (dq D_Model_doubleSum 37 rfl) (by first | exact hm1 _ | exact hb1 _) (by (try simp only [List.length_set]); omega) ?_
        try rw [List.set_set]
        refine x_iinc (pc := 60) C (dq D_Model_doubleSum 38 rfl) rfl (ii_1 _) rfl rfl ?_
        simp only [List.set_cons_zero, List.set_cons_succ]
        refine x_goto (pc := 63) (tgt := 12) C (dq D_Model_doubleSum 39 rfl) (by decide) ?_
        rw [hj]
        exact ih (k + 1) (mds k S) (by omega) (by rw [mds_len]; exact hS) (h8.set (mds8v h8 k))
      refine x_iload_n (pc := 12) C (dq D_Model_doubleSum 9 rfl) rfl ?_
      refine x_bipush (pc := 13) C (dq D_Model_doubleSum 10 rfl) cb_16 ?_
      refine n_ge_f (pc := 15) (tgt := 66) C (dq D_Model_doubleSum 11 rfl) (by decide) (by omega) (by omega) ?_
      refine x_aload_n (pc := 18) C (dq D_Model_doubleSum 12 rfl) rfl ?_
      refine x_get (pc := 19) (ci := 1) (j := 18) C (dq D_Model_doubleSum 13 rfl) rfl rfl (by first | exact hm1 _ | exact hb1 _) rfl k_fl_Model_46 ?_
      refine x_iload_n (pc := 22) C (dq D_Model_doubleSum 14 rfl) rfl ?_
      refine x_aload_n (pc := 23) C (dq D_Model_doubleSum 15 rfl) rfl ?_
      refine x_get (pc := 24) (ci := 1) (j := 18) C (dq D_Model_doubleSum 16 rfl) rfl rfl (by first | exact hm1 _ | exact hb1 _) rfl k_fl_Model_46 ?_
      refine x_iload_n (pc := 27) C (dq D_Model_doubleSum 17 rfl) rfl ?_
      refine x_iald (pc := 28) C (dq D_Model_doubleSum 18 rfl) (by first | exact hm1 _ | exact hb1 _) (by (try simp only [List.length_set]); omega) ?_
      refine x_iconst (pc := 29) C (dq D_Model_doubleSum 19 rfl) ci_2 ?_
      refine n_imul (pc := 30) C (dq D_Model_doubleSum 20 rfl) ?_
      refine x_sipush (pc := 31) C (dq D_Model_doubleSum 21 rfl) cs_255 ?_
      refine n_iand (pc := 34) C (dq D_Model_doubleSum 22 rfl) ?_
      refine x_iload_n (pc := 35) C (dq D_Model_doubleSum 23 rfl) rfl ?_
      refine x_aload_n (pc := 36) C (dq D_Model_doubleSum 24 rfl) rfl ?_
      refine x_get (pc := 37) (ci := 1) (j := 18) C (dq D_Model_doubleSum 25 rfl) rfl rfl (by first | exact hm1 _ | exact hb1 _) rfl k_fl_Model_46 ?_
      refine x_iload_n (pc := 40) C (dq D_Model_doubleSum 26 rfl) rfl ?_
      refine x_bipush (pc := 41) C (dq D_Model_doubleSum 27 rfl) cb_15 ?_
      refine n_ge (pc := 43) (tgt := 52) C (dq D_Model_doubleSum 28 rfl) (by decide) (by omega) (fun hq => ?_) (fun hq => ?_)
      · rw [if_neg (by omega)] at fin
        refine x_bipush (pc := 52) C (dq D_Model_doubleSum 33 rfl) cb_15 ?_
        exact fin 15 rfl
      · rw [if_pos hq] at fin
        refine x_iload_n (pc := 46) C (dq D_Model_doubleSum 29 rfl) rfl ?_
        refine x_iconst (pc := 47) C (dq D_Model_doubleSum 30 rfl) ci_1 ?_
        refine n_iadd (pc := 48) C (dq D_Model_doubleSum 31 rfl) ?_
        refine x_goto (pc := 49) (tgt := 54) C (dq D_Model_doubleSum 32 rfl) (by decide) ?_
        exact fin (k + 1) rfl
  refine x_aload_n (pc := 0) C (dq D_Model_doubleSum 0 rfl) rfl ?_
  refine x_get (pc := 1) (ci := 1) (j := 18) C (dq D_Model_doubleSum 1 rfl) rfl rfl (by first | exact hm | exact hb) rfl k_fl_Model_46 ?_
  refine x_iconst (pc := 4) C (dq D_Model_doubleSum 2 rfl) ci_0 ?_
  refine x_iald (pc := 5) C (dq D_Model_doubleSum 3 rfl) (by first | exact hm | exact hb) (by (try simp only [List.length_set]); omega) ?_
  refine x_bipush (pc := 6) C (dq D_Model_doubleSum 4 rfl) cb_7 ?_
  refine n_ishr (pc := 8) C (dq D_Model_doubleSum 5 rfl) (by omega) (by omega) ?_
  refine x_istore_n (i := 1) (pc := 9) C (dq D_Model_doubleSum 6 rfl) rfl rfl rfl ?_
  simp only [List.set_cons_zero, List.set_cons_succ]
  refine x_iconst (pc := 10) C (dq D_Model_doubleSum 7 rfl) ci_0 ?_
  refine x_istore_n (i := 2) (pc := 11) C (dq D_Model_doubleSum 8 rfl) rfl rfl rfl ?_
  simp only [List.set_cons_zero, List.set_cons_succ]
  have h0 := loop 16 0 A rfl hA h8
  rw [gs_id hb] at h0
  exact h0
theorem cm_doubleBlock {g : Gp} {h : Hp} {cd ni no nt nr nl : Nat} {A : List Nat} (hm : h[44]? = some (moc g cd ni no nt nr nl)) (hb : h[52]? = some (ia g A)) (hA : A.length = 16) (h8 : by8 A) :
    Con g M_Model_doubleBlock 1 (0, 0) [.ref (zA (gz g) 44)] h (Ret none (h.set 52 (ia g (mdb A)))) := by
  have hb1 : ∀ e, (h.set 52 e)[52]? = some e := fun e => gs_self hb
  have hm1 : ∀ e, (h.set 52 e)[44]? = some (moc g cd ni no nt nr nl) := fun e => gs_ne (by decide) hm
  have hz := h8.at 0
  refine Con.of (by decide) rfl rfl (L := [some (.ref (zA (gz g) 44)), none, none]) rfl (fun f C => ?_)
  have loop : ∀ (d k : Nat) (S : List Nat), k + d = 16 → S.length = 16 → by8 S → X g f M_Model_doubleBlock (0, 0) (Ret none (h.set 52 (ia g (mde (A.getD 0 0 / 2 ^ 7) (it mds k d S))))) (0, 0) 12 [some (.ref (zA (gz g) 44)), some (.int (nI (A.getD 0 0 / 2 ^ 7))), some (.int (nI k))] [] (h.set 52 (ia g S)) := by
    intro d
    induction d with
    | zero =>
      intro k S hkn hS h8
      refine x_iload_n (pc := 12) C (dq D_Model_doubleBlock 9 rfl) rfl ?_
      refine x_bipush (pc := 13) C (dq D_Model_doubleBlock 10 rfl) cb_16 ?_
      refine n_ge_t (pc := 15) (tgt := 66) C (dq D_Model_doubleBlock 11 rfl) (by decide) (by omega) (by omega) ?_
      refine x_aload_n (pc := 66) C (dq D_Model_doubleBlock 40 rfl) rfl ?_
      refine x_get (pc := 67) (ci := 1) (j := 11) C (dq D_Model_doubleBlock 41 rfl) rfl rfl (hm1 _) rfl k_fl_Model_31 ?_
      refine x_bipush (pc := 70) C (dq D_Model_doubleBlock 42 rfl) cb_15 ?_
      refine x_iload_n (pc := 72) C (dq D_Model_doubleBlock 43 rfl) rfl ?_
      refine x_iconst (pc := 73) C (dq D_Model_doubleBlock 44 rfl) ci_1 ?_
      refine n_ne (pc := 74) (tgt := 91) C (dq D_Model_doubleBlock 45 rfl) (by decide) (by omega) (fun hq => ?_) (fun hq => ?_)
      · refine x_aload_n (pc := 91) C (dq D_Model_doubleBlock 53 rfl) rfl ?_
        refine x_get (pc := 92) (ci := 1) (j := 11) C (dq D_Model_doubleBlock 54 rfl) rfl rfl (by first | exact hm1 _ | exact hb1 _) rfl k_fl_Model_31 ?_
        refine x_bipush (pc := 95) C (dq D_Model_doubleBlock 55 rfl) cb_15 ?_
        refine x_iald (pc := 97) C (dq D_Model_doubleBlock 56 rfl) (by first | exact hm1 _ | exact hb1 _) (by (try simp only [List.length_set]); omega) ?_
        refine x_iast (pc := 98) C (dq D_Model_doubleBlock 57 rfl) (by first | exact hm1 _ | exact hb1 _) (by (try simp only [List.length_set]); omega) ?_
        try rw [List.set_set]
        exact x_vret (pc := 99) C (dq D_Model_doubleBlock 58 rfl) rfl (by decide) ⟨rfl, by show h.set 52 (ia g (S.set 15 _)) = h.set 52 (ia g (S.set 15 _)); rw [if_neg hq]; rfl⟩
      · refine x_aload_n (pc := 77) C (dq D_Model_doubleBlock 46 rfl) rfl ?_
        refine x_get (pc := 78) (ci := 1) (j := 11) C (dq D_Model_doubleBlock 47 rfl) rfl rfl (by first | exact hm1 _ | exact hb1 _) rfl k_fl_Model_31 ?_
        refine x_bipush (pc := 81) C (dq D_Model_doubleBlock 48 rfl) cb_15 ?_
        refine x_iald (pc := 83) C (dq D_Model_doubleBlock 49 rfl) (by first | exact hm1 _ | exact hb1 _) (by (try simp only [List.length_set]); omega) ?_
        refine x_sipush (pc := 84) C (dq D_Model_doubleBlock 50 rfl) cs_135 ?_
        refine n_ixor (pc := 87) C (dq D_Model_doubleBlock 51 rfl) ?_
        refine x_goto (pc := 88) (tgt := 98) C (dq D_Model_doubleBlock 52 rfl) (by decide) ?_
        refine x_iast (pc := 98) C (dq D_Model_doubleBlock 57 rfl) (by first | exact hm1 _ | exact hb1 _) (by (try simp only [List.length_set]); omega) ?_
        try rw [List.set_set]
        exact x_vret (pc := 99) C (dq D_Model_doubleBlock 58 rfl) rfl (by decide) ⟨rfl, by show h.set 52 (ia g (S.set 15 _)) = h.set 52 (ia g (S.set 15 _)); rw [if_pos hq]; rfl⟩
    | succ d ih =>
      intro k S hkn hS h8
      have h1 := h8.at k
      have fin : ∀ j : Nat, j = (if k < 15 then k + 1 else 15) → X g f M_Model_doubleBlock (0, 0) (Ret none (h.set 52 (ia g (mde (A.getD 0 0 / 2 ^ 7) (it mds k (d + 1) S))))) (0, 0) 54 [some (.ref (zA (gz g) 44)), some (.int (nI (A.getD 0 0 / 2 ^ 7))), some (.int (nI k))] [.int (nI j), .ref (zA (gz g) 52), .int (nI k), .int (nI ((S.getD k 0 * 2) &&& 255)), .int (nI k), .ref (zA (gz g) 52)] (h.set 52 (ia g S)) := by
        intro j hj
        have hj1 : j < 16 := by rw [hj]; split <;> omega
        have h2 := h8.at j
        refine x_iald (pc := 54) C (dq D_Model_doubleBlock 34 rfl) (by first | exact hm1 _ | exact hb1 _) (by (try simp only [List.length_set]); omega) ?_
        refine x_cS1 (pc := 55) (M := M_Model_bitBehind) C (dq D_Model_doubleBlock 35 rfl) k_ml_Model_78 m_Model_bitBehind (c_bitBehind (by omega) h2) rfl rfl rfl rfl (by decide) ?_
        refine n_iadd (pc := 58) C (dq D_Model_doubleBlock 36 rfl) ?_
        refine x_iast (pc := 59) C (dq D_Model_doubleBlock 37 rfl) (by first | exact hm1 _ | exact hb1 _) (by (try simp only [List.length_set]); omega) ?_
        try rw [List.set_set]
        refine x_iinc (pc := 60) C (dq D_Model_doubleBlock 38 rfl) rfl (ii_1 _) rfl rfl ?_
        simp only [List.set_cons_zero, List.set_cons_succ]
        refine x_goto (pc := 63) (tgt := 12) C (dq D_Model_doubleBlock 39 rfl) (by decide) ?_
        rw [hj]
        exact ih (k + 1) (mds k S) (by omega) (by rw [mds_len]; exact hS) (h8.set (mds8v h8 k))
      refine x_iload_n (pc := 12) C (dq D_Model_doubleBlock 9 rfl) rfl ?_
      refine x_bipush (pc := 13) C (dq D_Model_doubleBlock 10 rfl) cb_16 ?_
      refine n_ge_f (pc := 15) (tgt := 66) C (dq D_Model_doubleBlock 11 rfl) (by decide) (by omega) (by omega) ?_
      refine x_aload_n (pc := 18) C (dq D_Model_doubleBlock 12 rfl) rfl ?_
      refine x_get (pc := 19) (ci := 1) (j := 11) C (dq D_Model_doubleBlock 13 rfl) rfl rfl (by first | exact hm1 _ | exact hb1 _) rfl k_fl_Model_31 ?_
      refine x_iload_n (pc := 22) C (dq D_Model_doubleBlock 14 rfl) rfl ?_
      refine x_aload_n (pc := 23) C (dq D_Model_doubleBlock 15 rfl) rfl ?_
      refine x_get (pc := 24) (ci := 1) (j := 11) C (dq D_Model_doubleBlock 16 rfl) rfl rfl (by first | exact hm1 _ | exact hb1 _) rfl k_fl_Model_31 ?_
      refine x_iload_n (pc := 27) C (dq D_Model_doubleBlock 17 rfl) rfl ?_
      refine x_iald (pc := 28) C (dq D_Model_doubleBlock 18 rfl) (by first | exact hm1 _ | exact hb1 _) (by (try simp only [List.length_set]); omega) ?_
      refine x_iconst (pc := 29) C (dq D_Model_doubleBlock 19 rfl) ci_2 ?_
      refine n_imul (pc := 30) C (dq D_Model_doubleBlock 20 rfl) ?_
      refine x_sipush (pc := 31) C (dq D_Model_doubleBlock 21 rfl) cs_255 ?_
      refine n_iand (pc := 34) C (dq D_Model_doubleBlock 22 rfl) ?_
      refine x_iload_n (pc := 35) C (dq D_Model_doubleBlock 23 rfl) rfl ?_
      refine x_aload_n (pc := 36) C (dq D_Model_doubleBlock 24 rfl) rfl ?_
      refine x_get (pc := 37) (ci := 1) (j := 11) C (dq D_Model_doubleBlock 25 rfl) rfl rfl (by first | exact hm1 _ | exact hb1 _) rfl k_fl_Model_31 ?_
      refine x_iload_n (pc := 40) C (dq D_Model_doubleBlock 26 rfl) rfl ?_
      refine x_bipush (pc := 41) C (dq D_Model_doubleBlock 27 rfl) cb_15 ?_
      refine n_ge (pc := 43) (tgt := 52) C (dq D_Model_doubleBlock 28 rfl) (by decide) (by omega) (fun hq => ?_) (fun hq => ?_)
      · rw [if_neg (by omega)] at fin
        refine x_bipush (pc := 52) C (dq D_Model_doubleBlock 33 rfl) cb_15 ?_
        exact fin 15 rfl
      · rw [if_pos hq] at fin
        refine x_iload_n (pc := 46) C (dq D_Model_doubleBlock 29 rfl) rfl ?_
        refine x_iconst (pc := 47) C (dq D_Model_doubleBlock 30 rfl) ci_1 ?_
        refine n_iadd (pc := 48) C (dq D_Model_doubleBlock 31 rfl) ?_
        refine x_goto (pc := 49) (tgt := 54) C (dq D_Model_doubleBlock 32 rfl) (by decide) ?_
        exact fin (k + 1) rfl
  refine x_aload_n (pc := 0) C (dq D_Model_doubleBlock 0 rfl) rfl ?_
  refine x_get (pc := 1) (ci := 1) (j := 11) C (dq D_Model_doubleBlock 1 rfl) rfl rfl (by first | exact hm | exact hb) rfl k_fl_Model_31 ?_
  refine x_iconst (pc := 4) C (dq D_Model_doubleBlock 2 rfl) ci_0 ?_
  refine x_iald (pc := 5) C (dq D_Model_doubleBlock 3 rfl) (by first | exact hm | exact hb) (by (try simp only [List.length_set]); omega) ?_
  refine x_bipush (pc := 6) C (dq D_Model_doubleBlock 4 rfl) cb_7 ?_
  refine n_ishr (pc := 8) C (dq D_Model_doubleBlock 5 rfl) (by omega) (by omega) ?_
  refine x_istore_n (i := 1) (pc := 9) C (dq D_Model_doubleBlock 6 rfl) rfl rfl rfl ?_
  simp only [List.set_cons_zero, List.set_cons_succ]
  refine x_iconst (pc := 10) C (dq D_Model_doubleBlock 7 rfl) ci_0 ?_
  refine x_istore_n (i := 2) (pc := 11) C (dq D_Model_doubleBlock 8 rfl) rfl rfl rfl ?_
  simp only [List.set_cons_zero, List.set_cons_succ]
  have h0 := loop 16 0 A rfl hA h8
  rw [gs_id hb] at h0
  exact h0
end
section
/-! The reference's cells as one picture: 44 cells before it, its object, its fourteen arrays, the cells behind. -/
def mh (g : Gp) (P : Hp) (cd ni no nt nr nl : Nat) (ar : List (List Nat)) (S : Hp) : Hp := P ++ (moc g cd ni no nt nr nl :: (ar.map (ia g) ++ S))
section MH
variable {g : Gp} {P S : Hp} {cd ni no nt nr nl : Nat} {ar : List (List Nat)}
theorem mo (hP : P.length = 44) : (mh g P cd ni no nt nr nl ar S)[44]? = some (moc g cd ni no nt nr nl) := by
  unfold mh
  rw [List.getElem?_append_right (by omega), hP]
  rfl
theorem ma (hP : P.length = 44) {a : Nat} {A : List Nat} (ha : Nat.ble 45 a = true) (h : ar[a - 45]? = some A) : (mh g P cd ni no nt nr nl ar S)[a]? = some (ia g A) := by
  have ha := Nat.le_of_ble_eq_true ha
  have hl : a - 45 < ar.length := (List.getElem?_eq_some_iff.mp h).1
  unfold mh
  rw [List.getElem?_append_right (by omega), hP, show a - 44 = (a - 45) + 1 by omega, List.getElem?_cons_succ, List.getElem?_append_left (by rw [List.length_map]; exact hl), List.getElem?_map, h]
  rfl
theorem mh_s (hP : P.length = 44) {a : Nat} {A : List Nat} (ha : Nat.ble 45 a = true) (hl : Nat.blt (a - 45) ar.length = true) : (mh g P cd ni no nt nr nl ar S).set a (ia g A) = mh g P cd ni no nt nr nl (ar.set (a - 45) A) S := by
  have ha := Nat.le_of_ble_eq_true ha
  have hl : a - 45 < ar.length := Nat.le_of_ble_eq_true hl
  unfold mh
  rw [List.set_append_right _ _ (by omega), hP, show a - 44 = (a - 45) + 1 by omega, List.set_cons_succ, List.set_append_left _ _ (by rw [List.length_map]; exact hl), List.map_set]
theorem mh_p (hP : P.length = 44) {cd' ni' no' nt' nr' nl' : Nat} : (mh g P cd ni no nt nr nl ar S).set 44 (moc g cd' ni' no' nt' nr' nl') = mh g P cd' ni' no' nt' nr' nl' ar S := by
  unfold mh
  rw [List.set_append_right _ _ (by omega), hP]
  rfl
end MH
theorem len16 {L : List Nat} (h : L.length = 16) : ∃ a0 a1 a2 a3 a4 a5 a6 a7 a8 a9 b0 b1 b2 b3 b4 b5, L = [a0, a1, a2, a3, a4, a5, a6, a7, a8, a9, b0, b1, b2, b3, b4, b5] := by
  match L, h with
  | [a0, a1, a2, a3, a4, a5, a6, a7, a8, a9, b0, b1, b2, b3, b4, b5], _ => exact ⟨_, _, _, _, _, _, _, _, _, _, _, _, _, _, _, _, rfl⟩
theorem msv_ind {T B M M' : List Nat} (h : M.length = 16) (h' : M'.length = 16) : it (msv T B) 0 4 M = it (msv T B) 0 4 M' := by
  obtain ⟨a0, a1, a2, a3, a4, a5, a6, a7, a8, a9, b0, b1, b2, b3, b4, b5, rfl⟩ := len16 h
  obtain ⟨c0, c1, c2, c3, c4, c5, c6, c7, c8, c9, d0, d1, d2, d3, d4, d5, rfl⟩ := len16 h'
  rfl
/-- the reference's cipher, apart from its scratch -/
def z16 : List Nat := List.replicate 16 0
def enc (T W : List Nat) (f : Nat) (B : List Nat) : List Nat := (menc T W f (B, z16)).1
theorem menc_ind {T W B M M' : List Nat} {f : Nat} (h : M.length = 16) (h' : M'.length = 16) : menc T W f (B, M) = menc T W f (B, M') := by
  have e : mrd T W f 1 (it (mak W f 0) 0 16 B, M) = mrd T W f 1 (it (mak W f 0) 0 16 B, M') := by
    unfold mrd
    dsimp only
    rw [msv_ind h h']
  show it (fun i => mrd T W f (i + 1)) 1 9 (mrd T W f 1 (it (mak W f 0) 0 16 B, M)) = it (fun i => mrd T W f (i + 1)) 1 9 (mrd T W f 1 (it (mak W f 0) 0 16 B, M'))
  rw [e]
theorem menc_fst {T W B M : List Nat} {f : Nat} (h : M.length = 16) : (menc T W f (B, M)).1 = enc T W f B := by
  unfold enc
  rw [menc_ind h (show z16.length = 16 from rfl)]
theorem z16_8 : by8 z16 := fun v hv => by rw [List.eq_of_mem_replicate hv]; decide
theorem enc_ok {T : List Nat} (hT : by8 T) (W : List Nat) (f : Nat) {B : List Nat} (h : B.length = 16) (h8 : by8 B) : (enc T W f B).length = 16 ∧ by8 (enc T W f B) := by
  have := menc_ok hT W f (q := (B, z16)) ⟨h, h8, rfl, z16_8⟩
  exact ⟨this.1, this.2.1⟩
theorem fls16 {S : List Nat} (h : S.length = 16) : it (fls 0) 0 16 S = z16 := by
  obtain ⟨a0, a1, a2, a3, a4, a5, a6, a7, a8, a9, b0, b1, b2, b3, b4, b5, rfl⟩ := len16 h
  rfl
/-- bytes of one row into another -/
def cp1 (R : List Nat) (k : Nat) (S : List Nat) : List Nat := S.set k (R.getD k 0)
theorem cp1_len (R : List Nat) (k : Nat) (S : List Nat) : (cp1 R k S).length = S.length := List.length_set
theorem cp16 {R S : List Nat} (hR : R.length = 16) (h : S.length = 16) : it (cp1 R) 0 16 S = R := by
  obtain ⟨a0, a1, a2, a3, a4, a5, a6, a7, a8, a9, b0, b1, b2, b3, b4, b5, rfl⟩ := len16 h
  obtain ⟨c0, c1, c2, c3, c4, c5, c6, c7, c8, c9, d0, d1, d2, d3, d4, d5, rfl⟩ := len16 hR
  rfl
/-- the arrays' lengths and bytes -/
def aok (ar : List (List Nat)) : Prop := ∃ W T U IN OUT IS IB BL MV ROW TX MA SM KP : List Nat, ar = [W, T, U, IN, OUT, IS, IB, BL, MV, ROW, TX, MA, SM, KP]
/-- the cipher called on the picture -/
theorem c_enc {g : Gp} {P S : Hp} {cd ni no nt nr nl f0 : Nat} {W T U IN OUT IS IB BL MV ROW TX MA SM KP : List Nat} (hP : P.length = 44) (hW : W.length = 88 ∧ by32 W) (hT : T.length = 256 ∧ by8 T) (hU : U.length = 256 ∧ by8 U) (hb : bm16 (BL, MV)) (hf : f0 ≤ 44) :
    Con g M_Model_encipher 1 (0, 0) [.ref (zA (gz g) 44), .int (nI f0)] (mh g P cd ni no nt nr nl [W, T, U, IN, OUT, IS, IB, BL, MV, ROW, TX, MA, SM, KP] S) (fun o h' => o = .returned none ∧ ∃ M', bm16 (enc T W f0 BL, M') ∧ h' = mh g P cd ni no nt nr nl [W, T, U, IN, OUT, IS, IB, enc T W f0 BL, M', ROW, TX, MA, SM, KP] S) := by
  have hc : mci g (mh g P cd ni no nt nr nl [W, T, U, IN, OUT, IS, IB, BL, MV, ROW, TX, MA, SM, KP] S) cd ni no nt nr nl W T U := ⟨mo hP, ma hP rfl rfl, ma hP rfl rfl, ma hP rfl rfl, hW.1, hT.1, hU.1, hW.2, hT.2, hU.2⟩
  refine (c_encipher hc (ma hP rfl rfl) (ma hP rfl rfl) hb hf).weaken ?_
  rintro o h' ⟨rfl, rfl⟩
  have hk := menc_ok hT.2 W f0 hb
  have e := menc_fst (T := T) (W := W) (B := BL) (M := MV) (f := f0) hb.2.2.1
  refine ⟨rfl, (menc T W f0 (BL, MV)).2, ?_, ?_⟩
  · rw [← e]
    unfold bm16 at hk ⊢
    dsimp only
    exact hk
  · rw [mh_s hP rfl rfl, mh_s hP rfl rfl, e]
    rfl
theorem udec_ind {W B M M' : List Nat} {f r : Nat} (h : M.length = 16) (h' : M'.length = 16) : it (mum r B) 0 16 M = it (mum r B) 0 16 M' := by
  obtain ⟨a0, a1, a2, a3, a4, a5, a6, a7, a8, a9, b0, b1, b2, b3, b4, b5, rfl⟩ := len16 h
  obtain ⟨c0, c1, c2, c3, c4, c5, c6, c7, c8, c9, d0, d1, d2, d3, d4, d5, rfl⟩ := len16 h'
  rfl
def dec (U W : List Nat) (f : Nat) (B : List Nat) : List Nat := (mdec U W f (B, z16)).1
theorem mdec_ind {U W B M M' : List Nat} {f : Nat} (h : M.length = 16) (h' : M'.length = 16) : mdec U W f (B, M) = mdec U W f (B, M') := by
  have e : mrb U W f 10 (B, M) = mrb U W f 10 (B, M') := by
    unfold mrb
    dsimp only
    rw [udec_ind (W := W) (f := f) h h']
  have e2 : it (fun i => mrb U W f (10 - i)) 0 10 (B, M) = it (fun i => mrb U W f (10 - i)) 0 10 (B, M') := by
    show it (fun i => mrb U W f (10 - i)) 1 9 (mrb U W f 10 (B, M)) = it (fun i => mrb U W f (10 - i)) 1 9 (mrb U W f 10 (B, M'))
    rw [e]
  unfold mdec
  rw [e2]
theorem mdec_fst {U W B M : List Nat} {f : Nat} (h : M.length = 16) : (mdec U W f (B, M)).1 = dec U W f B := by
  unfold dec
  rw [mdec_ind h (show z16.length = 16 from rfl)]
theorem dec_ok {U : List Nat} (hU : by8 U) (W : List Nat) (f : Nat) {B : List Nat} (h : B.length = 16) (h8 : by8 B) : (dec U W f B).length = 16 ∧ by8 (dec U W f B) := by
  have := mdec_ok hU W f (q := (B, z16)) ⟨h, h8, rfl, z16_8⟩
  exact ⟨this.1, this.2.1⟩
theorem c_dec {g : Gp} {P S : Hp} {cd ni no nt nr nl f0 : Nat} {W T U IN OUT IS IB BL MV ROW TX MA SM KP : List Nat} (hP : P.length = 44) (hW : W.length = 88 ∧ by32 W) (hT : T.length = 256 ∧ by8 T) (hU : U.length = 256 ∧ by8 U) (hb : bm16 (BL, MV)) (hf : f0 ≤ 44) :
    Con g M_Model_decipher 1 (0, 0) [.ref (zA (gz g) 44), .int (nI f0)] (mh g P cd ni no nt nr nl [W, T, U, IN, OUT, IS, IB, BL, MV, ROW, TX, MA, SM, KP] S) (fun o h' => o = .returned none ∧ ∃ M', bm16 (dec U W f0 BL, M') ∧ h' = mh g P cd ni no nt nr nl [W, T, U, IN, OUT, IS, IB, dec U W f0 BL, M', ROW, TX, MA, SM, KP] S) := by
  have hc : mci g (mh g P cd ni no nt nr nl [W, T, U, IN, OUT, IS, IB, BL, MV, ROW, TX, MA, SM, KP] S) cd ni no nt nr nl W T U := ⟨mo hP, ma hP rfl rfl, ma hP rfl rfl, ma hP rfl rfl, hW.1, hT.1, hU.1, hW.2, hT.2, hU.2⟩
  refine (c_decipher hc (ma hP rfl rfl) (ma hP rfl rfl) hb hf).weaken ?_
  rintro o h' ⟨rfl, rfl⟩
  have hk := mdec_ok hU.2 W f0 hb
  have e := mdec_fst (U := U) (W := W) (B := BL) (M := MV) (f := f0) hb.2.2.1
  refine ⟨rfl, (mdec U W f0 (BL, MV)).2, ?_, ?_⟩
  · rw [← e]
    unfold bm16 at hk ⊢
    dsimp only
    exact hk
  · rw [mh_s hP rfl rfl, mh_s hP rfl rfl, e]
    rfl
end
section
/-- the reference's mark: the padding, the twist, the chain -/
def mpd (n k : Nat) (TX : List Nat) : List Nat := TX.set k (if k = n then 128 else 0)
def wle (n : Nat) : Bool := decide (0 < n ∧ n % 16 = 0)
def mend (n : Nat) : Nat := if wle n then n else (n / 16 + 1) * 16
def mtw (T W : List Nat) (n : Nat) : List Nat := if wle n then mdb (enc T W 0 z16) else mdb (mdb (enc T W 0 z16))
def mxt (K : List Nat) (e k : Nat) (TX : List Nat) : List Nat := TX.set (e - 16 + k) (TX.getD (e - 16 + k) 0 ^^^ K.getD k 0)
def mxb (TX : List Nat) (a k : Nat) (B : List Nat) : List Nat := B.set k (B.getD k 0 ^^^ TX.getD (a + k) 0)
def mch (T W TX : List Nat) (i : Nat) (B : List Nat) : List Nat := enc T W 0 (it (mxb TX (16 * i)) 0 16 B)
/-- the text behind the padding and the twist -/
def mtt (T W : List Nat) (n : Nat) (TX : List Nat) : List Nat := it (mxt (mtw T W n) (mend n)) 0 16 (it (mpd n) n (mend n - n) TX)
def mmk (T W : List Nat) (n : Nat) (TX : List Nat) : List Nat := it (mch T W (mtt T W n TX)) 0 (mend n / 16) z16
theorem mpd_len (n k : Nat) (S : List Nat) : (mpd n k S).length = S.length := List.length_set
theorem mxt_len (K : List Nat) (e k : Nat) (S : List Nat) : (mxt K e k S).length = S.length := List.length_set
theorem mxb_len (TX : List Nat) (a k : Nat) (S : List Nat) : (mxb TX a k S).length = S.length := List.length_set
theorem mpd8 (n k d : Nat) {S : List Nat} (h : by8 S) : by8 (it (mpd n) k d S) := it_inv by8 d k S (fun j T _ _ hT => hT.set (by split <;> omega)) h
theorem mxt8 {K : List Nat} (hK : by8 K) (e k d : Nat) {S : List Nat} (h : by8 S) : by8 (it (mxt K e) k d S) := it_inv by8 d k S (fun j T _ _ hT => hT.set (xor8 (hT.at _) (hK.at _))) h
theorem mxb8 {TX : List Nat} (hK : by8 TX) (a k d : Nat) {S : List Nat} (h : by8 S) : by8 (it (mxb TX a) k d S) := it_inv by8 d k S (fun j T _ _ hT => hT.set (xor8 (hT.at _) (hK.at _))) h
theorem mend_ok (n : Nat) : n ≤ mend n ∧ 16 ≤ mend n ∧ mend n ≤ n + 16 ∧ mend n % 16 = 0 := by
  unfold mend wle
  by_cases h : 0 < n ∧ n % 16 = 0
  · rw [if_pos (by simpa using h)]
    omega
  · rw [if_neg (by simpa using h)]
    omega
theorem mtw_ok {T : List Nat} (hT : by8 T) (W : List Nat) (n : Nat) : (mtw T W n).length = 16 ∧ by8 (mtw T W n) := by
  obtain ⟨a, b⟩ := enc_ok hT W 0 (B := z16) rfl z16_8
  unfold mtw
  split
  · exact ⟨by rw [mdb_len]; exact a, mdb8 b⟩
  · exact ⟨by rw [mdb_len, mdb_len]; exact a, mdb8 (mdb8 b)⟩
theorem mch_ok {T : List Nat} (hT : by8 T) (W : List Nat) {TX : List Nat} (h8 : by8 TX) (i : Nat) {B : List Nat} (h : B.length = 16 ∧ by8 B) : (mch T W TX i B).length = 16 ∧ by8 (mch T W TX i B) := by
  unfold mch
  exact enc_ok hT W 0 (by rw [it_len (mxb_len TX (16 * i))]; exact h.1) (mxb8 h8 (16 * i) 0 16 h.2)
theorem mchs_ok {T : List Nat} (hT : by8 T) (W : List Nat) {TX : List Nat} (h8 : by8 TX) (k n : Nat) {B : List Nat} (h : B.length = 16 ∧ by8 B) : (it (mch T W TX) k n B).length = 16 ∧ by8 (it (mch T W TX) k n B) :=
  it_inv (fun B : List Nat => B.length = 16 ∧ by8 B) n k B (fun j S _ _ hS => mch_ok hT W h8 j hS) h
theorem mtt_ok {T : List Nat} (hT : by8 T) (W : List Nat) (n : Nat) {TX : List Nat} (h8 : by8 TX) : (mtt T W n TX).length = TX.length ∧ by8 (mtt T W n TX) := by
  unfold mtt
  exact ⟨by rw [it_len (mxt_len _ _), it_len (mpd_len n)], mxt8 (mtw_ok hT W n).2 _ 0 16 (mpd8 n n _ h8)⟩
theorem mmk_ok {T : List Nat} (hT : by8 T) (W : List Nat) (n : Nat) {TX : List Nat} (h8 : by8 TX) : (mmk T W n TX).length = 16 ∧ by8 (mmk T W n TX) :=
  mchs_ok hT W (mtt_ok hT W n h8).2 0 _ ⟨rfl, z16_8⟩
theorem cm_markText {g : Gp} {P S : Hp} {cd ni no nt nr nl : Nat} {W T U IN OUT IS IB BL MV ROW TX MA SM KP : List Nat} (hP : P.length = 44) (hW : W.length = 88 ∧ by32 W) (hT : T.length = 256 ∧ by8 T) (hU : U.length = 256 ∧ by8 U) (hb : bm16 (BL, MV)) (hTX : TX.length = 112 ∧ by8 TX) (hMA : MA.length = 16) (hnl : nl ≤ 88) :
    Con g M_Model_markText 2 (0, 0) [.ref (zA (gz g) 44)] (mh g P cd ni no nt nr nl [W, T, U, IN, OUT, IS, IB, BL, MV, ROW, TX, MA, SM, KP] S) (fun o h' => o = .returned none ∧ ∃ B' M' T' : List Nat, bm16 (B', M') ∧ T'.length = 112 ∧ by8 T' ∧ h' = mh g P cd ni no nt nr nl [W, T, U, IN, OUT, IS, IB, B', M', ROW, T', mmk T W nl TX, SM, KP] S) := by
  refine Con.of (by decide) rfl rfl (L := [some (.ref (zA (gz g) 44)), none, none, none, none]) rfl (fun f C => ?_)
  obtain ⟨e1, e2, e3, e4⟩ := mend_ok nl
  obtain ⟨k1, k2⟩ := mtw_ok hT.2 W nl
  obtain ⟨t1, t2⟩ := mtt_ok hT.2 W nl hTX.2
  -- the copy of the block
  have copy : ∀ (d k : Nat) (B V Y A : List Nat) (x : Nat) (l4 : Option Value), k + d = 16 → bm16 (B, V) → Y.length = 112 ∧ by8 Y → A.length = 16 → it (cp1 B) k d A = mmk T W nl TX → X g f M_Model_markText (0, 0) (fun o h' => o = .returned none ∧ ∃ B' M' T' : List Nat, bm16 (B', M') ∧ T'.length = 112 ∧ by8 T' ∧ h' = mh g P cd ni no nt nr nl [W, T, U, IN, OUT, IS, IB, B', M', ROW, T', mmk T W nl TX, SM, KP] S) (0, 0) 246 [some (.ref (zA (gz g) 44)), some (.int (nI x)), some (.int (nI (mend nl))), some (.int (nI k)), l4] [] (mh g P cd ni no nt nr nl [W, T, U, IN, OUT, IS, IB, B, V, ROW, Y, A, SM, KP] S) := by
    intro d
    induction d with
    | zero =>
      intro k B V Y A x l4 hkd hB hY hA he
      have e0 : A = mmk T W nl TX := he
      refine x_iload_n (pc := 246) C (dq D_Model_markText 140 rfl) rfl ?_
      refine x_bipush (pc := 247) C (dq D_Model_markText 141 rfl) cb_16 ?_
      refine n_ge_t (pc := 249) (tgt := 270) C (dq D_Model_markText 142 rfl) (by decide) (by omega) (by omega) ?_
      exact x_vret (pc := 270) C (dq D_Model_markText 153 rfl) rfl (by decide) ⟨rfl, B, V, Y, hB, hY.1, hY.2, by rw [e0]⟩
    | succ d ih =>
      intro k B V Y A x l4 hkd hB hY hA he
      have hB1 := hB.1
      dsimp only at hB1
      refine x_iload_n (pc := 246) C (dq D_Model_markText 140 rfl) rfl ?_
      refine x_bipush (pc := 247) C (dq D_Model_markText 141 rfl) cb_16 ?_
      refine n_ge_f (pc := 249) (tgt := 270) C (dq D_Model_markText 142 rfl) (by decide) (by omega) (by omega) ?_
      refine x_aload_n (pc := 252) C (dq D_Model_markText 143 rfl) rfl ?_
      refine x_get (pc := 253) (ci := 1) (j := 17) C (dq D_Model_markText 144 rfl) rfl rfl (by first | exact mo hP | exact ma hP rfl rfl) rfl k_fl_Model_43 ?_
      refine x_iload_n (pc := 256) C (dq D_Model_markText 145 rfl) rfl ?_
      refine x_aload_n (pc := 257) C (dq D_Model_markText 146 rfl) rfl ?_
      refine x_get (pc := 258) (ci := 1) (j := 11) C (dq D_Model_markText 147 rfl) rfl rfl (by first | exact mo hP | exact ma hP rfl rfl) rfl k_fl_Model_31 ?_
      refine x_iload_n (pc := 261) C (dq D_Model_markText 148 rfl) rfl ?_
      refine x_iald (pc := 262) C (dq D_Model_markText 149 rfl) (by first | exact mo hP | exact ma hP rfl rfl) (by (try simp only [List.length_set]); omega) ?_
      refine x_iast (pc := 263) C (dq D_Model_markText 150 rfl) (by first | exact mo hP | exact ma hP rfl rfl) (by (try simp only [List.length_set]); omega) ?_
      try rw [List.set_set]
      refine x_iinc (pc := 264) C (dq D_Model_markText 151 rfl) rfl (ii_1 _) rfl rfl ?_
      simp only [List.set_cons_zero, List.set_cons_succ]
      rw [mh_s hP rfl rfl]
      simp only [Nat.reduceSub, List.set_cons_zero, List.set_cons_succ]
      refine x_goto (pc := 267) (tgt := 246) C (dq D_Model_markText 152 rfl) (by decide) ?_
      exact ih (k + 1) B V Y (cp1 B k A) x l4 (by omega) hB hY (by rw [cp1_len]; exact hA) he
  -- the chain
  have chain : ∀ (d i : Nat) (B V A : List Nat) (x : Nat) (l4 : Option Value), 16 * i + 16 * d = mend nl → bm16 (B, V) → A.length = 16 → it (mch T W (mtt T W nl TX)) i d B = mmk T W nl TX → X g f M_Model_markText (0, 0) (fun o h' => o = .returned none ∧ ∃ B' M' T' : List Nat, bm16 (B', M') ∧ T'.length = 112 ∧ by8 T' ∧ h' = mh g P cd ni no nt nr nl [W, T, U, IN, OUT, IS, IB, B', M', ROW, T', mmk T W nl TX, SM, KP] S) (0, 0) 188 [some (.ref (zA (gz g) 44)), some (.int (nI x)), some (.int (nI (mend nl))), some (.int (nI (16 * i))), l4] [] (mh g P cd ni no nt nr nl [W, T, U, IN, OUT, IS, IB, B, V, ROW, (mtt T W nl TX), A, SM, KP] S) := by
    intro d
    induction d with
    | zero =>
      intro i B V A x l4 hid hB hA he
      have e0 : B = mmk T W nl TX := he
      refine x_iload_n (pc := 188) C (dq D_Model_markText 108 rfl) rfl ?_
      refine x_iload_n (pc := 189) C (dq D_Model_markText 109 rfl) rfl ?_
      refine n_ge_t (pc := 190) (tgt := 244) C (dq D_Model_markText 110 rfl) (by decide) (by omega) (by omega) ?_
      refine x_iconst (pc := 244) C (dq D_Model_markText 138 rfl) ci_0 ?_
      refine x_istore_n (i := 3) (pc := 245) C (dq D_Model_markText 139 rfl) rfl rfl rfl ?_
      simp only [List.set_cons_zero, List.set_cons_succ]
      exact copy 16 0 B V _ A x l4 rfl hB ⟨t1.trans hTX.1, t2⟩ hA (by rw [cp16 hB.1 hA]; exact e0)
    | succ d ih =>
      intro i B V A x l4 hid hB hA he
      have inner : ∀ (d2 k : Nat) (R : List Nat), k + d2 = 16 → R.length = 16 → by8 R → it (mxb (mtt T W nl TX) (16 * i)) k d2 R = it (mxb (mtt T W nl TX) (16 * i)) 0 16 B → X g f M_Model_markText (0, 0) (fun o h' => o = .returned none ∧ ∃ B' M' T' : List Nat, bm16 (B', M') ∧ T'.length = 112 ∧ by8 T' ∧ h' = mh g P cd ni no nt nr nl [W, T, U, IN, OUT, IS, IB, B', M', ROW, T', mmk T W nl TX, SM, KP] S) (0, 0) 196 [some (.ref (zA (gz g) 44)), some (.int (nI x)), some (.int (nI (mend nl))), some (.int (nI (16 * i))), some (.int (nI k))] [] (mh g P cd ni no nt nr nl [W, T, U, IN, OUT, IS, IB, R, V, ROW, (mtt T W nl TX), A, SM, KP] S) := by
        intro d2
        induction d2 with
        | zero =>
          intro k R hkd hR hR8 heR
          have e0 : R = it (mxb (mtt T W nl TX) (16 * i)) 0 16 B := heR
          refine x_iload (pc := 196) C (dq D_Model_markText 113 rfl) rfl ?_
          refine x_bipush (pc := 198) C (dq D_Model_markText 114 rfl) cb_16 ?_
          refine n_ge_t (pc := 200) (tgt := 233) C (dq D_Model_markText 115 rfl) (by decide) (by omega) (by omega) ?_
          refine x_aload_n (pc := 233) C (dq D_Model_markText 133 rfl) rfl ?_
          refine x_iconst (pc := 234) C (dq D_Model_markText 134 rfl) ci_0 ?_
          refine x_cV (pc := 235) (ci := 1) (M := M_Model_encipher) C (dq D_Model_markText 135 rfl) k_ml_Model_84 m_Model_encipher rfl rfl (mo hP) (c_enc hP hW hT hU ⟨hR, hR8, hB.2.2⟩ (by omega)) rfl rfl rfl rfl (by decide) (fun o h2 hp => ?_)
          obtain ⟨rfl, V2, hV2, rfl⟩ := hp
          refine ⟨none, rfl, ?_⟩
          rw [e0] at hV2 ⊢
          show X g f M_Model_markText (0, 0) (fun o h' => o = .returned none ∧ ∃ B' M' T' : List Nat, bm16 (B', M') ∧ T'.length = 112 ∧ by8 T' ∧ h' = mh g P cd ni no nt nr nl [W, T, U, IN, OUT, IS, IB, B', M', ROW, T', mmk T W nl TX, SM, KP] S) (0, 0) 238 [some (.ref (zA (gz g) 44)), some (.int (nI x)), some (.int (nI (mend nl))), some (.int (nI (16 * i))), some (.int (nI k))] [] (mh g P cd ni no nt nr nl [W, T, U, IN, OUT, IS, IB, (mch T W (mtt T W nl TX) i B), V2, ROW, (mtt T W nl TX), A, SM, KP] S)
          refine x_iinc (pc := 238) C (dq D_Model_markText 136 rfl) rfl (ii_16 _) rfl rfl ?_
          simp only [List.set_cons_zero, List.set_cons_succ]
          refine x_goto (pc := 241) (tgt := 188) C (dq D_Model_markText 137 rfl) (by decide) ?_
          exact ih (i + 1) (mch T W (mtt T W nl TX) i B) V2 A x _ (by omega) hV2 hA he
        | succ d2 ih2 =>
          intro k R hkd hR hR8 heR
          have hl : (mtt T W nl TX).length = 112 := t1.trans hTX.1
          refine x_iload (pc := 196) C (dq D_Model_markText 113 rfl) rfl ?_
          refine x_bipush (pc := 198) C (dq D_Model_markText 114 rfl) cb_16 ?_
          refine n_ge_f (pc := 200) (tgt := 233) C (dq D_Model_markText 115 rfl) (by decide) (by omega) (by omega) ?_
          refine x_aload_n (pc := 203) C (dq D_Model_markText 116 rfl) rfl ?_
          refine x_get (pc := 204) (ci := 1) (j := 11) C (dq D_Model_markText 117 rfl) rfl rfl (by first | exact mo hP | exact ma hP rfl rfl) rfl k_fl_Model_31 ?_
          refine x_iload (pc := 207) C (dq D_Model_markText 118 rfl) rfl ?_
          refine x_aload_n (pc := 209) C (dq D_Model_markText 119 rfl) rfl ?_
          refine x_get (pc := 210) (ci := 1) (j := 11) C (dq D_Model_markText 120 rfl) rfl rfl (by first | exact mo hP | exact ma hP rfl rfl) rfl k_fl_Model_31 ?_
          refine x_iload (pc := 213) C (dq D_Model_markText 121 rfl) rfl ?_
          refine x_iald (pc := 215) C (dq D_Model_markText 122 rfl) (by first | exact mo hP | exact ma hP rfl rfl) (by (try simp only [List.length_set]); omega) ?_
          refine x_aload_n (pc := 216) C (dq D_Model_markText 123 rfl) rfl ?_
          refine x_get (pc := 217) (ci := 1) (j := 16) C (dq D_Model_markText 124 rfl) rfl rfl (by first | exact mo hP | exact ma hP rfl rfl) rfl k_fl_Model_40 ?_
          refine x_iload_n (pc := 220) C (dq D_Model_markText 125 rfl) rfl ?_
          refine x_iload (pc := 221) C (dq D_Model_markText 126 rfl) rfl ?_
          refine n_iadd (pc := 223) C (dq D_Model_markText 127 rfl) ?_
          refine x_iald (pc := 224) C (dq D_Model_markText 128 rfl) (by first | exact mo hP | exact ma hP rfl rfl) (by (try simp only [List.length_set]); omega) ?_
          refine n_ixor (pc := 225) C (dq D_Model_markText 129 rfl) ?_
          refine x_iast (pc := 226) C (dq D_Model_markText 130 rfl) (by first | exact mo hP | exact ma hP rfl rfl) (by (try simp only [List.length_set]); omega) ?_
          try rw [List.set_set]
          refine x_iinc (pc := 227) C (dq D_Model_markText 131 rfl) rfl (ii_1 _) rfl rfl ?_
          simp only [List.set_cons_zero, List.set_cons_succ]
          rw [mh_s hP rfl rfl]
          simp only [Nat.reduceSub, List.set_cons_zero, List.set_cons_succ]
          refine x_goto (pc := 230) (tgt := 196) C (dq D_Model_markText 132 rfl) (by decide) ?_
          exact ih2 (k + 1) (mxb (mtt T W nl TX) (16 * i) k R) (by omega) (by rw [mxb_len]; exact hR) (hR8.set (xor8 (hR8.at _) (t2.at _))) heR
      refine x_iload_n (pc := 188) C (dq D_Model_markText 108 rfl) rfl ?_
      refine x_iload_n (pc := 189) C (dq D_Model_markText 109 rfl) rfl ?_
      refine n_ge_f (pc := 190) (tgt := 244) C (dq D_Model_markText 110 rfl) (by decide) (by omega) (by omega) ?_
      refine x_iconst (pc := 193) C (dq D_Model_markText 111 rfl) ci_0 ?_
      refine x_istore (i := 4) (pc := 194) C (dq D_Model_markText 112 rfl) rfl rfl rfl ?_
      simp only [List.set_cons_zero, List.set_cons_succ]
      exact inner 16 0 B rfl hB.1 hB.2.1 rfl
  -- the block cleared once more
  have clear2 : ∀ (d k : Nat) (B V A : List Nat) (x : Nat) (l4 : Option Value), k + d = 16 → B.length = 16 → V.length = 16 → by8 V → A.length = 16 → it (fls 0) k d B = z16 → X g f M_Model_markText (0, 0) (fun o h' => o = .returned none ∧ ∃ B' M' T' : List Nat, bm16 (B', M') ∧ T'.length = 112 ∧ by8 T' ∧ h' = mh g P cd ni no nt nr nl [W, T, U, IN, OUT, IS, IB, B', M', ROW, T', mmk T W nl TX, SM, KP] S) (0, 0) 167 [some (.ref (zA (gz g) 44)), some (.int (nI x)), some (.int (nI (mend nl))), some (.int (nI k)), l4] [] (mh g P cd ni no nt nr nl [W, T, U, IN, OUT, IS, IB, B, V, ROW, (mtt T W nl TX), A, SM, KP] S) := by
    intro d
    induction d with
    | zero =>
      intro k B V A x l4 hkd hB hV hV8 hA he
      obtain rfl : B = z16 := he
      refine x_iload_n (pc := 167) C (dq D_Model_markText 96 rfl) rfl ?_
      refine x_bipush (pc := 168) C (dq D_Model_markText 97 rfl) cb_16 ?_
      refine n_ge_t (pc := 170) (tgt := 186) C (dq D_Model_markText 98 rfl) (by decide) (by omega) (by omega) ?_
      refine x_iconst (pc := 186) C (dq D_Model_markText 106 rfl) ci_0 ?_
      refine x_istore_n (i := 3) (pc := 187) C (dq D_Model_markText 107 rfl) rfl rfl rfl ?_
      simp only [List.set_cons_zero, List.set_cons_succ]
      exact chain (mend nl / 16) 0 z16 V A x l4 (by omega) ⟨rfl, z16_8, hV, hV8⟩ hA rfl
    | succ d ih =>
      intro k B V A x l4 hkd hB hV hV8 hA he
      refine x_iload_n (pc := 167) C (dq D_Model_markText 96 rfl) rfl ?_
      refine x_bipush (pc := 168) C (dq D_Model_markText 97 rfl) cb_16 ?_
      refine n_ge_f (pc := 170) (tgt := 186) C (dq D_Model_markText 98 rfl) (by decide) (by omega) (by omega) ?_
      refine x_aload_n (pc := 173) C (dq D_Model_markText 99 rfl) rfl ?_
      refine x_get (pc := 174) (ci := 1) (j := 11) C (dq D_Model_markText 100 rfl) rfl rfl (by first | exact mo hP | exact ma hP rfl rfl) rfl k_fl_Model_31 ?_
      refine x_iload_n (pc := 177) C (dq D_Model_markText 101 rfl) rfl ?_
      refine x_iconst (pc := 178) C (dq D_Model_markText 102 rfl) ci_0 ?_
      refine x_iast (pc := 179) C (dq D_Model_markText 103 rfl) (by first | exact mo hP | exact ma hP rfl rfl) (by (try simp only [List.length_set]); omega) ?_
      try rw [List.set_set]
      refine x_iinc (pc := 180) C (dq D_Model_markText 104 rfl) rfl (ii_1 _) rfl rfl ?_
      simp only [List.set_cons_zero, List.set_cons_succ]
      rw [mh_s hP rfl rfl]
      simp only [Nat.reduceSub, List.set_cons_zero, List.set_cons_succ]
      refine x_goto (pc := 183) (tgt := 167) C (dq D_Model_markText 105 rfl) (by decide) ?_
      exact ih (k + 1) (fls 0 k B) V A x l4 (by omega) (by rw [fls_len]; exact hB) hV hV8 hA he
  -- the twist over the text
  have twist : ∀ (d k : Nat) (V Y A : List Nat) (x : Nat) (l4 : Option Value), k + d = 16 → V.length = 16 → by8 V → Y.length = 112 → A.length = 16 → it (mxt (mtw T W nl) (mend nl)) k d Y = mtt T W nl TX → X g f M_Model_markText (0, 0) (fun o h' => o = .returned none ∧ ∃ B' M' T' : List Nat, bm16 (B', M') ∧ T'.length = 112 ∧ by8 T' ∧ h' = mh g P cd ni no nt nr nl [W, T, U, IN, OUT, IS, IB, B', M', ROW, T', mmk T W nl TX, SM, KP] S) (0, 0) 124 [some (.ref (zA (gz g) 44)), some (.int (nI x)), some (.int (nI (mend nl))), some (.int (nI k)), l4] [] (mh g P cd ni no nt nr nl [W, T, U, IN, OUT, IS, IB, (mtw T W nl), V, ROW, Y, A, SM, KP] S) := by
    intro d
    induction d with
    | zero =>
      intro k V Y A x l4 hkd hV hV8 hY hA he
      obtain rfl : Y = mtt T W nl TX := he
      refine x_iload_n (pc := 124) C (dq D_Model_markText 68 rfl) rfl ?_
      refine x_bipush (pc := 125) C (dq D_Model_markText 69 rfl) cb_16 ?_
      refine n_ge_t (pc := 127) (tgt := 165) C (dq D_Model_markText 70 rfl) (by decide) (by omega) (by omega) ?_
      refine x_iconst (pc := 165) C (dq D_Model_markText 94 rfl) ci_0 ?_
      refine x_istore_n (i := 3) (pc := 166) C (dq D_Model_markText 95 rfl) rfl rfl rfl ?_
      simp only [List.set_cons_zero, List.set_cons_succ]
      exact clear2 16 0 _ V A x l4 rfl k1 hV hV8 hA (fls16 k1)
    | succ d ih =>
      intro k V Y A x l4 hkd hV hV8 hY hA he
      refine x_iload_n (pc := 124) C (dq D_Model_markText 68 rfl) rfl ?_
      refine x_bipush (pc := 125) C (dq D_Model_markText 69 rfl) cb_16 ?_
      refine n_ge_f (pc := 127) (tgt := 165) C (dq D_Model_markText 70 rfl) (by decide) (by omega) (by omega) ?_
      refine x_aload_n (pc := 130) C (dq D_Model_markText 71 rfl) rfl ?_
      refine x_get (pc := 131) (ci := 1) (j := 16) C (dq D_Model_markText 72 rfl) rfl rfl (by first | exact mo hP | exact ma hP rfl rfl) rfl k_fl_Model_40 ?_
      refine x_iload_n (pc := 134) C (dq D_Model_markText 73 rfl) rfl ?_
      refine x_bipush (pc := 135) C (dq D_Model_markText 74 rfl) cb_16 ?_
      refine n_isub (pc := 137) C (dq D_Model_markText 75 rfl) (by omega) ?_
      refine x_iload_n (pc := 138) C (dq D_Model_markText 76 rfl) rfl ?_
      refine n_iadd (pc := 139) C (dq D_Model_markText 77 rfl) ?_
      refine x_aload_n (pc := 140) C (dq D_Model_markText 78 rfl) rfl ?_
      refine x_get (pc := 141) (ci := 1) (j := 16) C (dq D_Model_markText 79 rfl) rfl rfl (by first | exact mo hP | exact ma hP rfl rfl) rfl k_fl_Model_40 ?_
      refine x_iload_n (pc := 144) C (dq D_Model_markText 80 rfl) rfl ?_
      refine x_bipush (pc := 145) C (dq D_Model_markText 81 rfl) cb_16 ?_
      refine n_isub (pc := 147) C (dq D_Model_markText 82 rfl) (by omega) ?_
      refine x_iload_n (pc := 148) C (dq D_Model_markText 83 rfl) rfl ?_
      refine n_iadd (pc := 149) C (dq D_Model_markText 84 rfl) ?_
      refine x_iald (pc := 150) C (dq D_Model_markText 85 rfl) (by first | exact mo hP | exact ma hP rfl rfl) (by (try simp only [List.length_set]); omega) ?_
      refine x_aload_n (pc := 151) C (dq D_Model_markText 86 rfl) rfl ?_
      refine x_get (pc := 152) (ci := 1) (j := 11) C (dq D_Model_markText 87 rfl) rfl rfl (by first | exact mo hP | exact ma hP rfl rfl) rfl k_fl_Model_31 ?_
      refine x_iload_n (pc := 155) C (dq D_Model_markText 88 rfl) rfl ?_
      refine x_iald (pc := 156) C (dq D_Model_markText 89 rfl) (by first | exact mo hP | exact ma hP rfl rfl) (by (try simp only [List.length_set]); omega) ?_
      refine n_ixor (pc := 157) C (dq D_Model_markText 90 rfl) ?_
      refine x_iast (pc := 158) C (dq D_Model_markText 91 rfl) (by first | exact mo hP | exact ma hP rfl rfl) (by (try simp only [List.length_set]); omega) ?_
      try rw [List.set_set]
      refine x_iinc (pc := 159) C (dq D_Model_markText 92 rfl) rfl (ii_1 _) rfl rfl ?_
      simp only [List.set_cons_zero, List.set_cons_succ]
      rw [mh_s hP rfl rfl]
      simp only [Nat.reduceSub, List.set_cons_zero, List.set_cons_succ]
      refine x_goto (pc := 162) (tgt := 124) C (dq D_Model_markText 93 rfl) (by decide) ?_
      exact ih (k + 1) V (mxt (mtw T W nl) (mend nl) k Y) A x l4 (by omega) hV hV8 (by rw [mxt_len]; exact hY) hA he
  -- the block cleared, turned, doubled
  have clear1 : ∀ (d k : Nat) (B V A : List Nat) (l4 : Option Value), k + d = 16 → B.length = 16 → V.length = 16 → by8 V → A.length = 16 → it (fls 0) k d B = z16 → X g f M_Model_markText (0, 0) (fun o h' => o = .returned none ∧ ∃ B' M' T' : List Nat, bm16 (B', M') ∧ T'.length = 112 ∧ by8 T' ∧ h' = mh g P cd ni no nt nr nl [W, T, U, IN, OUT, IS, IB, B', M', ROW, T', mmk T W nl TX, SM, KP] S) (0, 0) 86 [some (.ref (zA (gz g) 44)), some (.int (nI (if wle nl then 1 else 0))), some (.int (nI (mend nl))), some (.int (nI k)), l4] [] (mh g P cd ni no nt nr nl [W, T, U, IN, OUT, IS, IB, B, V, ROW, (it (mpd nl) nl (mend nl - nl) TX), A, SM, KP] S) := by
    intro d
    induction d with
    | zero =>
      intro k B V A l4 hkd hB hV hV8 hA he
      obtain rfl : B = z16 := he
      have ez := enc_ok hT.2 W 0 (B := z16) rfl z16_8
      have hpl : (it (mpd nl) nl (mend nl - nl) TX).length = 112 := by rw [it_len (mpd_len nl)]; exact hTX.1
      refine x_iload_n (pc := 86) C (dq D_Model_markText 47 rfl) rfl ?_
      refine x_bipush (pc := 87) C (dq D_Model_markText 48 rfl) cb_16 ?_
      refine n_ge_t (pc := 89) (tgt := 105) C (dq D_Model_markText 49 rfl) (by decide) (by omega) (by omega) ?_
      refine x_aload_n (pc := 105) C (dq D_Model_markText 57 rfl) rfl ?_
      refine x_iconst (pc := 106) C (dq D_Model_markText 58 rfl) ci_0 ?_
      refine x_cV (pc := 107) (ci := 1) (M := M_Model_encipher) C (dq D_Model_markText 59 rfl) k_ml_Model_84 m_Model_encipher rfl rfl (mo hP) (c_enc hP hW hT hU ⟨rfl, z16_8, hV, hV8⟩ (by omega)) rfl rfl rfl rfl (by decide) (fun o h2 hp => ?_)
      obtain ⟨rfl, V2, hV2, rfl⟩ := hp
      refine ⟨none, rfl, ?_⟩
      show X g f M_Model_markText (0, 0) (fun o h' => o = .returned none ∧ ∃ B' M' T' : List Nat, bm16 (B', M') ∧ T'.length = 112 ∧ by8 T' ∧ h' = mh g P cd ni no nt nr nl [W, T, U, IN, OUT, IS, IB, B', M', ROW, T', mmk T W nl TX, SM, KP] S) (0, 0) 110 [some (.ref (zA (gz g) 44)), some (.int (nI (if wle nl then 1 else 0))), some (.int (nI (mend nl))), some (.int (nI k)), l4] [] (mh g P cd ni no nt nr nl [W, T, U, IN, OUT, IS, IB, (enc T W 0 z16), V2, ROW, (it (mpd nl) nl (mend nl - nl) TX), A, SM, KP] S)
      refine x_aload_n (pc := 110) C (dq D_Model_markText 60 rfl) rfl ?_
      refine x_cV0 (pc := 111) (ci := 1) (M := M_Model_doubleBlock) C (dq D_Model_markText 61 rfl) k_ml_Model_88 m_Model_doubleBlock rfl rfl (mo hP) (cm_doubleBlock (mo hP) (ma hP rfl rfl) ez.1 ez.2) rfl rfl rfl rfl (by decide) ?_
      rw [mh_s hP rfl rfl]
      simp only [Nat.reduceSub, List.set_cons_zero, List.set_cons_succ]
      by_cases hw : wle nl = true
      · have ek : mtw T W nl = mdb (enc T W 0 z16) := by unfold mtw; rw [if_pos hw]
        rw [if_pos hw, ← ek]
        refine x_iload_n (pc := 114) C (dq D_Model_markText 62 rfl) rfl ?_
        refine n_ifne_t (pc := 115) (tgt := 122) C (dq D_Model_markText 63 rfl) (by decide) (by omega) (by omega) ?_
        refine x_iconst (pc := 122) C (dq D_Model_markText 66 rfl) ci_0 ?_
        refine x_istore_n (i := 3) (pc := 123) C (dq D_Model_markText 67 rfl) rfl rfl rfl ?_
        simp only [List.set_cons_zero, List.set_cons_succ]
        exact twist 16 0 V2 _ A 1 l4 rfl hV2.2.2.1 hV2.2.2.2 hpl hA rfl
      · have ek : mtw T W nl = mdb (mdb (enc T W 0 z16)) := by unfold mtw; rw [if_neg hw]
        rw [if_neg hw]
        refine x_iload_n (pc := 114) C (dq D_Model_markText 62 rfl) rfl ?_
        refine n_ifne_f (pc := 115) (tgt := 122) C (dq D_Model_markText 63 rfl) (by decide) (by omega) (by omega) ?_
        refine x_aload_n (pc := 118) C (dq D_Model_markText 64 rfl) rfl ?_
        refine x_cV0 (pc := 119) (ci := 1) (M := M_Model_doubleBlock) C (dq D_Model_markText 65 rfl) k_ml_Model_88 m_Model_doubleBlock rfl rfl (mo hP) (cm_doubleBlock (mo hP) (ma hP rfl rfl) (by rw [mdb_len]; exact ez.1) (mdb8 ez.2)) rfl rfl rfl rfl (by decide) ?_
        rw [mh_s hP rfl rfl]
        simp only [Nat.reduceSub, List.set_cons_zero, List.set_cons_succ]
        rw [← ek]
        refine x_iconst (pc := 122) C (dq D_Model_markText 66 rfl) ci_0 ?_
        refine x_istore_n (i := 3) (pc := 123) C (dq D_Model_markText 67 rfl) rfl rfl rfl ?_
        simp only [List.set_cons_zero, List.set_cons_succ]
        exact twist 16 0 V2 _ A 0 l4 rfl hV2.2.2.1 hV2.2.2.2 hpl hA rfl
    | succ d ih =>
      intro k B V A l4 hkd hB hV hV8 hA he
      refine x_iload_n (pc := 86) C (dq D_Model_markText 47 rfl) rfl ?_
      refine x_bipush (pc := 87) C (dq D_Model_markText 48 rfl) cb_16 ?_
      refine n_ge_f (pc := 89) (tgt := 105) C (dq D_Model_markText 49 rfl) (by decide) (by omega) (by omega) ?_
      refine x_aload_n (pc := 92) C (dq D_Model_markText 50 rfl) rfl ?_
      refine x_get (pc := 93) (ci := 1) (j := 11) C (dq D_Model_markText 51 rfl) rfl rfl (by first | exact mo hP | exact ma hP rfl rfl) rfl k_fl_Model_31 ?_
      refine x_iload_n (pc := 96) C (dq D_Model_markText 52 rfl) rfl ?_
      refine x_iconst (pc := 97) C (dq D_Model_markText 53 rfl) ci_0 ?_
      refine x_iast (pc := 98) C (dq D_Model_markText 54 rfl) (by first | exact mo hP | exact ma hP rfl rfl) (by (try simp only [List.length_set]); omega) ?_
      try rw [List.set_set]
      refine x_iinc (pc := 99) C (dq D_Model_markText 55 rfl) rfl (ii_1 _) rfl rfl ?_
      simp only [List.set_cons_zero, List.set_cons_succ]
      rw [mh_s hP rfl rfl]
      simp only [Nat.reduceSub, List.set_cons_zero, List.set_cons_succ]
      refine x_goto (pc := 102) (tgt := 86) C (dq D_Model_markText 56 rfl) (by decide) ?_
      exact ih (k + 1) (fls 0 k B) V A l4 (by omega) (by rw [fls_len]; exact hB) hV hV8 hA he
  -- the padding
  have pad : ∀ (d k : Nat) (Y : List Nat) (l4 : Option Value), k + d = mend nl → Y.length = 112 → it (mpd nl) k d Y = it (mpd nl) nl (mend nl - nl) TX → X g f M_Model_markText (0, 0) (fun o h' => o = .returned none ∧ ∃ B' M' T' : List Nat, bm16 (B', M') ∧ T'.length = 112 ∧ by8 T' ∧ h' = mh g P cd ni no nt nr nl [W, T, U, IN, OUT, IS, IB, B', M', ROW, T', mmk T W nl TX, SM, KP] S) (0, 0) 52 [some (.ref (zA (gz g) 44)), some (.int (nI (if wle nl then 1 else 0))), some (.int (nI (mend nl))), some (.int (nI k)), l4] [] (mh g P cd ni no nt nr nl [W, T, U, IN, OUT, IS, IB, BL, MV, ROW, Y, MA, SM, KP] S) := by
    intro d
    induction d with
    | zero =>
      intro k Y l4 hkd hY he
      obtain rfl : Y = it (mpd nl) nl (mend nl - nl) TX := he
      refine x_iload_n (pc := 52) C (dq D_Model_markText 29 rfl) rfl ?_
      refine x_iload_n (pc := 53) C (dq D_Model_markText 30 rfl) rfl ?_
      refine n_ge_t (pc := 54) (tgt := 84) C (dq D_Model_markText 31 rfl) (by decide) (by omega) (by omega) ?_
      refine x_iconst (pc := 84) C (dq D_Model_markText 45 rfl) ci_0 ?_
      refine x_istore_n (i := 3) (pc := 85) C (dq D_Model_markText 46 rfl) rfl rfl rfl ?_
      simp only [List.set_cons_zero, List.set_cons_succ]
      exact clear1 16 0 BL MV MA l4 rfl hb.1 hb.2.2.1 hb.2.2.2 hMA (fls16 hb.1)
    | succ d ih =>
      intro k Y l4 hkd hY he
      have fin : ∀ v : Nat, v = (if k = nl then 128 else 0) → X g f M_Model_markText (0, 0) (fun o h' => o = .returned none ∧ ∃ B' M' T' : List Nat, bm16 (B', M') ∧ T'.length = 112 ∧ by8 T' ∧ h' = mh g P cd ni no nt nr nl [W, T, U, IN, OUT, IS, IB, B', M', ROW, T', mmk T W nl TX, SM, KP] S) (0, 0) 77 [some (.ref (zA (gz g) 44)), some (.int (nI (if wle nl then 1 else 0))), some (.int (nI (mend nl))), some (.int (nI k)), l4] [.int (nI v), .int (nI k), .ref (zA (gz g) 55)] (mh g P cd ni no nt nr nl [W, T, U, IN, OUT, IS, IB, BL, MV, ROW, Y, MA, SM, KP] S) := by
        intro v hv
        refine x_iast (pc := 77) C (dq D_Model_markText 42 rfl) (ma hP rfl rfl) (by (try simp only [List.length_set]); omega) ?_
        try rw [List.set_set]
        rw [mh_s hP rfl rfl]
        simp only [Nat.reduceSub, List.set_cons_zero, List.set_cons_succ]
        refine x_iinc (pc := 78) C (dq D_Model_markText 43 rfl) rfl (ii_1 _) rfl rfl ?_
        simp only [List.set_cons_zero, List.set_cons_succ]
        refine x_goto (pc := 81) (tgt := 52) C (dq D_Model_markText 44 rfl) (by decide) ?_
        refine ih (k + 1) (Y.set k v) l4 (by omega) (by rw [List.length_set]; exact hY) ?_
        rw [hv]
        exact he
      refine x_iload_n (pc := 52) C (dq D_Model_markText 29 rfl) rfl ?_
      refine x_iload_n (pc := 53) C (dq D_Model_markText 30 rfl) rfl ?_
      refine n_ge_f (pc := 54) (tgt := 84) C (dq D_Model_markText 31 rfl) (by decide) (by omega) (by omega) ?_
      refine x_aload_n (pc := 57) C (dq D_Model_markText 32 rfl) rfl ?_
      refine x_get (pc := 58) (ci := 1) (j := 16) C (dq D_Model_markText 33 rfl) rfl rfl (mo hP) rfl k_fl_Model_40 ?_
      refine x_iload_n (pc := 61) C (dq D_Model_markText 34 rfl) rfl ?_
      refine x_iload_n (pc := 62) C (dq D_Model_markText 35 rfl) rfl ?_
      refine x_aload_n (pc := 63) C (dq D_Model_markText 36 rfl) rfl ?_
      refine x_get (pc := 64) (ci := 1) (j := 15) C (dq D_Model_markText 37 rfl) rfl rfl (mo hP) rfl k_fl_Model_81 ?_
      refine n_ne (pc := 67) (tgt := 76) C (dq D_Model_markText 38 rfl) (by decide) (by omega) (fun hq => ?_) (fun hq => ?_)
      · rw [if_neg hq] at fin
        refine x_iconst (pc := 76) C (dq D_Model_markText 41 rfl) ci_0 ?_
        exact fin 0 rfl
      · rw [if_pos hq] at fin
        refine x_sipush (pc := 70) C (dq D_Model_markText 39 rfl) cs_128 ?_
        refine x_goto (pc := 73) (tgt := 77) C (dq D_Model_markText 40 rfl) (by decide) ?_
        exact fin 128 rfl
  -- the beginning
  have start : ∀ x : Nat, x = (if wle nl then 1 else 0) → X g f M_Model_markText (0, 0) (fun o h' => o = .returned none ∧ ∃ B' M' T' : List Nat, bm16 (B', M') ∧ T'.length = 112 ∧ by8 T' ∧ h' = mh g P cd ni no nt nr nl [W, T, U, IN, OUT, IS, IB, B', M', ROW, T', mmk T W nl TX, SM, KP] S) (0, 0) 22 [some (.ref (zA (gz g) 44)), none, none, none, none] [.int (nI x)] (mh g P cd ni no nt nr nl [W, T, U, IN, OUT, IS, IB, BL, MV, ROW, TX, MA, SM, KP] S) := by
    intro x hx
    by_cases hw : wle nl = true
    · rw [if_pos hw] at hx pad
      subst hx
      have em : mend nl = nl := by unfold mend; rw [if_pos hw]
      refine x_istore_n (i := 1) (pc := 22) C (dq D_Model_markText 11 rfl) rfl rfl rfl ?_
      simp only [List.set_cons_zero, List.set_cons_succ]
      refine x_iload_n (pc := 23) C (dq D_Model_markText 12 rfl) rfl ?_
      refine n_ifeq_f (pc := 24) (tgt := 34) C (dq D_Model_markText 13 rfl) (by decide) (by omega) (by omega) ?_
      refine x_aload_n (pc := 27) C (dq D_Model_markText 14 rfl) rfl ?_
      refine x_get (pc := 28) (ci := 1) (j := 15) C (dq D_Model_markText 15 rfl) rfl rfl (mo hP) rfl k_fl_Model_81 ?_
      refine x_goto (pc := 31) (tgt := 46) C (dq D_Model_markText 16 rfl) (by decide) ?_
      rw [em] at pad
      refine x_istore_n (i := 2) (pc := 46) C (dq D_Model_markText 25 rfl) rfl rfl rfl ?_
      simp only [List.set_cons_zero, List.set_cons_succ]
      refine x_aload_n (pc := 47) C (dq D_Model_markText 26 rfl) rfl ?_
      refine x_get (pc := 48) (ci := 1) (j := 15) C (dq D_Model_markText 27 rfl) rfl rfl (mo hP) rfl k_fl_Model_81 ?_
      refine x_istore_n (i := 3) (pc := 51) C (dq D_Model_markText 28 rfl) rfl rfl rfl ?_
      simp only [List.set_cons_zero, List.set_cons_succ]
      exact pad 0 nl TX none (by omega) hTX.1 (by rw [Nat.sub_self])
    · rw [if_neg hw] at hx pad
      subst hx
      have em : mend nl = (nl / 16 + 1) * 16 := by unfold mend; rw [if_neg hw]
      refine x_istore_n (i := 1) (pc := 22) C (dq D_Model_markText 11 rfl) rfl rfl rfl ?_
      simp only [List.set_cons_zero, List.set_cons_succ]
      refine x_iload_n (pc := 23) C (dq D_Model_markText 12 rfl) rfl ?_
      refine n_ifeq_t (pc := 24) (tgt := 34) C (dq D_Model_markText 13 rfl) (by decide) (by omega) (by omega) ?_
      refine x_aload_n (pc := 34) C (dq D_Model_markText 17 rfl) rfl ?_
      refine x_get (pc := 35) (ci := 1) (j := 15) C (dq D_Model_markText 18 rfl) rfl rfl (mo hP) rfl k_fl_Model_81 ?_
      refine x_bipush (pc := 38) C (dq D_Model_markText 19 rfl) cb_16 ?_
      refine n_idiv (pc := 40) C (dq D_Model_markText 20 rfl) (by omega) (by omega) (by omega) ?_
      refine x_iconst (pc := 41) C (dq D_Model_markText 21 rfl) ci_1 ?_
      refine n_iadd (pc := 42) C (dq D_Model_markText 22 rfl) ?_
      refine x_bipush (pc := 43) C (dq D_Model_markText 23 rfl) cb_16 ?_
      refine n_imul (pc := 45) C (dq D_Model_markText 24 rfl) ?_
      rw [em] at pad e1
      refine x_istore_n (i := 2) (pc := 46) C (dq D_Model_markText 25 rfl) rfl rfl rfl ?_
      simp only [List.set_cons_zero, List.set_cons_succ]
      refine x_aload_n (pc := 47) C (dq D_Model_markText 26 rfl) rfl ?_
      refine x_get (pc := 48) (ci := 1) (j := 15) C (dq D_Model_markText 27 rfl) rfl rfl (mo hP) rfl k_fl_Model_81 ?_
      refine x_istore_n (i := 3) (pc := 51) C (dq D_Model_markText 28 rfl) rfl rfl rfl ?_
      simp only [List.set_cons_zero, List.set_cons_succ]
      exact pad ((nl / 16 + 1) * 16 - nl) nl TX none (by omega) hTX.1 rfl
  refine x_aload_n (pc := 0) C (dq D_Model_markText 0 rfl) rfl ?_
  refine x_get (pc := 1) (ci := 1) (j := 15) C (dq D_Model_markText 1 rfl) rfl rfl (mo hP) rfl k_fl_Model_81 ?_
  refine n_ifle (pc := 4) (tgt := 21) C (dq D_Model_markText 2 rfl) (by decide) (by omega) (fun hq => ?_) (fun hq => ?_)
  · refine x_iconst (pc := 21) C (dq D_Model_markText 10 rfl) ci_0 ?_
    exact start 0 (by rw [if_neg]; unfold wle; simp; omega)
  · refine x_aload_n (pc := 7) C (dq D_Model_markText 3 rfl) rfl ?_
    refine x_get (pc := 8) (ci := 1) (j := 15) C (dq D_Model_markText 4 rfl) rfl rfl (mo hP) rfl k_fl_Model_81 ?_
    refine x_bipush (pc := 11) C (dq D_Model_markText 5 rfl) cb_16 ?_
    refine n_irem (pc := 13) C (dq D_Model_markText 6 rfl) (by omega) (by omega) (by omega) ?_
    refine n_ifne (pc := 14) (tgt := 21) C (dq D_Model_markText 7 rfl) (by decide) (by omega) (fun hq => ?_) (fun hq => ?_)
    · refine x_iconst (pc := 21) C (dq D_Model_markText 10 rfl) ci_0 ?_
      exact start 0 (by rw [if_neg]; unfold wle; simp; omega)
    · refine x_iconst (pc := 17) C (dq D_Model_markText 8 rfl) ci_1 ?_
      refine x_goto (pc := 18) (tgt := 22) C (dq D_Model_markText 9 rfl) (by decide) ?_
      exact start 1 (by rw [if_pos]; unfold wle; simp; omega)
end
section
/-! What a loop does depends on what it reads: messages as lists. -/
theorem it_zero {α : Type} (f : Nat → α → α) (k : Nat) (s : α) : it f k 0 s = s := rfl
theorem it_succ {α : Type} (f : Nat → α → α) (k n : Nat) (s : α) : it f k (n + 1) s = it f (k + 1) n (f k s) := rfl
theorem it_congr {α : Type} {f f' : Nat → α → α} : ∀ (n k : Nat) (s : α), (∀ j s, k ≤ j → j < k + n → f j s = f' j s) → it f k n s = it f' k n s
  | 0, _, _, _ => rfl
  | n + 1, k, s, h => by
    show it f (k + 1) n (f k s) = it f' (k + 1) n (f' k s)
    rw [h k s (by omega) (by omega)]
    exact it_congr n (k + 1) _ (fun j s h1 h2 => h j s (by omega) (by omega))
theorem it_hom {α β : Type} {f : Nat → α → α} {f' : Nat → β → β} (φ : α → β) (I : α → Prop) : ∀ (n k : Nat) (s : α), (∀ j s, k ≤ j → j < k + n → I s → I (f j s) ∧ φ (f j s) = f' j (φ s)) → I s → φ (it f k n s) = it f' k n (φ s)
  | 0, _, _, _, _ => rfl
  | n + 1, k, s, h, hI => by
    obtain ⟨h1, h2⟩ := h k s (by omega) (by omega) hI
    show φ (it f (k + 1) n (f k s)) = it f' (k + 1) n (f' k (φ s))
    rw [← h2]
    exact it_hom φ I n (k + 1) _ (fun j s h1 h2 => h j s (by omega) (by omega)) h1
theorem gd_take {A : List Nat} {n j : Nat} (h : j < n) : (A.take n).getD j 0 = A.getD j 0 := by
  rw [List.getD_eq_getElem?_getD, List.getD_eq_getElem?_getD, List.getElem?_take_of_lt h]
theorem gd_set {A : List Nat} {j k v : Nat} : (A.set k v).getD j 0 = if k = j ∧ k < A.length then v else A.getD j 0 := by
  rw [List.getD_eq_getElem?_getD, List.getD_eq_getElem?_getD, List.getElem?_set]
  by_cases h : k = j
  · subst h
    by_cases h2 : k < A.length
    · simp [h2]
    · simp [h2]
  · simp [h]
theorem gd_ext {A B : List Nat} (hl : A.length = B.length) (h : ∀ j, j < A.length → A.getD j 0 = B.getD j 0) : A = B := by
  apply List.ext_getElem hl
  intro i h1 h2
  have := h i h1
  rw [List.getD_eq_getElem?_getD, List.getD_eq_getElem?_getD, List.getElem?_eq_getElem h1, List.getElem?_eq_getElem h2] at this
  exact this
theorem gd_take2 {A B : List Nat} {n : Nat} (h1 : n ≤ A.length) (h2 : n ≤ B.length) : (∀ j, j < n → A.getD j 0 = B.getD j 0) ↔ A.take n = B.take n := by
  constructor
  · intro h
    refine gd_ext (by rw [List.length_take, List.length_take]; omega) (fun j hj => ?_)
    rw [List.length_take] at hj
    rw [gd_take (by omega), gd_take (by omega)]
    exact h j (by omega)
  · intro h j hj
    rw [← gd_take hj, ← gd_take (A := B) hj, h]
/-- two texts agree up to e -/
def agr (e : Nat) (A B : List Nat) : Prop := A.length = B.length ∧ ∀ j, j < e → A.getD j 0 = B.getD j 0
theorem agr.set {e k v w : Nat} {A B : List Nat} (h : agr e A B) (hv : v = w) : agr e (A.set k v) (B.set k w) := by
  refine ⟨by rw [List.length_set, List.length_set]; exact h.1, fun j hj => ?_⟩
  rw [gd_set, gd_set, h.1, hv, h.2 j hj]
theorem agr.more {k v : Nat} {A B : List Nat} (h : agr k A B) (hk : k < A.length) : agr (k + 1) (A.set k v) (B.set k v) := by
  refine ⟨by rw [List.length_set, List.length_set]; exact h.1, fun j hj => ?_⟩
  rw [gd_set, gd_set, ← h.1]
  by_cases e : k = j
  · rw [if_pos ⟨e, hk⟩, if_pos ⟨e, hk⟩]
  · rw [if_neg (fun z => e z.1), if_neg (fun z => e z.1)]
    exact h.2 j (by omega)
theorem mpd_agr (n : Nat) : ∀ (d k : Nat) (A B : List Nat), agr k A B → k + d ≤ A.length → agr (k + d) (it (mpd n) k d A) (it (mpd n) k d B)
  | 0, _, _, _, h, _ => h
  | d + 1, k, A, B, h, hl => by
    rw [show k + (d + 1) = k + 1 + d by omega]
    exact mpd_agr n d (k + 1) _ _ (h.more (by omega)) (by rw [mpd_len]; omega)
theorem mxt_agr (K : List Nat) (e : Nat) (he : 16 ≤ e) : ∀ (d k : Nat) (A B : List Nat), k + d ≤ 16 → agr e A B → agr e (it (mxt K e) k d A) (it (mxt K e) k d B)
  | 0, _, _, _, _, h => h
  | d + 1, k, A, B, hk, h => mxt_agr K e he d (k + 1) _ _ (by omega) (h.set (by rw [h.2 _ (by omega)]))
theorem mmk_agr {T W : List Nat} {n : Nat} {A B : List Nat} (h : agr n A B) (hl : mend n ≤ A.length) : mmk T W n A = mmk T W n B := by
  obtain ⟨e1, e2, e3, e4⟩ := mend_ok n
  have h1 := mpd_agr n (mend n - n) n A B h (by omega)
  rw [show n + (mend n - n) = mend n by omega] at h1
  have h2 := mxt_agr (mtw T W n) (mend n) e2 16 0 _ _ (by omega) h1
  unfold mmk
  refine it_congr _ _ _ (fun j s _ hj => ?_)
  refine congrArg (enc T W 0) (it_congr 16 0 s (fun k s _ hk => ?_))
  have h3 := h2.2 (16 * j + k) (by omega)
  unfold mxb mtt
  rw [h3]
/-- the reference's mark of a message -/
def mk (T W L : List Nat) : List Nat := mmk T W L.length (L ++ List.replicate (112 - L.length) 0)
theorem mmk_mk {T W : List Nat} {n : Nat} {A : List Nat} (hA : A.length = 112) (hn : n ≤ 88) : mmk T W n A = mk T W (A.take n) := by
  have e3 := (mend_ok n).2.2.1
  unfold mk
  have hl : (A.take n).length = n := by rw [List.length_take]; omega
  rw [hl]
  refine mmk_agr ⟨by rw [List.length_append, hl, List.length_replicate]; omega, fun j hj => ?_⟩ (by omega)
  rw [gd_l (by omega), gd_take hj]
theorem mk_ok {T : List Nat} (hT : by8 T) (W : List Nat) {L : List Nat} (h : by8 L) : (mk T W L).length = 16 ∧ by8 (mk T W L) :=
  mmk_ok hT W _ (h.app (fun v hv => by rw [List.eq_of_mem_replicate hv]; decide))
/-- a row's first bytes laid into another's -/
theorem cp1_take {R : List Nat} : ∀ (d k : Nat) (S : List Nat), k + d ≤ S.length → k + d ≤ R.length → S.take k = R.take k → (it (cp1 R) k d S).take (k + d) = R.take (k + d)
  | 0, _, _, _, _, h => h
  | d + 1, k, S, hS, hR, h => by
    rw [show k + (d + 1) = k + 1 + d by omega]
    refine cp1_take d (k + 1) (cp1 R k S) (by rw [cp1_len]; omega) (by omega) ?_
    refine (gd_take2 (by rw [cp1_len]; omega) (by omega)).mp (fun j hj => ?_)
    unfold cp1
    rw [gd_set]
    by_cases e : k = j
    · subst e
      rw [if_pos ⟨rfl, by omega⟩]
    · rw [if_neg (fun z => e z.1)]
      exact (gd_take2 (by omega) (by omega)).mpr h j (by omega)
theorem cp1_8 {R : List Nat} (hR : by8 R) (k d : Nat) {S : List Nat} (h : by8 S) : by8 (it (cp1 R) k d S) := it_inv by8 d k S (fun j T _ _ hT => hT.set (hR.at _)) h
theorem take_set {A : List Nat} {n k v : Nat} : (A.set k v).take n = (A.take n).set k v := by rw [List.take_set]
theorem mxt_take (K : List Nat) (e : Nat) (he : 16 ≤ e) (A : List Nat) : (it (mxt K e) 0 16 A).take e = it (mxt K e) 0 16 (A.take e) := by
  refine it_hom (fun A : List Nat => A.take e) (fun _ => True) 16 0 A (fun j s _ hj _ => ⟨trivial, ?_⟩) trivial
  unfold mxt
  rw [take_set, gd_take (by omega)]
end
section
/-- an item of the reference, a block over another, the joint mark -/
def itm (IB IS : List Nat) (i : Nat) : List Nat := (IB.drop (40 * i)).take (IS.getD i 0)
def xr (M : List Nat) (k : Nat) (S : List Nat) : List Nat := S.set k (S.getD k 0 ^^^ M.getD k 0)
theorem xr_len (M : List Nat) (k : Nat) (S : List Nat) : (xr M k S).length = S.length := List.length_set
theorem xr8 {M : List Nat} (hM : by8 M) (k d : Nat) {S : List Nat} (h : by8 S) : by8 (it (xr M) k d S) := it_inv by8 d k S (fun j T _ _ hT => hT.set (xor8 (hT.at _) (hM.at _))) h
def jst (T W IB IS : List Nat) (i : Nat) (SM : List Nat) : List Nat := it (xr (mk T W (itm IB IS i))) 0 16 (mdb SM)
/-- the row's bytes, filled up to sixteen -/
def fl16 (L : List Nat) : List Nat := it (mpd L.length) L.length (16 - L.length) (L ++ List.replicate (16 - L.length) 0)
def jlast (L SM : List Nat) : List Nat := if L.length < 16 then it (mxt (mdb SM) 16) 0 16 (fl16 L) else it (mxt SM L.length) 0 16 L
def mjo (T W IB IS : List Nat) (nt : Nat) (L : List Nat) : List Nat := mk T W (jlast L (it (jst T W IB IS) 0 nt (mk T W z16)))
theorem jst_ok {T : List Nat} (hT : by8 T) (W : List Nat) {IB : List Nat} (IS : List Nat) (hI : by8 IB) (i : Nat) {SM : List Nat} (h : SM.length = 16 ∧ by8 SM) : (jst T W IB IS i SM).length = 16 ∧ by8 (jst T W IB IS i SM) := by
  have h1 : by8 (itm IB IS i) := fun v hv => hI v (List.mem_of_mem_drop (List.mem_of_mem_take hv))
  have h2 := mk_ok hT W h1
  have h3 : (mdb SM).length = 16 := by rw [mdb_len]; exact h.1
  unfold jst
  exact ⟨by rw [it_len (xr_len _)]; exact h3, xr8 h2.2 0 16 (mdb8 h.2)⟩
/-- an item's bytes laid into the text -/
def cpi (IB : List Nat) (i k : Nat) (S : List Nat) : List Nat := S.set k (IB.getD (40 * i + k) 0)
theorem cpi_eq (IB : List Nat) (i : Nat) (k : Nat) (S : List Nat) : cpi IB i k S = cp1 (IB.drop (40 * i)) k S := by
  unfold cpi cp1
  rw [List.getD_eq_getElem?_getD, List.getD_eq_getElem?_getD, List.getElem?_drop]
theorem fls_take {S : List Nat} (h : 16 ≤ S.length) : (it (fls 0) 0 16 S).take 16 = z16 := by
  have e : it (fls 0) 0 16 S = it (cp1 z16) 0 16 S := it_congr 16 0 S (fun j s _ hj => by
    unfold fls cp1
    congr 1
    rw [List.getD_eq_getElem?_getD, z16, List.getElem?_replicate, if_pos (by omega)]
    rfl)
  rw [e]
  exact cp1_take 16 0 S h (by decide) (by simp)
/-- the filling, of a text whose first bytes are the row's -/
theorem fl16_take {A L : List Nat} (hA : 16 ≤ A.length) (hL : A.take L.length = L) (h : L.length < 16) : (it (mpd L.length) L.length (16 - L.length) A).take 16 = fl16 L := by
  have h0 : (L ++ List.replicate (16 - L.length) 0).length = 16 := by rw [List.length_append, List.length_replicate]; omega
  have h1 : agr L.length (A.take 16) (L ++ List.replicate (16 - L.length) 0) := by
    refine ⟨by rw [h0, List.length_take]; omega, fun j hj => ?_⟩
    rw [gd_take (by omega), gd_l hj, ← gd_take hj, hL]
  have h2 := mpd_agr L.length (16 - L.length) L.length (A.take 16) _ h1 (by rw [List.length_take]; omega)
  rw [show L.length + (16 - L.length) = 16 by omega] at h2
  have h3 : (it (mpd L.length) L.length (16 - L.length) A).take 16 = it (mpd L.length) L.length (16 - L.length) (A.take 16) :=
    it_hom (fun A : List Nat => A.take 16) (fun _ => True) _ _ A (fun j s _ hj _ => ⟨trivial, take_set⟩) trivial
  rw [h3]
  refine gd_ext h2.1 (fun j hj => h2.2 j ?_)
  rw [it_len (mpd_len _), List.length_take] at hj
  omega
set_option maxHeartbeats 3000000 in
theorem cm_markJointly {g : Gp} {P S : Hp} {cd ni no nt nr nl : Nat} {W T U IN OUT IS IB BL MV ROW TX MA SM KP : List Nat} (hP : P.length = 44) (hW : W.length = 88 ∧ by32 W) (hT : T.length = 256 ∧ by8 T) (hU : U.length = 256 ∧ by8 U) (hb : bm16 (BL, MV)) (hTX : TX.length = 112 ∧ by8 TX) (hMA : MA.length = 16 ∧ by8 MA) (hSM : SM.length = 16 ∧ by8 SM) (hI : IB.length = 200 ∧ by8 IB) (hIS : IS.length = 5 ∧ ∀ i, IS.getD i 0 ≤ 40) (hnt : nt ≤ 5) (hR : ROW.length = 112 ∧ by8 ROW) (hnr : nr ≤ 88) :
    Con g M_Model_markJointly 3 (0, 0) [.ref (zA (gz g) 44)] (mh g P cd ni no nt nr nl [W, T, U, IN, OUT, IS, IB, BL, MV, ROW, TX, MA, SM, KP] S) (fun o h' => o = .returned none ∧ ∃ (l : Nat) (B' M' T' S' : List Nat), bm16 (B', M') ∧ T'.length = 112 ∧ by8 T' ∧ S'.length = 16 ∧ by8 S' ∧ h' = mh g P cd ni no nt nr l [W, T, U, IN, OUT, IS, IB, B', M', ROW, T', (mjo T W IB IS nt (ROW.take nr)), S', KP] S) := by
  refine Con.of (by decide) rfl rfl (L := [some (.ref (zA (gz g) 44)), none, none]) rfl (fun f C => ?_)
  have hLl : (ROW.take nr).length = nr := by rw [List.length_take]; omega
  have hL8 := hR.2.take nr
  -- the sum over the text's end, and the last mark
  have last : ∀ (d k n : Nat) (B V Y A Q : List Nat) (l2 : Option Value), k + d = 16 → 16 ≤ n → n ≤ 88 → bm16 (B, V) → Y.length = 112 → by8 Y → A.length = 16 → Q.length = 16 → by8 Q → mk T W ((it (mxt Q n) k d Y).take n) = mjo T W IB IS nt (ROW.take nr) → X g f M_Model_markJointly (0, 0) (fun o h' => o = .returned none ∧ ∃ (l : Nat) (B' M' T' S' : List Nat), bm16 (B', M') ∧ T'.length = 112 ∧ by8 T' ∧ S'.length = 16 ∧ by8 S' ∧ h' = mh g P cd ni no nt nr l [W, T, U, IN, OUT, IS, IB, B', M', ROW, T', (mjo T W IB IS nt (ROW.take nr)), S', KP] S) (0, 0) 252 [some (.ref (zA (gz g) 44)), some (.int (nI k)), l2] [] (mh g P cd ni no nt nr n [W, T, U, IN, OUT, IS, IB, B, V, ROW, Y, A, Q, KP] S) := by
    intro d
    induction d with
    | zero =>
      intro k n B V Y A Q l2 hkd hn1 hn2 hB hY hY8 hA hQ hQ8 he
      refine x_iload_n (pc := 252) C (dq D_Model_markJointly 140 rfl) rfl ?_
      refine x_bipush (pc := 253) C (dq D_Model_markJointly 141 rfl) cb_16 ?_
      refine n_ge_t (pc := 255) (tgt := 299) C (dq D_Model_markJointly 142 rfl) (by decide) (by omega) (by omega) ?_
      refine x_aload_n (pc := 299) C (dq D_Model_markJointly 168 rfl) rfl ?_
      refine x_cV (pc := 300) (ci := 1) (M := M_Model_markText) C (dq D_Model_markJointly 169 rfl) k_ml_Model_91 m_Model_markText rfl rfl (mo hP) (cm_markText hP hW hT hU hB ⟨hY, hY8⟩ hA hn2) rfl rfl rfl rfl (by decide) (fun o h2 hp => ?_)
      obtain ⟨rfl, B', M', T', q1, q2, q3, rfl⟩ := hp
      refine ⟨none, rfl, ?_⟩
      have e0 : mmk T W n Y = mjo T W IB IS nt (ROW.take nr) := by rw [mmk_mk hY hn2]; exact he
      rw [e0]
      show X g f M_Model_markJointly (0, 0) (fun o h' => o = .returned none ∧ ∃ (l : Nat) (B' M' T' S' : List Nat), bm16 (B', M') ∧ T'.length = 112 ∧ by8 T' ∧ S'.length = 16 ∧ by8 S' ∧ h' = mh g P cd ni no nt nr l [W, T, U, IN, OUT, IS, IB, B', M', ROW, T', (mjo T W IB IS nt (ROW.take nr)), S', KP] S) (0, 0) 303 [some (.ref (zA (gz g) 44)), some (.int (nI k)), l2] [] (mh g P cd ni no nt nr n [W, T, U, IN, OUT, IS, IB, B', M', ROW, T', (mjo T W IB IS nt (ROW.take nr)), Q, KP] S)
      exact x_vret (pc := 303) C (dq D_Model_markJointly 170 rfl) rfl (by decide) ⟨rfl, n, B', M', T', Q, q1, q2, q3, hQ, hQ8, rfl⟩
    | succ d ih =>
      intro k n B V Y A Q l2 hkd hn1 hn2 hB hY hY8 hA hQ hQ8 he
      refine x_iload_n (pc := 252) C (dq D_Model_markJointly 140 rfl) rfl ?_
      refine x_bipush (pc := 253) C (dq D_Model_markJointly 141 rfl) cb_16 ?_
      refine n_ge_f (pc := 255) (tgt := 299) C (dq D_Model_markJointly 142 rfl) (by decide) (by omega) (by omega) ?_
      refine x_aload_n (pc := 258) C (dq D_Model_markJointly 143 rfl) rfl ?_
      refine x_get (pc := 259) (ci := 1) (j := 16) C (dq D_Model_markJointly 144 rfl) rfl rfl (by first | exact mo hP | exact ma hP rfl rfl) rfl k_fl_Model_40 ?_
      refine x_aload_n (pc := 262) C (dq D_Model_markJointly 145 rfl) rfl ?_
      refine x_get (pc := 263) (ci := 1) (j := 15) C (dq D_Model_markJointly 146 rfl) rfl rfl (by first | exact mo hP | exact ma hP rfl rfl) rfl k_fl_Model_81 ?_
      refine x_bipush (pc := 266) C (dq D_Model_markJointly 147 rfl) cb_16 ?_
      refine n_isub (pc := 268) C (dq D_Model_markJointly 148 rfl) (by omega) ?_
      refine x_iload_n (pc := 269) C (dq D_Model_markJointly 149 rfl) rfl ?_
      refine n_iadd (pc := 270) C (dq D_Model_markJointly 150 rfl) ?_
      refine x_aload_n (pc := 271) C (dq D_Model_markJointly 151 rfl) rfl ?_
      refine x_get (pc := 272) (ci := 1) (j := 16) C (dq D_Model_markJointly 152 rfl) rfl rfl (by first | exact mo hP | exact ma hP rfl rfl) rfl k_fl_Model_40 ?_
      refine x_aload_n (pc := 275) C (dq D_Model_markJointly 153 rfl) rfl ?_
      refine x_get (pc := 276) (ci := 1) (j := 15) C (dq D_Model_markJointly 154 rfl) rfl rfl (by first | exact mo hP | exact ma hP rfl rfl) rfl k_fl_Model_81 ?_
      refine x_bipush (pc := 279) C (dq D_Model_markJointly 155 rfl) cb_16 ?_
      refine n_isub (pc := 281) C (dq D_Model_markJointly 156 rfl) (by omega) ?_
      refine x_iload_n (pc := 282) C (dq D_Model_markJointly 157 rfl) rfl ?_
      refine n_iadd (pc := 283) C (dq D_Model_markJointly 158 rfl) ?_
      refine x_iald (pc := 284) C (dq D_Model_markJointly 159 rfl) (by first | exact mo hP | exact ma hP rfl rfl) (by (try simp only [List.length_set]); omega) ?_
      refine x_aload_n (pc := 285) C (dq D_Model_markJointly 160 rfl) rfl ?_
      refine x_get (pc := 286) (ci := 1) (j := 18) C (dq D_Model_markJointly 161 rfl) rfl rfl (by first | exact mo hP | exact ma hP rfl rfl) rfl k_fl_Model_46 ?_
      refine x_iload_n (pc := 289) C (dq D_Model_markJointly 162 rfl) rfl ?_
      refine x_iald (pc := 290) C (dq D_Model_markJointly 163 rfl) (by first | exact mo hP | exact ma hP rfl rfl) (by (try simp only [List.length_set]); omega) ?_
      refine n_ixor (pc := 291) C (dq D_Model_markJointly 164 rfl) ?_
      refine x_iast (pc := 292) C (dq D_Model_markJointly 165 rfl) (by first | exact mo hP | exact ma hP rfl rfl) (by (try simp only [List.length_set]); omega) ?_
      try rw [List.set_set]
      refine x_iinc (pc := 293) C (dq D_Model_markJointly 166 rfl) rfl (ii_1 _) rfl rfl ?_
      simp only [List.set_cons_zero, List.set_cons_succ]
      rw [mh_s hP rfl rfl]
      simp only [Nat.reduceSub, List.set_cons_zero, List.set_cons_succ]
      refine x_goto (pc := 296) (tgt := 252) C (dq D_Model_markJointly 167 rfl) (by decide) ?_
      exact ih (k + 1) n B V (mxt Q n k Y) A Q l2 (by omega) hn1 hn2 hB (by rw [mxt_len]; exact hY) (hY8.set (xor8 (hY8.at _) (hQ8.at _))) hA hQ hQ8 he
  -- a short row is filled
  have fill : ∀ (d k : Nat) (B V Y A Q : List Nat) (l2 : Option Value), k + d = 16 → nr < 16 → bm16 (B, V) → Y.length = 112 → by8 Y → A.length = 16 → Q.length = 16 → by8 Q → (it (mpd nr) k d Y).take 16 = fl16 (ROW.take nr) → it (jst T W IB IS) 0 nt (mk T W z16) = Q → X g f M_Model_markJointly (0, 0) (fun o h' => o = .returned none ∧ ∃ (l : Nat) (B' M' T' S' : List Nat), bm16 (B', M') ∧ T'.length = 112 ∧ by8 T' ∧ S'.length = 16 ∧ by8 S' ∧ h' = mh g P cd ni no nt nr l [W, T, U, IN, OUT, IS, IB, B', M', ROW, T', (mjo T W IB IS nt (ROW.take nr)), S', KP] S) (0, 0) 207 [some (.ref (zA (gz g) 44)), some (.int (nI k)), l2] [] (mh g P cd ni no nt nr nr [W, T, U, IN, OUT, IS, IB, B, V, ROW, Y, A, Q, KP] S) := by
    intro d
    induction d with
    | zero =>
      intro k B V Y A Q l2 hkd hnr16 hB hY hY8 hA hQ hQ8 he hQe
      have e0 : Y.take 16 = fl16 (ROW.take nr) := he
      refine x_iload_n (pc := 207) C (dq D_Model_markJointly 117 rfl) rfl ?_
      refine x_bipush (pc := 208) C (dq D_Model_markJointly 118 rfl) cb_16 ?_
      refine n_ge_t (pc := 210) (tgt := 240) C (dq D_Model_markJointly 119 rfl) (by decide) (by omega) (by omega) ?_
      refine x_aload_n (pc := 240) C (dq D_Model_markJointly 133 rfl) rfl ?_
      refine x_bipush (pc := 241) C (dq D_Model_markJointly 134 rfl) cb_16 ?_
      refine x_put (pc := 243) (ci := 1) (j := 15) (ty := .int) C (dq D_Model_markJointly 135 rfl) rfl rfl (mo hP) rfl k_fl_Model_81 (Or.inl rfl) (by decide +kernel) rfl rfl ?_
      simp only [List.set_cons_zero, List.set_cons_succ]
      rw [mh_p hP]
      refine x_aload_n (pc := 246) C (dq D_Model_markJointly 136 rfl) rfl ?_
      refine x_cV0 (pc := 247) (ci := 1) (M := M_Model_doubleSum) C (dq D_Model_markJointly 137 rfl) k_ml_Model_97 m_Model_doubleSum rfl rfl (mo hP) (cm_doubleSum (mo hP) (ma hP rfl rfl) hQ hQ8) rfl rfl rfl rfl (by decide) ?_
      rw [mh_s hP rfl rfl]
      simp only [Nat.reduceSub, List.set_cons_zero, List.set_cons_succ]
      refine x_iconst (pc := 250) C (dq D_Model_markJointly 138 rfl) ci_0 ?_
      refine x_istore_n (i := 1) (pc := 251) C (dq D_Model_markJointly 139 rfl) rfl rfl rfl ?_
      simp only [List.set_cons_zero, List.set_cons_succ]
      refine last 16 0 16 B V Y A (mdb Q) l2 rfl (by omega) (by omega) hB hY hY8 hA (by rw [mdb_len]; exact hQ) (mdb8 hQ8) ?_
      unfold mjo jlast
      rw [if_pos (by omega), hQe, mxt_take _ _ (by omega), e0]
    | succ d ih =>
      intro k B V Y A Q l2 hkd hnr16 hB hY hY8 hA hQ hQ8 he hQe
      have fin : ∀ v : Nat, v < 256 → v = (if k = nr then 128 else 0) → X g f M_Model_markJointly (0, 0) (fun o h' => o = .returned none ∧ ∃ (l : Nat) (B' M' T' S' : List Nat), bm16 (B', M') ∧ T'.length = 112 ∧ by8 T' ∧ S'.length = 16 ∧ by8 S' ∧ h' = mh g P cd ni no nt nr l [W, T, U, IN, OUT, IS, IB, B', M', ROW, T', (mjo T W IB IS nt (ROW.take nr)), S', KP] S) (0, 0) 233 [some (.ref (zA (gz g) 44)), some (.int (nI k)), l2] [.int (nI v), .int (nI k), .ref (zA (gz g) 55)] (mh g P cd ni no nt nr nr [W, T, U, IN, OUT, IS, IB, B, V, ROW, Y, A, Q, KP] S) := by
        intro v hv8 hv
        refine x_iast (pc := 233) C (dq D_Model_markJointly 130 rfl) (ma hP rfl rfl) (by (try simp only [List.length_set]); omega) ?_
        try rw [List.set_set]
        rw [mh_s hP rfl rfl]
        simp only [Nat.reduceSub, List.set_cons_zero, List.set_cons_succ]
        refine x_iinc (pc := 234) C (dq D_Model_markJointly 131 rfl) rfl (ii_1 _) rfl rfl ?_
        simp only [List.set_cons_zero, List.set_cons_succ]
        refine x_goto (pc := 237) (tgt := 207) C (dq D_Model_markJointly 132 rfl) (by decide) ?_
        refine ih (k + 1) B V (Y.set k v) A Q l2 (by omega) hnr16 hB (by rw [List.length_set]; exact hY) (hY8.set hv8) hA hQ hQ8 ?_ hQe
        rw [hv]
        exact he
      refine x_iload_n (pc := 207) C (dq D_Model_markJointly 117 rfl) rfl ?_
      refine x_bipush (pc := 208) C (dq D_Model_markJointly 118 rfl) cb_16 ?_
      refine n_ge_f (pc := 210) (tgt := 240) C (dq D_Model_markJointly 119 rfl) (by decide) (by omega) (by omega) ?_
      refine x_aload_n (pc := 213) C (dq D_Model_markJointly 120 rfl) rfl ?_
      refine x_get (pc := 214) (ci := 1) (j := 16) C (dq D_Model_markJointly 121 rfl) rfl rfl (mo hP) rfl k_fl_Model_40 ?_
      refine x_iload_n (pc := 217) C (dq D_Model_markJointly 122 rfl) rfl ?_
      refine x_iload_n (pc := 218) C (dq D_Model_markJointly 123 rfl) rfl ?_
      refine x_aload_n (pc := 219) C (dq D_Model_markJointly 124 rfl) rfl ?_
      refine x_get (pc := 220) (ci := 1) (j := 13) C (dq D_Model_markJointly 125 rfl) rfl rfl (mo hP) rfl k_fl_Model_100 ?_
      refine n_ne (pc := 223) (tgt := 232) C (dq D_Model_markJointly 126 rfl) (by decide) (by omega) (fun hq => ?_) (fun hq => ?_)
      · rw [if_neg hq] at fin
        refine x_iconst (pc := 232) C (dq D_Model_markJointly 129 rfl) ci_0 ?_
        exact fin 0 (by omega) rfl
      · rw [if_pos hq] at fin
        refine x_sipush (pc := 226) C (dq D_Model_markJointly 127 rfl) cs_128 ?_
        refine x_goto (pc := 229) (tgt := 233) C (dq D_Model_markJointly 128 rfl) (by decide) ?_
        exact fin 128 (by omega) rfl
  -- the row's bytes
  have body : ∀ (d k : Nat) (B V Y A Q : List Nat) (l2 : Option Value), k + d = nr → bm16 (B, V) → Y.length = 112 → by8 Y → A.length = 16 → Q.length = 16 → by8 Q → (it (cp1 ROW) k d Y).take nr = ROW.take nr → it (jst T W IB IS) 0 nt (mk T W z16) = Q → X g f M_Model_markJointly (0, 0) (fun o h' => o = .returned none ∧ ∃ (l : Nat) (B' M' T' S' : List Nat), bm16 (B', M') ∧ T'.length = 112 ∧ by8 T' ∧ S'.length = 16 ∧ by8 S' ∧ h' = mh g P cd ni no nt nr l [W, T, U, IN, OUT, IS, IB, B', M', ROW, T', (mjo T W IB IS nt (ROW.take nr)), S', KP] S) (0, 0) 167 [some (.ref (zA (gz g) 44)), some (.int (nI k)), l2] [] (mh g P cd ni no nt nr nr [W, T, U, IN, OUT, IS, IB, B, V, ROW, Y, A, Q, KP] S) := by
    intro d
    induction d with
    | zero =>
      intro k B V Y A Q l2 hkd hB hY hY8 hA hQ hQ8 he hQe
      have e0 : Y.take nr = ROW.take nr := he
      refine x_iload_n (pc := 167) C (dq D_Model_markJointly 96 rfl) rfl ?_
      refine x_aload_n (pc := 168) C (dq D_Model_markJointly 97 rfl) rfl ?_
      refine x_get (pc := 169) (ci := 1) (j := 13) C (dq D_Model_markJointly 98 rfl) rfl rfl (mo hP) rfl k_fl_Model_100 ?_
      refine n_ge_t (pc := 172) (tgt := 193) C (dq D_Model_markJointly 99 rfl) (by decide) (by omega) (by omega) ?_
      refine x_aload_n (pc := 193) C (dq D_Model_markJointly 110 rfl) rfl ?_
      refine x_get (pc := 194) (ci := 1) (j := 13) C (dq D_Model_markJointly 111 rfl) rfl rfl (mo hP) rfl k_fl_Model_100 ?_
      refine x_bipush (pc := 197) C (dq D_Model_markJointly 112 rfl) cb_16 ?_
      refine n_ge (pc := 199) (tgt := 250) C (dq D_Model_markJointly 113 rfl) (by decide) (by omega) (fun hq => ?_) (fun hq => ?_)
      · refine x_iconst (pc := 250) C (dq D_Model_markJointly 138 rfl) ci_0 ?_
        refine x_istore_n (i := 1) (pc := 251) C (dq D_Model_markJointly 139 rfl) rfl rfl rfl ?_
        simp only [List.set_cons_zero, List.set_cons_succ]
        refine last 16 0 nr B V Y A Q l2 rfl (by omega) hnr hB hY hY8 hA hQ hQ8 ?_
        unfold mjo jlast
        rw [if_neg (by omega), hQe, mxt_take _ _ (by omega), e0, hLl]
      · refine x_aload_n (pc := 202) C (dq D_Model_markJointly 114 rfl) rfl ?_
        refine x_get (pc := 203) (ci := 1) (j := 13) C (dq D_Model_markJointly 115 rfl) rfl rfl (mo hP) rfl k_fl_Model_100 ?_
        refine x_istore_n (i := 1) (pc := 206) C (dq D_Model_markJointly 116 rfl) rfl rfl rfl ?_
        simp only [List.set_cons_zero, List.set_cons_succ]
        refine fill (16 - nr) nr B V Y A Q l2 (by omega) (by omega) hB hY hY8 hA hQ hQ8 ?_ hQe
        have h1 := fl16_take (A := Y) (L := ROW.take nr) (by omega) (by rw [hLl]; exact e0) (by omega)
        rw [hLl] at h1
        exact h1
    | succ d ih =>
      intro k B V Y A Q l2 hkd hB hY hY8 hA hQ hQ8 he hQe
      refine x_iload_n (pc := 167) C (dq D_Model_markJointly 96 rfl) rfl ?_
      refine x_aload_n (pc := 168) C (dq D_Model_markJointly 97 rfl) rfl ?_
      refine x_get (pc := 169) (ci := 1) (j := 13) C (dq D_Model_markJointly 98 rfl) rfl rfl (by first | exact mo hP | exact ma hP rfl rfl) rfl k_fl_Model_100 ?_
      refine n_ge_f (pc := 172) (tgt := 193) C (dq D_Model_markJointly 99 rfl) (by decide) (by omega) (by omega) ?_
      refine x_aload_n (pc := 175) C (dq D_Model_markJointly 100 rfl) rfl ?_
      refine x_get (pc := 176) (ci := 1) (j := 16) C (dq D_Model_markJointly 101 rfl) rfl rfl (by first | exact mo hP | exact ma hP rfl rfl) rfl k_fl_Model_40 ?_
      refine x_iload_n (pc := 179) C (dq D_Model_markJointly 102 rfl) rfl ?_
      refine x_aload_n (pc := 180) C (dq D_Model_markJointly 103 rfl) rfl ?_
      refine x_get (pc := 181) (ci := 1) (j := 14) C (dq D_Model_markJointly 104 rfl) rfl rfl (by first | exact mo hP | exact ma hP rfl rfl) rfl k_fl_Model_37 ?_
      refine x_iload_n (pc := 184) C (dq D_Model_markJointly 105 rfl) rfl ?_
      refine x_iald (pc := 185) C (dq D_Model_markJointly 106 rfl) (by first | exact mo hP | exact ma hP rfl rfl) (by (try simp only [List.length_set]); omega) ?_
      refine x_iast (pc := 186) C (dq D_Model_markJointly 107 rfl) (by first | exact mo hP | exact ma hP rfl rfl) (by (try simp only [List.length_set]); omega) ?_
      try rw [List.set_set]
      refine x_iinc (pc := 187) C (dq D_Model_markJointly 108 rfl) rfl (ii_1 _) rfl rfl ?_
      simp only [List.set_cons_zero, List.set_cons_succ]
      rw [mh_s hP rfl rfl]
      simp only [Nat.reduceSub, List.set_cons_zero, List.set_cons_succ]
      refine x_goto (pc := 190) (tgt := 167) C (dq D_Model_markJointly 109 rfl) (by decide) ?_
      exact ih (k + 1) B V (cp1 ROW k Y) A Q l2 (by omega) hB (by rw [cp1_len]; exact hY) (hY8.set (hR.2.at _)) hA hQ hQ8 he hQe
  -- the items
  have items : ∀ (d i n : Nat) (B V Y A Q : List Nat) (l2 : Option Value), i + d = nt → bm16 (B, V) → Y.length = 112 → by8 Y → A.length = 16 → Q.length = 16 → by8 Q → it (jst T W IB IS) i d Q = it (jst T W IB IS) 0 nt (mk T W z16) → X g f M_Model_markJointly (0, 0) (fun o h' => o = .returned none ∧ ∃ (l : Nat) (B' M' T' S' : List Nat), bm16 (B', M') ∧ T'.length = 112 ∧ by8 T' ∧ S'.length = 16 ∧ by8 S' ∧ h' = mh g P cd ni no nt nr l [W, T, U, IN, OUT, IS, IB, B', M', ROW, T', (mjo T W IB IS nt (ROW.take nr)), S', KP] S) (0, 0) 59 [some (.ref (zA (gz g) 44)), some (.int (nI i)), l2] [] (mh g P cd ni no nt nr n [W, T, U, IN, OUT, IS, IB, B, V, ROW, Y, A, Q, KP] S) := by
    intro d
    induction d with
    | zero =>
      intro i n B V Y A Q l2 hid hB hY hY8 hA hQ hQ8 he
      have e0 : Q = it (jst T W IB IS) 0 nt (mk T W z16) := he
      refine x_iload_n (pc := 59) C (dq D_Model_markJointly 34 rfl) rfl ?_
      refine x_aload_n (pc := 60) C (dq D_Model_markJointly 35 rfl) rfl ?_
      refine x_get (pc := 61) (ci := 1) (j := 8) C (dq D_Model_markJointly 36 rfl) rfl rfl (mo hP) rfl k_fl_Model_94 ?_
      refine n_ge_t (pc := 64) (tgt := 157) C (dq D_Model_markJointly 37 rfl) (by decide) (by omega) (by omega) ?_
      refine x_aload_n (pc := 157) C (dq D_Model_markJointly 90 rfl) rfl ?_
      refine x_aload_n (pc := 158) C (dq D_Model_markJointly 91 rfl) rfl ?_
      refine x_get (pc := 159) (ci := 1) (j := 13) C (dq D_Model_markJointly 92 rfl) rfl rfl (mo hP) rfl k_fl_Model_100 ?_
      refine x_put (pc := 162) (ci := 1) (j := 15) (ty := .int) C (dq D_Model_markJointly 93 rfl) rfl rfl (mo hP) rfl k_fl_Model_81 (Or.inl rfl) (by decide +kernel) rfl rfl ?_
      simp only [List.set_cons_zero, List.set_cons_succ]
      rw [mh_p hP]
      refine x_iconst (pc := 165) C (dq D_Model_markJointly 94 rfl) ci_0 ?_
      refine x_istore_n (i := 1) (pc := 166) C (dq D_Model_markJointly 95 rfl) rfl rfl rfl ?_
      simp only [List.set_cons_zero, List.set_cons_succ]
      refine body nr 0 B V Y A Q l2 (by omega) hB hY hY8 hA hQ hQ8 ?_ e0.symm
      have h1 := cp1_take (R := ROW) nr 0 Y (by omega) (by omega) (by simp)
      rw [Nat.zero_add] at h1
      exact h1
    | succ d ih =>
      intro i n B V Y A Q l2 hid hB hY hY8 hA hQ hQ8 he
      have hsz := hIS.2 i
      have hmq : (mdb Q).length = 16 := by rw [mdb_len]; exact hQ
      have hmq8 := mdb8 hQ8
      have hit8 : by8 (itm IB IS i) := fun v hv => hI.2 v (List.mem_of_mem_drop (List.mem_of_mem_take hv))
      obtain ⟨m1, m2⟩ := mk_ok hT.2 W hit8
      -- the mark over the sum
      have over : ∀ (d2 k : Nat) (B V Y R : List Nat), k + d2 = 16 → bm16 (B, V) → Y.length = 112 → by8 Y → R.length = 16 → it (xr (mk T W (itm IB IS i))) k d2 R = jst T W IB IS i Q → X g f M_Model_markJointly (0, 0) (fun o h' => o = .returned none ∧ ∃ (l : Nat) (B' M' T' S' : List Nat), bm16 (B', M') ∧ T'.length = 112 ∧ by8 T' ∧ S'.length = 16 ∧ by8 S' ∧ h' = mh g P cd ni no nt nr l [W, T, U, IN, OUT, IS, IB, B', M', ROW, T', (mjo T W IB IS nt (ROW.take nr)), S', KP] S) (0, 0) 120 [some (.ref (zA (gz g) 44)), some (.int (nI i)), some (.int (nI k))] [] (mh g P cd ni no nt nr (IS.getD i 0) [W, T, U, IN, OUT, IS, IB, B, V, ROW, Y, (mk T W (itm IB IS i)), R, KP] S) := by
        intro d2
        induction d2 with
        | zero =>
          intro k B V Y R hkd hB hY hY8 hR0 he2
          rw [it_zero] at he2
          obtain ⟨j1, j2⟩ := jst_ok hT.2 W IS hI.2 i ⟨hQ, hQ8⟩
          rw [← he2] at j1 j2
          rw [it_succ, ← he2] at he
          refine x_iload_n (pc := 120) C (dq D_Model_markJointly 70 rfl) rfl ?_
          refine x_bipush (pc := 121) C (dq D_Model_markJointly 71 rfl) cb_16 ?_
          refine n_ge_t (pc := 123) (tgt := 151) C (dq D_Model_markJointly 72 rfl) (by decide) (by omega) (by omega) ?_
          refine x_iinc (pc := 151) C (dq D_Model_markJointly 88 rfl) rfl (ii_1 _) rfl rfl ?_
          simp only [List.set_cons_zero, List.set_cons_succ]
          refine x_goto (pc := 154) (tgt := 59) C (dq D_Model_markJointly 89 rfl) (by decide) ?_
          exact ih (i + 1) (IS.getD i 0) B V Y (mk T W (itm IB IS i)) R (some (.int (nI k))) (by omega) hB hY hY8 m1 j1 j2 he
        | succ d2 ih2 =>
          intro k B V Y R hkd hB hY hY8 hR0 he2
          refine x_iload_n (pc := 120) C (dq D_Model_markJointly 70 rfl) rfl ?_
          refine x_bipush (pc := 121) C (dq D_Model_markJointly 71 rfl) cb_16 ?_
          refine n_ge_f (pc := 123) (tgt := 151) C (dq D_Model_markJointly 72 rfl) (by decide) (by omega) (by omega) ?_
          refine x_aload_n (pc := 126) C (dq D_Model_markJointly 73 rfl) rfl ?_
          refine x_get (pc := 127) (ci := 1) (j := 18) C (dq D_Model_markJointly 74 rfl) rfl rfl (by first | exact mo hP | exact ma hP rfl rfl) rfl k_fl_Model_46 ?_
          refine x_iload_n (pc := 130) C (dq D_Model_markJointly 75 rfl) rfl ?_
          refine x_aload_n (pc := 131) C (dq D_Model_markJointly 76 rfl) rfl ?_
          refine x_get (pc := 132) (ci := 1) (j := 18) C (dq D_Model_markJointly 77 rfl) rfl rfl (by first | exact mo hP | exact ma hP rfl rfl) rfl k_fl_Model_46 ?_
          refine x_iload_n (pc := 135) C (dq D_Model_markJointly 78 rfl) rfl ?_
          refine x_iald (pc := 136) C (dq D_Model_markJointly 79 rfl) (by first | exact mo hP | exact ma hP rfl rfl) (by (try simp only [List.length_set]); omega) ?_
          refine x_aload_n (pc := 137) C (dq D_Model_markJointly 80 rfl) rfl ?_
          refine x_get (pc := 138) (ci := 1) (j := 17) C (dq D_Model_markJointly 81 rfl) rfl rfl (by first | exact mo hP | exact ma hP rfl rfl) rfl k_fl_Model_43 ?_
          refine x_iload_n (pc := 141) C (dq D_Model_markJointly 82 rfl) rfl ?_
          refine x_iald (pc := 142) C (dq D_Model_markJointly 83 rfl) (by first | exact mo hP | exact ma hP rfl rfl) (by (try simp only [List.length_set]); omega) ?_
          refine n_ixor (pc := 143) C (dq D_Model_markJointly 84 rfl) ?_
          refine x_iast (pc := 144) C (dq D_Model_markJointly 85 rfl) (by first | exact mo hP | exact ma hP rfl rfl) (by (try simp only [List.length_set]); omega) ?_
          try rw [List.set_set]
          refine x_iinc (pc := 145) C (dq D_Model_markJointly 86 rfl) rfl (ii_1 _) rfl rfl ?_
          simp only [List.set_cons_zero, List.set_cons_succ]
          rw [mh_s hP rfl rfl]
          simp only [Nat.reduceSub, List.set_cons_zero, List.set_cons_succ]
          refine x_goto (pc := 148) (tgt := 120) C (dq D_Model_markJointly 87 rfl) (by decide) ?_
          exact ih2 (k + 1) B V Y (xr (mk T W (itm IB IS i)) k R) (by omega) hB hY hY8 (by rw [xr_len]; exact hR0) he2
      -- the item's bytes
      have bytes : ∀ (d2 k : Nat) (Y : List Nat), k + d2 = IS.getD i 0 → Y.length = 112 → by8 Y → (it (cpi IB i) k d2 Y).take (IS.getD i 0) = itm IB IS i → X g f M_Model_markJointly (0, 0) (fun o h' => o = .returned none ∧ ∃ (l : Nat) (B' M' T' S' : List Nat), bm16 (B', M') ∧ T'.length = 112 ∧ by8 T' ∧ S'.length = 16 ∧ by8 S' ∧ h' = mh g P cd ni no nt nr l [W, T, U, IN, OUT, IS, IB, B', M', ROW, T', (mjo T W IB IS nt (ROW.take nr)), S', KP] S) (0, 0) 83 [some (.ref (zA (gz g) 44)), some (.int (nI i)), some (.int (nI k))] [] (mh g P cd ni no nt nr (IS.getD i 0) [W, T, U, IN, OUT, IS, IB, B, V, ROW, Y, A, (mdb Q), KP] S) := by
        intro d2
        induction d2 with
        | zero =>
          intro k Y hkd hY hY8 he2
          have e0 : Y.take (IS.getD i 0) = itm IB IS i := he2
          refine x_iload_n (pc := 83) C (dq D_Model_markJointly 48 rfl) rfl ?_
          refine x_aload_n (pc := 84) C (dq D_Model_markJointly 49 rfl) rfl ?_
          refine x_get (pc := 85) (ci := 1) (j := 15) C (dq D_Model_markJointly 50 rfl) rfl rfl (mo hP) rfl k_fl_Model_81 ?_
          refine n_ge_t (pc := 88) (tgt := 114) C (dq D_Model_markJointly 51 rfl) (by decide) (by omega) (by omega) ?_
          refine x_aload_n (pc := 114) C (dq D_Model_markJointly 66 rfl) rfl ?_
          refine x_cV (pc := 115) (ci := 1) (M := M_Model_markText) C (dq D_Model_markJointly 67 rfl) k_ml_Model_91 m_Model_markText rfl rfl (mo hP) (cm_markText hP hW hT hU hB ⟨hY, hY8⟩ hA (by omega)) rfl rfl rfl rfl (by decide) (fun o h2 hp => ?_)
          obtain ⟨rfl, B', M', T', q1, q2, q3, rfl⟩ := hp
          refine ⟨none, rfl, ?_⟩
          rw [mmk_mk hY (by omega), e0]
          show X g f M_Model_markJointly (0, 0) (fun o h' => o = .returned none ∧ ∃ (l : Nat) (B' M' T' S' : List Nat), bm16 (B', M') ∧ T'.length = 112 ∧ by8 T' ∧ S'.length = 16 ∧ by8 S' ∧ h' = mh g P cd ni no nt nr l [W, T, U, IN, OUT, IS, IB, B', M', ROW, T', (mjo T W IB IS nt (ROW.take nr)), S', KP] S) (0, 0) 118 [some (.ref (zA (gz g) 44)), some (.int (nI i)), some (.int (nI k))] [] (mh g P cd ni no nt nr (IS.getD i 0) [W, T, U, IN, OUT, IS, IB, B', M', ROW, T', (mk T W (itm IB IS i)), (mdb Q), KP] S)
          refine x_iconst (pc := 118) C (dq D_Model_markJointly 68 rfl) ci_0 ?_
          refine x_istore_n (i := 2) (pc := 119) C (dq D_Model_markJointly 69 rfl) rfl rfl rfl ?_
          simp only [List.set_cons_zero, List.set_cons_succ]
          exact over 16 0 B' M' T' (mdb Q) rfl q1 q2 q3 hmq (by rw [jst])
        | succ d2 ih2 =>
          intro k Y hkd hY hY8 he2
          refine x_iload_n (pc := 83) C (dq D_Model_markJointly 48 rfl) rfl ?_
          refine x_aload_n (pc := 84) C (dq D_Model_markJointly 49 rfl) rfl ?_
          refine x_get (pc := 85) (ci := 1) (j := 15) C (dq D_Model_markJointly 50 rfl) rfl rfl (by first | exact mo hP | exact ma hP rfl rfl) rfl k_fl_Model_81 ?_
          refine n_ge_f (pc := 88) (tgt := 114) C (dq D_Model_markJointly 51 rfl) (by decide) (by omega) (by omega) ?_
          refine x_aload_n (pc := 91) C (dq D_Model_markJointly 52 rfl) rfl ?_
          refine x_get (pc := 92) (ci := 1) (j := 16) C (dq D_Model_markJointly 53 rfl) rfl rfl (by first | exact mo hP | exact ma hP rfl rfl) rfl k_fl_Model_40 ?_
          refine x_iload_n (pc := 95) C (dq D_Model_markJointly 54 rfl) rfl ?_
          refine x_aload_n (pc := 96) C (dq D_Model_markJointly 55 rfl) rfl ?_
          refine x_get (pc := 97) (ci := 1) (j := 10) C (dq D_Model_markJointly 56 rfl) rfl rfl (by first | exact mo hP | exact ma hP rfl rfl) rfl k_fl_Model_28 ?_
          refine x_bipush (pc := 100) C (dq D_Model_markJointly 57 rfl) cb_40 ?_
          refine x_iload_n (pc := 102) C (dq D_Model_markJointly 58 rfl) rfl ?_
          refine n_imul (pc := 103) C (dq D_Model_markJointly 59 rfl) ?_
          refine x_iload_n (pc := 104) C (dq D_Model_markJointly 60 rfl) rfl ?_
          refine n_iadd (pc := 105) C (dq D_Model_markJointly 61 rfl) ?_
          refine x_iald (pc := 106) C (dq D_Model_markJointly 62 rfl) (by first | exact mo hP | exact ma hP rfl rfl) (by (try simp only [List.length_set]); omega) ?_
          refine x_iast (pc := 107) C (dq D_Model_markJointly 63 rfl) (by first | exact mo hP | exact ma hP rfl rfl) (by (try simp only [List.length_set]); omega) ?_
          try rw [List.set_set]
          refine x_iinc (pc := 108) C (dq D_Model_markJointly 64 rfl) rfl (ii_1 _) rfl rfl ?_
          simp only [List.set_cons_zero, List.set_cons_succ]
          rw [mh_s hP rfl rfl]
          simp only [Nat.reduceSub, List.set_cons_zero, List.set_cons_succ]
          refine x_goto (pc := 111) (tgt := 83) C (dq D_Model_markJointly 65 rfl) (by decide) ?_
          exact ih2 (k + 1) (cpi IB i k Y) (by omega) (by unfold cpi; rw [List.length_set]; exact hY) (hY8.set (hI.2.at _)) he2
      refine x_iload_n (pc := 59) C (dq D_Model_markJointly 34 rfl) rfl ?_
      refine x_aload_n (pc := 60) C (dq D_Model_markJointly 35 rfl) rfl ?_
      refine x_get (pc := 61) (ci := 1) (j := 8) C (dq D_Model_markJointly 36 rfl) rfl rfl (mo hP) rfl k_fl_Model_94 ?_
      refine n_ge_f (pc := 64) (tgt := 157) C (dq D_Model_markJointly 37 rfl) (by decide) (by omega) (by omega) ?_
      refine x_aload_n (pc := 67) C (dq D_Model_markJointly 38 rfl) rfl ?_
      refine x_cV0 (pc := 68) (ci := 1) (M := M_Model_doubleSum) C (dq D_Model_markJointly 39 rfl) k_ml_Model_97 m_Model_doubleSum rfl rfl (mo hP) (cm_doubleSum (mo hP) (ma hP rfl rfl) hQ hQ8) rfl rfl rfl rfl (by decide) ?_
      rw [mh_s hP rfl rfl]
      simp only [Nat.reduceSub, List.set_cons_zero, List.set_cons_succ]
      refine x_aload_n (pc := 71) C (dq D_Model_markJointly 40 rfl) rfl ?_
      refine x_aload_n (pc := 72) C (dq D_Model_markJointly 41 rfl) rfl ?_
      refine x_get (pc := 73) (ci := 1) (j := 9) C (dq D_Model_markJointly 42 rfl) rfl rfl (by first | exact mo hP | exact ma hP rfl rfl) rfl k_fl_Model_25 ?_
      refine x_iload_n (pc := 76) C (dq D_Model_markJointly 43 rfl) rfl ?_
      refine x_iald (pc := 77) C (dq D_Model_markJointly 44 rfl) (by first | exact mo hP | exact ma hP rfl rfl) (by (try simp only [List.length_set]); omega) ?_
      refine x_put (pc := 78) (ci := 1) (j := 15) (ty := .int) C (dq D_Model_markJointly 45 rfl) rfl rfl (by first | exact mo hP | exact ma hP rfl rfl) rfl k_fl_Model_81 (Or.inl rfl) (by decide +kernel) rfl rfl ?_
      simp only [List.set_cons_zero, List.set_cons_succ]
      rw [mh_p hP]
      refine x_iconst (pc := 81) C (dq D_Model_markJointly 46 rfl) ci_0 ?_
      refine x_istore_n (i := 2) (pc := 82) C (dq D_Model_markJointly 47 rfl) rfl rfl rfl ?_
      simp only [List.set_cons_zero, List.set_cons_succ]
      refine bytes (IS.getD i 0) 0 Y (by omega) hY hY8 ?_
      have h1 : it (cpi IB i) 0 (IS.getD i 0) Y = it (cp1 (IB.drop (40 * i))) 0 (IS.getD i 0) Y := it_congr _ _ _ (fun j s _ _ => cpi_eq IB i j s)
      have h2 := cp1_take (R := IB.drop (40 * i)) (IS.getD i 0) 0 Y (by omega) (by rw [List.length_drop]; omega) (by simp)
      rw [Nat.zero_add] at h2
      rw [h1]
      exact h2
  -- the sum is the first mark
  have first : ∀ (d k : Nat) (B V Y R : List Nat) (l2 : Option Value), k + d = 16 → bm16 (B, V) → Y.length = 112 → by8 Y → R.length = 16 → it (cp1 (mk T W z16)) k d R = mk T W z16 → X g f M_Model_markJointly (0, 0) (fun o h' => o = .returned none ∧ ∃ (l : Nat) (B' M' T' S' : List Nat), bm16 (B', M') ∧ T'.length = 112 ∧ by8 T' ∧ S'.length = 16 ∧ by8 S' ∧ h' = mh g P cd ni no nt nr l [W, T, U, IN, OUT, IS, IB, B', M', ROW, T', (mjo T W IB IS nt (ROW.take nr)), S', KP] S) (0, 0) 33 [some (.ref (zA (gz g) 44)), some (.int (nI k)), l2] [] (mh g P cd ni no nt nr 16 [W, T, U, IN, OUT, IS, IB, B, V, ROW, Y, (mk T W z16), R, KP] S) := by
    intro d
    obtain ⟨m1, m2⟩ := mk_ok hT.2 W z16_8
    induction d with
    | zero =>
      intro k B V Y R l2 hkd hB hY hY8 hR0 he
      rw [it_zero] at he
      rw [he]
      refine x_iload_n (pc := 33) C (dq D_Model_markJointly 19 rfl) rfl ?_
      refine x_bipush (pc := 34) C (dq D_Model_markJointly 20 rfl) cb_16 ?_
      refine n_ge_t (pc := 36) (tgt := 57) C (dq D_Model_markJointly 21 rfl) (by decide) (by omega) (by omega) ?_
      refine x_iconst (pc := 57) C (dq D_Model_markJointly 32 rfl) ci_0 ?_
      refine x_istore_n (i := 1) (pc := 58) C (dq D_Model_markJointly 33 rfl) rfl rfl rfl ?_
      simp only [List.set_cons_zero, List.set_cons_succ]
      exact items nt 0 16 B V Y _ _ l2 (by omega) hB hY hY8 m1 m1 m2 rfl
    | succ d ih =>
      intro k B V Y R l2 hkd hB hY hY8 hR0 he
      refine x_iload_n (pc := 33) C (dq D_Model_markJointly 19 rfl) rfl ?_
      refine x_bipush (pc := 34) C (dq D_Model_markJointly 20 rfl) cb_16 ?_
      refine n_ge_f (pc := 36) (tgt := 57) C (dq D_Model_markJointly 21 rfl) (by decide) (by omega) (by omega) ?_
      refine x_aload_n (pc := 39) C (dq D_Model_markJointly 22 rfl) rfl ?_
      refine x_get (pc := 40) (ci := 1) (j := 18) C (dq D_Model_markJointly 23 rfl) rfl rfl (by first | exact mo hP | exact ma hP rfl rfl) rfl k_fl_Model_46 ?_
      refine x_iload_n (pc := 43) C (dq D_Model_markJointly 24 rfl) rfl ?_
      refine x_aload_n (pc := 44) C (dq D_Model_markJointly 25 rfl) rfl ?_
      refine x_get (pc := 45) (ci := 1) (j := 17) C (dq D_Model_markJointly 26 rfl) rfl rfl (by first | exact mo hP | exact ma hP rfl rfl) rfl k_fl_Model_43 ?_
      refine x_iload_n (pc := 48) C (dq D_Model_markJointly 27 rfl) rfl ?_
      refine x_iald (pc := 49) C (dq D_Model_markJointly 28 rfl) (by first | exact mo hP | exact ma hP rfl rfl) (by (try simp only [List.length_set]); omega) ?_
      refine x_iast (pc := 50) C (dq D_Model_markJointly 29 rfl) (by first | exact mo hP | exact ma hP rfl rfl) (by (try simp only [List.length_set]); omega) ?_
      try rw [List.set_set]
      refine x_iinc (pc := 51) C (dq D_Model_markJointly 30 rfl) rfl (ii_1 _) rfl rfl ?_
      simp only [List.set_cons_zero, List.set_cons_succ]
      rw [mh_s hP rfl rfl]
      simp only [Nat.reduceSub, List.set_cons_zero, List.set_cons_succ]
      refine x_goto (pc := 54) (tgt := 33) C (dq D_Model_markJointly 31 rfl) (by decide) ?_
      exact ih (k + 1) B V Y (cp1 (mk T W z16) k R) l2 (by omega) hB hY hY8 (by rw [cp1_len]; exact hR0) he
  have zeros : ∀ (d k : Nat) (Y : List Nat) (l2 : Option Value), k + d = 16 → Y.length = 112 → by8 Y → (it (fls 0) k d Y).take 16 = z16 → X g f M_Model_markJointly (0, 0) (fun o h' => o = .returned none ∧ ∃ (l : Nat) (B' M' T' S' : List Nat), bm16 (B', M') ∧ T'.length = 112 ∧ by8 T' ∧ S'.length = 16 ∧ by8 S' ∧ h' = mh g P cd ni no nt nr l [W, T, U, IN, OUT, IS, IB, B', M', ROW, T', (mjo T W IB IS nt (ROW.take nr)), S', KP] S) (0, 0) 8 [some (.ref (zA (gz g) 44)), some (.int (nI k)), l2] [] (mh g P cd ni no nt nr 16 [W, T, U, IN, OUT, IS, IB, BL, MV, ROW, Y, MA, SM, KP] S) := by
    intro d
    induction d with
    | zero =>
      intro k Y l2 hkd hY hY8 he
      have e0 : Y.take 16 = z16 := he
      obtain ⟨m1, m2⟩ := mk_ok hT.2 W z16_8
      refine x_iload_n (pc := 8) C (dq D_Model_markJointly 5 rfl) rfl ?_
      refine x_bipush (pc := 9) C (dq D_Model_markJointly 6 rfl) cb_16 ?_
      refine n_ge_t (pc := 11) (tgt := 27) C (dq D_Model_markJointly 7 rfl) (by decide) (by omega) (by omega) ?_
      refine x_aload_n (pc := 27) C (dq D_Model_markJointly 15 rfl) rfl ?_
      refine x_cV (pc := 28) (ci := 1) (M := M_Model_markText) C (dq D_Model_markJointly 16 rfl) k_ml_Model_91 m_Model_markText rfl rfl (mo hP) (cm_markText hP hW hT hU hb ⟨hY, hY8⟩ hMA.1 (by omega)) rfl rfl rfl rfl (by decide) (fun o h2 hp => ?_)
      obtain ⟨rfl, B', M', T', q1, q2, q3, rfl⟩ := hp
      refine ⟨none, rfl, ?_⟩
      rw [mmk_mk hY (by omega), e0]
      show X g f M_Model_markJointly (0, 0) (fun o h' => o = .returned none ∧ ∃ (l : Nat) (B' M' T' S' : List Nat), bm16 (B', M') ∧ T'.length = 112 ∧ by8 T' ∧ S'.length = 16 ∧ by8 S' ∧ h' = mh g P cd ni no nt nr l [W, T, U, IN, OUT, IS, IB, B', M', ROW, T', (mjo T W IB IS nt (ROW.take nr)), S', KP] S) (0, 0) 31 [some (.ref (zA (gz g) 44)), some (.int (nI k)), l2] [] (mh g P cd ni no nt nr 16 [W, T, U, IN, OUT, IS, IB, B', M', ROW, T', (mk T W z16), SM, KP] S)
      refine x_iconst (pc := 31) C (dq D_Model_markJointly 17 rfl) ci_0 ?_
      refine x_istore_n (i := 1) (pc := 32) C (dq D_Model_markJointly 18 rfl) rfl rfl rfl ?_
      simp only [List.set_cons_zero, List.set_cons_succ]
      exact first 16 0 B' M' T' SM l2 rfl q1 q2 q3 hSM.1 (cp16 m1 hSM.1)
    | succ d ih =>
      intro k Y l2 hkd hY hY8 he
      refine x_iload_n (pc := 8) C (dq D_Model_markJointly 5 rfl) rfl ?_
      refine x_bipush (pc := 9) C (dq D_Model_markJointly 6 rfl) cb_16 ?_
      refine n_ge_f (pc := 11) (tgt := 27) C (dq D_Model_markJointly 7 rfl) (by decide) (by omega) (by omega) ?_
      refine x_aload_n (pc := 14) C (dq D_Model_markJointly 8 rfl) rfl ?_
      refine x_get (pc := 15) (ci := 1) (j := 16) C (dq D_Model_markJointly 9 rfl) rfl rfl (by first | exact mo hP | exact ma hP rfl rfl) rfl k_fl_Model_40 ?_
      refine x_iload_n (pc := 18) C (dq D_Model_markJointly 10 rfl) rfl ?_
      refine x_iconst (pc := 19) C (dq D_Model_markJointly 11 rfl) ci_0 ?_
      refine x_iast (pc := 20) C (dq D_Model_markJointly 12 rfl) (by first | exact mo hP | exact ma hP rfl rfl) (by (try simp only [List.length_set]); omega) ?_
      try rw [List.set_set]
      refine x_iinc (pc := 21) C (dq D_Model_markJointly 13 rfl) rfl (ii_1 _) rfl rfl ?_
      simp only [List.set_cons_zero, List.set_cons_succ]
      rw [mh_s hP rfl rfl]
      simp only [Nat.reduceSub, List.set_cons_zero, List.set_cons_succ]
      refine x_goto (pc := 24) (tgt := 8) C (dq D_Model_markJointly 14 rfl) (by decide) ?_
      exact ih (k + 1) (fls 0 k Y) l2 (by omega) (by rw [fls_len]; exact hY) (hY8.set (by omega)) he
  refine x_aload_n (pc := 0) C (dq D_Model_markJointly 0 rfl) rfl ?_
  refine x_bipush (pc := 1) C (dq D_Model_markJointly 1 rfl) cb_16 ?_
  refine x_put (pc := 3) (ci := 1) (j := 15) (ty := .int) C (dq D_Model_markJointly 2 rfl) rfl rfl (mo hP) rfl k_fl_Model_81 (Or.inl rfl) (by decide +kernel) rfl rfl ?_
  simp only [List.set_cons_zero, List.set_cons_succ]
  rw [mh_p hP]
  refine x_iconst (pc := 6) C (dq D_Model_markJointly 3 rfl) ci_0 ?_
  refine x_istore_n (i := 1) (pc := 7) C (dq D_Model_markJointly 4 rfl) rfl rfl rfl ?_
  simp only [List.set_cons_zero, List.set_cons_succ]
  exact zeros 16 0 TX none rfl hTX.1 hTX.2 (fls_take (by omega))
end
section
/-! Longs, and the reference's stream. -/
section XL
variable {g : Gp} {f : Fm} {md : MD} {fr : Nat} {mc : Nat × Nat} {Post : Outcome → Hp → Prop} {n : Nat × Nat} {pc : Nat} {L : List (Option Value)} {st : List Value} {h : Hp}
theorem x_lcmp {x y : Int64} (C : Cx g f md fr mc) (d : decode md.2.1 pc = .ok (.lcmp, 1)) (k : X g f md mc Post n (pc + 1) L (.int (lg_cmp x y) :: st) h) : X g f md mc Post n pc L (.long y :: .long x :: st) h :=
  fun H locs ls hR hS hl => W.lcmp C.exec C.code d (k H locs ls hR hS hl)
theorem x_ldc2 {idx : Nat} {v : Int64} (C : Cx g f md fr mc) (d : decode md.2.1 pc = .ok (.ldc2_w idx, 3)) (hw : Cond.constantLong md.1.cls idx v ∈ tb) (k : X g f md mc Post n (pc + 3) L (.long v :: st) h) : X g f md mc Post n pc L st h :=
  fun H locs ls hR hS hl => lv_ldc2 C.exec C.code C.own (C.ts _ hw) d (k H locs ls hR hS hl)
theorem x_ldc {idx : Nat} {v : Int32} (C : Cx g f md fr mc) (d : decode md.2.1 pc = .ok (.ldc idx, 2)) (hw : Cond.constant md.1.cls idx v ∈ tb) (k : X g f md mc Post n (pc + 2) L (.int v :: st) h) : X g f md mc Post n pc L st h :=
  fun H locs ls hR hS hl => lv_ldc C.exec C.code C.own (C.ts _ hw) d (k H locs ls hR hS hl)
end XL
theorem l_tn {n : Nat} (h : n < 2 ^ 64) : (lN n).toBitVec.toNat = n := Nat.mod_eq_of_lt h
theorem l_s63 : ∀ n, n < 64 → (((nI n).toInt64 &&& 63).toBitVec.smod 64).toNat = n := by decide +kernel
theorem l_shl {a b : Nat} (hb : b < 64) (h : a * 2 ^ b < 2 ^ 64) : lN a <<< ((nI b).toInt64 &&& 63) = lN (a * 2 ^ b) := by
  apply Int64.toBitVec_inj.1
  apply BitVec.eq_of_toNat_eq
  have ha : a < 2 ^ 64 := Nat.lt_of_le_of_lt (Nat.le_mul_of_pos_right a (Nat.two_pow_pos b)) h
  show ((lN a).toBitVec <<< (((nI b).toInt64 &&& 63).toBitVec.smod 64).toNat).toNat = _
  rw [l_s63 b hb, BitVec.toNat_shiftLeft, Nat.shiftLeft_eq, l_tn ha, l_tn h, Nat.mod_eq_of_lt h]
theorem l_or (a b : Nat) : lN a ||| lN b = lN (a ||| b) := by
  apply Int64.toBitVec_inj.1
  show BitVec.ofNat 64 a ||| BitVec.ofNat 64 b = BitVec.ofNat 64 (a ||| b)
  rw [BitVec.ofNat_or]
theorem i64_cond (x : Int64) : x.toInt = if 2 * x.toBitVec.toNat < 2 ^ 64 then (x.toBitVec.toNat : Int) else (x.toBitVec.toNat : Int) - 2 ^ 64 := by
  show x.toBitVec.toInt = _
  rw [BitVec.toInt_eq_toNat_cond]
  simp
theorem l_shr (a s : Int64) (k : Nat) (hs : (s.toBitVec.smod 64).toNat = k) : (a >>> s).toInt = a.toInt >>> k := by
  show (a.toBitVec.sshiftRight (s.toBitVec.smod 64).toNat).toInt = _
  rw [hs, BitVec.toInt_sshiftRight]
  rfl
theorem ls255 {w k : Nat} (hw : w < 2 ^ 64) (hk : k < 8) : ((lN w >>> ((nI (56 - 8 * k)).toInt64 &&& 63)) &&& 255).toInt32 = nI ((w / 2 ^ (56 - 8 * k)) &&& 255) := by
  have e1 := l_shr (lN w) ((nI (56 - 8 * k)).toInt64 &&& 63) (56 - 8 * k) (l_s63 _ (by omega))
  have e2 := i64_cond (lN w)
  have e3 := i64_cond (lN w >>> ((nI (56 - 8 * k)).toInt64 &&& 63))
  rw [l_tn hw] at e2
  generalize (lN w >>> ((nI (56 - 8 * k)).toInt64 &&& 63)) = x at e1 e3 ⊢
  have hx : x.toBitVec.toNat < 2 ^ 64 := x.toBitVec.isLt
  have e4 : x &&& 255 = lN (x.toBitVec.toNat % 256) := by
    apply Int64.toBitVec_inj.1
    apply BitVec.eq_of_toNat_eq
    rw [Int64.toBitVec_and, BitVec.toNat_and, l_tn (by omega)]
    show x.toBitVec.toNat &&& 255 = _
    exact Nat.and_two_pow_sub_one_eq_mod _ 8
  rw [e4, lN_i]
  generalize x.toBitVec.toNat = m at e3 hx ⊢
  rw [show w / 2 ^ (56 - 8 * k) &&& 255 = w / 2 ^ (56 - 8 * k) % 2 ^ 8 from Nat.and_two_pow_sub_one_eq_mod _ 8]
  congr 1
  rw [e1, e2, Int.shiftRight_eq_div_pow] at e3
  rcases (show k = 0 ∨ k = 1 ∨ k = 2 ∨ k = 3 ∨ k = 4 ∨ k = 5 ∨ k = 6 ∨ k = 7 by omega) with rfl | rfl | rfl | rfl | rfl | rfl | rfl | rfl <;> (simp at e3 ⊢; split at e3 <;> split at e3 <;> omega)
section XM
variable {g : Gp} {f : Fm} {md : MD} {fr : Nat} {mc : Nat × Nat} {Post : Outcome → Hp → Prop} {n : Nat × Nat} {pc : Nat} {L : List (Option Value)} {st : List Value} {h : Hp}
theorem n_ladd {a b : Nat} (C : Cx g f md fr mc) (d : decode md.2.1 pc = .ok (.ladd, 1)) (k : X g f md mc Post n (pc + 1) L (.long (lN (a + b)) :: st) h) : X g f md mc Post n pc L (.long (lN b) :: .long (lN a) :: st) h := by
  refine x_ladd C d ?_
  rw [lN_add]
  exact k
theorem n_lor {a b : Nat} (C : Cx g f md fr mc) (d : decode md.2.1 pc = .ok (.lor, 1)) (k : X g f md mc Post n (pc + 1) L (.long (lN (a ||| b)) :: st) h) : X g f md mc Post n pc L (.long (lN b) :: .long (lN a) :: st) h := by
  refine x_lor C d ?_
  rw [l_or]
  exact k
theorem n_lshl {a b : Nat} (C : Cx g f md fr mc) (d : decode md.2.1 pc = .ok (.lshl, 1)) (hb : b < 64) (ha : a * 2 ^ b < 2 ^ 64) (k : X g f md mc Post n (pc + 1) L (.long (lN (a * 2 ^ b)) :: st) h) : X g f md mc Post n pc L (.int (nI b) :: .long (lN a) :: st) h :=
  x_lshl C d (l_shl hb ha) k
theorem n_i2l {a : Nat} (C : Cx g f md fr mc) (d : decode md.2.1 pc = .ok (.i2l, 1)) (ha : a < 2 ^ 31) (k : X g f md mc Post n (pc + 1) L (.long (lN a) :: st) h) : X g f md mc Post n pc L (.int (nI a) :: st) h :=
  x_i2l C d (nI_l ha) k
end XM
theorem lgc {x : Int64} (h : lg_cmp x 0 = 0) : x = 0 := by
  unfold lg_cmp at h
  split at h
  · exact absurd h (by decide)
  · split at h
    · assumption
    · exact absurd h (by decide)
theorem lN_ne0 {n : Nat} (h0 : 0 < n) (h : n < 2 ^ 64) : ¬ lN n = 0 := by
  intro z
  have e : (lN n).toBitVec.toNat = (0 : Int64).toBitVec.toNat := by rw [z]
  rw [l_tn h] at e
  have e2 : (0 : Int64).toBitVec.toNat = 0 := by decide
  omega
/-- the two halves of the counter -/
def hst (KP : List Nat) (k hi : Nat) : Nat := (hi * 2 ^ 8) ||| KP.getD k 0
def lst (KP : List Nat) (k lo : Nat) : Nat := (lo * 2 ^ 8) ||| (if k = 0 ∨ k = 4 then KP.getD (8 + k) 0 &&& 127 else KP.getD (8 + k) 0)
def khi (KP : List Nat) : Nat := it (hst KP) 0 8 0
def klo (KP : List Nat) : Nat := it (lst KP) 0 8 0
theorem or_lt {a b k : Nat} (ha : a < 2 ^ (8 * k)) (hb : b < 256) : (a * 2 ^ 8) ||| b < 2 ^ (8 * (k + 1)) := by
  have e : 2 ^ (8 * (k + 1)) = 2 ^ (8 * k) * 2 ^ 8 := by rw [← Nat.pow_add]; congr 1
  have h1 : 2 ^ 8 ≤ 2 ^ (8 * (k + 1)) := Nat.pow_le_pow_right (by omega) (by omega)
  exact Nat.or_lt_two_pow (by rw [e]; exact Nat.mul_lt_mul_of_pos_right ha (by omega)) (by omega)
theorem lst_v {KP : List Nat} (h : by8 KP) (k : Nat) : (if k = 0 ∨ k = 4 then KP.getD (8 + k) 0 &&& 127 else KP.getD (8 + k) 0) < 256 := by
  split
  · exact Nat.lt_of_le_of_lt Nat.and_le_right (by omega)
  · exact h.at _
theorem hst_lt {KP : List Nat} (h : by8 KP) : ∀ (n k hi : Nat), hi < 2 ^ (8 * k) → it (hst KP) k n hi < 2 ^ (8 * (k + n))
  | 0, k, hi, hh => hh
  | n + 1, k, hi, hh => by
    rw [show k + (n + 1) = k + 1 + n by omega]
    exact hst_lt h n (k + 1) _ (or_lt hh (h.at _))
theorem lst_lt {KP : List Nat} (h : by8 KP) : ∀ (n k lo : Nat), lo < 2 ^ (8 * k) → it (lst KP) k n lo < 2 ^ (8 * (k + n))
  | 0, k, lo, hh => hh
  | n + 1, k, lo, hh => by
    rw [show k + (n + 1) = k + 1 + n by omega]
    exact lst_lt h n (k + 1) _ (or_lt hh (lst_v h k))
/-- the lower half has its upper bit cleared -/
theorem lst_lt2 {KP : List Nat} (h : by8 KP) : ∀ (n k lo : Nat), 1 ≤ k → lo < 2 ^ (8 * k - 1) → it (lst KP) k n lo < 2 ^ (8 * (k + n) - 1)
  | 0, k, lo, _, hh => hh
  | n + 1, k, lo, hk, hh => by
    rw [show k + (n + 1) = k + 1 + n by omega]
    refine lst_lt2 h n (k + 1) _ (by omega) ?_
    have e : 2 ^ (8 * (k + 1) - 1) = 2 ^ (8 * k - 1) * 2 ^ 8 := by rw [← Nat.pow_add]; congr 1; omega
    have h1 : 2 ^ 8 ≤ 2 ^ (8 * (k + 1) - 1) := Nat.pow_le_pow_right (by omega) (by omega)
    exact Nat.or_lt_two_pow (by rw [e]; exact Nat.mul_lt_mul_of_pos_right hh (by omega)) (Nat.lt_of_lt_of_le (lst_v h k) h1)
theorem klo_lt {KP : List Nat} (h : by8 KP) : klo KP < 2 ^ 63 := by
  have h1 : lst KP 0 0 < 2 ^ (8 * 1 - 1) := by
    unfold lst
    rw [if_pos (Or.inl rfl), Nat.zero_mul, Nat.zero_or]
    exact Nat.lt_of_le_of_lt Nat.and_le_right (by omega)
  exact lst_lt2 h 7 1 _ (by omega) h1
theorem khi_lt {KP : List Nat} (h : by8 KP) : khi KP < 2 ^ 64 := hst_lt h 8 0 0 (by omega)
/-- the counter as a block -/
def ctb (hi lo k : Nat) (B : List Nat) : List Nat := (B.set k ((hi / 2 ^ (56 - 8 * k)) &&& 255)).set (8 + k) ((lo / 2 ^ (56 - 8 * k)) &&& 255)
theorem ctb_len (hi lo k : Nat) (B : List Nat) : (ctb hi lo k B).length = B.length := by simp [ctb]
def ctr (hi lo : Nat) : List Nat := it (ctb hi lo) 0 8 z16
theorem ctb_ind {hi lo : Nat} {B : List Nat} (h : B.length = 16) : it (ctb hi lo) 0 8 B = ctr hi lo := by
  obtain ⟨a0, a1, a2, a3, a4, a5, a6, a7, a8, a9, b0, b1, b2, b3, b4, b5, rfl⟩ := len16 h
  rfl
theorem ctr_ok (hi lo : Nat) : (ctr hi lo).length = 16 ∧ by8 (ctr hi lo) :=
  ⟨it_len (ctb_len hi lo) 8 0 z16, it_inv by8 8 0 z16 (fun j T _ _ hT => (hT.set (and8 _)).set (and8 _)) z16_8⟩
/-- the stream over a row: sixteen bytes from a on, but not beyond n -/
def crx (K : List Nat) (a k : Nat) (R : List Nat) : List Nat := R.set k (R.getD k 0 ^^^ K.getD (k - a) 0)
theorem crx_len (K : List Nat) (a k : Nat) (R : List Nat) : (crx K a k R).length = R.length := List.length_set
def crs (T W : List Nat) (hi lo n i : Nat) (R : List Nat) : List Nat := it (crx (enc T W 44 (ctr hi (lo + i))) (16 * i)) (16 * i) (min 16 (n - 16 * i)) R
def cro (T W : List Nat) (KP : List Nat) (n : Nat) (R : List Nat) : List Nat := it (crs T W (khi KP) (klo KP) n) 0 ((n + 15) / 16) R
theorem crx8 {K : List Nat} (hK : by8 K) (a k d : Nat) {R : List Nat} (h : by8 R) : by8 (it (crx K a) k d R) := it_inv by8 d k R (fun j T _ _ hT => hT.set (xor8 (hT.at _) (hK.at _))) h
set_option maxHeartbeats 4000000 in
theorem cm_cross {g : Gp} {P S : Hp} {cd ni no nt nr nl : Nat} {W T U IN OUT IS IB BL MV ROW TX MA SM KP : List Nat} (hP : P.length = 44) (hW : W.length = 88 ∧ by32 W) (hT : T.length = 256 ∧ by8 T) (hU : U.length = 256 ∧ by8 U) (hb : bm16 (BL, MV)) (hK : KP.length = 16 ∧ by8 KP) (hR : ROW.length = 112) (hnr : nr ≤ 88) :
    Con g M_Model_cross 2 (0, 0) [.ref (zA (gz g) 44)] (mh g P cd ni no nt nr nl [W, T, U, IN, OUT, IS, IB, BL, MV, ROW, TX, MA, SM, KP] S) (fun o h' => o = .returned none ∧ ∃ B' M' : List Nat, bm16 (B', M') ∧ h' = mh g P cd ni no nt nr nl [W, T, U, IN, OUT, IS, IB, B', M', (cro T W KP nr ROW), TX, MA, SM, KP] S) := by
  refine Con.of (by decide) rfl rfl (L := [some (.ref (zA (gz g) 44)), none, none, none, none, none, none]) rfl (fun f C => ?_)
  have hhi := khi_lt hK.2
  have hlo := klo_lt hK.2
  generalize hHi : khi KP = hi at hhi
  generalize hLo : klo KP = lo at hlo
  have blocks : ∀ (d i : Nat) (B V R : List Nat) (l6 : Option Value), i + d = (nr + 15) / 16 → bm16 (B, V) → R.length = 112 → it (crs T W hi lo nr) i d R = cro T W KP nr ROW → X g f M_Model_cross (0, 0) (fun o h' => o = .returned none ∧ ∃ B' M' : List Nat, bm16 (B', M') ∧ h' = mh g P cd ni no nt nr nl [W, T, U, IN, OUT, IS, IB, B', M', (cro T W KP nr ROW), TX, MA, SM, KP] S) (0, 0) 81 [some (.ref (zA (gz g) 44)), some (.long (lN (hi))), none, some (.long (lN (lo + i))), none, some (.int (nI (16 * i))), l6] [] (mh g P cd ni no nt nr nl [W, T, U, IN, OUT, IS, IB, B, V, R, TX, MA, SM, KP] S) := by
    intro d
    induction d with
    | zero =>
      intro i B V R l6 hid hB hR he
      rw [it_zero] at he
      refine x_iload (pc := 81) C (dq D_Model_cross 49 rfl) rfl ?_
      refine x_aload_n (pc := 83) C (dq D_Model_cross 50 rfl) rfl ?_
      refine x_get (pc := 84) (ci := 1) (j := 13) C (dq D_Model_cross 51 rfl) rfl rfl (mo hP) rfl k_fl_Model_100 ?_
      refine n_ge_t (pc := 87) (tgt := 237) C (dq D_Model_cross 52 rfl) (by decide) (by omega) (by omega) ?_
      exact x_vret (pc := 237) C (dq D_Model_cross 137 rfl) rfl (by decide) ⟨rfl, B, V, hB, by rw [he]⟩
    | succ d ih =>
      intro i B V R l6 hid hB hR he
      have hKl := enc_ok hT.2 W 44 (ctr_ok hi (lo + i)).1 (ctr_ok hi (lo + i)).2
      have next : ∀ (V R : List Nat) (k : Nat), bm16 (enc T W 44 (ctr hi (lo + i)), V) → R.length = 112 → it (crs T W hi lo nr) (i + 1) d R = cro T W KP nr ROW → X g f M_Model_cross (0, 0) (fun o h' => o = .returned none ∧ ∃ B' M' : List Nat, bm16 (B', M') ∧ h' = mh g P cd ni no nt nr nl [W, T, U, IN, OUT, IS, IB, B', M', (cro T W KP nr ROW), TX, MA, SM, KP] S) (0, 0) 213 [some (.ref (zA (gz g) 44)), some (.long (lN (hi))), none, some (.long (lN (lo + i))), none, some (.int (nI (16 * i))), some (.int (nI k))] [] (mh g P cd ni no nt nr nl [W, T, U, IN, OUT, IS, IB, (enc T W 44 (ctr hi (lo + i))), V, R, TX, MA, SM, KP] S) := by
        intro V R k hV hR he
        refine x_lload_n (pc := 213) C (dq D_Model_cross 121 rfl) rfl ?_
        refine x_lconst (v := lN 1) (pc := 214) C (dq D_Model_cross 122 rfl) rfl ?_
        refine n_ladd (pc := 215) C (dq D_Model_cross 123 rfl) ?_
        refine x_lstore_n (i := 3) (pc := 216) C (dq D_Model_cross 124 rfl) rfl rfl rfl ?_
        simp only [List.set_cons_zero, List.set_cons_succ]
        refine x_lload_n (pc := 217) C (dq D_Model_cross 125 rfl) rfl ?_
        refine x_lconst (v := lN 0) (pc := 218) C (dq D_Model_cross 126 rfl) rfl ?_
        refine x_lcmp (pc := 219) C (dq D_Model_cross 127 rfl) ?_
        refine x_ifne (pc := 220) (tgt := 229) C (dq D_Model_cross 128 rfl) (by decide) (fun _ => ?_) (fun q => absurd (lgc q) (lN_ne0 (by omega) (by omega)))
        refine x_lload_n (pc := 229) C (dq D_Model_cross 133 rfl) rfl ?_
        refine x_lstore_n (i := 1) (pc := 230) C (dq D_Model_cross 134 rfl) rfl rfl rfl ?_
        simp only [List.set_cons_zero, List.set_cons_succ]
        refine x_iinc (pc := 231) C (dq D_Model_cross 135 rfl) rfl (ii_16 _) rfl rfl ?_
        simp only [List.set_cons_zero, List.set_cons_succ]
        refine x_goto (pc := 234) (tgt := 81) C (dq D_Model_cross 136 rfl) (by decide) ?_
        exact ih (i + 1) _ V R _ (by omega) hV hR he
      have over : ∀ (e k : Nat) (V R : List Nat), k + e = 16 * i + min 16 (nr - 16 * i) → 16 * i ≤ k → bm16 (enc T W 44 (ctr hi (lo + i)), V) → R.length = 112 → it (crs T W hi lo nr) (i + 1) d (it (crx (enc T W 44 (ctr hi (lo + i))) (16 * i)) k e R) = cro T W KP nr ROW → X g f M_Model_cross (0, 0) (fun o h' => o = .returned none ∧ ∃ B' M' : List Nat, bm16 (B', M') ∧ h' = mh g P cd ni no nt nr nl [W, T, U, IN, OUT, IS, IB, B', M', (cro T W KP nr ROW), TX, MA, SM, KP] S) (0, 0) 163 [some (.ref (zA (gz g) 44)), some (.long (lN (hi))), none, some (.long (lN (lo + i))), none, some (.int (nI (16 * i))), some (.int (nI k))] [] (mh g P cd ni no nt nr nl [W, T, U, IN, OUT, IS, IB, (enc T W 44 (ctr hi (lo + i))), V, R, TX, MA, SM, KP] S) := by
        intro e
        induction e with
        | zero =>
          intro k V R hke hk hV hR he
          rw [it_zero] at he
          by_cases hc : 16 * i + 16 ≤ k
          · refine x_iload (pc := 163) C (dq D_Model_cross 95 rfl) rfl ?_
            refine x_iload (pc := 165) C (dq D_Model_cross 96 rfl) rfl ?_
            refine x_bipush (pc := 167) C (dq D_Model_cross 97 rfl) cb_16 ?_
            refine n_iadd (pc := 169) C (dq D_Model_cross 98 rfl) ?_
            refine n_ge_t (pc := 170) (tgt := 213) C (dq D_Model_cross 99 rfl) (by decide) (by omega) (by omega) ?_
            exact next V R k hV hR he
          · refine x_iload (pc := 163) C (dq D_Model_cross 95 rfl) rfl ?_
            refine x_iload (pc := 165) C (dq D_Model_cross 96 rfl) rfl ?_
            refine x_bipush (pc := 167) C (dq D_Model_cross 97 rfl) cb_16 ?_
            refine n_iadd (pc := 169) C (dq D_Model_cross 98 rfl) ?_
            refine n_ge_f (pc := 170) (tgt := 213) C (dq D_Model_cross 99 rfl) (by decide) (by omega) (by omega) ?_
            refine x_iload (pc := 173) C (dq D_Model_cross 100 rfl) rfl ?_
            refine x_aload_n (pc := 175) C (dq D_Model_cross 101 rfl) rfl ?_
            refine x_get (pc := 176) (ci := 1) (j := 13) C (dq D_Model_cross 102 rfl) rfl rfl (mo hP) rfl k_fl_Model_100 ?_
            refine n_ge_t (pc := 179) (tgt := 213) C (dq D_Model_cross 103 rfl) (by decide) (by omega) (by omega) ?_
            exact next V R k hV hR he
        | succ e ih2 =>
          intro k V R hke hk hV hR he
          refine x_iload (pc := 163) C (dq D_Model_cross 95 rfl) rfl ?_
          refine x_iload (pc := 165) C (dq D_Model_cross 96 rfl) rfl ?_
          refine x_bipush (pc := 167) C (dq D_Model_cross 97 rfl) cb_16 ?_
          refine n_iadd (pc := 169) C (dq D_Model_cross 98 rfl) ?_
          refine n_ge_f (pc := 170) (tgt := 213) C (dq D_Model_cross 99 rfl) (by decide) (by omega) (by omega) ?_
          refine x_iload (pc := 173) C (dq D_Model_cross 100 rfl) rfl ?_
          refine x_aload_n (pc := 175) C (dq D_Model_cross 101 rfl) rfl ?_
          refine x_get (pc := 176) (ci := 1) (j := 13) C (dq D_Model_cross 102 rfl) rfl rfl (by first | exact mo hP | exact ma hP rfl rfl) rfl k_fl_Model_100 ?_
          refine n_ge_f (pc := 179) (tgt := 213) C (dq D_Model_cross 103 rfl) (by decide) (by omega) (by omega) ?_
          refine x_aload_n (pc := 182) C (dq D_Model_cross 104 rfl) rfl ?_
          refine x_get (pc := 183) (ci := 1) (j := 14) C (dq D_Model_cross 105 rfl) rfl rfl (by first | exact mo hP | exact ma hP rfl rfl) rfl k_fl_Model_37 ?_
          refine x_iload (pc := 186) C (dq D_Model_cross 106 rfl) rfl ?_
          refine x_aload_n (pc := 188) C (dq D_Model_cross 107 rfl) rfl ?_
          refine x_get (pc := 189) (ci := 1) (j := 14) C (dq D_Model_cross 108 rfl) rfl rfl (by first | exact mo hP | exact ma hP rfl rfl) rfl k_fl_Model_37 ?_
          refine x_iload (pc := 192) C (dq D_Model_cross 109 rfl) rfl ?_
          refine x_iald (pc := 194) C (dq D_Model_cross 110 rfl) (by first | exact mo hP | exact ma hP rfl rfl) (by (try simp only [List.length_set]); omega) ?_
          refine x_aload_n (pc := 195) C (dq D_Model_cross 111 rfl) rfl ?_
          refine x_get (pc := 196) (ci := 1) (j := 11) C (dq D_Model_cross 112 rfl) rfl rfl (by first | exact mo hP | exact ma hP rfl rfl) rfl k_fl_Model_31 ?_
          refine x_iload (pc := 199) C (dq D_Model_cross 113 rfl) rfl ?_
          refine x_iload (pc := 201) C (dq D_Model_cross 114 rfl) rfl ?_
          refine n_isub (pc := 203) C (dq D_Model_cross 115 rfl) (by omega) ?_
          refine x_iald (pc := 204) C (dq D_Model_cross 116 rfl) (by first | exact mo hP | exact ma hP rfl rfl) (by (try simp only [List.length_set]); omega) ?_
          refine n_ixor (pc := 205) C (dq D_Model_cross 117 rfl) ?_
          refine x_iast (pc := 206) C (dq D_Model_cross 118 rfl) (by first | exact mo hP | exact ma hP rfl rfl) (by (try simp only [List.length_set]); omega) ?_
          try rw [List.set_set]
          refine x_iinc (pc := 207) C (dq D_Model_cross 119 rfl) rfl (ii_1 _) rfl rfl ?_
          simp only [List.set_cons_zero, List.set_cons_succ]
          rw [mh_s hP rfl rfl]
          simp only [Nat.reduceSub, List.set_cons_zero, List.set_cons_succ]
          refine x_goto (pc := 210) (tgt := 163) C (dq D_Model_cross 120 rfl) (by decide) ?_
          exact ih2 (k + 1) V (crx (enc T W 44 (ctr hi (lo + i))) (16 * i) k R) (by omega) (by omega) hV (by rw [crx_len]; exact hR) he
      have lay : ∀ (e k : Nat) (B : List Nat), k + e = 8 → B.length = 16 → by8 B → it (ctb hi (lo + i)) k e B = ctr hi (lo + i) → X g f M_Model_cross (0, 0) (fun o h' => o = .returned none ∧ ∃ B' M' : List Nat, bm16 (B', M') ∧ h' = mh g P cd ni no nt nr nl [W, T, U, IN, OUT, IS, IB, B', M', (cro T W KP nr ROW), TX, MA, SM, KP] S) (0, 0) 93 [some (.ref (zA (gz g) 44)), some (.long (lN (hi))), none, some (.long (lN (lo + i))), none, some (.int (nI (16 * i))), some (.int (nI k))] [] (mh g P cd ni no nt nr nl [W, T, U, IN, OUT, IS, IB, B, V, R, TX, MA, SM, KP] S) := by
        intro e
        induction e with
        | zero =>
          intro k B hke hBl hB8 he2
          rw [it_zero] at he2
          rw [he2]
          refine x_iload (pc := 93) C (dq D_Model_cross 55 rfl) rfl ?_
          refine x_bipush (pc := 95) C (dq D_Model_cross 56 rfl) cb_8 ?_
          refine n_ge_t (pc := 97) (tgt := 153) C (dq D_Model_cross 57 rfl) (by decide) (by omega) (by omega) ?_
          refine x_aload_n (pc := 153) C (dq D_Model_cross 90 rfl) rfl ?_
          refine x_bipush (pc := 154) C (dq D_Model_cross 91 rfl) cb_44 ?_
          refine x_cV (pc := 156) (ci := 1) (M := M_Model_encipher) C (dq D_Model_cross 92 rfl) k_ml_Model_84 m_Model_encipher rfl rfl (mo hP) (c_enc hP hW hT hU ⟨(ctr_ok hi (lo + i)).1, (ctr_ok hi (lo + i)).2, hB.2.2⟩ (by omega)) rfl rfl rfl rfl (by decide) (fun o h2 hp => ?_)
          obtain ⟨rfl, V2, hV2, rfl⟩ := hp
          refine ⟨none, rfl, ?_⟩
          show X g f M_Model_cross (0, 0) (fun o h' => o = .returned none ∧ ∃ B' M' : List Nat, bm16 (B', M') ∧ h' = mh g P cd ni no nt nr nl [W, T, U, IN, OUT, IS, IB, B', M', (cro T W KP nr ROW), TX, MA, SM, KP] S) (0, 0) 159 [some (.ref (zA (gz g) 44)), some (.long (lN (hi))), none, some (.long (lN (lo + i))), none, some (.int (nI (16 * i))), some (.int (nI k))] [] (mh g P cd ni no nt nr nl [W, T, U, IN, OUT, IS, IB, (enc T W 44 (ctr hi (lo + i))), V2, R, TX, MA, SM, KP] S)
          refine x_iload (pc := 159) C (dq D_Model_cross 93 rfl) rfl ?_
          refine x_istore (i := 6) (pc := 161) C (dq D_Model_cross 94 rfl) rfl rfl rfl ?_
          simp only [List.set_cons_zero, List.set_cons_succ]
          exact over (min 16 (nr - 16 * i)) (16 * i) V2 R rfl (by omega) hV2 hR he
        | succ e ih2 =>
          intro k B hke hBl hB8 he2
          refine x_iload (pc := 93) C (dq D_Model_cross 55 rfl) rfl ?_
          refine x_bipush (pc := 95) C (dq D_Model_cross 56 rfl) cb_8 ?_
          refine n_ge_f (pc := 97) (tgt := 153) C (dq D_Model_cross 57 rfl) (by decide) (by omega) (by omega) ?_
          refine x_aload_n (pc := 100) C (dq D_Model_cross 58 rfl) rfl ?_
          refine x_get (pc := 101) (ci := 1) (j := 11) C (dq D_Model_cross 59 rfl) rfl rfl (by first | exact mo hP | exact ma hP rfl rfl) rfl k_fl_Model_31 ?_
          refine x_iload (pc := 104) C (dq D_Model_cross 60 rfl) rfl ?_
          refine x_lload_n (pc := 106) C (dq D_Model_cross 61 rfl) rfl ?_
          refine x_bipush (pc := 107) C (dq D_Model_cross 62 rfl) cb_56 ?_
          refine x_bipush (pc := 109) C (dq D_Model_cross 63 rfl) cb_8 ?_
          refine x_iload (pc := 111) C (dq D_Model_cross 64 rfl) rfl ?_
          refine n_imul (pc := 113) C (dq D_Model_cross 65 rfl) ?_
          refine n_isub (pc := 114) C (dq D_Model_cross 66 rfl) (by omega) ?_
          refine x_lshr (pc := 115) C (dq D_Model_cross 67 rfl) rfl ?_
          refine x_ldc2 (pc := 116) C (dq D_Model_cross 68 rfl) k_co_Model_103 ?_
          refine x_land (pc := 119) C (dq D_Model_cross 69 rfl) ?_
          refine x_l2i (pc := 120) C (dq D_Model_cross 70 rfl) (ls255 (by omega) (by omega)) ?_
          refine x_iast (pc := 121) C (dq D_Model_cross 71 rfl) (by first | exact mo hP | exact ma hP rfl rfl) (by (try simp only [List.length_set]); omega) ?_
          try rw [List.set_set]
          rw [mh_s hP rfl rfl]
          simp only [Nat.reduceSub, List.set_cons_zero, List.set_cons_succ]
          refine x_aload_n (pc := 122) C (dq D_Model_cross 72 rfl) rfl ?_
          refine x_get (pc := 123) (ci := 1) (j := 11) C (dq D_Model_cross 73 rfl) rfl rfl (by first | exact mo hP | exact ma hP rfl rfl) rfl k_fl_Model_31 ?_
          refine x_bipush (pc := 126) C (dq D_Model_cross 74 rfl) cb_8 ?_
          refine x_iload (pc := 128) C (dq D_Model_cross 75 rfl) rfl ?_
          refine n_iadd (pc := 130) C (dq D_Model_cross 76 rfl) ?_
          refine x_lload_n (pc := 131) C (dq D_Model_cross 77 rfl) rfl ?_
          refine x_bipush (pc := 132) C (dq D_Model_cross 78 rfl) cb_56 ?_
          refine x_bipush (pc := 134) C (dq D_Model_cross 79 rfl) cb_8 ?_
          refine x_iload (pc := 136) C (dq D_Model_cross 80 rfl) rfl ?_
          refine n_imul (pc := 138) C (dq D_Model_cross 81 rfl) ?_
          refine n_isub (pc := 139) C (dq D_Model_cross 82 rfl) (by omega) ?_
          refine x_lshr (pc := 140) C (dq D_Model_cross 83 rfl) rfl ?_
          refine x_ldc2 (pc := 141) C (dq D_Model_cross 84 rfl) k_co_Model_103 ?_
          refine x_land (pc := 144) C (dq D_Model_cross 85 rfl) ?_
          refine x_l2i (pc := 145) C (dq D_Model_cross 86 rfl) (ls255 (by omega) (by omega)) ?_
          refine x_iast (pc := 146) C (dq D_Model_cross 87 rfl) (by first | exact mo hP | exact ma hP rfl rfl) (by (try simp only [List.length_set]); omega) ?_
          try rw [List.set_set]
          rw [mh_s hP rfl rfl]
          simp only [Nat.reduceSub, List.set_cons_zero, List.set_cons_succ]
          refine x_iinc (pc := 147) C (dq D_Model_cross 88 rfl) rfl (ii_1 _) rfl rfl ?_
          simp only [List.set_cons_zero, List.set_cons_succ]
          refine x_goto (pc := 150) (tgt := 93) C (dq D_Model_cross 89 rfl) (by decide) ?_
          exact ih2 (k + 1) (ctb hi (lo + i) k B) (by omega) (by rw [ctb_len]; exact hBl) ((hB8.set (and8 _)).set (and8 _)) he2
      refine x_iload (pc := 81) C (dq D_Model_cross 49 rfl) rfl ?_
      refine x_aload_n (pc := 83) C (dq D_Model_cross 50 rfl) rfl ?_
      refine x_get (pc := 84) (ci := 1) (j := 13) C (dq D_Model_cross 51 rfl) rfl rfl (mo hP) rfl k_fl_Model_100 ?_
      refine n_ge_f (pc := 87) (tgt := 237) C (dq D_Model_cross 52 rfl) (by decide) (by omega) (by omega) ?_
      refine x_iconst (pc := 90) C (dq D_Model_cross 53 rfl) ci_0 ?_
      refine x_istore (i := 6) (pc := 91) C (dq D_Model_cross 54 rfl) rfl rfl rfl ?_
      simp only [List.set_cons_zero, List.set_cons_succ]
      exact lay 8 0 B rfl hB.1 hB.2.1 (ctb_ind hB.1)
  have load : ∀ (e k a b : Nat) (l6 : Option Value), k + e = 8 → a < 2 ^ (8 * k) → b < 2 ^ (8 * k) → it (hst KP) k e a = hi → it (lst KP) k e b = lo → X g f M_Model_cross (0, 0) (fun o h' => o = .returned none ∧ ∃ B' M' : List Nat, bm16 (B', M') ∧ h' = mh g P cd ni no nt nr nl [W, T, U, IN, OUT, IS, IB, B', M', (cro T W KP nr ROW), TX, MA, SM, KP] S) (0, 0) 7 [some (.ref (zA (gz g) 44)), some (.long (lN (a))), none, some (.long (lN (b))), none, some (.int (nI k)), l6] [] (mh g P cd ni no nt nr nl [W, T, U, IN, OUT, IS, IB, BL, MV, ROW, TX, MA, SM, KP] S) := by
    intro e
    induction e with
    | zero =>
      intro k a b l6 hke ha hb2 h1 h2
      rw [it_zero] at h1 h2
      rw [h1, h2]
      refine x_iload (pc := 7) C (dq D_Model_cross 6 rfl) rfl ?_
      refine x_bipush (pc := 9) C (dq D_Model_cross 7 rfl) cb_8 ?_
      refine n_ge_t (pc := 11) (tgt := 78) C (dq D_Model_cross 8 rfl) (by decide) (by omega) (by omega) ?_
      refine x_iconst (pc := 78) C (dq D_Model_cross 47 rfl) ci_0 ?_
      refine x_istore (i := 5) (pc := 79) C (dq D_Model_cross 48 rfl) rfl rfl rfl ?_
      simp only [List.set_cons_zero, List.set_cons_succ]
      refine blocks ((nr + 15) / 16) 0 BL MV ROW l6 (by omega) hb hR ?_
      unfold cro
      rw [hHi, hLo]
    | succ e ih =>
      intro k a b l6 hke ha hb2 h1 h2
      have p0 : 2 ^ (8 * k) ≤ 2 ^ 56 := Nat.pow_le_pow_right (by omega) (by omega)
      have p1 : a * 2 ^ 8 < 2 ^ 64 := by
        have q := Nat.mul_lt_mul_of_pos_right (Nat.lt_of_lt_of_le ha p0) (Nat.two_pow_pos 8)
        rw [← Nat.pow_add] at q
        exact q
      have p2 : b * 2 ^ 8 < 2 ^ 64 := by
        have q := Nat.mul_lt_mul_of_pos_right (Nat.lt_of_lt_of_le hb2 p0) (Nat.two_pow_pos 8)
        rw [← Nat.pow_add] at q
        exact q
      clear p0
      have v1 := hK.2.at k
      have v2 := hK.2.at (8 + k)
      have fin : ∀ v : Nat, v = (if k = 0 ∨ k = 4 then KP.getD (8 + k) 0 &&& 127 else KP.getD (8 + k) 0) → X g f M_Model_cross (0, 0) (fun o h' => o = .returned none ∧ ∃ B' M' : List Nat, bm16 (B', M') ∧ h' = mh g P cd ni no nt nr nl [W, T, U, IN, OUT, IS, IB, B', M', (cro T W KP nr ROW), TX, MA, SM, KP] S) (0, 0) 69 [some (.ref (zA (gz g) 44)), some (.long (lN (hst KP k a))), none, some (.long (lN b)), none, some (.int (nI k)), l6] [.int (nI v), .long (lN (b * 2 ^ 8))] (mh g P cd ni no nt nr nl [W, T, U, IN, OUT, IS, IB, BL, MV, ROW, TX, MA, SM, KP] S) := by
        intro v hv
        have v3 : v < 256 := by rw [hv]; exact lst_v hK.2 k
        refine n_i2l (pc := 69) C (dq D_Model_cross 42 rfl) (by omega) ?_
        refine n_lor (pc := 70) C (dq D_Model_cross 43 rfl) ?_
        refine x_lstore_n (i := 3) (pc := 71) C (dq D_Model_cross 44 rfl) rfl rfl rfl ?_
        simp only [List.set_cons_zero, List.set_cons_succ]
        refine x_iinc (pc := 72) C (dq D_Model_cross 45 rfl) rfl (ii_1 _) rfl rfl ?_
        simp only [List.set_cons_zero, List.set_cons_succ]
        refine x_goto (pc := 75) (tgt := 7) C (dq D_Model_cross 46 rfl) (by decide) ?_
        refine ih (k + 1) (hst KP k a) ((b * 2 ^ 8) ||| v) l6 (by omega) (or_lt ha v1) (or_lt hb2 v3) h1 ?_
        rw [hv]
        exact h2
      refine x_iload (pc := 7) C (dq D_Model_cross 6 rfl) rfl ?_
      refine x_bipush (pc := 9) C (dq D_Model_cross 7 rfl) cb_8 ?_
      refine n_ge_f (pc := 11) (tgt := 78) C (dq D_Model_cross 8 rfl) (by decide) (by omega) (by omega) ?_
      refine x_lload_n (pc := 14) C (dq D_Model_cross 9 rfl) rfl ?_
      refine x_bipush (pc := 15) C (dq D_Model_cross 10 rfl) cb_8 ?_
      refine n_lshl (pc := 17) C (dq D_Model_cross 11 rfl) (by omega) p1 ?_
      refine x_aload_n (pc := 18) C (dq D_Model_cross 12 rfl) rfl ?_
      refine x_get (pc := 19) (ci := 1) (j := 19) C (dq D_Model_cross 13 rfl) rfl rfl (by first | exact mo hP | exact ma hP rfl rfl) rfl k_fl_Model_49 ?_
      refine x_iload (pc := 22) C (dq D_Model_cross 14 rfl) rfl ?_
      refine x_iald (pc := 24) C (dq D_Model_cross 15 rfl) (by first | exact mo hP | exact ma hP rfl rfl) (by (try simp only [List.length_set]); omega) ?_
      refine n_i2l (pc := 25) C (dq D_Model_cross 16 rfl) (by omega) ?_
      refine n_lor (pc := 26) C (dq D_Model_cross 17 rfl) ?_
      refine x_lstore_n (i := 1) (pc := 27) C (dq D_Model_cross 18 rfl) rfl rfl rfl ?_
      simp only [List.set_cons_zero, List.set_cons_succ]
      refine x_lload_n (pc := 28) C (dq D_Model_cross 19 rfl) rfl ?_
      refine x_bipush (pc := 29) C (dq D_Model_cross 20 rfl) cb_8 ?_
      refine n_lshl (pc := 31) C (dq D_Model_cross 21 rfl) (by omega) p2 ?_
      refine x_iload (pc := 32) C (dq D_Model_cross 22 rfl) rfl ?_
      by_cases hk : k = 0 ∨ k = 4
      · rw [if_pos hk] at fin
        rcases hk with rfl | rfl
        · refine n_ifeq_t (pc := 34) (tgt := 43) C (dq D_Model_cross 23 rfl) (by decide) (by omega) (by omega) ?_
          refine x_aload_n (pc := 43) C (dq D_Model_cross 27 rfl) rfl ?_
          refine x_get (pc := 44) (ci := 1) (j := 19) C (dq D_Model_cross 28 rfl) rfl rfl (by first | exact mo hP | exact ma hP rfl rfl) rfl k_fl_Model_49 ?_
          refine x_bipush (pc := 47) C (dq D_Model_cross 29 rfl) cb_8 ?_
          refine x_iload (pc := 49) C (dq D_Model_cross 30 rfl) rfl ?_
          refine n_iadd (pc := 51) C (dq D_Model_cross 31 rfl) ?_
          refine x_iald (pc := 52) C (dq D_Model_cross 32 rfl) (by first | exact mo hP | exact ma hP rfl rfl) (by (try simp only [List.length_set]); omega) ?_
          refine x_bipush (pc := 53) C (dq D_Model_cross 33 rfl) cb_127 ?_
          refine n_iand (pc := 55) C (dq D_Model_cross 34 rfl) ?_
          refine x_goto (pc := 56) (tgt := 69) C (dq D_Model_cross 35 rfl) (by decide) ?_
          exact fin _ rfl
        · refine n_ifeq_f (pc := 34) (tgt := 43) C (dq D_Model_cross 23 rfl) (by decide) (by omega) (by omega) ?_
          refine x_iload (pc := 37) C (dq D_Model_cross 24 rfl) rfl ?_
          refine x_iconst (pc := 39) C (dq D_Model_cross 25 rfl) ci_4 ?_
          refine n_ne_f (pc := 40) (tgt := 59) C (dq D_Model_cross 26 rfl) (by decide) (by omega) (by omega) ?_
          refine x_aload_n (pc := 43) C (dq D_Model_cross 27 rfl) rfl ?_
          refine x_get (pc := 44) (ci := 1) (j := 19) C (dq D_Model_cross 28 rfl) rfl rfl (by first | exact mo hP | exact ma hP rfl rfl) rfl k_fl_Model_49 ?_
          refine x_bipush (pc := 47) C (dq D_Model_cross 29 rfl) cb_8 ?_
          refine x_iload (pc := 49) C (dq D_Model_cross 30 rfl) rfl ?_
          refine n_iadd (pc := 51) C (dq D_Model_cross 31 rfl) ?_
          refine x_iald (pc := 52) C (dq D_Model_cross 32 rfl) (by first | exact mo hP | exact ma hP rfl rfl) (by (try simp only [List.length_set]); omega) ?_
          refine x_bipush (pc := 53) C (dq D_Model_cross 33 rfl) cb_127 ?_
          refine n_iand (pc := 55) C (dq D_Model_cross 34 rfl) ?_
          refine x_goto (pc := 56) (tgt := 69) C (dq D_Model_cross 35 rfl) (by decide) ?_
          exact fin _ rfl
      · rw [if_neg hk] at fin
        refine n_ifeq_f (pc := 34) (tgt := 43) C (dq D_Model_cross 23 rfl) (by decide) (by omega) (by omega) ?_
        refine x_iload (pc := 37) C (dq D_Model_cross 24 rfl) rfl ?_
        refine x_iconst (pc := 39) C (dq D_Model_cross 25 rfl) ci_4 ?_
        refine n_ne_t (pc := 40) (tgt := 59) C (dq D_Model_cross 26 rfl) (by decide) (by omega) (by omega) ?_
        refine x_aload_n (pc := 59) C (dq D_Model_cross 36 rfl) rfl ?_
        refine x_get (pc := 60) (ci := 1) (j := 19) C (dq D_Model_cross 37 rfl) rfl rfl (by first | exact mo hP | exact ma hP rfl rfl) rfl k_fl_Model_49 ?_
        refine x_bipush (pc := 63) C (dq D_Model_cross 38 rfl) cb_8 ?_
        refine x_iload (pc := 65) C (dq D_Model_cross 39 rfl) rfl ?_
        refine n_iadd (pc := 67) C (dq D_Model_cross 40 rfl) ?_
        refine x_iald (pc := 68) C (dq D_Model_cross 41 rfl) (by first | exact mo hP | exact ma hP rfl rfl) (by (try simp only [List.length_set]); omega) ?_
        exact fin _ rfl
  refine x_lconst (v := lN 0) (pc := 0) C (dq D_Model_cross 0 rfl) rfl ?_
  refine x_lstore_n (i := 1) (pc := 1) C (dq D_Model_cross 1 rfl) rfl rfl rfl ?_
  simp only [List.set_cons_zero, List.set_cons_succ]
  refine x_lconst (v := lN 0) (pc := 2) C (dq D_Model_cross 2 rfl) rfl ?_
  refine x_lstore_n (i := 3) (pc := 3) C (dq D_Model_cross 3 rfl) rfl rfl rfl ?_
  simp only [List.set_cons_zero, List.set_cons_succ]
  refine x_iconst (pc := 4) C (dq D_Model_cross 4 rfl) ci_0 ?_
  refine x_istore (i := 5) (pc := 5) C (dq D_Model_cross 5 rfl) rfl rfl rfl ?_
  simp only [List.set_cons_zero, List.set_cons_succ]
  exact load 8 0 0 0 none rfl (by omega) (by omega) hHi hLo
end
section
/-! The reference's wrapping. -/
theorem bm_mk {B V : List Nat} (h1 : B.length = 16) (h2 : by8 B) (h3 : V.length = 16) (h4 : by8 V) : bm16 (B, V) := ⟨h1, h2, h3, h4⟩
theorem bm_l {B V : List Nat} (h : bm16 (B, V)) : B.length = 16 ∧ by8 B := ⟨h.1, h.2.1⟩
theorem bm_r {B V : List Nat} (h : bm16 (B, V)) : V.length = 16 ∧ by8 V := h.2.2
def mld (R : List Nat) (i k : Nat) (B : List Nat) : List Nat := (B.set k (R.getD k 0)).set (8 + k) (R.getD (8 * i + k) 0)
def mlf (R : List Nat) (i : Nat) : List Nat := it (mld R i) 0 8 z16
def mst (K : List Nat) (i k : Nat) (R : List Nat) : List Nat := (R.set k (K.getD k 0)).set (8 * i + k) (K.getD (8 + k) 0)
theorem mld_len (R : List Nat) (i k : Nat) (B : List Nat) : (mld R i k B).length = B.length := by simp [mld]
theorem mst_len (K : List Nat) (i k : Nat) (R : List Nat) : (mst K i k R).length = R.length := by simp [mst]
theorem mld_ind {R : List Nat} {i : Nat} {B : List Nat} (h : B.length = 16) : it (mld R i) 0 8 B = mlf R i := by
  obtain ⟨a0, a1, a2, a3, a4, a5, a6, a7, a8, a9, b0, b1, b2, b3, b4, b5, rfl⟩ := len16 h
  rfl
theorem mlf_ok {R : List Nat} (hR : by8 R) (i : Nat) : (mlf R i).length = 16 ∧ by8 (mlf R i) :=
  ⟨it_len (mld_len R i) 8 0 z16, it_inv by8 8 0 z16 (fun j T _ _ hT => (hT.set (hR.at _)).set (hR.at _)) z16_8⟩
theorem mst8 {K : List Nat} (hK : by8 K) (i k d : Nat) {R : List Nat} (h : by8 R) : by8 (it (mst K i) k d R) := it_inv by8 d k R (fun j T _ _ hT => (hT.set (hK.at _)).set (hK.at _)) h
theorem cm_number {g : Gp} {h : Hp} {cd ni no nt nr nl x : Nat} {K : List Nat} (hm : h[44]? = some (moc g cd ni no nt nr nl)) (hk : h[52]? = some (ia g K)) (hK : K.length = 16) :
    Con g M_Model_number 0 (0, 0) [.ref (zA (gz g) 44), .int (nI x)] h (Ret none (h.set 52 (ia g (nm K x)))) := by
  refine Con.of (by decide) rfl rfl (L := [some (.ref (zA (gz g) 44)), some (.int (nI x))]) rfl (fun f C => ?_)
  refine x_aload_n (pc := 0) C (dq D_Model_number 0 rfl) rfl ?_
  refine x_get (pc := 1) (ci := 1) (j := 11) C (dq D_Model_number 1 rfl) rfl rfl (by first | exact hm | exact hk) rfl k_fl_Model_31 ?_
  refine x_bipush (pc := 4) C (dq D_Model_number 2 rfl) cb_7 ?_
  refine x_aload_n (pc := 6) C (dq D_Model_number 3 rfl) rfl ?_
  refine x_get (pc := 7) (ci := 1) (j := 11) C (dq D_Model_number 4 rfl) rfl rfl (by first | exact hm | exact hk) rfl k_fl_Model_31 ?_
  refine x_bipush (pc := 10) C (dq D_Model_number 5 rfl) cb_7 ?_
  refine x_iald (pc := 12) C (dq D_Model_number 6 rfl) (by first | exact hm | exact hk) (by (try simp only [List.length_set]); omega) ?_
  refine x_iload_n (pc := 13) C (dq D_Model_number 7 rfl) rfl ?_
  refine n_ixor (pc := 14) C (dq D_Model_number 8 rfl) ?_
  refine x_iast (pc := 15) C (dq D_Model_number 9 rfl) (by first | exact hm | exact hk) (by (try simp only [List.length_set]); omega) ?_
  try rw [List.set_set]
  exact x_vret (pc := 16) C (dq D_Model_number 10 rfl) rfl (by decide) ⟨rfl, rfl⟩
def mws (T W : List Nat) (n j i : Nat) (R : List Nat) : List Nat := it (mst (nm (enc T W 0 (mlf R i)) (n * j + i)) i) 0 8 R
def mwr (T W : List Nat) (n j : Nat) (R : List Nat) : List Nat := it (fun i => mws T W n j (i + 1)) 0 n R
def mwd (T W : List Nat) (n : Nat) (R : List Nat) : List Nat := it (mwr T W n) 0 6 R
def mus (U W : List Nat) (n j i : Nat) (R : List Nat) : List Nat := it (mst (dec U W 0 (nm (mlf R i) (n * j + i))) i) 0 8 R
def mur (U W : List Nat) (n j : Nat) (R : List Nat) : List Nat := it (fun i => mus U W n j (n - i)) 0 n R
def mud (U W : List Nat) (n : Nat) (R : List Nat) : List Nat := it (fun j => mur U W n (5 - j)) 0 6 R
theorem mws_ok {T : List Nat} (hT : by8 T) (W : List Nat) {n j i m : Nat} {R : List Nat} (hx : n * j + i < 256) (h : R.length = m ∧ by8 R) : (mws T W n j i R).length = m ∧ by8 (mws T W n j i R) := by
  obtain ⟨a, b⟩ := mlf_ok h.2 i
  obtain ⟨c, d⟩ := enc_ok hT W 0 a b
  unfold mws
  exact ⟨by rw [it_len (mst_len _ i)]; exact h.1, mst8 (nm8 d hx) i 0 8 h.2⟩
theorem mwr_ok {T : List Nat} (hT : by8 T) (W : List Nat) {n j m : Nat} (hn : n ≤ 10) (hj : j < 6) {R : List Nat} (h : R.length = m ∧ by8 R) : (mwr T W n j R).length = m ∧ by8 (mwr T W n j R) :=
  it_inv (fun R : List Nat => R.length = m ∧ by8 R) n 0 R (fun i S _ hi hS => mws_ok hT W (num_lt hn hj (by omega)) hS) h
theorem mwd_ok {T : List Nat} (hT : by8 T) (W : List Nat) {n m : Nat} (hn : n ≤ 10) {R : List Nat} (h : R.length = m ∧ by8 R) : (mwd T W n R).length = m ∧ by8 (mwd T W n R) :=
  it_inv (fun R : List Nat => R.length = m ∧ by8 R) 6 0 R (fun j S _ hj hS => mwr_ok hT W hn (by omega) hS) h
theorem mus_ok {U : List Nat} (hU : by8 U) (W : List Nat) {n j i m : Nat} {R : List Nat} (hx : n * j + i < 256) (h : R.length = m ∧ by8 R) : (mus U W n j i R).length = m ∧ by8 (mus U W n j i R) := by
  obtain ⟨a, b⟩ := mlf_ok h.2 i
  obtain ⟨c, d⟩ := dec_ok hU W 0 (B := nm (mlf R i) (n * j + i)) (by rw [nm_len]; exact a) (nm8 b hx)
  unfold mus
  exact ⟨by rw [it_len (mst_len _ i)]; exact h.1, mst8 d i 0 8 h.2⟩
theorem mur_ok {U : List Nat} (hU : by8 U) (W : List Nat) {n j m : Nat} (hn : n ≤ 10) (hj : j < 6) {R : List Nat} (h : R.length = m ∧ by8 R) : (mur U W n j R).length = m ∧ by8 (mur U W n j R) :=
  it_inv (fun R : List Nat => R.length = m ∧ by8 R) n 0 R (fun i S _ hi hS => mus_ok hU W (num_lt hn hj (by omega)) hS) h
theorem mud_ok {U : List Nat} (hU : by8 U) (W : List Nat) {n m : Nat} (hn : n ≤ 10) {R : List Nat} (h : R.length = m ∧ by8 R) : (mud U W n R).length = m ∧ by8 (mud U W n R) :=
  it_inv (fun R : List Nat => R.length = m ∧ by8 R) 6 0 R (fun j S _ hj hS => mur_ok hU W hn (by omega) hS) h
set_option maxHeartbeats 4000000 in
theorem cm_wrap {g : Gp} {P S : Hp} {cd ni no nt nr nl : Nat} {W T U IN OUT IS IB BL MV ROW TX MA SM KP : List Nat} (hP : P.length = 44) (hW : W.length = 88 ∧ by32 W) (hT : T.length = 256 ∧ by8 T) (hU : U.length = 256 ∧ by8 U) (hb : bm16 (BL, MV)) (hR : ROW.length = 112 ∧ by8 ROW) (hnr : 16 ≤ nr ∧ nr ≤ 88) :
    Con g M_Model_wrap 2 (0, 0) [.ref (zA (gz g) 44)] (mh g P cd ni no nt nr nl [W, T, U, IN, OUT, IS, IB, BL, MV, ROW, TX, MA, SM, KP] S) (fun o h' => o = .returned none ∧ ∃ B' M' : List Nat, bm16 (B', M') ∧ h' = mh g P cd ni no nt nr nl [W, T, U, IN, OUT, IS, IB, B', M', (mwd T W (nr / 8 - 1) ROW), TX, MA, SM, KP] S) := by
  refine Con.of (by decide) rfl rfl (L := [some (.ref (zA (gz g) 44)), none, none, none, none]) rfl (fun f C => ?_)
  have rows : ∀ (d i j : Nat) (B V R : List Nat) (l4 : Option Value), i + d = nr / 8 - 1 → j < 6 → bm16 (B, V) → R.length = 112 ∧ by8 R →
      (∀ (B V : List Nat) (l4 : Option Value), bm16 (B, V) → X g f M_Model_wrap (0, 0) (fun o h' => o = .returned none ∧ ∃ B' M' : List Nat, bm16 (B', M') ∧ h' = mh g P cd ni no nt nr nl [W, T, U, IN, OUT, IS, IB, B', M', (mwd T W (nr / 8 - 1) ROW), TX, MA, SM, KP] S) (0, 0) 149 [some (.ref (zA (gz g) 44)), some (.int (nI (nr / 8 - 1))), some (.int (nI j)), some (.int (nI (nr / 8 - 1 + 1))), l4] [] (mh g P cd ni no nt nr nl [W, T, U, IN, OUT, IS, IB, B, V, (it (fun i => mws T W (nr / 8 - 1) j (i + 1)) i d R), TX, MA, SM, KP] S)) →
      X g f M_Model_wrap (0, 0) (fun o h' => o = .returned none ∧ ∃ B' M' : List Nat, bm16 (B', M') ∧ h' = mh g P cd ni no nt nr nl [W, T, U, IN, OUT, IS, IB, B', M', (mwd T W (nr / 8 - 1) ROW), TX, MA, SM, KP] S) (0, 0) 20 [some (.ref (zA (gz g) 44)), some (.int (nI (nr / 8 - 1))), some (.int (nI j)), some (.int (nI (i + 1))), l4] [] (mh g P cd ni no nt nr nl [W, T, U, IN, OUT, IS, IB, B, V, R, TX, MA, SM, KP] S) := by
    intro d
    induction d with
    | zero =>
      intro i j B V R l4 hid hj hB hR go
      obtain rfl : i = nr / 8 - 1 := by omega
      refine x_iload_n (pc := 20) C (dq D_Model_wrap 14 rfl) rfl ?_
      refine x_iload_n (pc := 21) C (dq D_Model_wrap 15 rfl) rfl ?_
      refine n_gt_t (pc := 22) (tgt := 149) C (dq D_Model_wrap 16 rfl) (by decide) (by omega) (by omega) ?_
      exact go B V l4 hB
    | succ d ih =>
      intro i j B V R l4 hid hj hB hR go
      have hx := num_lt (n := nr / 8 - 1) (j := j) (i := i + 1) (by omega) hj (by omega)
      obtain ⟨a1, a2⟩ := mlf_ok hR.2 (i + 1)
      obtain ⟨k1, k2⟩ := enc_ok hT.2 W 0 a1 a2
      have n1 : (nm (enc T W 0 (mlf R (i + 1))) ((nr / 8 - 1) * j + (i + 1))).length = 16 := by rw [nm_len]; exact k1
      have n2 := nm8 k2 hx
      have store : ∀ (e k : Nat) (V Y : List Nat), k + e = 8 → bm16 (nm (enc T W 0 (mlf R (i + 1))) ((nr / 8 - 1) * j + (i + 1)), V) → Y.length = 112 → it (mst (nm (enc T W 0 (mlf R (i + 1))) ((nr / 8 - 1) * j + (i + 1))) (i + 1)) k e Y = mws T W (nr / 8 - 1) j (i + 1) R → X g f M_Model_wrap (0, 0) (fun o h' => o = .returned none ∧ ∃ B' M' : List Nat, bm16 (B', M') ∧ h' = mh g P cd ni no nt nr nl [W, T, U, IN, OUT, IS, IB, B', M', (mwd T W (nr / 8 - 1) ROW), TX, MA, SM, KP] S) (0, 0) 94 [some (.ref (zA (gz g) 44)), some (.int (nI (nr / 8 - 1))), some (.int (nI j)), some (.int (nI (i + 1))), some (.int (nI k))] [] (mh g P cd ni no nt nr nl [W, T, U, IN, OUT, IS, IB, (nm (enc T W 0 (mlf R (i + 1))) ((nr / 8 - 1) * j + (i + 1))), V, Y, TX, MA, SM, KP] S) := by
        intro e
        induction e with
        | zero =>
          intro k V Y hke hV hY he
          rw [it_zero] at he
          rw [he]
          refine x_iload (pc := 94) C (dq D_Model_wrap 58 rfl) rfl ?_
          refine x_bipush (pc := 96) C (dq D_Model_wrap 59 rfl) cb_8 ?_
          refine n_ge_t (pc := 98) (tgt := 143) C (dq D_Model_wrap 60 rfl) (by decide) (by omega) (by omega) ?_
          refine x_iinc (pc := 143) C (dq D_Model_wrap 85 rfl) rfl (ii_1 _) rfl rfl ?_
          simp only [List.set_cons_zero, List.set_cons_succ]
          refine x_goto (pc := 146) (tgt := 20) C (dq D_Model_wrap 86 rfl) (by decide) ?_
          exact ih (i + 1) j _ V _ _ (by omega) hj hV (mws_ok hT.2 W hx hR) go
        | succ e ih2 =>
          intro k V Y hke hV hY he
          refine x_iload (pc := 94) C (dq D_Model_wrap 58 rfl) rfl ?_
          refine x_bipush (pc := 96) C (dq D_Model_wrap 59 rfl) cb_8 ?_
          refine n_ge_f (pc := 98) (tgt := 143) C (dq D_Model_wrap 60 rfl) (by decide) (by omega) (by omega) ?_
          refine x_aload_n (pc := 101) C (dq D_Model_wrap 61 rfl) rfl ?_
          refine x_get (pc := 102) (ci := 1) (j := 14) C (dq D_Model_wrap 62 rfl) rfl rfl (by first | exact mo hP | exact ma hP rfl rfl) rfl k_fl_Model_37 ?_
          refine x_iload (pc := 105) C (dq D_Model_wrap 63 rfl) rfl ?_
          refine x_aload_n (pc := 107) C (dq D_Model_wrap 64 rfl) rfl ?_
          refine x_get (pc := 108) (ci := 1) (j := 11) C (dq D_Model_wrap 65 rfl) rfl rfl (by first | exact mo hP | exact ma hP rfl rfl) rfl k_fl_Model_31 ?_
          refine x_iload (pc := 111) C (dq D_Model_wrap 66 rfl) rfl ?_
          refine x_iald (pc := 113) C (dq D_Model_wrap 67 rfl) (by first | exact mo hP | exact ma hP rfl rfl) (by (try simp only [List.length_set]); omega) ?_
          refine x_iast (pc := 114) C (dq D_Model_wrap 68 rfl) (by first | exact mo hP | exact ma hP rfl rfl) (by (try simp only [List.length_set]); omega) ?_
          try rw [List.set_set]
          rw [mh_s hP rfl rfl]
          simp only [Nat.reduceSub, List.set_cons_zero, List.set_cons_succ]
          refine x_aload_n (pc := 115) C (dq D_Model_wrap 69 rfl) rfl ?_
          refine x_get (pc := 116) (ci := 1) (j := 14) C (dq D_Model_wrap 70 rfl) rfl rfl (by first | exact mo hP | exact ma hP rfl rfl) rfl k_fl_Model_37 ?_
          refine x_bipush (pc := 119) C (dq D_Model_wrap 71 rfl) cb_8 ?_
          refine x_iload_n (pc := 121) C (dq D_Model_wrap 72 rfl) rfl ?_
          refine n_imul (pc := 122) C (dq D_Model_wrap 73 rfl) ?_
          refine x_iload (pc := 123) C (dq D_Model_wrap 74 rfl) rfl ?_
          refine n_iadd (pc := 125) C (dq D_Model_wrap 75 rfl) ?_
          refine x_aload_n (pc := 126) C (dq D_Model_wrap 76 rfl) rfl ?_
          refine x_get (pc := 127) (ci := 1) (j := 11) C (dq D_Model_wrap 77 rfl) rfl rfl (by first | exact mo hP | exact ma hP rfl rfl) rfl k_fl_Model_31 ?_
          refine x_bipush (pc := 130) C (dq D_Model_wrap 78 rfl) cb_8 ?_
          refine x_iload (pc := 132) C (dq D_Model_wrap 79 rfl) rfl ?_
          refine n_iadd (pc := 134) C (dq D_Model_wrap 80 rfl) ?_
          refine x_iald (pc := 135) C (dq D_Model_wrap 81 rfl) (by first | exact mo hP | exact ma hP rfl rfl) (by (try simp only [List.length_set]); omega) ?_
          refine x_iast (pc := 136) C (dq D_Model_wrap 82 rfl) (by first | exact mo hP | exact ma hP rfl rfl) (by (try simp only [List.length_set]); omega) ?_
          try rw [List.set_set]
          rw [mh_s hP rfl rfl]
          simp only [Nat.reduceSub, List.set_cons_zero, List.set_cons_succ]
          refine x_iinc (pc := 137) C (dq D_Model_wrap 83 rfl) rfl (ii_1 _) rfl rfl ?_
          simp only [List.set_cons_zero, List.set_cons_succ]
          refine x_goto (pc := 140) (tgt := 94) C (dq D_Model_wrap 84 rfl) (by decide) ?_
          exact ih2 (k + 1) V (mst (nm (enc T W 0 (mlf R (i + 1))) ((nr / 8 - 1) * j + (i + 1))) (i + 1) k Y) (by omega) hV (by rw [mst_len]; exact hY) he
      have load : ∀ (e k : Nat) (B : List Nat), k + e = 8 → B.length = 16 → it (mld R (i + 1)) k e B = mlf R (i + 1) → X g f M_Model_wrap (0, 0) (fun o h' => o = .returned none ∧ ∃ B' M' : List Nat, bm16 (B', M') ∧ h' = mh g P cd ni no nt nr nl [W, T, U, IN, OUT, IS, IB, B', M', (mwd T W (nr / 8 - 1) ROW), TX, MA, SM, KP] S) (0, 0) 28 [some (.ref (zA (gz g) 44)), some (.int (nI (nr / 8 - 1))), some (.int (nI j)), some (.int (nI (i + 1))), some (.int (nI k))] [] (mh g P cd ni no nt nr nl [W, T, U, IN, OUT, IS, IB, B, V, R, TX, MA, SM, KP] S) := by
        intro e
        induction e with
        | zero =>
          intro k B hke hBl he
          rw [it_zero] at he
          rw [he]
          refine x_iload (pc := 28) C (dq D_Model_wrap 19 rfl) rfl ?_
          refine x_bipush (pc := 30) C (dq D_Model_wrap 20 rfl) cb_8 ?_
          refine n_ge_t (pc := 32) (tgt := 77) C (dq D_Model_wrap 21 rfl) (by decide) (by omega) (by omega) ?_
          refine x_aload_n (pc := 77) C (dq D_Model_wrap 46 rfl) rfl ?_
          refine x_iconst (pc := 78) C (dq D_Model_wrap 47 rfl) ci_0 ?_
          refine x_cV (pc := 79) (ci := 1) (M := M_Model_encipher) C (dq D_Model_wrap 48 rfl) k_ml_Model_84 m_Model_encipher rfl rfl (mo hP) (c_enc hP hW hT hU (bm_mk a1 a2 (bm_r hB).1 (bm_r hB).2) (by omega)) rfl rfl rfl rfl (by decide) (fun o h2 hp => ?_)
          obtain ⟨rfl, V2, hV2, rfl⟩ := hp
          refine ⟨none, rfl, ?_⟩
          show X g f M_Model_wrap (0, 0) (fun o h' => o = .returned none ∧ ∃ B' M' : List Nat, bm16 (B', M') ∧ h' = mh g P cd ni no nt nr nl [W, T, U, IN, OUT, IS, IB, B', M', (mwd T W (nr / 8 - 1) ROW), TX, MA, SM, KP] S) (0, 0) 82 [some (.ref (zA (gz g) 44)), some (.int (nI (nr / 8 - 1))), some (.int (nI j)), some (.int (nI (i + 1))), some (.int (nI k))] [] (mh g P cd ni no nt nr nl [W, T, U, IN, OUT, IS, IB, (enc T W 0 (mlf R (i + 1))), V2, R, TX, MA, SM, KP] S)
          refine x_aload_n (pc := 82) C (dq D_Model_wrap 49 rfl) rfl ?_
          refine x_iload_n (pc := 83) C (dq D_Model_wrap 50 rfl) rfl ?_
          refine x_iload_n (pc := 84) C (dq D_Model_wrap 51 rfl) rfl ?_
          refine n_imul (pc := 85) C (dq D_Model_wrap 52 rfl) ?_
          refine x_iload_n (pc := 86) C (dq D_Model_wrap 53 rfl) rfl ?_
          refine n_iadd (pc := 87) C (dq D_Model_wrap 54 rfl) ?_
          refine x_cV0 (pc := 88) (ci := 1) (M := M_Model_number) C (dq D_Model_wrap 55 rfl) k_ml_Model_111 m_Model_number rfl rfl (mo hP) (cm_number (mo hP) (ma hP rfl rfl) k1) rfl rfl rfl rfl (by decide) ?_
          rw [mh_s hP rfl rfl]
          simp only [Nat.reduceSub, List.set_cons_zero, List.set_cons_succ]
          refine x_iconst (pc := 91) C (dq D_Model_wrap 56 rfl) ci_0 ?_
          refine x_istore (i := 4) (pc := 92) C (dq D_Model_wrap 57 rfl) rfl rfl rfl ?_
          simp only [List.set_cons_zero, List.set_cons_succ]
          have hv3 := bm_r hV2
          exact store 8 0 V2 R rfl (bm_mk n1 n2 hv3.1 hv3.2) hR.1 (by rw [mws])
        | succ e ih2 =>
          intro k B hke hBl he
          have hR1 := hR.1
          refine x_iload (pc := 28) C (dq D_Model_wrap 19 rfl) rfl ?_
          refine x_bipush (pc := 30) C (dq D_Model_wrap 20 rfl) cb_8 ?_
          refine n_ge_f (pc := 32) (tgt := 77) C (dq D_Model_wrap 21 rfl) (by decide) (by omega) (by omega) ?_
          refine x_aload_n (pc := 35) C (dq D_Model_wrap 22 rfl) rfl ?_
          refine x_get (pc := 36) (ci := 1) (j := 11) C (dq D_Model_wrap 23 rfl) rfl rfl (by first | exact mo hP | exact ma hP rfl rfl) rfl k_fl_Model_31 ?_
          refine x_iload (pc := 39) C (dq D_Model_wrap 24 rfl) rfl ?_
          refine x_aload_n (pc := 41) C (dq D_Model_wrap 25 rfl) rfl ?_
          refine x_get (pc := 42) (ci := 1) (j := 14) C (dq D_Model_wrap 26 rfl) rfl rfl (by first | exact mo hP | exact ma hP rfl rfl) rfl k_fl_Model_37 ?_
          refine x_iload (pc := 45) C (dq D_Model_wrap 27 rfl) rfl ?_
          refine x_iald (pc := 47) C (dq D_Model_wrap 28 rfl) (by first | exact mo hP | exact ma hP rfl rfl) (by (try simp only [List.length_set]); omega) ?_
          refine x_iast (pc := 48) C (dq D_Model_wrap 29 rfl) (by first | exact mo hP | exact ma hP rfl rfl) (by (try simp only [List.length_set]); omega) ?_
          try rw [List.set_set]
          rw [mh_s hP rfl rfl]
          simp only [Nat.reduceSub, List.set_cons_zero, List.set_cons_succ]
          refine x_aload_n (pc := 49) C (dq D_Model_wrap 30 rfl) rfl ?_
          refine x_get (pc := 50) (ci := 1) (j := 11) C (dq D_Model_wrap 31 rfl) rfl rfl (by first | exact mo hP | exact ma hP rfl rfl) rfl k_fl_Model_31 ?_
          refine x_bipush (pc := 53) C (dq D_Model_wrap 32 rfl) cb_8 ?_
          refine x_iload (pc := 55) C (dq D_Model_wrap 33 rfl) rfl ?_
          refine n_iadd (pc := 57) C (dq D_Model_wrap 34 rfl) ?_
          refine x_aload_n (pc := 58) C (dq D_Model_wrap 35 rfl) rfl ?_
          refine x_get (pc := 59) (ci := 1) (j := 14) C (dq D_Model_wrap 36 rfl) rfl rfl (by first | exact mo hP | exact ma hP rfl rfl) rfl k_fl_Model_37 ?_
          refine x_bipush (pc := 62) C (dq D_Model_wrap 37 rfl) cb_8 ?_
          refine x_iload_n (pc := 64) C (dq D_Model_wrap 38 rfl) rfl ?_
          refine n_imul (pc := 65) C (dq D_Model_wrap 39 rfl) ?_
          refine x_iload (pc := 66) C (dq D_Model_wrap 40 rfl) rfl ?_
          refine n_iadd (pc := 68) C (dq D_Model_wrap 41 rfl) ?_
          refine x_iald (pc := 69) C (dq D_Model_wrap 42 rfl) (by first | exact mo hP | exact ma hP rfl rfl) (by (try simp only [List.length_set]); omega) ?_
          refine x_iast (pc := 70) C (dq D_Model_wrap 43 rfl) (by first | exact mo hP | exact ma hP rfl rfl) (by (try simp only [List.length_set]); omega) ?_
          try rw [List.set_set]
          rw [mh_s hP rfl rfl]
          simp only [Nat.reduceSub, List.set_cons_zero, List.set_cons_succ]
          refine x_iinc (pc := 71) C (dq D_Model_wrap 44 rfl) rfl (ii_1 _) rfl rfl ?_
          simp only [List.set_cons_zero, List.set_cons_succ]
          refine x_goto (pc := 74) (tgt := 28) C (dq D_Model_wrap 45 rfl) (by decide) ?_
          exact ih2 (k + 1) (mld R (i + 1) k B) (by omega) (by rw [mld_len]; exact hBl) he
      refine x_iload_n (pc := 20) C (dq D_Model_wrap 14 rfl) rfl ?_
      refine x_iload_n (pc := 21) C (dq D_Model_wrap 15 rfl) rfl ?_
      refine n_gt_f (pc := 22) (tgt := 149) C (dq D_Model_wrap 16 rfl) (by decide) (by omega) (by omega) ?_
      refine x_iconst (pc := 25) C (dq D_Model_wrap 17 rfl) ci_0 ?_
      refine x_istore (i := 4) (pc := 26) C (dq D_Model_wrap 18 rfl) rfl rfl rfl ?_
      simp only [List.set_cons_zero, List.set_cons_succ]
      exact load 8 0 B rfl hB.1 (mld_ind hB.1)
  have turns : ∀ (d j : Nat) (B V R : List Nat) (l3 l4 : Option Value), j + d = 6 → bm16 (B, V) → R.length = 112 ∧ by8 R → it (mwr T W (nr / 8 - 1)) j d R = mwd T W (nr / 8 - 1) ROW → X g f M_Model_wrap (0, 0) (fun o h' => o = .returned none ∧ ∃ B' M' : List Nat, bm16 (B', M') ∧ h' = mh g P cd ni no nt nr nl [W, T, U, IN, OUT, IS, IB, B', M', (mwd T W (nr / 8 - 1) ROW), TX, MA, SM, KP] S) (0, 0) 12 [some (.ref (zA (gz g) 44)), some (.int (nI (nr / 8 - 1))), some (.int (nI j)), l3, l4] [] (mh g P cd ni no nt nr nl [W, T, U, IN, OUT, IS, IB, B, V, R, TX, MA, SM, KP] S) := by
    intro d
    induction d with
    | zero =>
      intro j B V R l3 l4 hjd hB hR he
      rw [it_zero] at he
      refine x_iload_n (pc := 12) C (dq D_Model_wrap 9 rfl) rfl ?_
      refine x_bipush (pc := 13) C (dq D_Model_wrap 10 rfl) cb_6 ?_
      refine n_ge_t (pc := 15) (tgt := 155) C (dq D_Model_wrap 11 rfl) (by decide) (by omega) (by omega) ?_
      exact x_vret (pc := 155) C (dq D_Model_wrap 89 rfl) rfl (by decide) ⟨rfl, B, V, hB, by rw [he]⟩
    | succ d ih =>
      intro j B V R l3 l4 hjd hB hR he
      refine x_iload_n (pc := 12) C (dq D_Model_wrap 9 rfl) rfl ?_
      refine x_bipush (pc := 13) C (dq D_Model_wrap 10 rfl) cb_6 ?_
      refine n_ge_f (pc := 15) (tgt := 155) C (dq D_Model_wrap 11 rfl) (by decide) (by omega) (by omega) ?_
      refine x_iconst (pc := 18) C (dq D_Model_wrap 12 rfl) ci_1 ?_
      refine x_istore_n (i := 3) (pc := 19) C (dq D_Model_wrap 13 rfl) rfl rfl rfl ?_
      simp only [List.set_cons_zero, List.set_cons_succ]
      refine rows (nr / 8 - 1) 0 j B V R l4 (by omega) (by omega) hB hR (fun B2 V2 l4 hB2 => ?_)
      refine x_iinc (pc := 149) C (dq D_Model_wrap 87 rfl) rfl (ii_1 _) rfl rfl ?_
      simp only [List.set_cons_zero, List.set_cons_succ]
      refine x_goto (pc := 152) (tgt := 12) C (dq D_Model_wrap 88 rfl) (by decide) ?_
      exact ih (j + 1) B2 V2 (mwr T W (nr / 8 - 1) j R) _ _ (by omega) hB2 (mwr_ok hT.2 W (by omega) (by omega) hR) he
  refine x_aload_n (pc := 0) C (dq D_Model_wrap 0 rfl) rfl ?_
  refine x_get (pc := 1) (ci := 1) (j := 13) C (dq D_Model_wrap 1 rfl) rfl rfl (mo hP) rfl k_fl_Model_100 ?_
  refine x_bipush (pc := 4) C (dq D_Model_wrap 2 rfl) cb_8 ?_
  refine n_idiv (pc := 6) C (dq D_Model_wrap 3 rfl) (by omega) (by omega) (by omega) ?_
  refine x_iconst (pc := 7) C (dq D_Model_wrap 4 rfl) ci_1 ?_
  refine n_isub (pc := 8) C (dq D_Model_wrap 5 rfl) (by omega) ?_
  refine x_istore_n (i := 1) (pc := 9) C (dq D_Model_wrap 6 rfl) rfl rfl rfl ?_
  simp only [List.set_cons_zero, List.set_cons_succ]
  refine x_iconst (pc := 10) C (dq D_Model_wrap 7 rfl) ci_0 ?_
  refine x_istore_n (i := 2) (pc := 11) C (dq D_Model_wrap 8 rfl) rfl rfl rfl ?_
  simp only [List.set_cons_zero, List.set_cons_succ]
  exact turns 6 0 BL MV ROW none none rfl hb hR (by rw [mwd])
end
section
set_option maxHeartbeats 4000000 in
theorem cm_unwrap {g : Gp} {P S : Hp} {cd ni no nt nr nl : Nat} {W T U IN OUT IS IB BL MV ROW TX MA SM KP : List Nat} (hP : P.length = 44) (hW : W.length = 88 ∧ by32 W) (hT : T.length = 256 ∧ by8 T) (hU : U.length = 256 ∧ by8 U) (hb : bm16 (BL, MV)) (hR : ROW.length = 112 ∧ by8 ROW) (hnr : 16 ≤ nr ∧ nr ≤ 88) :
    Con g M_Model_unwrap 2 (0, 0) [.ref (zA (gz g) 44)] (mh g P cd ni no nt nr nl [W, T, U, IN, OUT, IS, IB, BL, MV, ROW, TX, MA, SM, KP] S) (fun o h' => o = .returned none ∧ ∃ B' M' : List Nat, bm16 (B', M') ∧ h' = mh g P cd ni no nt nr nl [W, T, U, IN, OUT, IS, IB, B', M', (mud U W (nr / 8 - 1) ROW), TX, MA, SM, KP] S) := by
  refine Con.of (by decide) rfl rfl (L := [some (.ref (zA (gz g) 44)), none, none, none, none]) rfl (fun f C => ?_)
  have rows : ∀ (d i j : Nat) (B V R : List Nat) (l4 : Option Value), i + d = nr / 8 - 1 → j < 6 → bm16 (B, V) → R.length = 112 ∧ by8 R →
      (∀ (B V : List Nat) (l4 : Option Value), bm16 (B, V) → X g f M_Model_unwrap (0, 0) (fun o h' => o = .returned none ∧ ∃ B' M' : List Nat, bm16 (B', M') ∧ h' = mh g P cd ni no nt nr nl [W, T, U, IN, OUT, IS, IB, B', M', (mud U W (nr / 8 - 1) ROW), TX, MA, SM, KP] S) (0, 0) 147 [some (.ref (zA (gz g) 44)), some (.int (nI (nr / 8 - 1))), some (.int (nI j)), some (.int (nI 0)), l4] [] (mh g P cd ni no nt nr nl [W, T, U, IN, OUT, IS, IB, B, V, (it (fun i => mus U W (nr / 8 - 1) j (nr / 8 - 1 - i)) i d R), TX, MA, SM, KP] S)) →
      X g f M_Model_unwrap (0, 0) (fun o h' => o = .returned none ∧ ∃ B' M' : List Nat, bm16 (B', M') ∧ h' = mh g P cd ni no nt nr nl [W, T, U, IN, OUT, IS, IB, B', M', (mud U W (nr / 8 - 1) ROW), TX, MA, SM, KP] S) (0, 0) 18 [some (.ref (zA (gz g) 44)), some (.int (nI (nr / 8 - 1))), some (.int (nI j)), some (.int (nI d)), l4] [] (mh g P cd ni no nt nr nl [W, T, U, IN, OUT, IS, IB, B, V, R, TX, MA, SM, KP] S) := by
    intro d
    induction d with
    | zero =>
      intro i j B V R l4 hid hj hB hR go
      refine x_iload_n (pc := 18) C (dq D_Model_unwrap 13 rfl) rfl ?_
      refine x_iconst (pc := 19) C (dq D_Model_unwrap 14 rfl) ci_1 ?_
      refine n_lt_t (pc := 20) (tgt := 147) C (dq D_Model_unwrap 15 rfl) (by decide) (by omega) (by omega) ?_
      exact go B V l4 hB
    | succ d ih =>
      intro i j B V R l4 hid hj hB hR go
      have hx := num_lt (n := nr / 8 - 1) (j := j) (i := d + 1) (by omega) hj (by omega)
      obtain ⟨a1, a2⟩ := mlf_ok hR.2 (d + 1)
      have n1 : (nm (mlf R (d + 1)) ((nr / 8 - 1) * j + (d + 1))).length = 16 := by rw [nm_len]; exact a1
      have n2 := nm8 a2 hx
      obtain ⟨k1, k2⟩ := dec_ok hU.2 W 0 n1 n2
      have e0 : nr / 8 - 1 - i = d + 1 := by omega
      have store : ∀ (e k : Nat) (V Y : List Nat), k + e = 8 → bm16 ((dec U W 0 (nm (mlf R (d + 1)) ((nr / 8 - 1) * j + (d + 1)))), V) → Y.length = 112 → it (mst (dec U W 0 (nm (mlf R (d + 1)) ((nr / 8 - 1) * j + (d + 1)))) (d + 1)) k e Y = mus U W (nr / 8 - 1) j (d + 1) R → X g f M_Model_unwrap (0, 0) (fun o h' => o = .returned none ∧ ∃ B' M' : List Nat, bm16 (B', M') ∧ h' = mh g P cd ni no nt nr nl [W, T, U, IN, OUT, IS, IB, B', M', (mud U W (nr / 8 - 1) ROW), TX, MA, SM, KP] S) (0, 0) 92 [some (.ref (zA (gz g) 44)), some (.int (nI (nr / 8 - 1))), some (.int (nI j)), some (.int (nI (d + 1))), some (.int (nI k))] [] (mh g P cd ni no nt nr nl [W, T, U, IN, OUT, IS, IB, (dec U W 0 (nm (mlf R (d + 1)) ((nr / 8 - 1) * j + (d + 1)))), V, Y, TX, MA, SM, KP] S) := by
        intro e
        induction e with
        | zero =>
          intro k V Y hke hV hY he
          rw [it_zero] at he
          rw [he]
          refine x_iload (pc := 92) C (dq D_Model_unwrap 57 rfl) rfl ?_
          refine x_bipush (pc := 94) C (dq D_Model_unwrap 58 rfl) cb_8 ?_
          refine n_ge_t (pc := 96) (tgt := 141) C (dq D_Model_unwrap 59 rfl) (by decide) (by omega) (by omega) ?_
          refine x_iinc (pc := 141) C (dq D_Model_unwrap 84 rfl) rfl (iim (by omega)) rfl rfl ?_
          simp only [List.set_cons_zero, List.set_cons_succ]
          refine x_goto (pc := 144) (tgt := 18) C (dq D_Model_unwrap 85 rfl) (by decide) ?_
          refine ih (i + 1) j _ V _ _ (by omega) hj hV (mus_ok hU.2 W hx hR) (fun B2 V2 l4 q => ?_)
          have := go B2 V2 l4 q
          rw [it_succ, e0] at this
          exact this
        | succ e ih2 =>
          intro k V Y hke hV hY he
          refine x_iload (pc := 92) C (dq D_Model_unwrap 57 rfl) rfl ?_
          refine x_bipush (pc := 94) C (dq D_Model_unwrap 58 rfl) cb_8 ?_
          refine n_ge_f (pc := 96) (tgt := 141) C (dq D_Model_unwrap 59 rfl) (by decide) (by omega) (by omega) ?_
          refine x_aload_n (pc := 99) C (dq D_Model_unwrap 60 rfl) rfl ?_
          refine x_get (pc := 100) (ci := 1) (j := 14) C (dq D_Model_unwrap 61 rfl) rfl rfl (by first | exact mo hP | exact ma hP rfl rfl) rfl k_fl_Model_37 ?_
          refine x_iload (pc := 103) C (dq D_Model_unwrap 62 rfl) rfl ?_
          refine x_aload_n (pc := 105) C (dq D_Model_unwrap 63 rfl) rfl ?_
          refine x_get (pc := 106) (ci := 1) (j := 11) C (dq D_Model_unwrap 64 rfl) rfl rfl (by first | exact mo hP | exact ma hP rfl rfl) rfl k_fl_Model_31 ?_
          refine x_iload (pc := 109) C (dq D_Model_unwrap 65 rfl) rfl ?_
          refine x_iald (pc := 111) C (dq D_Model_unwrap 66 rfl) (by first | exact mo hP | exact ma hP rfl rfl) (by (try simp only [List.length_set]); omega) ?_
          refine x_iast (pc := 112) C (dq D_Model_unwrap 67 rfl) (by first | exact mo hP | exact ma hP rfl rfl) (by (try simp only [List.length_set]); omega) ?_
          try rw [List.set_set]
          rw [mh_s hP rfl rfl]
          simp only [Nat.reduceSub, List.set_cons_zero, List.set_cons_succ]
          refine x_aload_n (pc := 113) C (dq D_Model_unwrap 68 rfl) rfl ?_
          refine x_get (pc := 114) (ci := 1) (j := 14) C (dq D_Model_unwrap 69 rfl) rfl rfl (by first | exact mo hP | exact ma hP rfl rfl) rfl k_fl_Model_37 ?_
          refine x_bipush (pc := 117) C (dq D_Model_unwrap 70 rfl) cb_8 ?_
          refine x_iload_n (pc := 119) C (dq D_Model_unwrap 71 rfl) rfl ?_
          refine n_imul (pc := 120) C (dq D_Model_unwrap 72 rfl) ?_
          refine x_iload (pc := 121) C (dq D_Model_unwrap 73 rfl) rfl ?_
          refine n_iadd (pc := 123) C (dq D_Model_unwrap 74 rfl) ?_
          refine x_aload_n (pc := 124) C (dq D_Model_unwrap 75 rfl) rfl ?_
          refine x_get (pc := 125) (ci := 1) (j := 11) C (dq D_Model_unwrap 76 rfl) rfl rfl (by first | exact mo hP | exact ma hP rfl rfl) rfl k_fl_Model_31 ?_
          refine x_bipush (pc := 128) C (dq D_Model_unwrap 77 rfl) cb_8 ?_
          refine x_iload (pc := 130) C (dq D_Model_unwrap 78 rfl) rfl ?_
          refine n_iadd (pc := 132) C (dq D_Model_unwrap 79 rfl) ?_
          refine x_iald (pc := 133) C (dq D_Model_unwrap 80 rfl) (by first | exact mo hP | exact ma hP rfl rfl) (by (try simp only [List.length_set]); omega) ?_
          refine x_iast (pc := 134) C (dq D_Model_unwrap 81 rfl) (by first | exact mo hP | exact ma hP rfl rfl) (by (try simp only [List.length_set]); omega) ?_
          try rw [List.set_set]
          rw [mh_s hP rfl rfl]
          simp only [Nat.reduceSub, List.set_cons_zero, List.set_cons_succ]
          refine x_iinc (pc := 135) C (dq D_Model_unwrap 82 rfl) rfl (ii_1 _) rfl rfl ?_
          simp only [List.set_cons_zero, List.set_cons_succ]
          refine x_goto (pc := 138) (tgt := 92) C (dq D_Model_unwrap 83 rfl) (by decide) ?_
          exact ih2 (k + 1) V (mst (dec U W 0 (nm (mlf R (d + 1)) ((nr / 8 - 1) * j + (d + 1)))) (d + 1) k Y) (by omega) hV (by rw [mst_len]; exact hY) he
      have load : ∀ (e k : Nat) (B : List Nat), k + e = 8 → B.length = 16 → it (mld R (d + 1)) k e B = mlf R (d + 1) → X g f M_Model_unwrap (0, 0) (fun o h' => o = .returned none ∧ ∃ B' M' : List Nat, bm16 (B', M') ∧ h' = mh g P cd ni no nt nr nl [W, T, U, IN, OUT, IS, IB, B', M', (mud U W (nr / 8 - 1) ROW), TX, MA, SM, KP] S) (0, 0) 26 [some (.ref (zA (gz g) 44)), some (.int (nI (nr / 8 - 1))), some (.int (nI j)), some (.int (nI (d + 1))), some (.int (nI k))] [] (mh g P cd ni no nt nr nl [W, T, U, IN, OUT, IS, IB, B, V, R, TX, MA, SM, KP] S) := by
        intro e
        induction e with
        | zero =>
          intro k B hke hBl he
          rw [it_zero] at he
          rw [he]
          refine x_iload (pc := 26) C (dq D_Model_unwrap 18 rfl) rfl ?_
          refine x_bipush (pc := 28) C (dq D_Model_unwrap 19 rfl) cb_8 ?_
          refine n_ge_t (pc := 30) (tgt := 75) C (dq D_Model_unwrap 20 rfl) (by decide) (by omega) (by omega) ?_
          refine x_aload_n (pc := 75) C (dq D_Model_unwrap 45 rfl) rfl ?_
          refine x_iload_n (pc := 76) C (dq D_Model_unwrap 46 rfl) rfl ?_
          refine x_iload_n (pc := 77) C (dq D_Model_unwrap 47 rfl) rfl ?_
          refine n_imul (pc := 78) C (dq D_Model_unwrap 48 rfl) ?_
          refine x_iload_n (pc := 79) C (dq D_Model_unwrap 49 rfl) rfl ?_
          refine n_iadd (pc := 80) C (dq D_Model_unwrap 50 rfl) ?_
          refine x_cV0 (pc := 81) (ci := 1) (M := M_Model_number) C (dq D_Model_unwrap 51 rfl) k_ml_Model_111 m_Model_number rfl rfl (mo hP) (cm_number (mo hP) (ma hP rfl rfl) a1) rfl rfl rfl rfl (by decide) ?_
          rw [mh_s hP rfl rfl]
          simp only [Nat.reduceSub, List.set_cons_zero, List.set_cons_succ]
          refine x_aload_n (pc := 84) C (dq D_Model_unwrap 52 rfl) rfl ?_
          refine x_iconst (pc := 85) C (dq D_Model_unwrap 53 rfl) ci_0 ?_
          refine x_cV (pc := 86) (ci := 1) (M := M_Model_decipher) C (dq D_Model_unwrap 54 rfl) k_ml_Model_114 m_Model_decipher rfl rfl (mo hP) (c_dec hP hW hT hU (bm_mk n1 n2 (bm_r hB).1 (bm_r hB).2) (by omega)) rfl rfl rfl rfl (by decide) (fun o h2 hp => ?_)
          obtain ⟨rfl, V2, hV2, rfl⟩ := hp
          refine ⟨none, rfl, ?_⟩
          show X g f M_Model_unwrap (0, 0) (fun o h' => o = .returned none ∧ ∃ B' M' : List Nat, bm16 (B', M') ∧ h' = mh g P cd ni no nt nr nl [W, T, U, IN, OUT, IS, IB, B', M', (mud U W (nr / 8 - 1) ROW), TX, MA, SM, KP] S) (0, 0) 89 [some (.ref (zA (gz g) 44)), some (.int (nI (nr / 8 - 1))), some (.int (nI j)), some (.int (nI (d + 1))), some (.int (nI k))] [] (mh g P cd ni no nt nr nl [W, T, U, IN, OUT, IS, IB, (dec U W 0 (nm (mlf R (d + 1)) ((nr / 8 - 1) * j + (d + 1)))), V2, R, TX, MA, SM, KP] S)
          refine x_iconst (pc := 89) C (dq D_Model_unwrap 55 rfl) ci_0 ?_
          refine x_istore (i := 4) (pc := 90) C (dq D_Model_unwrap 56 rfl) rfl rfl rfl ?_
          simp only [List.set_cons_zero, List.set_cons_succ]
          exact store 8 0 V2 R rfl hV2 hR.1 (by rw [mus])
        | succ e ih2 =>
          intro k B hke hBl he
          have hR1 := hR.1
          refine x_iload (pc := 26) C (dq D_Model_unwrap 18 rfl) rfl ?_
          refine x_bipush (pc := 28) C (dq D_Model_unwrap 19 rfl) cb_8 ?_
          refine n_ge_f (pc := 30) (tgt := 75) C (dq D_Model_unwrap 20 rfl) (by decide) (by omega) (by omega) ?_
          refine x_aload_n (pc := 33) C (dq D_Model_unwrap 21 rfl) rfl ?_
          refine x_get (pc := 34) (ci := 1) (j := 11) C (dq D_Model_unwrap 22 rfl) rfl rfl (by first | exact mo hP | exact ma hP rfl rfl) rfl k_fl_Model_31 ?_
          refine x_iload (pc := 37) C (dq D_Model_unwrap 23 rfl) rfl ?_
          refine x_aload_n (pc := 39) C (dq D_Model_unwrap 24 rfl) rfl ?_
          refine x_get (pc := 40) (ci := 1) (j := 14) C (dq D_Model_unwrap 25 rfl) rfl rfl (by first | exact mo hP | exact ma hP rfl rfl) rfl k_fl_Model_37 ?_
          refine x_iload (pc := 43) C (dq D_Model_unwrap 26 rfl) rfl ?_
          refine x_iald (pc := 45) C (dq D_Model_unwrap 27 rfl) (by first | exact mo hP | exact ma hP rfl rfl) (by (try simp only [List.length_set]); omega) ?_
          refine x_iast (pc := 46) C (dq D_Model_unwrap 28 rfl) (by first | exact mo hP | exact ma hP rfl rfl) (by (try simp only [List.length_set]); omega) ?_
          try rw [List.set_set]
          rw [mh_s hP rfl rfl]
          simp only [Nat.reduceSub, List.set_cons_zero, List.set_cons_succ]
          refine x_aload_n (pc := 47) C (dq D_Model_unwrap 29 rfl) rfl ?_
          refine x_get (pc := 48) (ci := 1) (j := 11) C (dq D_Model_unwrap 30 rfl) rfl rfl (by first | exact mo hP | exact ma hP rfl rfl) rfl k_fl_Model_31 ?_
          refine x_bipush (pc := 51) C (dq D_Model_unwrap 31 rfl) cb_8 ?_
          refine x_iload (pc := 53) C (dq D_Model_unwrap 32 rfl) rfl ?_
          refine n_iadd (pc := 55) C (dq D_Model_unwrap 33 rfl) ?_
          refine x_aload_n (pc := 56) C (dq D_Model_unwrap 34 rfl) rfl ?_
          refine x_get (pc := 57) (ci := 1) (j := 14) C (dq D_Model_unwrap 35 rfl) rfl rfl (by first | exact mo hP | exact ma hP rfl rfl) rfl k_fl_Model_37 ?_
          refine x_bipush (pc := 60) C (dq D_Model_unwrap 36 rfl) cb_8 ?_
          refine x_iload_n (pc := 62) C (dq D_Model_unwrap 37 rfl) rfl ?_
          refine n_imul (pc := 63) C (dq D_Model_unwrap 38 rfl) ?_
          refine x_iload (pc := 64) C (dq D_Model_unwrap 39 rfl) rfl ?_
          refine n_iadd (pc := 66) C (dq D_Model_unwrap 40 rfl) ?_
          refine x_iald (pc := 67) C (dq D_Model_unwrap 41 rfl) (by first | exact mo hP | exact ma hP rfl rfl) (by (try simp only [List.length_set]); omega) ?_
          refine x_iast (pc := 68) C (dq D_Model_unwrap 42 rfl) (by first | exact mo hP | exact ma hP rfl rfl) (by (try simp only [List.length_set]); omega) ?_
          try rw [List.set_set]
          rw [mh_s hP rfl rfl]
          simp only [Nat.reduceSub, List.set_cons_zero, List.set_cons_succ]
          refine x_iinc (pc := 69) C (dq D_Model_unwrap 43 rfl) rfl (ii_1 _) rfl rfl ?_
          simp only [List.set_cons_zero, List.set_cons_succ]
          refine x_goto (pc := 72) (tgt := 26) C (dq D_Model_unwrap 44 rfl) (by decide) ?_
          exact ih2 (k + 1) (mld R (d + 1) k B) (by omega) (by rw [mld_len]; exact hBl) he
      refine x_iload_n (pc := 18) C (dq D_Model_unwrap 13 rfl) rfl ?_
      refine x_iconst (pc := 19) C (dq D_Model_unwrap 14 rfl) ci_1 ?_
      refine n_lt_f (pc := 20) (tgt := 147) C (dq D_Model_unwrap 15 rfl) (by decide) (by omega) (by omega) ?_
      refine x_iconst (pc := 23) C (dq D_Model_unwrap 16 rfl) ci_0 ?_
      refine x_istore (i := 4) (pc := 24) C (dq D_Model_unwrap 17 rfl) rfl rfl rfl ?_
      simp only [List.set_cons_zero, List.set_cons_succ]
      exact load 8 0 B rfl hB.1 (mld_ind hB.1)
  have turns : ∀ (d j : Nat) (x : Int32) (B V R : List Nat) (l3 l4 : Option Value), j + d = 6 → (d = 0 → x = -1) → (∀ e, d = e + 1 → x = nI e) → bm16 (B, V) → R.length = 112 ∧ by8 R → it (fun j => mur U W (nr / 8 - 1) (5 - j)) j d R = mud U W (nr / 8 - 1) ROW → X g f M_Model_unwrap (0, 0) (fun o h' => o = .returned none ∧ ∃ B' M' : List Nat, bm16 (B', M') ∧ h' = mh g P cd ni no nt nr nl [W, T, U, IN, OUT, IS, IB, B', M', (mud U W (nr / 8 - 1) ROW), TX, MA, SM, KP] S) (0, 0) 12 [some (.ref (zA (gz g) 44)), some (.int (nI (nr / 8 - 1))), some (.int x), l3, l4] [] (mh g P cd ni no nt nr nl [W, T, U, IN, OUT, IS, IB, B, V, R, TX, MA, SM, KP] S) := by
    intro d
    induction d with
    | zero =>
      intro j x B V R l3 l4 hjd hx0 hx1 hB hR he
      rw [it_zero] at he
      obtain rfl := hx0 rfl
      refine x_iload_n (pc := 12) C (dq D_Model_unwrap 9 rfl) rfl ?_
      refine x_iflt (pc := 13) (tgt := 153) C (dq D_Model_unwrap 10 rfl) (by decide) (fun _ => ?_) (fun q => absurd (by decide) q)
      exact x_vret (pc := 153) C (dq D_Model_unwrap 88 rfl) rfl (by decide) ⟨rfl, B, V, hB, by rw [he]⟩
    | succ d ih =>
      intro j x B V R l3 l4 hjd hx0 hx1 hB hR he
      obtain rfl := hx1 d rfl
      have e0 : 5 - j = d := by omega
      refine x_iload_n (pc := 12) C (dq D_Model_unwrap 9 rfl) rfl ?_
      refine n_iflt_f (pc := 13) (tgt := 153) C (dq D_Model_unwrap 10 rfl) (by decide) (by omega) (by omega) ?_
      refine x_iload_n (pc := 16) C (dq D_Model_unwrap 11 rfl) rfl ?_
      refine x_istore_n (i := 3) (pc := 17) C (dq D_Model_unwrap 12 rfl) rfl rfl rfl ?_
      simp only [List.set_cons_zero, List.set_cons_succ]
      refine rows (nr / 8 - 1) 0 d B V R l4 (by omega) (by omega) hB hR (fun B2 V2 l4 hB2 => ?_)
      refine x_iinc (pc := 147) C (dq D_Model_unwrap 86 rfl) rfl rfl rfl rfl ?_
      simp only [List.set_cons_zero, List.set_cons_succ]
      refine x_goto (pc := 150) (tgt := 12) C (dq D_Model_unwrap 87 rfl) (by decide) ?_
      refine ih (j + 1) _ B2 V2 (mur U W (nr / 8 - 1) d R) _ _ (by omega) (fun z => by subst z; decide +kernel) (fun e z => by subst z; exact iim (by omega)) hB2 (mur_ok hU.2 W (by omega) (by omega) hR) ?_
      rw [it_succ, e0] at he
      exact he
  refine x_aload_n (pc := 0) C (dq D_Model_unwrap 0 rfl) rfl ?_
  refine x_get (pc := 1) (ci := 1) (j := 13) C (dq D_Model_unwrap 1 rfl) rfl rfl (mo hP) rfl k_fl_Model_100 ?_
  refine x_bipush (pc := 4) C (dq D_Model_unwrap 2 rfl) cb_8 ?_
  refine n_idiv (pc := 6) C (dq D_Model_unwrap 3 rfl) (by omega) (by omega) (by omega) ?_
  refine x_iconst (pc := 7) C (dq D_Model_unwrap 4 rfl) ci_1 ?_
  refine n_isub (pc := 8) C (dq D_Model_unwrap 5 rfl) (by omega) ?_
  refine x_istore_n (i := 1) (pc := 9) C (dq D_Model_unwrap 6 rfl) rfl rfl rfl ?_
  simp only [List.set_cons_zero, List.set_cons_succ]
  refine x_iconst (pc := 10) C (dq D_Model_unwrap 7 rfl) ci_5 ?_
  refine x_istore_n (i := 2) (pc := 11) C (dq D_Model_unwrap 8 rfl) rfl rfl rfl ?_
  simp only [List.set_cons_zero, List.set_cons_succ]
  exact turns 6 0 (nI 5) BL MV ROW none none rfl (fun z => by cases z) (fun e z => by rw [show e = 5 by omega]) hb hR (by rw [mud])
end
section
/-! The reference's rows: begin, show, single, front, dropFront. -/
theorem cp16T {R B : List Nat} (hR : 16 ≤ R.length) (h : B.length = 16) : it (cp1 R) 0 16 B = R.take 16 := by
  have h1 := cp1_take (R := R) 16 0 B (by omega) (by omega) (by simp)
  rw [List.take_of_length_le (by rw [it_len (cp1_len R)]; omega)] at h1
  exact h1
theorem cm_begin {g : Gp} {P S : Hp} {cd ni no nt nr nl : Nat} {W T U IN OUT IS IB BL MV ROW TX MA SM KP : List Nat} (hP : P.length = 44) (hI : IN.length = 88) (hn : ni ≤ 88) (hR : ROW.length = 112) :
    Con g M_Model_begin 0 (0, 0) [.ref (zA (gz g) 44)] (mh g P cd ni no nt nr nl [W, T, U, IN, OUT, IS, IB, BL, MV, ROW, TX, MA, SM, KP] S) (Ret none (mh g P cd ni no nt ni nl [W, T, U, IN, OUT, IS, IB, BL, MV, (it (cp1 IN) 0 ni ROW), TX, MA, SM, KP] S)) := by
  refine Con.of (by decide) rfl rfl (L := [some (.ref (zA (gz g) 44)), none]) rfl (fun f C => ?_)
  have loop : ∀ (d k : Nat) (R : List Nat), k + d = ni → R.length = 112 → X g f M_Model_begin (0, 0) (Ret none (mh g P cd ni no nt ni nl [W, T, U, IN, OUT, IS, IB, BL, MV, (it (cp1 IN) k d R), TX, MA, SM, KP] S)) (0, 0) 10 [some (.ref (zA (gz g) 44)), some (.int (nI k))] [] (mh g P cd ni no nt ni nl [W, T, U, IN, OUT, IS, IB, BL, MV, R, TX, MA, SM, KP] S) := by
    intro d
    induction d with
    | zero =>
      intro k R hkd hR
      refine x_iload_n (pc := 10) C (dq D_Model_begin 6 rfl) rfl ?_
      refine x_aload_n (pc := 11) C (dq D_Model_begin 7 rfl) rfl ?_
      refine x_get (pc := 12) (ci := 1) (j := 4) C (dq D_Model_begin 8 rfl) rfl rfl (mo hP) rfl k_fl_Model_133 ?_
      refine n_ge_t (pc := 15) (tgt := 36) C (dq D_Model_begin 9 rfl) (by decide) (by omega) (by omega) ?_
      exact x_vret (pc := 36) C (dq D_Model_begin 20 rfl) rfl (by decide) ⟨rfl, rfl⟩
    | succ d ih =>
      intro k R hkd hR
      refine x_iload_n (pc := 10) C (dq D_Model_begin 6 rfl) rfl ?_
      refine x_aload_n (pc := 11) C (dq D_Model_begin 7 rfl) rfl ?_
      refine x_get (pc := 12) (ci := 1) (j := 4) C (dq D_Model_begin 8 rfl) rfl rfl (by first | exact mo hP | exact ma hP rfl rfl) rfl k_fl_Model_133 ?_
      refine n_ge_f (pc := 15) (tgt := 36) C (dq D_Model_begin 9 rfl) (by decide) (by omega) (by omega) ?_
      refine x_aload_n (pc := 18) C (dq D_Model_begin 10 rfl) rfl ?_
      refine x_get (pc := 19) (ci := 1) (j := 14) C (dq D_Model_begin 11 rfl) rfl rfl (by first | exact mo hP | exact ma hP rfl rfl) rfl k_fl_Model_37 ?_
      refine x_iload_n (pc := 22) C (dq D_Model_begin 12 rfl) rfl ?_
      refine x_aload_n (pc := 23) C (dq D_Model_begin 13 rfl) rfl ?_
      refine x_get (pc := 24) (ci := 1) (j := 5) C (dq D_Model_begin 14 rfl) rfl rfl (by first | exact mo hP | exact ma hP rfl rfl) rfl k_fl_Model_19 ?_
      refine x_iload_n (pc := 27) C (dq D_Model_begin 15 rfl) rfl ?_
      refine x_iald (pc := 28) C (dq D_Model_begin 16 rfl) (by first | exact mo hP | exact ma hP rfl rfl) (by (try simp only [List.length_set]); omega) ?_
      refine x_iast (pc := 29) C (dq D_Model_begin 17 rfl) (by first | exact mo hP | exact ma hP rfl rfl) (by (try simp only [List.length_set]); omega) ?_
      try rw [List.set_set]
      refine x_iinc (pc := 30) C (dq D_Model_begin 18 rfl) rfl (ii_1 _) rfl rfl ?_
      simp only [List.set_cons_zero, List.set_cons_succ]
      rw [mh_s hP rfl rfl]
      simp only [Nat.reduceSub, List.set_cons_zero, List.set_cons_succ]
      refine x_goto (pc := 33) (tgt := 10) C (dq D_Model_begin 19 rfl) (by decide) ?_
      exact ih (k + 1) (cp1 IN k R) (by omega) (by rw [cp1_len]; exact hR)
  refine x_aload_n (pc := 0) C (dq D_Model_begin 0 rfl) rfl ?_
  refine x_aload_n (pc := 1) C (dq D_Model_begin 1 rfl) rfl ?_
  refine x_get (pc := 2) (ci := 1) (j := 4) C (dq D_Model_begin 2 rfl) rfl rfl (mo hP) rfl k_fl_Model_133 ?_
  refine x_put (pc := 5) (ci := 1) (j := 13) (ty := .int) C (dq D_Model_begin 3 rfl) rfl rfl (mo hP) rfl k_fl_Model_100 (Or.inl rfl) (by decide +kernel) rfl rfl ?_
  simp only [List.set_cons_zero, List.set_cons_succ]
  rw [mh_p hP]
  refine x_iconst (pc := 8) C (dq D_Model_begin 4 rfl) ci_0 ?_
  refine x_istore_n (i := 1) (pc := 9) C (dq D_Model_begin 5 rfl) rfl rfl rfl ?_
  simp only [List.set_cons_zero, List.set_cons_succ]
  exact loop ni 0 ROW (by omega) hR
theorem cm_show {g : Gp} {P S : Hp} {cd ni no nt nr nl : Nat} {W T U IN OUT IS IB BL MV ROW TX MA SM KP : List Nat} (hP : P.length = 44) (hO : OUT.length = 112) (hn : nr ≤ 88) (hR : ROW.length = 112) :
    Con g M_Model_show 0 (0, 0) [.ref (zA (gz g) 44)] (mh g P cd ni no nt nr nl [W, T, U, IN, OUT, IS, IB, BL, MV, ROW, TX, MA, SM, KP] S) (Ret (some (.int (nI nr))) (mh g P cd ni nr nt nr nl [W, T, U, IN, (it (cp1 ROW) 0 nr OUT), IS, IB, BL, MV, ROW, TX, MA, SM, KP] S)) := by
  refine Con.of (by decide) rfl rfl (L := [some (.ref (zA (gz g) 44)), none]) rfl (fun f C => ?_)
  have loop : ∀ (d k : Nat) (R : List Nat), k + d = nr → R.length = 112 → X g f M_Model_show (0, 0) (Ret (some (.int (nI nr))) (mh g P cd ni nr nt nr nl [W, T, U, IN, (it (cp1 ROW) k d R), IS, IB, BL, MV, ROW, TX, MA, SM, KP] S)) (0, 0) 10 [some (.ref (zA (gz g) 44)), some (.int (nI k))] [] (mh g P cd ni nr nt nr nl [W, T, U, IN, R, IS, IB, BL, MV, ROW, TX, MA, SM, KP] S) := by
    intro d
    induction d with
    | zero =>
      intro k R hkd hR
      refine x_iload_n (pc := 10) C (dq D_Model_show 6 rfl) rfl ?_
      refine x_aload_n (pc := 11) C (dq D_Model_show 7 rfl) rfl ?_
      refine x_get (pc := 12) (ci := 1) (j := 13) C (dq D_Model_show 8 rfl) rfl rfl (mo hP) rfl k_fl_Model_100 ?_
      refine n_ge_t (pc := 15) (tgt := 36) C (dq D_Model_show 9 rfl) (by decide) (by omega) (by omega) ?_
      refine x_aload_n (pc := 36) C (dq D_Model_show 20 rfl) rfl ?_
      refine x_get (pc := 37) (ci := 1) (j := 6) C (dq D_Model_show 21 rfl) rfl rfl (mo hP) rfl k_fl_Model_136 ?_
      exact x_iret (pc := 40) C (dq D_Model_show 22 rfl) rfl (by decide) ⟨rfl, rfl⟩
    | succ d ih =>
      intro k R hkd hR2
      refine x_iload_n (pc := 10) C (dq D_Model_show 6 rfl) rfl ?_
      refine x_aload_n (pc := 11) C (dq D_Model_show 7 rfl) rfl ?_
      refine x_get (pc := 12) (ci := 1) (j := 13) C (dq D_Model_show 8 rfl) rfl rfl (by first | exact mo hP | exact ma hP rfl rfl) rfl k_fl_Model_100 ?_
      refine n_ge_f (pc := 15) (tgt := 36) C (dq D_Model_show 9 rfl) (by decide) (by omega) (by omega) ?_
      refine x_aload_n (pc := 18) C (dq D_Model_show 10 rfl) rfl ?_
      refine x_get (pc := 19) (ci := 1) (j := 7) C (dq D_Model_show 11 rfl) rfl rfl (by first | exact mo hP | exact ma hP rfl rfl) rfl k_fl_Model_22 ?_
      refine x_iload_n (pc := 22) C (dq D_Model_show 12 rfl) rfl ?_
      refine x_aload_n (pc := 23) C (dq D_Model_show 13 rfl) rfl ?_
      refine x_get (pc := 24) (ci := 1) (j := 14) C (dq D_Model_show 14 rfl) rfl rfl (by first | exact mo hP | exact ma hP rfl rfl) rfl k_fl_Model_37 ?_
      refine x_iload_n (pc := 27) C (dq D_Model_show 15 rfl) rfl ?_
      refine x_iald (pc := 28) C (dq D_Model_show 16 rfl) (by first | exact mo hP | exact ma hP rfl rfl) (by (try simp only [List.length_set]); omega) ?_
      refine x_iast (pc := 29) C (dq D_Model_show 17 rfl) (by first | exact mo hP | exact ma hP rfl rfl) (by (try simp only [List.length_set]); omega) ?_
      try rw [List.set_set]
      refine x_iinc (pc := 30) C (dq D_Model_show 18 rfl) rfl (ii_1 _) rfl rfl ?_
      simp only [List.set_cons_zero, List.set_cons_succ]
      rw [mh_s hP rfl rfl]
      simp only [Nat.reduceSub, List.set_cons_zero, List.set_cons_succ]
      refine x_goto (pc := 33) (tgt := 10) C (dq D_Model_show 19 rfl) (by decide) ?_
      exact ih (k + 1) (cp1 ROW k R) (by omega) (by rw [cp1_len]; exact hR2)
  refine x_aload_n (pc := 0) C (dq D_Model_show 0 rfl) rfl ?_
  refine x_aload_n (pc := 1) C (dq D_Model_show 1 rfl) rfl ?_
  refine x_get (pc := 2) (ci := 1) (j := 13) C (dq D_Model_show 2 rfl) rfl rfl (mo hP) rfl k_fl_Model_100 ?_
  refine x_put (pc := 5) (ci := 1) (j := 6) (ty := .int) C (dq D_Model_show 3 rfl) rfl rfl (mo hP) rfl k_fl_Model_136 (Or.inl rfl) (by decide +kernel) rfl rfl ?_
  simp only [List.set_cons_zero, List.set_cons_succ]
  rw [mh_p hP]
  refine x_iconst (pc := 8) C (dq D_Model_show 4 rfl) ci_0 ?_
  refine x_istore_n (i := 1) (pc := 9) C (dq D_Model_show 5 rfl) rfl rfl rfl ?_
  simp only [List.set_cons_zero, List.set_cons_succ]
  exact loop nr 0 OUT (by omega) hO
/-- one block of a row turned -/
def sgl (K R : List Nat) : List Nat := it (cp1 K) 0 16 R
theorem cm_single {g : Gp} {P S : Hp} {cd ni no nt nr nl : Nat} {W T U IN OUT IS IB BL MV ROW TX MA SM KP : List Nat} {bk : Nat} (hP : P.length = 44) (hW : W.length = 88 ∧ by32 W) (hT : T.length = 256 ∧ by8 T) (hU : U.length = 256 ∧ by8 U) (hb : bm16 (BL, MV)) (hR : ROW.length = 112 ∧ by8 ROW) (hk : bk < 2) :
    Con g M_Model_single 2 (0, 0) [.ref (zA (gz g) 44), .int (nI bk)] (mh g P cd ni no nt nr nl [W, T, U, IN, OUT, IS, IB, BL, MV, ROW, TX, MA, SM, KP] S) (fun o h' => o = .returned none ∧ ∃ B' M' : List Nat, bm16 (B', M') ∧ h' = mh g P cd ni no nt nr nl [W, T, U, IN, OUT, IS, IB, B', M', (sgl (if bk = 0 then enc T W 0 (ROW.take 16) else dec U W 0 (ROW.take 16)) ROW), TX, MA, SM, KP] S) := by
  have hRl := hR.1
  have ht : (ROW.take 16).length = 16 := by rw [List.length_take]; omega
  have ht8 := hR.2.take 16
  have hK : ((if bk = 0 then enc T W 0 (ROW.take 16) else dec U W 0 (ROW.take 16))).length = 16 ∧ by8 (if bk = 0 then enc T W 0 (ROW.take 16) else dec U W 0 (ROW.take 16)) := by
    split
    · exact enc_ok hT.2 W 0 ht ht8
    · exact dec_ok hU.2 W 0 ht ht8
  refine Con.of (by decide) rfl rfl (L := [some (.ref (zA (gz g) 44)), some (.int (nI bk)), none]) rfl (fun f C => ?_)
  have back : ∀ (d k : Nat) (K V R : List Nat), K = (if bk = 0 then enc T W 0 (ROW.take 16) else dec U W 0 (ROW.take 16)) → k + d = 16 → bm16 (K, V) → R.length = 112 → it (cp1 K) k d R = sgl (if bk = 0 then enc T W 0 (ROW.take 16) else dec U W 0 (ROW.take 16)) ROW → X g f M_Model_single (0, 0) (fun o h' => o = .returned none ∧ ∃ B' M' : List Nat, bm16 (B', M') ∧ h' = mh g P cd ni no nt nr nl [W, T, U, IN, OUT, IS, IB, B', M', (sgl (if bk = 0 then enc T W 0 (ROW.take 16) else dec U W 0 (ROW.take 16)) ROW), TX, MA, SM, KP] S) (0, 0) 45 [some (.ref (zA (gz g) 44)), some (.int (nI bk)), some (.int (nI k))] [] (mh g P cd ni no nt nr nl [W, T, U, IN, OUT, IS, IB, K, V, R, TX, MA, SM, KP] S) := by
    intro d
    induction d with
    | zero =>
      intro k K V R hKe hkd hB hR he
      rw [it_zero] at he
      refine x_iload_n (pc := 45) C (dq D_Model_single 26 rfl) rfl ?_
      refine x_bipush (pc := 46) C (dq D_Model_single 27 rfl) cb_16 ?_
      refine n_ge_t (pc := 48) (tgt := 69) C (dq D_Model_single 28 rfl) (by decide) (by omega) (by omega) ?_
      exact x_vret (pc := 69) C (dq D_Model_single 39 rfl) rfl (by decide) ⟨rfl, K, V, hB, by rw [he]⟩
    | succ d ih =>
      intro k K V R hKe hkd hB hR he
      have hKl := (bm_l hB).1
      refine x_iload_n (pc := 45) C (dq D_Model_single 26 rfl) rfl ?_
      refine x_bipush (pc := 46) C (dq D_Model_single 27 rfl) cb_16 ?_
      refine n_ge_f (pc := 48) (tgt := 69) C (dq D_Model_single 28 rfl) (by decide) (by omega) (by omega) ?_
      refine x_aload_n (pc := 51) C (dq D_Model_single 29 rfl) rfl ?_
      refine x_get (pc := 52) (ci := 1) (j := 14) C (dq D_Model_single 30 rfl) rfl rfl (by first | exact mo hP | exact ma hP rfl rfl) rfl k_fl_Model_37 ?_
      refine x_iload_n (pc := 55) C (dq D_Model_single 31 rfl) rfl ?_
      refine x_aload_n (pc := 56) C (dq D_Model_single 32 rfl) rfl ?_
      refine x_get (pc := 57) (ci := 1) (j := 11) C (dq D_Model_single 33 rfl) rfl rfl (by first | exact mo hP | exact ma hP rfl rfl) rfl k_fl_Model_31 ?_
      refine x_iload_n (pc := 60) C (dq D_Model_single 34 rfl) rfl ?_
      refine x_iald (pc := 61) C (dq D_Model_single 35 rfl) (by first | exact mo hP | exact ma hP rfl rfl) (by (try simp only [List.length_set]); omega) ?_
      refine x_iast (pc := 62) C (dq D_Model_single 36 rfl) (by first | exact mo hP | exact ma hP rfl rfl) (by (try simp only [List.length_set]); omega) ?_
      try rw [List.set_set]
      refine x_iinc (pc := 63) C (dq D_Model_single 37 rfl) rfl (ii_1 _) rfl rfl ?_
      simp only [List.set_cons_zero, List.set_cons_succ]
      rw [mh_s hP rfl rfl]
      simp only [Nat.reduceSub, List.set_cons_zero, List.set_cons_succ]
      refine x_goto (pc := 66) (tgt := 45) C (dq D_Model_single 38 rfl) (by decide) ?_
      exact ih (k + 1) K V (cp1 K k R) hKe (by omega) hB (by rw [cp1_len]; exact hR) he
  have load : ∀ (d k : Nat) (B : List Nat), k + d = 16 → B.length = 16 → it (cp1 ROW) k d B = ROW.take 16 → X g f M_Model_single (0, 0) (fun o h' => o = .returned none ∧ ∃ B' M' : List Nat, bm16 (B', M') ∧ h' = mh g P cd ni no nt nr nl [W, T, U, IN, OUT, IS, IB, B', M', (sgl (if bk = 0 then enc T W 0 (ROW.take 16) else dec U W 0 (ROW.take 16)) ROW), TX, MA, SM, KP] S) (0, 0) 2 [some (.ref (zA (gz g) 44)), some (.int (nI bk)), some (.int (nI k))] [] (mh g P cd ni no nt nr nl [W, T, U, IN, OUT, IS, IB, B, MV, ROW, TX, MA, SM, KP] S) := by
    intro d
    induction d with
    | zero =>
      intro k B hkd hB he
      rw [it_zero] at he
      rw [he]
      by_cases h0 : bk = 0
      · have hKe : enc T W 0 (ROW.take 16) = (if bk = 0 then enc T W 0 (ROW.take 16) else dec U W 0 (ROW.take 16)) := (if_pos h0).symm
        refine x_iload_n (pc := 2) C (dq D_Model_single 2 rfl) rfl ?_
        refine x_bipush (pc := 3) C (dq D_Model_single 3 rfl) cb_16 ?_
        refine n_ge_t (pc := 5) (tgt := 26) C (dq D_Model_single 4 rfl) (by decide) (by omega) (by omega) ?_
        refine x_iload_n (pc := 26) C (dq D_Model_single 15 rfl) rfl ?_
        refine n_ifeq_t (pc := 27) (tgt := 38) C (dq D_Model_single 16 rfl) (by decide) (by omega) (by omega) ?_
        refine x_aload_n (pc := 38) C (dq D_Model_single 21 rfl) rfl ?_
        refine x_iconst (pc := 39) C (dq D_Model_single 22 rfl) ci_0 ?_
        refine x_cV (pc := 40) (ci := 1) (M := M_Model_encipher) C (dq D_Model_single 23 rfl) k_ml_Model_84 m_Model_encipher rfl rfl (mo hP) (c_enc hP hW hT hU (bm_mk ht ht8 (bm_r hb).1 (bm_r hb).2) (by omega)) rfl rfl rfl rfl (by decide) (fun o h2 hp => ?_)
        obtain ⟨rfl, V2, hV2, rfl⟩ := hp
        refine ⟨none, rfl, ?_⟩
        show X g f M_Model_single (0, 0) (fun o h' => o = .returned none ∧ ∃ B' M' : List Nat, bm16 (B', M') ∧ h' = mh g P cd ni no nt nr nl [W, T, U, IN, OUT, IS, IB, B', M', (sgl (if bk = 0 then enc T W 0 (ROW.take 16) else dec U W 0 (ROW.take 16)) ROW), TX, MA, SM, KP] S) (0, 0) 43 [some (.ref (zA (gz g) 44)), some (.int (nI bk)), some (.int (nI k))] [] (mh g P cd ni no nt nr nl [W, T, U, IN, OUT, IS, IB, (enc T W 0 (ROW.take 16)), V2, ROW, TX, MA, SM, KP] S)
        refine x_iconst (pc := 43) C (dq D_Model_single 24 rfl) ci_0 ?_
        refine x_istore_n (i := 2) (pc := 44) C (dq D_Model_single 25 rfl) rfl rfl rfl ?_
        simp only [List.set_cons_zero, List.set_cons_succ]
        exact back 16 0 _ V2 ROW hKe rfl hV2 hRl (by rw [sgl, ← hKe])
      · have hKe : dec U W 0 (ROW.take 16) = (if bk = 0 then enc T W 0 (ROW.take 16) else dec U W 0 (ROW.take 16)) := (if_neg h0).symm
        refine x_iload_n (pc := 2) C (dq D_Model_single 2 rfl) rfl ?_
        refine x_bipush (pc := 3) C (dq D_Model_single 3 rfl) cb_16 ?_
        refine n_ge_t (pc := 5) (tgt := 26) C (dq D_Model_single 4 rfl) (by decide) (by omega) (by omega) ?_
        refine x_iload_n (pc := 26) C (dq D_Model_single 15 rfl) rfl ?_
        refine n_ifeq_f (pc := 27) (tgt := 38) C (dq D_Model_single 16 rfl) (by decide) (by omega) (by omega) ?_
        refine x_aload_n (pc := 30) C (dq D_Model_single 17 rfl) rfl ?_
        refine x_iconst (pc := 31) C (dq D_Model_single 18 rfl) ci_0 ?_
        refine x_cV (pc := 32) (ci := 1) (M := M_Model_decipher) C (dq D_Model_single 19 rfl) k_ml_Model_114 m_Model_decipher rfl rfl (mo hP) (c_dec hP hW hT hU (bm_mk ht ht8 (bm_r hb).1 (bm_r hb).2) (by omega)) rfl rfl rfl rfl (by decide) (fun o h2 hp => ?_)
        obtain ⟨rfl, V2, hV2, rfl⟩ := hp
        refine ⟨none, rfl, ?_⟩
        show X g f M_Model_single (0, 0) (fun o h' => o = .returned none ∧ ∃ B' M' : List Nat, bm16 (B', M') ∧ h' = mh g P cd ni no nt nr nl [W, T, U, IN, OUT, IS, IB, B', M', (sgl (if bk = 0 then enc T W 0 (ROW.take 16) else dec U W 0 (ROW.take 16)) ROW), TX, MA, SM, KP] S) (0, 0) 35 [some (.ref (zA (gz g) 44)), some (.int (nI bk)), some (.int (nI k))] [] (mh g P cd ni no nt nr nl [W, T, U, IN, OUT, IS, IB, (dec U W 0 (ROW.take 16)), V2, ROW, TX, MA, SM, KP] S)
        refine x_goto (pc := 35) (tgt := 43) C (dq D_Model_single 20 rfl) (by decide) ?_
        refine x_iconst (pc := 43) C (dq D_Model_single 24 rfl) ci_0 ?_
        refine x_istore_n (i := 2) (pc := 44) C (dq D_Model_single 25 rfl) rfl rfl rfl ?_
        simp only [List.set_cons_zero, List.set_cons_succ]
        exact back 16 0 _ V2 ROW hKe rfl hV2 hRl (by rw [sgl, ← hKe])
    | succ d ih =>
      intro k B hkd hB he
      refine x_iload_n (pc := 2) C (dq D_Model_single 2 rfl) rfl ?_
      refine x_bipush (pc := 3) C (dq D_Model_single 3 rfl) cb_16 ?_
      refine n_ge_f (pc := 5) (tgt := 26) C (dq D_Model_single 4 rfl) (by decide) (by omega) (by omega) ?_
      refine x_aload_n (pc := 8) C (dq D_Model_single 5 rfl) rfl ?_
      refine x_get (pc := 9) (ci := 1) (j := 11) C (dq D_Model_single 6 rfl) rfl rfl (by first | exact mo hP | exact ma hP rfl rfl) rfl k_fl_Model_31 ?_
      refine x_iload_n (pc := 12) C (dq D_Model_single 7 rfl) rfl ?_
      refine x_aload_n (pc := 13) C (dq D_Model_single 8 rfl) rfl ?_
      refine x_get (pc := 14) (ci := 1) (j := 14) C (dq D_Model_single 9 rfl) rfl rfl (by first | exact mo hP | exact ma hP rfl rfl) rfl k_fl_Model_37 ?_
      refine x_iload_n (pc := 17) C (dq D_Model_single 10 rfl) rfl ?_
      refine x_iald (pc := 18) C (dq D_Model_single 11 rfl) (by first | exact mo hP | exact ma hP rfl rfl) (by (try simp only [List.length_set]); omega) ?_
      refine x_iast (pc := 19) C (dq D_Model_single 12 rfl) (by first | exact mo hP | exact ma hP rfl rfl) (by (try simp only [List.length_set]); omega) ?_
      try rw [List.set_set]
      refine x_iinc (pc := 20) C (dq D_Model_single 13 rfl) rfl (ii_1 _) rfl rfl ?_
      simp only [List.set_cons_zero, List.set_cons_succ]
      rw [mh_s hP rfl rfl]
      simp only [Nat.reduceSub, List.set_cons_zero, List.set_cons_succ]
      refine x_goto (pc := 23) (tgt := 2) C (dq D_Model_single 14 rfl) (by decide) ?_
      exact ih (k + 1) (cp1 ROW k B) (by omega) (by rw [cp1_len]; exact hB) he
  refine x_iconst (pc := 0) C (dq D_Model_single 0 rfl) ci_0 ?_
  refine x_istore_n (i := 2) (pc := 1) C (dq D_Model_single 1 rfl) rfl rfl rfl ?_
  simp only [List.set_cons_zero, List.set_cons_succ]
  exact load 16 0 BL rfl (bm_l hb).1 (cp16T (by omega) (bm_l hb).1)
/-- eight bytes in front of a row; the front dropped -/
def frs (k : Nat) (R : List Nat) : List Nat := R.set k (R.getD (k - 8) 0)
def fr8 (b c k : Nat) (R : List Nat) : List Nat := R.set k (if k = 1 ∨ k = 2 then c else b)
def frt (b c n : Nat) (R : List Nat) : List Nat := it (fr8 b c) 0 8 (it (fun i => frs (n + 7 - i)) 0 n R)
def drs (k : Nat) (R : List Nat) : List Nat := R.set k (R.getD (k + 8) 0)
def drp (n : Nat) (R : List Nat) : List Nat := it drs 0 n R
theorem frs_len (k : Nat) (R : List Nat) : (frs k R).length = R.length := List.length_set
theorem fr8_len (b c k : Nat) (R : List Nat) : (fr8 b c k R).length = R.length := List.length_set
theorem drs_len (k : Nat) (R : List Nat) : (drs k R).length = R.length := List.length_set
theorem frt_ok {b c : Nat} (hb : b < 256) (hc : c < 256) (n : Nat) {R : List Nat} (h : by8 R) : (frt b c n R).length = R.length ∧ by8 (frt b c n R) := by
  unfold frt
  refine ⟨by rw [it_len (fr8_len b c), it_len (fun i S => frs_len (n + 7 - i) S)], it_inv by8 8 0 _ (fun j S _ _ hS => hS.set (by split <;> omega)) (it_inv by8 n 0 R (fun j S _ _ hS => hS.set (hS.at _)) h)⟩
theorem drp_ok (n : Nat) {R : List Nat} (h : by8 R) : (drp n R).length = R.length ∧ by8 (drp n R) := by
  unfold drp
  exact ⟨it_len drs_len n 0 R, it_inv by8 n 0 R (fun j S _ _ hS => hS.set (hS.at _)) h⟩
theorem cm_front {g : Gp} {P S : Hp} {cd ni no nt nr nl : Nat} {W T U IN OUT IS IB BL MV ROW TX MA SM KP : List Nat} {b c : Nat} (hP : P.length = 44) (hR : ROW.length = 112) (hn : nr ≤ 88) :
    Con g M_Model_front 0 (0, 0) [.ref (zA (gz g) 44), .int (nI b), .int (nI c)] (mh g P cd ni no nt nr nl [W, T, U, IN, OUT, IS, IB, BL, MV, ROW, TX, MA, SM, KP] S) (Ret none (mh g P cd ni no nt (nr + 8) nl [W, T, U, IN, OUT, IS, IB, BL, MV, (frt b c nr ROW), TX, MA, SM, KP] S)) := by
  refine Con.of (by decide) rfl rfl (L := [some (.ref (zA (gz g) 44)), some (.int (nI b)), some (.int (nI c)), none]) rfl (fun f C => ?_)
  have eight : ∀ (d k : Nat) (R : List Nat), k + d = 8 → R.length = 112 → it (fr8 b c) k d R = frt b c nr ROW → X g f M_Model_front (0, 0) (Ret none (mh g P cd ni no nt (nr + 8) nl [W, T, U, IN, OUT, IS, IB, BL, MV, (frt b c nr ROW), TX, MA, SM, KP] S)) (0, 0) 37 [some (.ref (zA (gz g) 44)), some (.int (nI b)), some (.int (nI c)), some (.int (nI (k)))] [] (mh g P cd ni no nt nr nl [W, T, U, IN, OUT, IS, IB, BL, MV, R, TX, MA, SM, KP] S) := by
    intro d
    induction d with
    | zero =>
      intro k R hkd hR he
      rw [it_zero] at he
      refine x_iload_n (pc := 37) C (dq D_Model_front 22 rfl) rfl ?_
      refine x_bipush (pc := 38) C (dq D_Model_front 23 rfl) cb_8 ?_
      refine n_ge_t (pc := 40) (tgt := 70) C (dq D_Model_front 24 rfl) (by decide) (by omega) (by omega) ?_
      refine x_aload_n (pc := 70) C (dq D_Model_front 40 rfl) rfl ?_
      refine x_aload_n (pc := 71) C (dq D_Model_front 41 rfl) rfl ?_
      refine x_get (pc := 72) (ci := 1) (j := 13) C (dq D_Model_front 42 rfl) rfl rfl (mo hP) rfl k_fl_Model_100 ?_
      refine x_bipush (pc := 75) C (dq D_Model_front 43 rfl) cb_8 ?_
      refine n_iadd (pc := 77) C (dq D_Model_front 44 rfl) ?_
      refine x_put (pc := 78) (ci := 1) (j := 13) (ty := .int) C (dq D_Model_front 45 rfl) rfl rfl (mo hP) rfl k_fl_Model_100 (Or.inl rfl) (by decide +kernel) rfl rfl ?_
      simp only [List.set_cons_zero, List.set_cons_succ]
      rw [mh_p hP, he]
      exact x_vret (pc := 81) C (dq D_Model_front 46 rfl) rfl (by decide) ⟨rfl, rfl⟩
    | succ d ih =>
      intro k R hkd hR he
      have fin : ∀ v : Nat, v = (if k = 1 ∨ k = 2 then c else b) → X g f M_Model_front (0, 0) (Ret none (mh g P cd ni no nt (nr + 8) nl [W, T, U, IN, OUT, IS, IB, BL, MV, (frt b c nr ROW), TX, MA, SM, KP] S)) (0, 0) 63 [some (.ref (zA (gz g) 44)), some (.int (nI b)), some (.int (nI c)), some (.int (nI k))] [.int (nI v), .int (nI k), .ref (zA (gz g) 54)] (mh g P cd ni no nt nr nl [W, T, U, IN, OUT, IS, IB, BL, MV, R, TX, MA, SM, KP] S) := by
        intro v hv
        refine x_iast (pc := 63) C (dq D_Model_front 37 rfl) (ma hP rfl rfl) (by (try simp only [List.length_set]); omega) ?_
        try rw [List.set_set]
        rw [mh_s hP rfl rfl]
        simp only [Nat.reduceSub, List.set_cons_zero, List.set_cons_succ]
        refine x_iinc (pc := 64) C (dq D_Model_front 38 rfl) rfl (ii_1 _) rfl rfl ?_
        simp only [List.set_cons_zero, List.set_cons_succ]
        refine x_goto (pc := 67) (tgt := 37) C (dq D_Model_front 39 rfl) (by decide) ?_
        refine ih (k + 1) (R.set k v) (by omega) (by rw [List.length_set]; exact hR) ?_
        rw [hv]
        exact he
      refine x_iload_n (pc := 37) C (dq D_Model_front 22 rfl) rfl ?_
      refine x_bipush (pc := 38) C (dq D_Model_front 23 rfl) cb_8 ?_
      refine n_ge_f (pc := 40) (tgt := 70) C (dq D_Model_front 24 rfl) (by decide) (by omega) (by omega) ?_
      refine x_aload_n (pc := 43) C (dq D_Model_front 25 rfl) rfl ?_
      refine x_get (pc := 44) (ci := 1) (j := 14) C (dq D_Model_front 26 rfl) rfl rfl (mo hP) rfl k_fl_Model_37 ?_
      refine x_iload_n (pc := 47) C (dq D_Model_front 27 rfl) rfl ?_
      refine x_iload_n (pc := 48) C (dq D_Model_front 28 rfl) rfl ?_
      refine x_iconst (pc := 49) C (dq D_Model_front 29 rfl) ci_1 ?_
      refine n_eq (pc := 50) (tgt := 58) C (dq D_Model_front 30 rfl) (by decide) (by omega) (fun hq => ?_) (fun hq => ?_)
      · rw [if_pos (Or.inl hq)] at fin
        refine x_iload_n (pc := 58) C (dq D_Model_front 34 rfl) rfl ?_
        refine x_goto (pc := 59) (tgt := 63) C (dq D_Model_front 35 rfl) (by decide) ?_
        exact fin c rfl
      · have hq0 := hq
        refine x_iload_n (pc := 53) C (dq D_Model_front 31 rfl) rfl ?_
        refine x_iconst (pc := 54) C (dq D_Model_front 32 rfl) ci_2 ?_
        refine n_ne (pc := 55) (tgt := 62) C (dq D_Model_front 33 rfl) (by decide) (by omega) (fun hq => ?_) (fun hq => ?_)
        · rw [if_neg (fun z => z.elim hq0 hq)] at fin
          refine x_iload_n (pc := 62) C (dq D_Model_front 36 rfl) rfl ?_
          exact fin b rfl
        · rw [if_pos (Or.inr hq)] at fin
          refine x_iload_n (pc := 58) C (dq D_Model_front 34 rfl) rfl ?_
          refine x_goto (pc := 59) (tgt := 63) C (dq D_Model_front 35 rfl) (by decide) ?_
          exact fin c rfl
  have shift : ∀ (d i : Nat) (R : List Nat), i + d = nr → R.length = 112 → it (fr8 b c) 0 8 (it (fun i => frs (nr + 7 - i)) i d R) = frt b c nr ROW → X g f M_Model_front (0, 0) (Ret none (mh g P cd ni no nt (nr + 8) nl [W, T, U, IN, OUT, IS, IB, BL, MV, (frt b c nr ROW), TX, MA, SM, KP] S)) (0, 0) 8 [some (.ref (zA (gz g) 44)), some (.int (nI b)), some (.int (nI c)), some (.int (nI (7 + d)))] [] (mh g P cd ni no nt nr nl [W, T, U, IN, OUT, IS, IB, BL, MV, R, TX, MA, SM, KP] S) := by
    intro d
    induction d with
    | zero =>
      intro i R hid hR he
      rw [it_zero] at he
      refine x_iload_n (pc := 8) C (dq D_Model_front 5 rfl) rfl ?_
      refine x_bipush (pc := 9) C (dq D_Model_front 6 rfl) cb_8 ?_
      refine n_lt_t (pc := 11) (tgt := 35) C (dq D_Model_front 7 rfl) (by decide) (by omega) (by omega) ?_
      refine x_iconst (pc := 35) C (dq D_Model_front 20 rfl) ci_0 ?_
      refine x_istore_n (i := 3) (pc := 36) C (dq D_Model_front 21 rfl) rfl rfl rfl ?_
      simp only [List.set_cons_zero, List.set_cons_succ]
      exact eight 8 0 R rfl hR he
    | succ d ih =>
      intro i R hid hR he
      have e0 : nr + 7 - i = 7 + (d + 1) := by omega
      have e1 : 7 + (d + 1) - 1 = 7 + d := by omega
      refine x_iload_n (pc := 8) C (dq D_Model_front 5 rfl) rfl ?_
      refine x_bipush (pc := 9) C (dq D_Model_front 6 rfl) cb_8 ?_
      refine n_lt_f (pc := 11) (tgt := 35) C (dq D_Model_front 7 rfl) (by decide) (by omega) (by omega) ?_
      refine x_aload_n (pc := 14) C (dq D_Model_front 8 rfl) rfl ?_
      refine x_get (pc := 15) (ci := 1) (j := 14) C (dq D_Model_front 9 rfl) rfl rfl (by first | exact mo hP | exact ma hP rfl rfl) rfl k_fl_Model_37 ?_
      refine x_iload_n (pc := 18) C (dq D_Model_front 10 rfl) rfl ?_
      refine x_aload_n (pc := 19) C (dq D_Model_front 11 rfl) rfl ?_
      refine x_get (pc := 20) (ci := 1) (j := 14) C (dq D_Model_front 12 rfl) rfl rfl (by first | exact mo hP | exact ma hP rfl rfl) rfl k_fl_Model_37 ?_
      refine x_iload_n (pc := 23) C (dq D_Model_front 13 rfl) rfl ?_
      refine x_bipush (pc := 24) C (dq D_Model_front 14 rfl) cb_8 ?_
      refine n_isub (pc := 26) C (dq D_Model_front 15 rfl) (by omega) ?_
      refine x_iald (pc := 27) C (dq D_Model_front 16 rfl) (by first | exact mo hP | exact ma hP rfl rfl) (by (try simp only [List.length_set]); omega) ?_
      refine x_iast (pc := 28) C (dq D_Model_front 17 rfl) (by first | exact mo hP | exact ma hP rfl rfl) (by (try simp only [List.length_set]); omega) ?_
      try rw [List.set_set]
      rw [mh_s hP rfl rfl]
      simp only [Nat.reduceSub, List.set_cons_zero, List.set_cons_succ]
      refine x_iinc (pc := 29) C (dq D_Model_front 18 rfl) rfl (iim (by omega)) rfl rfl ?_
      simp only [List.set_cons_zero, List.set_cons_succ]
      refine x_goto (pc := 32) (tgt := 8) C (dq D_Model_front 19 rfl) (by decide) ?_
      rw [e1]
      refine ih (i + 1) (frs (7 + (d + 1)) R) (by omega) (by rw [frs_len]; exact hR) ?_
      rw [it_succ (fun i => frs (nr + 7 - i)) i d R, e0] at he
      exact he
  refine x_aload_n (pc := 0) C (dq D_Model_front 0 rfl) rfl ?_
  refine x_get (pc := 1) (ci := 1) (j := 13) C (dq D_Model_front 1 rfl) rfl rfl (mo hP) rfl k_fl_Model_100 ?_
  refine x_bipush (pc := 4) C (dq D_Model_front 2 rfl) cb_7 ?_
  refine n_iadd (pc := 6) C (dq D_Model_front 3 rfl) ?_
  refine x_istore_n (i := 3) (pc := 7) C (dq D_Model_front 4 rfl) rfl rfl rfl ?_
  simp only [List.set_cons_zero, List.set_cons_succ]
  rw [show nr + 7 = 7 + nr by omega]
  exact shift nr 0 ROW (by omega) hR (by rw [frt])
theorem cm_dropFront {g : Gp} {P S : Hp} {cd ni no nt nr nl : Nat} {W T U IN OUT IS IB BL MV ROW TX MA SM KP : List Nat} (hP : P.length = 44) (hR : ROW.length = 112) (hn : 8 ≤ nr ∧ nr ≤ 96) :
    Con g M_Model_dropFront 0 (0, 0) [.ref (zA (gz g) 44)] (mh g P cd ni no nt nr nl [W, T, U, IN, OUT, IS, IB, BL, MV, ROW, TX, MA, SM, KP] S) (Ret none (mh g P cd ni no nt (nr - 8) nl [W, T, U, IN, OUT, IS, IB, BL, MV, (drp (nr - 8) ROW), TX, MA, SM, KP] S)) := by
  refine Con.of (by decide) rfl rfl (L := [some (.ref (zA (gz g) 44)), none]) rfl (fun f C => ?_)
  have loop : ∀ (d k : Nat) (R : List Nat), k + d = nr - 8 → R.length = 112 → X g f M_Model_dropFront (0, 0) (Ret none (mh g P cd ni no nt (nr - 8) nl [W, T, U, IN, OUT, IS, IB, BL, MV, (it drs k d R), TX, MA, SM, KP] S)) (0, 0) 13 [some (.ref (zA (gz g) 44)), some (.int (nI k))] [] (mh g P cd ni no nt (nr - 8) nl [W, T, U, IN, OUT, IS, IB, BL, MV, R, TX, MA, SM, KP] S) := by
    intro d
    induction d with
    | zero =>
      intro k R hkd hR
      refine x_iload_n (pc := 13) C (dq D_Model_dropFront 8 rfl) rfl ?_
      refine x_aload_n (pc := 14) C (dq D_Model_dropFront 9 rfl) rfl ?_
      refine x_get (pc := 15) (ci := 1) (j := 13) C (dq D_Model_dropFront 10 rfl) rfl rfl (mo hP) rfl k_fl_Model_100 ?_
      refine n_ge_t (pc := 18) (tgt := 42) C (dq D_Model_dropFront 11 rfl) (by decide) (by omega) (by omega) ?_
      exact x_vret (pc := 42) C (dq D_Model_dropFront 24 rfl) rfl (by decide) ⟨rfl, rfl⟩
    | succ d ih =>
      intro k R hkd hR
      refine x_iload_n (pc := 13) C (dq D_Model_dropFront 8 rfl) rfl ?_
      refine x_aload_n (pc := 14) C (dq D_Model_dropFront 9 rfl) rfl ?_
      refine x_get (pc := 15) (ci := 1) (j := 13) C (dq D_Model_dropFront 10 rfl) rfl rfl (by first | exact mo hP | exact ma hP rfl rfl) rfl k_fl_Model_100 ?_
      refine n_ge_f (pc := 18) (tgt := 42) C (dq D_Model_dropFront 11 rfl) (by decide) (by omega) (by omega) ?_
      refine x_aload_n (pc := 21) C (dq D_Model_dropFront 12 rfl) rfl ?_
      refine x_get (pc := 22) (ci := 1) (j := 14) C (dq D_Model_dropFront 13 rfl) rfl rfl (by first | exact mo hP | exact ma hP rfl rfl) rfl k_fl_Model_37 ?_
      refine x_iload_n (pc := 25) C (dq D_Model_dropFront 14 rfl) rfl ?_
      refine x_aload_n (pc := 26) C (dq D_Model_dropFront 15 rfl) rfl ?_
      refine x_get (pc := 27) (ci := 1) (j := 14) C (dq D_Model_dropFront 16 rfl) rfl rfl (by first | exact mo hP | exact ma hP rfl rfl) rfl k_fl_Model_37 ?_
      refine x_iload_n (pc := 30) C (dq D_Model_dropFront 17 rfl) rfl ?_
      refine x_bipush (pc := 31) C (dq D_Model_dropFront 18 rfl) cb_8 ?_
      refine n_iadd (pc := 33) C (dq D_Model_dropFront 19 rfl) ?_
      refine x_iald (pc := 34) C (dq D_Model_dropFront 20 rfl) (by first | exact mo hP | exact ma hP rfl rfl) (by (try simp only [List.length_set]); omega) ?_
      refine x_iast (pc := 35) C (dq D_Model_dropFront 21 rfl) (by first | exact mo hP | exact ma hP rfl rfl) (by (try simp only [List.length_set]); omega) ?_
      try rw [List.set_set]
      refine x_iinc (pc := 36) C (dq D_Model_dropFront 22 rfl) rfl (ii_1 _) rfl rfl ?_
      simp only [List.set_cons_zero, List.set_cons_succ]
      rw [mh_s hP rfl rfl]
      simp only [Nat.reduceSub, List.set_cons_zero, List.set_cons_succ]
      refine x_goto (pc := 39) (tgt := 13) C (dq D_Model_dropFront 23 rfl) (by decide) ?_
      exact ih (k + 1) (drs k R) (by omega) (by rw [drs_len]; exact hR)
  refine x_aload_n (pc := 0) C (dq D_Model_dropFront 0 rfl) rfl ?_
  refine x_aload_n (pc := 1) C (dq D_Model_dropFront 1 rfl) rfl ?_
  refine x_get (pc := 2) (ci := 1) (j := 13) C (dq D_Model_dropFront 2 rfl) rfl rfl (mo hP) rfl k_fl_Model_100 ?_
  refine x_bipush (pc := 5) C (dq D_Model_dropFront 3 rfl) cb_8 ?_
  refine n_isub (pc := 7) C (dq D_Model_dropFront 4 rfl) (by omega) ?_
  refine x_put (pc := 8) (ci := 1) (j := 13) (ty := .int) C (dq D_Model_dropFront 5 rfl) rfl rfl (mo hP) rfl k_fl_Model_100 (Or.inl rfl) (by decide +kernel) rfl rfl ?_
  simp only [List.set_cons_zero, List.set_cons_succ]
  rw [mh_p hP]
  refine x_iconst (pc := 11) C (dq D_Model_dropFront 6 rfl) ci_0 ?_
  refine x_istore_n (i := 1) (pc := 12) C (dq D_Model_dropFront 7 rfl) rfl rfl rfl ?_
  simp only [List.set_cons_zero, List.set_cons_succ]
  exact loop (nr - 8) 0 ROW (by omega) hR
end
section
/-! The reference seals and opens. -/
def smv (K : List Nat) (k : Nat) (R : List Nat) : List Nat := R.set k (if k < 16 then K.getD k 0 else R.getD (k - 16) 0)
theorem smv_len (K : List Nat) (k : Nat) (R : List Nat) : (smv K k R).length = R.length := List.length_set
/-- what the reference seals with a mark: the mark, then the bytes crossed -/
def msl (T W K : List Nat) (n : Nat) (R : List Nat) : List Nat := it (fun i => smv K (n + 15 - i)) 0 (n + 16) (cro T W K n R)
theorem cro_ok {T : List Nat} (hT : by8 T) (W KP : List Nat) (n : Nat) {R : List Nat} (h : by8 R) : (cro T W KP n R).length = R.length ∧ by8 (cro T W KP n R) := by
  unfold cro
  refine it_inv (fun S : List Nat => S.length = R.length ∧ by8 S) _ 0 R (fun j S _ _ hS => ?_) ⟨rfl, h⟩
  have hk := enc_ok hT W 44 (ctr_ok (khi KP) (klo KP + j)).1 (ctr_ok (khi KP) (klo KP + j)).2
  unfold crs
  exact ⟨by rw [it_len (crx_len _ (16 * j))]; exact hS.1, crx8 hk.2 _ _ _ hS.2⟩
theorem mjo_ok {T : List Nat} (hT : by8 T) (W : List Nat) {IB : List Nat} (IS : List Nat) (hI : by8 IB) (nt : Nat) {L : List Nat} (hL : by8 L) : (mjo T W IB IS nt L).length = 16 ∧ by8 (mjo T W IB IS nt L) := by
  have h0 := mk_ok hT W z16_8
  have h1 : (it (jst T W IB IS) 0 nt (mk T W z16)).length = 16 ∧ by8 (it (jst T W IB IS) 0 nt (mk T W z16)) := it_inv (fun S : List Nat => S.length = 16 ∧ by8 S) nt 0 _ (fun j S _ _ hS => jst_ok hT W IS hI j hS) h0
  unfold mjo
  refine mk_ok hT W ?_
  unfold jlast
  split
  · refine mxt8 (mdb8 h1.2) _ 0 16 ?_
    unfold fl16
    exact mpd8 _ _ _ (hL.app (fun v hv => by rw [List.eq_of_mem_replicate hv]; decide))
  · exact mxt8 h1.2 _ 0 16 hL
set_option maxHeartbeats 4000000 in
theorem cm_sealMarked {g : Gp} {P S : Hp} {cd ni no nt nr nl : Nat} {W T U IN OUT IS IB BL MV ROW TX MA SM KP : List Nat} (hP : P.length = 44) (hW : W.length = 88 ∧ by32 W) (hT : T.length = 256 ∧ by8 T) (hU : U.length = 256 ∧ by8 U) (hb : bm16 (BL, MV)) (hTX : TX.length = 112 ∧ by8 TX) (hMA : MA.length = 16 ∧ by8 MA) (hSM : SM.length = 16 ∧ by8 SM) (hI : IB.length = 200 ∧ by8 IB) (hIS : IS.length = 5 ∧ ∀ i, IS.getD i 0 ≤ 40) (hnt : nt ≤ 5) (hR : ROW.length = 112 ∧ by8 ROW) (hKP : KP.length = 16 ∧ by8 KP) (hnr : nr ≤ 64) :
    Con g M_Model_sealMarked 4 (0, 0) [.ref (zA (gz g) 44)] (mh g P cd ni no nt nr nl [W, T, U, IN, OUT, IS, IB, BL, MV, ROW, TX, MA, SM, KP] S) (fun o h' => o = .returned none ∧ ∃ (l : Nat) (B' M' T' S' : List Nat), bm16 (B', M') ∧ T'.length = 112 ∧ by8 T' ∧ S'.length = 16 ∧ by8 S' ∧ h' = mh g P cd ni no nt (nr + 16) l [W, T, U, IN, OUT, IS, IB, B', M', (msl T W (mjo T W IB IS nt (ROW.take nr)) nr ROW), T', (mjo T W IB IS nt (ROW.take nr)), S', (mjo T W IB IS nt (ROW.take nr))] S) := by
  obtain ⟨j1, j2⟩ := mjo_ok hT.2 W IS hI.2 nt (hR.2.take nr)
  obtain ⟨c1, c2⟩ := cro_ok hT.2 W (mjo T W IB IS nt (ROW.take nr)) nr hR.2
  refine Con.of (by decide) rfl rfl (L := [some (.ref (zA (gz g) 44)), none]) rfl (fun f C => ?_)
  have shift : ∀ (d i l : Nat) (x : Int32) (B V R Y Q : List Nat), i + d = nr + 16 → (d = 0 → x = -1) → (∀ e, d = e + 1 → x = nI e) → bm16 (B, V) → Y.length = 112 ∧ by8 Y → Q.length = 16 ∧ by8 Q → R.length = 112 → it (fun i => smv (mjo T W IB IS nt (ROW.take nr)) (nr + 15 - i)) i d R = msl T W (mjo T W IB IS nt (ROW.take nr)) nr ROW → X g f M_Model_sealMarked (0, 0) (fun o h' => o = .returned none ∧ ∃ (l : Nat) (B' M' T' S' : List Nat), bm16 (B', M') ∧ T'.length = 112 ∧ by8 T' ∧ S'.length = 16 ∧ by8 S' ∧ h' = mh g P cd ni no nt (nr + 16) l [W, T, U, IN, OUT, IS, IB, B', M', (msl T W (mjo T W IB IS nt (ROW.take nr)) nr ROW), T', (mjo T W IB IS nt (ROW.take nr)), S', (mjo T W IB IS nt (ROW.take nr))] S) (0, 0) 42 [some (.ref (zA (gz g) 44)), some (.int x)] [] (mh g P cd ni no nt nr l [W, T, U, IN, OUT, IS, IB, B, V, R, Y, (mjo T W IB IS nt (ROW.take nr)), Q, (mjo T W IB IS nt (ROW.take nr))] S) := by
    intro d
    induction d with
    | zero =>
      intro i l x B V R Y Q hid hx0 hx1 hB hY hQ hR he
      rw [it_zero] at he
      obtain rfl := hx0 rfl
      refine x_iload_n (pc := 42) C (dq D_Model_sealMarked 24 rfl) rfl ?_
      refine x_iflt (pc := 43) (tgt := 82) C (dq D_Model_sealMarked 25 rfl) (by decide) (fun _ => ?_) (fun q => absurd (by decide) q)
      refine x_aload_n (pc := 82) C (dq D_Model_sealMarked 46 rfl) rfl ?_
      refine x_aload_n (pc := 83) C (dq D_Model_sealMarked 47 rfl) rfl ?_
      refine x_get (pc := 84) (ci := 1) (j := 13) C (dq D_Model_sealMarked 48 rfl) rfl rfl (mo hP) rfl k_fl_Model_100 ?_
      refine x_bipush (pc := 87) C (dq D_Model_sealMarked 49 rfl) cb_16 ?_
      refine n_iadd (pc := 89) C (dq D_Model_sealMarked 50 rfl) ?_
      refine x_put (pc := 90) (ci := 1) (j := 13) (ty := .int) C (dq D_Model_sealMarked 51 rfl) rfl rfl (mo hP) rfl k_fl_Model_100 (Or.inl rfl) (by decide +kernel) rfl rfl ?_
      simp only [List.set_cons_zero, List.set_cons_succ]
      rw [mh_p hP]
      exact x_vret (pc := 93) C (dq D_Model_sealMarked 52 rfl) rfl (by decide) ⟨rfl, l, B, V, Y, Q, hB, hY.1, hY.2, hQ.1, hQ.2, by rw [he]⟩
    | succ d ih =>
      intro i l x B V R Y Q hid hx0 hx1 hB hY hQ hR he
      obtain rfl := hx1 d rfl
      have e0 : nr + 15 - i = d := by omega
      have fin : ∀ v : Nat, v = (if d < 16 then ((mjo T W IB IS nt (ROW.take nr))).getD d 0 else R.getD (d - 16) 0) → X g f M_Model_sealMarked (0, 0) (fun o h' => o = .returned none ∧ ∃ (l : Nat) (B' M' T' S' : List Nat), bm16 (B', M') ∧ T'.length = 112 ∧ by8 T' ∧ S'.length = 16 ∧ by8 S' ∧ h' = mh g P cd ni no nt (nr + 16) l [W, T, U, IN, OUT, IS, IB, B', M', (msl T W (mjo T W IB IS nt (ROW.take nr)) nr ROW), T', (mjo T W IB IS nt (ROW.take nr)), S', (mjo T W IB IS nt (ROW.take nr))] S) (0, 0) 75 [some (.ref (zA (gz g) 44)), some (.int (nI d))] [.int (nI v), .int (nI d), .ref (zA (gz g) 54)] (mh g P cd ni no nt nr l [W, T, U, IN, OUT, IS, IB, B, V, R, Y, (mjo T W IB IS nt (ROW.take nr)), Q, (mjo T W IB IS nt (ROW.take nr))] S) := by
        intro v hv
        refine x_iast (pc := 75) C (dq D_Model_sealMarked 43 rfl) (ma hP rfl rfl) (by (try simp only [List.length_set]); omega) ?_
        try rw [List.set_set]
        rw [mh_s hP rfl rfl]
        simp only [Nat.reduceSub, List.set_cons_zero, List.set_cons_succ]
        refine x_iinc (pc := 76) C (dq D_Model_sealMarked 44 rfl) rfl rfl rfl rfl ?_
        simp only [List.set_cons_zero, List.set_cons_succ]
        refine x_goto (pc := 79) (tgt := 42) C (dq D_Model_sealMarked 45 rfl) (by decide) ?_
        refine ih (i + 1) l _ B V (R.set d v) Y Q (by omega) (fun z => by subst z; decide +kernel) (fun e z => by subst z; exact iim (by omega)) hB hY hQ (by rw [List.length_set]; exact hR) ?_
        rw [it_succ, e0] at he
        rw [hv]
        exact he
      refine x_iload_n (pc := 42) C (dq D_Model_sealMarked 24 rfl) rfl ?_
      refine n_iflt_f (pc := 43) (tgt := 82) C (dq D_Model_sealMarked 25 rfl) (by decide) (by omega) (by omega) ?_
      refine x_aload_n (pc := 46) C (dq D_Model_sealMarked 26 rfl) rfl ?_
      refine x_get (pc := 47) (ci := 1) (j := 14) C (dq D_Model_sealMarked 27 rfl) rfl rfl (mo hP) rfl k_fl_Model_37 ?_
      refine x_iload_n (pc := 50) C (dq D_Model_sealMarked 28 rfl) rfl ?_
      refine x_iload_n (pc := 51) C (dq D_Model_sealMarked 29 rfl) rfl ?_
      refine x_bipush (pc := 52) C (dq D_Model_sealMarked 30 rfl) cb_16 ?_
      refine n_ge (pc := 54) (tgt := 66) C (dq D_Model_sealMarked 31 rfl) (by decide) (by omega) (fun hq => ?_) (fun hq => ?_)
      · rw [if_neg (by omega)] at fin
        refine x_aload_n (pc := 66) C (dq D_Model_sealMarked 37 rfl) rfl ?_
        refine x_get (pc := 67) (ci := 1) (j := 14) C (dq D_Model_sealMarked 38 rfl) rfl rfl (by first | exact mo hP | exact ma hP rfl rfl) rfl k_fl_Model_37 ?_
        refine x_iload_n (pc := 70) C (dq D_Model_sealMarked 39 rfl) rfl ?_
        refine x_bipush (pc := 71) C (dq D_Model_sealMarked 40 rfl) cb_16 ?_
        refine n_isub (pc := 73) C (dq D_Model_sealMarked 41 rfl) (by omega) ?_
        refine x_iald (pc := 74) C (dq D_Model_sealMarked 42 rfl) (by first | exact mo hP | exact ma hP rfl rfl) (by (try simp only [List.length_set]); omega) ?_
        exact fin _ rfl
      · rw [if_pos hq] at fin
        refine x_aload_n (pc := 57) C (dq D_Model_sealMarked 32 rfl) rfl ?_
        refine x_get (pc := 58) (ci := 1) (j := 19) C (dq D_Model_sealMarked 33 rfl) rfl rfl (by first | exact mo hP | exact ma hP rfl rfl) rfl k_fl_Model_49 ?_
        refine x_iload_n (pc := 61) C (dq D_Model_sealMarked 34 rfl) rfl ?_
        refine x_iald (pc := 62) C (dq D_Model_sealMarked 35 rfl) (by first | exact mo hP | exact ma hP rfl rfl) (by (try simp only [List.length_set]); omega) ?_
        refine x_goto (pc := 63) (tgt := 75) C (dq D_Model_sealMarked 36 rfl) (by decide) ?_
        exact fin _ rfl
  have keep : ∀ (d k l : Nat) (B V Y Q K : List Nat), k + d = 16 → bm16 (B, V) → Y.length = 112 ∧ by8 Y → Q.length = 16 ∧ by8 Q → K.length = 16 → it (cp1 (mjo T W IB IS nt (ROW.take nr))) k d K = (mjo T W IB IS nt (ROW.take nr)) → X g f M_Model_sealMarked (0, 0) (fun o h' => o = .returned none ∧ ∃ (l : Nat) (B' M' T' S' : List Nat), bm16 (B', M') ∧ T'.length = 112 ∧ by8 T' ∧ S'.length = 16 ∧ by8 S' ∧ h' = mh g P cd ni no nt (nr + 16) l [W, T, U, IN, OUT, IS, IB, B', M', (msl T W (mjo T W IB IS nt (ROW.take nr)) nr ROW), T', (mjo T W IB IS nt (ROW.take nr)), S', (mjo T W IB IS nt (ROW.take nr))] S) (0, 0) 6 [some (.ref (zA (gz g) 44)), some (.int (nI k))] [] (mh g P cd ni no nt nr l [W, T, U, IN, OUT, IS, IB, B, V, ROW, Y, (mjo T W IB IS nt (ROW.take nr)), Q, K] S) := by
    intro d
    induction d with
    | zero =>
      intro k l B V Y Q K hkd hB hY hQ hK he
      rw [it_zero] at he
      rw [he]
      refine x_iload_n (pc := 6) C (dq D_Model_sealMarked 4 rfl) rfl ?_
      refine x_bipush (pc := 7) C (dq D_Model_sealMarked 5 rfl) cb_16 ?_
      refine n_ge_t (pc := 9) (tgt := 30) C (dq D_Model_sealMarked 6 rfl) (by decide) (by omega) (by omega) ?_
      refine x_aload_n (pc := 30) C (dq D_Model_sealMarked 17 rfl) rfl ?_
      refine x_cV (pc := 31) (ci := 1) (M := M_Model_cross) C (dq D_Model_sealMarked 18 rfl) k_ml_Model_108 m_Model_cross rfl rfl (mo hP) (cm_cross hP hW hT hU hB ⟨j1, j2⟩ hR.1 (by omega)) rfl rfl rfl rfl (by decide) (fun o h2 hp => ?_)
      obtain ⟨rfl, B2, V2, hB2, rfl⟩ := hp
      refine ⟨none, rfl, ?_⟩
      show X g f M_Model_sealMarked (0, 0) (fun o h' => o = .returned none ∧ ∃ (l : Nat) (B' M' T' S' : List Nat), bm16 (B', M') ∧ T'.length = 112 ∧ by8 T' ∧ S'.length = 16 ∧ by8 S' ∧ h' = mh g P cd ni no nt (nr + 16) l [W, T, U, IN, OUT, IS, IB, B', M', (msl T W (mjo T W IB IS nt (ROW.take nr)) nr ROW), T', (mjo T W IB IS nt (ROW.take nr)), S', (mjo T W IB IS nt (ROW.take nr))] S) (0, 0) 34 [some (.ref (zA (gz g) 44)), some (.int (nI k))] [] (mh g P cd ni no nt nr l [W, T, U, IN, OUT, IS, IB, B2, V2, (cro T W (mjo T W IB IS nt (ROW.take nr)) nr ROW), Y, (mjo T W IB IS nt (ROW.take nr)), Q, (mjo T W IB IS nt (ROW.take nr))] S)
      refine x_aload_n (pc := 34) C (dq D_Model_sealMarked 19 rfl) rfl ?_
      refine x_get (pc := 35) (ci := 1) (j := 13) C (dq D_Model_sealMarked 20 rfl) rfl rfl (mo hP) rfl k_fl_Model_100 ?_
      refine x_bipush (pc := 38) C (dq D_Model_sealMarked 21 rfl) cb_15 ?_
      refine n_iadd (pc := 40) C (dq D_Model_sealMarked 22 rfl) ?_
      refine x_istore_n (i := 1) (pc := 41) C (dq D_Model_sealMarked 23 rfl) rfl rfl rfl ?_
      simp only [List.set_cons_zero, List.set_cons_succ]
      exact shift (nr + 16) 0 l (nI (nr + 15)) B2 V2 _ Y Q (by omega) (fun z => by omega) (fun e z => by rw [show e = nr + 15 by omega]) hB2 hY hQ (c1.trans hR.1) (by rw [msl])
    | succ d ih =>
      intro k l B V Y Q K hkd hB hY hQ hK he
      refine x_iload_n (pc := 6) C (dq D_Model_sealMarked 4 rfl) rfl ?_
      refine x_bipush (pc := 7) C (dq D_Model_sealMarked 5 rfl) cb_16 ?_
      refine n_ge_f (pc := 9) (tgt := 30) C (dq D_Model_sealMarked 6 rfl) (by decide) (by omega) (by omega) ?_
      refine x_aload_n (pc := 12) C (dq D_Model_sealMarked 7 rfl) rfl ?_
      refine x_get (pc := 13) (ci := 1) (j := 19) C (dq D_Model_sealMarked 8 rfl) rfl rfl (by first | exact mo hP | exact ma hP rfl rfl) rfl k_fl_Model_49 ?_
      refine x_iload_n (pc := 16) C (dq D_Model_sealMarked 9 rfl) rfl ?_
      refine x_aload_n (pc := 17) C (dq D_Model_sealMarked 10 rfl) rfl ?_
      refine x_get (pc := 18) (ci := 1) (j := 17) C (dq D_Model_sealMarked 11 rfl) rfl rfl (by first | exact mo hP | exact ma hP rfl rfl) rfl k_fl_Model_43 ?_
      refine x_iload_n (pc := 21) C (dq D_Model_sealMarked 12 rfl) rfl ?_
      refine x_iald (pc := 22) C (dq D_Model_sealMarked 13 rfl) (by first | exact mo hP | exact ma hP rfl rfl) (by (try simp only [List.length_set]); omega) ?_
      refine x_iast (pc := 23) C (dq D_Model_sealMarked 14 rfl) (by first | exact mo hP | exact ma hP rfl rfl) (by (try simp only [List.length_set]); omega) ?_
      try rw [List.set_set]
      refine x_iinc (pc := 24) C (dq D_Model_sealMarked 15 rfl) rfl (ii_1 _) rfl rfl ?_
      simp only [List.set_cons_zero, List.set_cons_succ]
      rw [mh_s hP rfl rfl]
      simp only [Nat.reduceSub, List.set_cons_zero, List.set_cons_succ]
      refine x_goto (pc := 27) (tgt := 6) C (dq D_Model_sealMarked 16 rfl) (by decide) ?_
      exact ih (k + 1) l B V Y Q (cp1 (mjo T W IB IS nt (ROW.take nr)) k K) (by omega) hB hY hQ (by rw [cp1_len]; exact hK) he
  refine x_aload_n (pc := 0) C (dq D_Model_sealMarked 0 rfl) rfl ?_
  refine x_cV (pc := 1) (ci := 1) (M := M_Model_markJointly) C (dq D_Model_sealMarked 1 rfl) k_ml_Model_105 m_Model_markJointly rfl rfl (mo hP) (cm_markJointly hP hW hT hU hb hTX hMA hSM hI hIS hnt hR (by omega)) rfl rfl rfl rfl (by decide) (fun o h2 hp => ?_)
  obtain ⟨rfl, l, B2, V2, T2, S2, q1, q2, q3, q4, q5, rfl⟩ := hp
  refine ⟨none, rfl, ?_⟩
  show X g f M_Model_sealMarked (0, 0) (fun o h' => o = .returned none ∧ ∃ (l : Nat) (B' M' T' S' : List Nat), bm16 (B', M') ∧ T'.length = 112 ∧ by8 T' ∧ S'.length = 16 ∧ by8 S' ∧ h' = mh g P cd ni no nt (nr + 16) l [W, T, U, IN, OUT, IS, IB, B', M', (msl T W (mjo T W IB IS nt (ROW.take nr)) nr ROW), T', (mjo T W IB IS nt (ROW.take nr)), S', (mjo T W IB IS nt (ROW.take nr))] S) (0, 0) 4 [some (.ref (zA (gz g) 44)), none] [] (mh g P cd ni no nt nr l [W, T, U, IN, OUT, IS, IB, B2, V2, ROW, T2, (mjo T W IB IS nt (ROW.take nr)), S2, KP] S)
  refine x_iconst (pc := 4) C (dq D_Model_sealMarked 2 rfl) ci_0 ?_
  refine x_istore_n (i := 1) (pc := 5) C (dq D_Model_sealMarked 3 rfl) rfl rfl rfl ?_
  simp only [List.set_cons_zero, List.set_cons_succ]
  exact keep 16 0 l B2 V2 T2 S2 KP rfl q1 ⟨q2, q3⟩ ⟨q4, q5⟩ hKP.1 (cp16 j1 hKP.1)
/-- the front of sixteen dropped -/
def d16 (k : Nat) (R : List Nat) : List Nat := R.set k (R.getD (k + 16) 0)
theorem d16_len (k : Nat) (R : List Nat) : (d16 k R).length = R.length := List.length_set
def eqs (A B : List Nat) (k : Nat) (b : Bool) : Bool := b && decide (A.getD k 0 = B.getD k 0)
/-- what the reference opens -/
def mop (T W : List Nat) (n : Nat) (R : List Nat) : List Nat := cro T W (R.take 16) (n - 16) (it d16 0 (n - 16) R)
theorem eqs_f (A B : List Nat) : ∀ (d k : Nat), it (eqs A B) k d false = false
  | 0, _ => rfl
  | d + 1, k => eqs_f A B d (k + 1)
set_option maxHeartbeats 4000000 in
theorem cm_openMarked {g : Gp} {P S : Hp} {cd ni no nt nr nl : Nat} {W T U IN OUT IS IB BL MV ROW TX MA SM KP : List Nat} (hP : P.length = 44) (hW : W.length = 88 ∧ by32 W) (hT : T.length = 256 ∧ by8 T) (hU : U.length = 256 ∧ by8 U) (hb : bm16 (BL, MV)) (hTX : TX.length = 112 ∧ by8 TX) (hMA : MA.length = 16 ∧ by8 MA) (hSM : SM.length = 16 ∧ by8 SM) (hI : IB.length = 200 ∧ by8 IB) (hIS : IS.length = 5 ∧ ∀ i, IS.getD i 0 ≤ 40) (hnt : nt ≤ 5) (hR : ROW.length = 112 ∧ by8 ROW) (hKP : KP.length = 16 ∧ by8 KP) (hnr : 16 ≤ nr ∧ nr ≤ 80) :
    Con g M_Model_openMarked 4 (0, 0) [.ref (zA (gz g) 44)] (mh g P cd ni no nt nr nl [W, T, U, IN, OUT, IS, IB, BL, MV, ROW, TX, MA, SM, KP] S) (fun o h' => o = .returned (some (.int (nI (if (it (eqs (mjo T W IB IS nt ((mop T W nr ROW).take (nr - 16))) (ROW.take 16)) 0 16 true) then 1 else 0)))) ∧ ∃ (l : Nat) (B' M' T' S' : List Nat), bm16 (B', M') ∧ T'.length = 112 ∧ by8 T' ∧ S'.length = 16 ∧ by8 S' ∧ h' = mh g P cd ni no nt (nr - 16) l [W, T, U, IN, OUT, IS, IB, B', M', (mop T W nr ROW), T', (mjo T W IB IS nt ((mop T W nr ROW).take (nr - 16))), S', (ROW.take 16)] S) := by
  have hk1 : (ROW.take 16).length = 16 := by rw [List.length_take, hR.1]; rfl
  have hk8 := hR.2.take 16
  have hd : (it d16 0 (nr - 16) ROW).length = 112 ∧ by8 (it d16 0 (nr - 16) ROW) := ⟨by rw [it_len d16_len]; exact hR.1, it_inv by8 _ 0 ROW (fun j S _ _ hS => hS.set (hS.at _)) hR.2⟩
  obtain ⟨c1, c2⟩ := cro_ok hT.2 W (ROW.take 16) (nr - 16) hd.2
  have hr2 : ((mop T W nr ROW)).length = 112 ∧ by8 (mop T W nr ROW) := by
    unfold mop
    exact ⟨c1.trans hd.1, c2⟩
  obtain ⟨j1, j2⟩ := mjo_ok hT.2 W IS hI.2 nt (hr2.2.take (nr - 16))
  refine Con.of (by decide) rfl rfl (L := [some (.ref (zA (gz g) 44)), none, none]) rfl (fun f C => ?_)
  have cmp : ∀ (d k l : Nat) (b : Bool) (B V Y Q : List Nat), k + d = 16 → bm16 (B, V) → Y.length = 112 ∧ by8 Y → Q.length = 16 ∧ by8 Q → it (eqs (mjo T W IB IS nt ((mop T W nr ROW).take (nr - 16))) (ROW.take 16)) k d b = (it (eqs (mjo T W IB IS nt ((mop T W nr ROW).take (nr - 16))) (ROW.take 16)) 0 16 true) → X g f M_Model_openMarked (0, 0) (fun o h' => o = .returned (some (.int (nI (if (it (eqs (mjo T W IB IS nt ((mop T W nr ROW).take (nr - 16))) (ROW.take 16)) 0 16 true) then 1 else 0)))) ∧ ∃ (l : Nat) (B' M' T' S' : List Nat), bm16 (B', M') ∧ T'.length = 112 ∧ by8 T' ∧ S'.length = 16 ∧ by8 S' ∧ h' = mh g P cd ni no nt (nr - 16) l [W, T, U, IN, OUT, IS, IB, B', M', (mop T W nr ROW), T', (mjo T W IB IS nt ((mop T W nr ROW).take (nr - 16))), S', (ROW.take 16)] S) (0, 0) 80 [some (.ref (zA (gz g) 44)), some (.int (nI (if b then 1 else 0))), some (.int (nI k))] [] (mh g P cd ni no nt (nr - 16) l [W, T, U, IN, OUT, IS, IB, B, V, (mop T W nr ROW), Y, (mjo T W IB IS nt ((mop T W nr ROW).take (nr - 16))), Q, (ROW.take 16)] S) := by
    intro d
    induction d with
    | zero =>
      intro k l b B V Y Q hkd hB hY hQ he
      rw [it_zero] at he
      rw [he]
      have hz : narrow .boolean (.int (nI (if (it (eqs (mjo T W IB IS nt ((mop T W nr ROW).take (nr - 16))) (ROW.take 16)) 0 16 true) then 1 else 0))) = .int (nI (if (it (eqs (mjo T W IB IS nt ((mop T W nr ROW).take (nr - 16))) (ROW.take 16)) 0 16 true) then 1 else 0)) := by
        split <;> decide +kernel
      refine x_iload_n (pc := 80) C (dq D_Model_openMarked 47 rfl) rfl ?_
      refine x_bipush (pc := 81) C (dq D_Model_openMarked 48 rfl) cb_16 ?_
      refine n_ge_t (pc := 83) (tgt := 117) C (dq D_Model_openMarked 49 rfl) (by decide) (by omega) (by omega) ?_
      refine x_iload_n (pc := 117) C (dq D_Model_openMarked 67 rfl) rfl ?_
      exact x_zret (pc := 118) C (dq D_Model_openMarked 68 rfl) rfl hz (by decide) ⟨rfl, l, B, V, Y, Q, hB, hY.1, hY.2, hQ.1, hQ.2, rfl⟩
    | succ d ih =>
      intro k l b B V Y Q hkd hB hY hQ he
      have v1 := j2.at k
      have v2 := hk8.at k
      have fin : ∀ b' : Bool, b' = eqs (mjo T W IB IS nt ((mop T W nr ROW).take (nr - 16))) (ROW.take 16) k b → X g f M_Model_openMarked (0, 0) (fun o h' => o = .returned (some (.int (nI (if (it (eqs (mjo T W IB IS nt ((mop T W nr ROW).take (nr - 16))) (ROW.take 16)) 0 16 true) then 1 else 0)))) ∧ ∃ (l : Nat) (B' M' T' S' : List Nat), bm16 (B', M') ∧ T'.length = 112 ∧ by8 T' ∧ S'.length = 16 ∧ by8 S' ∧ h' = mh g P cd ni no nt (nr - 16) l [W, T, U, IN, OUT, IS, IB, B', M', (mop T W nr ROW), T', (mjo T W IB IS nt ((mop T W nr ROW).take (nr - 16))), S', (ROW.take 16)] S) (0, 0) 110 [some (.ref (zA (gz g) 44)), some (.int (nI (if b then 1 else 0))), some (.int (nI k))] [.int (nI (if b' then 1 else 0))] (mh g P cd ni no nt (nr - 16) l [W, T, U, IN, OUT, IS, IB, B, V, (mop T W nr ROW), Y, (mjo T W IB IS nt ((mop T W nr ROW).take (nr - 16))), Q, (ROW.take 16)] S) := by
        intro b' hb'
        refine x_istore_n (i := 1) (pc := 110) C (dq D_Model_openMarked 64 rfl) rfl rfl rfl ?_
        simp only [List.set_cons_zero, List.set_cons_succ]
        refine x_iinc (pc := 111) C (dq D_Model_openMarked 65 rfl) rfl (ii_1 _) rfl rfl ?_
        simp only [List.set_cons_zero, List.set_cons_succ]
        refine x_goto (pc := 114) (tgt := 80) C (dq D_Model_openMarked 66 rfl) (by decide) ?_
        refine ih (k + 1) l b' B V Y Q (by omega) hB hY hQ ?_
        rw [hb']
        exact he
      cases b with
      | false =>
        have e1 : (nI (if false = true then 1 else 0)) = nI 0 := rfl
        rw [e1] at fin ⊢
        refine x_iload_n (pc := 80) C (dq D_Model_openMarked 47 rfl) rfl ?_
        refine x_bipush (pc := 81) C (dq D_Model_openMarked 48 rfl) cb_16 ?_
        refine n_ge_f (pc := 83) (tgt := 117) C (dq D_Model_openMarked 49 rfl) (by decide) (by omega) (by omega) ?_
        refine x_iload_n (pc := 86) C (dq D_Model_openMarked 50 rfl) rfl ?_
        refine n_ifeq_t (pc := 87) (tgt := 109) C (dq D_Model_openMarked 51 rfl) (by decide) (by omega) (by omega) ?_
        refine x_iconst (pc := 109) C (dq D_Model_openMarked 63 rfl) ci_0 ?_
        exact fin false rfl
      | true =>
        have e1 : (nI (if true = true then 1 else 0)) = nI 1 := rfl
        rw [e1] at fin ⊢
        refine x_iload_n (pc := 80) C (dq D_Model_openMarked 47 rfl) rfl ?_
        refine x_bipush (pc := 81) C (dq D_Model_openMarked 48 rfl) cb_16 ?_
        refine n_ge_f (pc := 83) (tgt := 117) C (dq D_Model_openMarked 49 rfl) (by decide) (by omega) (by omega) ?_
        refine x_iload_n (pc := 86) C (dq D_Model_openMarked 50 rfl) rfl ?_
        refine n_ifeq_f (pc := 87) (tgt := 109) C (dq D_Model_openMarked 51 rfl) (by decide) (by omega) (by omega) ?_
        refine x_aload_n (pc := 90) C (dq D_Model_openMarked 52 rfl) rfl ?_
        refine x_get (pc := 91) (ci := 1) (j := 17) C (dq D_Model_openMarked 53 rfl) rfl rfl (by first | exact mo hP | exact ma hP rfl rfl) rfl k_fl_Model_43 ?_
        refine x_iload_n (pc := 94) C (dq D_Model_openMarked 54 rfl) rfl ?_
        refine x_iald (pc := 95) C (dq D_Model_openMarked 55 rfl) (by first | exact mo hP | exact ma hP rfl rfl) (by (try simp only [List.length_set]); omega) ?_
        refine x_aload_n (pc := 96) C (dq D_Model_openMarked 56 rfl) rfl ?_
        refine x_get (pc := 97) (ci := 1) (j := 19) C (dq D_Model_openMarked 57 rfl) rfl rfl (by first | exact mo hP | exact ma hP rfl rfl) rfl k_fl_Model_49 ?_
        refine x_iload_n (pc := 100) C (dq D_Model_openMarked 58 rfl) rfl ?_
        refine x_iald (pc := 101) C (dq D_Model_openMarked 59 rfl) (by first | exact mo hP | exact ma hP rfl rfl) (by (try simp only [List.length_set]); omega) ?_
        refine n_ne (pc := 102) (tgt := 109) C (dq D_Model_openMarked 60 rfl) (by decide) (by omega) (fun hq => ?_) (fun hq => ?_)
        · refine x_iconst (pc := 109) C (dq D_Model_openMarked 63 rfl) ci_0 ?_
          exact fin false (by unfold eqs; rw [decide_eq_false hq]; rfl)
        · refine x_iconst (pc := 105) C (dq D_Model_openMarked 61 rfl) ci_1 ?_
          refine x_goto (pc := 106) (tgt := 110) C (dq D_Model_openMarked 62 rfl) (by decide) ?_
          exact fin true (by unfold eqs; rw [decide_eq_true hq]; rfl)
  have move : ∀ (d k : Nat) (R : List Nat) (l2 : Option Value), k + d = nr - 16 → R.length = 112 → it d16 k d R = it d16 0 (nr - 16) ROW → X g f M_Model_openMarked (0, 0) (fun o h' => o = .returned (some (.int (nI (if (it (eqs (mjo T W IB IS nt ((mop T W nr ROW).take (nr - 16))) (ROW.take 16)) 0 16 true) then 1 else 0)))) ∧ ∃ (l : Nat) (B' M' T' S' : List Nat), bm16 (B', M') ∧ T'.length = 112 ∧ by8 T' ∧ S'.length = 16 ∧ by8 S' ∧ h' = mh g P cd ni no nt (nr - 16) l [W, T, U, IN, OUT, IS, IB, B', M', (mop T W nr ROW), T', (mjo T W IB IS nt ((mop T W nr ROW).take (nr - 16))), S', (ROW.take 16)] S) (0, 0) 39 [some (.ref (zA (gz g) 44)), some (.int (nI k)), l2] [] (mh g P cd ni no nt (nr - 16) nl [W, T, U, IN, OUT, IS, IB, BL, MV, R, TX, MA, SM, (ROW.take 16)] S) := by
    intro d
    induction d with
    | zero =>
      intro k R l2 hkd hR0 he
      rw [it_zero] at he
      rw [he]
      refine x_iload_n (pc := 39) C (dq D_Model_openMarked 23 rfl) rfl ?_
      refine x_aload_n (pc := 40) C (dq D_Model_openMarked 24 rfl) rfl ?_
      refine x_get (pc := 41) (ci := 1) (j := 13) C (dq D_Model_openMarked 25 rfl) rfl rfl (mo hP) rfl k_fl_Model_100 ?_
      refine n_ge_t (pc := 44) (tgt := 68) C (dq D_Model_openMarked 26 rfl) (by decide) (by omega) (by omega) ?_
      refine x_aload_n (pc := 68) C (dq D_Model_openMarked 39 rfl) rfl ?_
      refine x_cV (pc := 69) (ci := 1) (M := M_Model_cross) C (dq D_Model_openMarked 40 rfl) k_ml_Model_108 m_Model_cross rfl rfl (mo hP) (cm_cross hP hW hT hU hb ⟨hk1, hk8⟩ hd.1 (by omega)) rfl rfl rfl rfl (by decide) (fun o h2 hp => ?_)
      obtain ⟨rfl, B2, V2, hB2, rfl⟩ := hp
      refine ⟨none, rfl, ?_⟩
      show X g f M_Model_openMarked (0, 0) (fun o h' => o = .returned (some (.int (nI (if (it (eqs (mjo T W IB IS nt ((mop T W nr ROW).take (nr - 16))) (ROW.take 16)) 0 16 true) then 1 else 0)))) ∧ ∃ (l : Nat) (B' M' T' S' : List Nat), bm16 (B', M') ∧ T'.length = 112 ∧ by8 T' ∧ S'.length = 16 ∧ by8 S' ∧ h' = mh g P cd ni no nt (nr - 16) l [W, T, U, IN, OUT, IS, IB, B', M', (mop T W nr ROW), T', (mjo T W IB IS nt ((mop T W nr ROW).take (nr - 16))), S', (ROW.take 16)] S) (0, 0) 72 [some (.ref (zA (gz g) 44)), some (.int (nI k)), l2] [] (mh g P cd ni no nt (nr - 16) nl [W, T, U, IN, OUT, IS, IB, B2, V2, (mop T W nr ROW), TX, MA, SM, (ROW.take 16)] S)
      refine x_aload_n (pc := 72) C (dq D_Model_openMarked 41 rfl) rfl ?_
      refine x_cV (pc := 73) (ci := 1) (M := M_Model_markJointly) C (dq D_Model_openMarked 42 rfl) k_ml_Model_105 m_Model_markJointly rfl rfl (mo hP) (cm_markJointly hP hW hT hU hB2 hTX hMA hSM hI hIS hnt hr2 (by omega)) rfl rfl rfl rfl (by decide) (fun o h2 hp => ?_)
      obtain ⟨rfl, l, B3, V3, T3, S3, q1, q2, q3, q4, q5, rfl⟩ := hp
      refine ⟨none, rfl, ?_⟩
      show X g f M_Model_openMarked (0, 0) (fun o h' => o = .returned (some (.int (nI (if (it (eqs (mjo T W IB IS nt ((mop T W nr ROW).take (nr - 16))) (ROW.take 16)) 0 16 true) then 1 else 0)))) ∧ ∃ (l : Nat) (B' M' T' S' : List Nat), bm16 (B', M') ∧ T'.length = 112 ∧ by8 T' ∧ S'.length = 16 ∧ by8 S' ∧ h' = mh g P cd ni no nt (nr - 16) l [W, T, U, IN, OUT, IS, IB, B', M', (mop T W nr ROW), T', (mjo T W IB IS nt ((mop T W nr ROW).take (nr - 16))), S', (ROW.take 16)] S) (0, 0) 76 [some (.ref (zA (gz g) 44)), some (.int (nI k)), l2] [] (mh g P cd ni no nt (nr - 16) l [W, T, U, IN, OUT, IS, IB, B3, V3, (mop T W nr ROW), T3, (mjo T W IB IS nt ((mop T W nr ROW).take (nr - 16))), S3, (ROW.take 16)] S)
      refine x_iconst (pc := 76) C (dq D_Model_openMarked 43 rfl) ci_1 ?_
      refine x_istore_n (i := 1) (pc := 77) C (dq D_Model_openMarked 44 rfl) rfl rfl rfl ?_
      simp only [List.set_cons_zero, List.set_cons_succ]
      refine x_iconst (pc := 78) C (dq D_Model_openMarked 45 rfl) ci_0 ?_
      refine x_istore_n (i := 2) (pc := 79) C (dq D_Model_openMarked 46 rfl) rfl rfl rfl ?_
      simp only [List.set_cons_zero, List.set_cons_succ]
      exact cmp 16 0 l true B3 V3 T3 S3 rfl q1 ⟨q2, q3⟩ ⟨q4, q5⟩ rfl
    | succ d ih =>
      intro k R l2 hkd hR0 he
      refine x_iload_n (pc := 39) C (dq D_Model_openMarked 23 rfl) rfl ?_
      refine x_aload_n (pc := 40) C (dq D_Model_openMarked 24 rfl) rfl ?_
      refine x_get (pc := 41) (ci := 1) (j := 13) C (dq D_Model_openMarked 25 rfl) rfl rfl (by first | exact mo hP | exact ma hP rfl rfl) rfl k_fl_Model_100 ?_
      refine n_ge_f (pc := 44) (tgt := 68) C (dq D_Model_openMarked 26 rfl) (by decide) (by omega) (by omega) ?_
      refine x_aload_n (pc := 47) C (dq D_Model_openMarked 27 rfl) rfl ?_
      refine x_get (pc := 48) (ci := 1) (j := 14) C (dq D_Model_openMarked 28 rfl) rfl rfl (by first | exact mo hP | exact ma hP rfl rfl) rfl k_fl_Model_37 ?_
      refine x_iload_n (pc := 51) C (dq D_Model_openMarked 29 rfl) rfl ?_
      refine x_aload_n (pc := 52) C (dq D_Model_openMarked 30 rfl) rfl ?_
      refine x_get (pc := 53) (ci := 1) (j := 14) C (dq D_Model_openMarked 31 rfl) rfl rfl (by first | exact mo hP | exact ma hP rfl rfl) rfl k_fl_Model_37 ?_
      refine x_iload_n (pc := 56) C (dq D_Model_openMarked 32 rfl) rfl ?_
      refine x_bipush (pc := 57) C (dq D_Model_openMarked 33 rfl) cb_16 ?_
      refine n_iadd (pc := 59) C (dq D_Model_openMarked 34 rfl) ?_
      refine x_iald (pc := 60) C (dq D_Model_openMarked 35 rfl) (by first | exact mo hP | exact ma hP rfl rfl) (by (try simp only [List.length_set]); omega) ?_
      refine x_iast (pc := 61) C (dq D_Model_openMarked 36 rfl) (by first | exact mo hP | exact ma hP rfl rfl) (by (try simp only [List.length_set]); omega) ?_
      try rw [List.set_set]
      refine x_iinc (pc := 62) C (dq D_Model_openMarked 37 rfl) rfl (ii_1 _) rfl rfl ?_
      simp only [List.set_cons_zero, List.set_cons_succ]
      rw [mh_s hP rfl rfl]
      simp only [Nat.reduceSub, List.set_cons_zero, List.set_cons_succ]
      refine x_goto (pc := 65) (tgt := 39) C (dq D_Model_openMarked 38 rfl) (by decide) ?_
      exact ih (k + 1) (d16 k R) l2 (by omega) (by rw [d16_len]; exact hR0) he
  have keep : ∀ (d k : Nat) (K : List Nat) (l2 : Option Value), k + d = 16 → K.length = 16 → it (cp1 ROW) k d K = ROW.take 16 → X g f M_Model_openMarked (0, 0) (fun o h' => o = .returned (some (.int (nI (if (it (eqs (mjo T W IB IS nt ((mop T W nr ROW).take (nr - 16))) (ROW.take 16)) 0 16 true) then 1 else 0)))) ∧ ∃ (l : Nat) (B' M' T' S' : List Nat), bm16 (B', M') ∧ T'.length = 112 ∧ by8 T' ∧ S'.length = 16 ∧ by8 S' ∧ h' = mh g P cd ni no nt (nr - 16) l [W, T, U, IN, OUT, IS, IB, B', M', (mop T W nr ROW), T', (mjo T W IB IS nt ((mop T W nr ROW).take (nr - 16))), S', (ROW.take 16)] S) (0, 0) 2 [some (.ref (zA (gz g) 44)), some (.int (nI k)), l2] [] (mh g P cd ni no nt nr nl [W, T, U, IN, OUT, IS, IB, BL, MV, ROW, TX, MA, SM, K] S) := by
    intro d
    induction d with
    | zero =>
      intro k K l2 hkd hK he
      rw [it_zero] at he
      rw [he]
      refine x_iload_n (pc := 2) C (dq D_Model_openMarked 2 rfl) rfl ?_
      refine x_bipush (pc := 3) C (dq D_Model_openMarked 3 rfl) cb_16 ?_
      refine n_ge_t (pc := 5) (tgt := 26) C (dq D_Model_openMarked 4 rfl) (by decide) (by omega) (by omega) ?_
      refine x_aload_n (pc := 26) C (dq D_Model_openMarked 15 rfl) rfl ?_
      refine x_aload_n (pc := 27) C (dq D_Model_openMarked 16 rfl) rfl ?_
      refine x_get (pc := 28) (ci := 1) (j := 13) C (dq D_Model_openMarked 17 rfl) rfl rfl (mo hP) rfl k_fl_Model_100 ?_
      refine x_bipush (pc := 31) C (dq D_Model_openMarked 18 rfl) cb_16 ?_
      refine n_isub (pc := 33) C (dq D_Model_openMarked 19 rfl) (by omega) ?_
      refine x_put (pc := 34) (ci := 1) (j := 13) (ty := .int) C (dq D_Model_openMarked 20 rfl) rfl rfl (mo hP) rfl k_fl_Model_100 (Or.inl rfl) (by decide +kernel) rfl rfl ?_
      simp only [List.set_cons_zero, List.set_cons_succ]
      rw [mh_p hP]
      refine x_iconst (pc := 37) C (dq D_Model_openMarked 21 rfl) ci_0 ?_
      refine x_istore_n (i := 1) (pc := 38) C (dq D_Model_openMarked 22 rfl) rfl rfl rfl ?_
      simp only [List.set_cons_zero, List.set_cons_succ]
      exact move (nr - 16) 0 ROW l2 (by omega) hR.1 rfl
    | succ d ih =>
      intro k K l2 hkd hK he
      have hR1 := hR.1
      refine x_iload_n (pc := 2) C (dq D_Model_openMarked 2 rfl) rfl ?_
      refine x_bipush (pc := 3) C (dq D_Model_openMarked 3 rfl) cb_16 ?_
      refine n_ge_f (pc := 5) (tgt := 26) C (dq D_Model_openMarked 4 rfl) (by decide) (by omega) (by omega) ?_
      refine x_aload_n (pc := 8) C (dq D_Model_openMarked 5 rfl) rfl ?_
      refine x_get (pc := 9) (ci := 1) (j := 19) C (dq D_Model_openMarked 6 rfl) rfl rfl (by first | exact mo hP | exact ma hP rfl rfl) rfl k_fl_Model_49 ?_
      refine x_iload_n (pc := 12) C (dq D_Model_openMarked 7 rfl) rfl ?_
      refine x_aload_n (pc := 13) C (dq D_Model_openMarked 8 rfl) rfl ?_
      refine x_get (pc := 14) (ci := 1) (j := 14) C (dq D_Model_openMarked 9 rfl) rfl rfl (by first | exact mo hP | exact ma hP rfl rfl) rfl k_fl_Model_37 ?_
      refine x_iload_n (pc := 17) C (dq D_Model_openMarked 10 rfl) rfl ?_
      refine x_iald (pc := 18) C (dq D_Model_openMarked 11 rfl) (by first | exact mo hP | exact ma hP rfl rfl) (by (try simp only [List.length_set]); omega) ?_
      refine x_iast (pc := 19) C (dq D_Model_openMarked 12 rfl) (by first | exact mo hP | exact ma hP rfl rfl) (by (try simp only [List.length_set]); omega) ?_
      try rw [List.set_set]
      refine x_iinc (pc := 20) C (dq D_Model_openMarked 13 rfl) rfl (ii_1 _) rfl rfl ?_
      simp only [List.set_cons_zero, List.set_cons_succ]
      rw [mh_s hP rfl rfl]
      simp only [Nat.reduceSub, List.set_cons_zero, List.set_cons_succ]
      refine x_goto (pc := 23) (tgt := 2) C (dq D_Model_openMarked 14 rfl) (by decide) ?_
      exact ih (k + 1) (cp1 ROW k K) l2 (by omega) (by rw [cp1_len]; exact hK) he
  refine x_iconst (pc := 0) C (dq D_Model_openMarked 0 rfl) ci_0 ?_
  refine x_istore_n (i := 1) (pc := 1) C (dq D_Model_openMarked 1 rfl) rfl rfl rfl ?_
  simp only [List.set_cons_zero, List.set_cons_succ]
  exact keep 16 0 KP none rfl hKP.1 (cp16T (by rw [hR.1]; decide) hKP.1)
end
section
/-! The reference's padded way. -/
def r8 (n : Nat) : Nat := (n + 7) / 8 * 8
def p4 (n k : Nat) (R : List Nat) : List Nat := R.set k (if k = 7 then n else 0)
theorem p4_len (n k : Nat) (R : List Nat) : (p4 n k R).length = R.length := List.length_set
/-- the row before it is wound -/
def pdr (n : Nat) (R : List Nat) : List Nat := it (p4 n) 4 4 (frt 166 89 (r8 n) (it zr n (r8 n - n) R))
def mpw (T W : List Nat) (n : Nat) (R : List Nat) : List Nat := if r8 n + 8 = 16 then sgl (enc T W 0 ((pdr n R).take 16)) (pdr n R) else mwd T W ((r8 n + 8) / 8 - 1) (pdr n R)
theorem zrs_ok (n d : Nat) {R : List Nat} (h : by8 R) : (it zr n d R).length = R.length ∧ by8 (it zr n d R) := ⟨it_len zr_len d n R, it_inv by8 d n R (fun j S _ _ hS => hS.set (by omega)) h⟩
theorem pdr_ok {n : Nat} (hn : n < 256) {R : List Nat} (h : by8 R) : (pdr n R).length = R.length ∧ by8 (pdr n R) := by
  obtain ⟨a, b⟩ := zrs_ok n (r8 n - n) h
  obtain ⟨c, d⟩ := frt_ok (b := 166) (c := 89) (by omega) (by omega) (r8 n) b
  unfold pdr
  exact ⟨by rw [it_len (p4_len n)]; exact c.trans a, it_inv by8 4 4 _ (fun j S _ _ hS => hS.set (by split <;> omega)) d⟩
set_option maxHeartbeats 4000000 in
theorem cm_sealPadded {g : Gp} {P S : Hp} {cd ni no nt nr nl : Nat} {W T U IN OUT IS IB BL MV ROW TX MA SM KP : List Nat} (hP : P.length = 44) (hW : W.length = 88 ∧ by32 W) (hT : T.length = 256 ∧ by8 T) (hU : U.length = 256 ∧ by8 U) (hb : bm16 (BL, MV)) (hR : ROW.length = 112 ∧ by8 ROW) (hnr : 1 ≤ nr ∧ nr ≤ 64) :
    Con g M_Model_sealPadded 3 (0, 0) [.ref (zA (gz g) 44)] (mh g P cd ni no nt nr nl [W, T, U, IN, OUT, IS, IB, BL, MV, ROW, TX, MA, SM, KP] S) (fun o h' => o = .returned none ∧ ∃ B' M' : List Nat, bm16 (B', M') ∧ h' = mh g P cd ni no nt (r8 nr + 8) nl [W, T, U, IN, OUT, IS, IB, B', M', (mpw T W nr ROW), TX, MA, SM, KP] S) := by
  obtain ⟨p1, p2⟩ := pdr_ok (n := nr) (by omega) hR.2
  have hr8 : r8 nr = (nr + 7) / 8 * 8 := rfl
  obtain ⟨z1, z2⟩ := zrs_ok nr (r8 nr - nr) hR.2
  obtain ⟨f1, f2⟩ := frt_ok (b := 166) (c := 89) (by omega) (by omega) (r8 nr) z2
  refine Con.of (by decide) rfl rfl (L := [some (.ref (zA (gz g) 44)), none, none]) rfl (fun f C => ?_)
  have four : ∀ (d k : Nat) (R : List Nat), k + d = 8 → 4 ≤ k → R.length = 112 → it (p4 nr) k d R = pdr nr ROW → X g f M_Model_sealPadded (0, 0) (fun o h' => o = .returned none ∧ ∃ B' M' : List Nat, bm16 (B', M') ∧ h' = mh g P cd ni no nt (r8 nr + 8) nl [W, T, U, IN, OUT, IS, IB, B', M', (mpw T W nr ROW), TX, MA, SM, KP] S) (0, 0) 49 [some (.ref (zA (gz g) 44)), some (.int (nI nr)), some (.int (nI k))] [] (mh g P cd ni no nt (r8 nr + 8) nl [W, T, U, IN, OUT, IS, IB, BL, MV, R, TX, MA, SM, KP] S) := by
    intro d
    induction d with
    | zero =>
      intro k R hkd hk4 hR0 he
      rw [it_zero] at he
      rw [he]
      refine x_iload_n (pc := 49) C (dq D_Model_sealPadded 27 rfl) rfl ?_
      refine x_bipush (pc := 50) C (dq D_Model_sealPadded 28 rfl) cb_8 ?_
      refine n_ge_t (pc := 52) (tgt := 78) C (dq D_Model_sealPadded 29 rfl) (by decide) (by omega) (by omega) ?_
      refine x_aload_n (pc := 78) C (dq D_Model_sealPadded 42 rfl) rfl ?_
      refine x_get (pc := 79) (ci := 1) (j := 13) C (dq D_Model_sealPadded 43 rfl) rfl rfl (mo hP) rfl k_fl_Model_100 ?_
      refine x_bipush (pc := 82) C (dq D_Model_sealPadded 44 rfl) cb_16 ?_
      refine n_ne (pc := 84) (tgt := 95) C (dq D_Model_sealPadded 45 rfl) (by decide) (by omega) (fun hq => ?_) (fun hq => ?_)
      · have h16 := hq
        refine x_aload_n (pc := 95) C (dq D_Model_sealPadded 50 rfl) rfl ?_
        refine x_cV (pc := 96) (ci := 1) (M := M_Model_wrap) C (dq D_Model_sealPadded 51 rfl) k_ml_Model_124 m_Model_wrap rfl rfl (mo hP) (cm_wrap hP hW hT hU hb ⟨p1.trans hR.1, p2⟩ (by omega)) rfl rfl rfl rfl (by decide) (fun o h2 hp => ?_)
        obtain ⟨rfl, B2, V2, hB2, rfl⟩ := hp
        refine ⟨none, rfl, ?_⟩
        have e0 : mwd T W ((r8 nr + 8) / 8 - 1) (pdr nr ROW) = mpw T W nr ROW := by unfold mpw; rw [if_neg h16]
        rw [e0]
        show X g f M_Model_sealPadded (0, 0) (fun o h' => o = .returned none ∧ ∃ B' M' : List Nat, bm16 (B', M') ∧ h' = mh g P cd ni no nt (r8 nr + 8) nl [W, T, U, IN, OUT, IS, IB, B', M', (mpw T W nr ROW), TX, MA, SM, KP] S) (0, 0) 99 [some (.ref (zA (gz g) 44)), some (.int (nI nr)), some (.int (nI k))] [] (mh g P cd ni no nt (r8 nr + 8) nl [W, T, U, IN, OUT, IS, IB, B2, V2, (mpw T W nr ROW), TX, MA, SM, KP] S)
        exact x_vret (pc := 99) C (dq D_Model_sealPadded 52 rfl) rfl (by decide) ⟨rfl, B2, V2, hB2, rfl⟩
      · have h16 := hq
        refine x_aload_n (pc := 87) C (dq D_Model_sealPadded 46 rfl) rfl ?_
        refine x_iconst (pc := 88) C (dq D_Model_sealPadded 47 rfl) ci_0 ?_
        refine x_cV (pc := 89) (ci := 1) (M := M_Model_single) C (dq D_Model_sealPadded 48 rfl) k_ml_Model_120 m_Model_single rfl rfl (mo hP) (cm_single (bk := 0) hP hW hT hU hb ⟨p1.trans hR.1, p2⟩ (by omega)) rfl rfl rfl rfl (by decide) (fun o h2 hp => ?_)
        obtain ⟨rfl, B2, V2, hB2, rfl⟩ := hp
        refine ⟨none, rfl, ?_⟩
        have e0 : sgl (if 0 = 0 then enc T W 0 ((pdr nr ROW).take 16) else dec U W 0 ((pdr nr ROW).take 16)) (pdr nr ROW) = mpw T W nr ROW := by unfold mpw; rw [if_pos h16, if_pos rfl]
        rw [e0]
        show X g f M_Model_sealPadded (0, 0) (fun o h' => o = .returned none ∧ ∃ B' M' : List Nat, bm16 (B', M') ∧ h' = mh g P cd ni no nt (r8 nr + 8) nl [W, T, U, IN, OUT, IS, IB, B', M', (mpw T W nr ROW), TX, MA, SM, KP] S) (0, 0) 92 [some (.ref (zA (gz g) 44)), some (.int (nI nr)), some (.int (nI k))] [] (mh g P cd ni no nt (r8 nr + 8) nl [W, T, U, IN, OUT, IS, IB, B2, V2, (mpw T W nr ROW), TX, MA, SM, KP] S)
        refine x_goto (pc := 92) (tgt := 99) C (dq D_Model_sealPadded 49 rfl) (by decide) ?_
        exact x_vret (pc := 99) C (dq D_Model_sealPadded 52 rfl) rfl (by decide) ⟨rfl, B2, V2, hB2, rfl⟩
    | succ d ih =>
      intro k R hkd hk4 hR0 he
      have fin : ∀ v : Nat, v = (if k = 7 then nr else 0) → X g f M_Model_sealPadded (0, 0) (fun o h' => o = .returned none ∧ ∃ B' M' : List Nat, bm16 (B', M') ∧ h' = mh g P cd ni no nt (r8 nr + 8) nl [W, T, U, IN, OUT, IS, IB, B', M', (mpw T W nr ROW), TX, MA, SM, KP] S) (0, 0) 71 [some (.ref (zA (gz g) 44)), some (.int (nI nr)), some (.int (nI k))] [.int (nI v), .int (nI k), .ref (zA (gz g) 54)] (mh g P cd ni no nt (r8 nr + 8) nl [W, T, U, IN, OUT, IS, IB, BL, MV, R, TX, MA, SM, KP] S) := by
        intro v hv
        refine x_iast (pc := 71) C (dq D_Model_sealPadded 39 rfl) (ma hP rfl rfl) (by (try simp only [List.length_set]); omega) ?_
        try rw [List.set_set]
        rw [mh_s hP rfl rfl]
        simp only [Nat.reduceSub, List.set_cons_zero, List.set_cons_succ]
        refine x_iinc (pc := 72) C (dq D_Model_sealPadded 40 rfl) rfl (ii_1 _) rfl rfl ?_
        simp only [List.set_cons_zero, List.set_cons_succ]
        refine x_goto (pc := 75) (tgt := 49) C (dq D_Model_sealPadded 41 rfl) (by decide) ?_
        refine ih (k + 1) (R.set k v) (by omega) (by omega) (by rw [List.length_set]; exact hR0) ?_
        rw [hv]
        exact he
      refine x_iload_n (pc := 49) C (dq D_Model_sealPadded 27 rfl) rfl ?_
      refine x_bipush (pc := 50) C (dq D_Model_sealPadded 28 rfl) cb_8 ?_
      refine n_ge_f (pc := 52) (tgt := 78) C (dq D_Model_sealPadded 29 rfl) (by decide) (by omega) (by omega) ?_
      refine x_aload_n (pc := 55) C (dq D_Model_sealPadded 30 rfl) rfl ?_
      refine x_get (pc := 56) (ci := 1) (j := 14) C (dq D_Model_sealPadded 31 rfl) rfl rfl (mo hP) rfl k_fl_Model_37 ?_
      refine x_iload_n (pc := 59) C (dq D_Model_sealPadded 32 rfl) rfl ?_
      refine x_iload_n (pc := 60) C (dq D_Model_sealPadded 33 rfl) rfl ?_
      refine x_bipush (pc := 61) C (dq D_Model_sealPadded 34 rfl) cb_7 ?_
      refine n_ne (pc := 63) (tgt := 70) C (dq D_Model_sealPadded 35 rfl) (by decide) (by omega) (fun hq => ?_) (fun hq => ?_)
      · rw [if_neg hq] at fin
        refine x_iconst (pc := 70) C (dq D_Model_sealPadded 38 rfl) ci_0 ?_
        exact fin 0 rfl
      · rw [if_pos hq] at fin
        refine x_iload_n (pc := 66) C (dq D_Model_sealPadded 36 rfl) rfl ?_
        refine x_goto (pc := 67) (tgt := 71) C (dq D_Model_sealPadded 37 rfl) (by decide) ?_
        exact fin nr rfl
  have zeros : ∀ (d k : Nat) (R : List Nat) (l2 : Option Value), k + d = r8 nr → nr ≤ k → R.length = 112 → it zr k d R = it zr nr (r8 nr - nr) ROW → X g f M_Model_sealPadded (0, 0) (fun o h' => o = .returned none ∧ ∃ B' M' : List Nat, bm16 (B', M') ∧ h' = mh g P cd ni no nt (r8 nr + 8) nl [W, T, U, IN, OUT, IS, IB, B', M', (mpw T W nr ROW), TX, MA, SM, KP] S) (0, 0) 5 [some (.ref (zA (gz g) 44)), some (.int (nI nr)), l2] [] (mh g P cd ni no nt k nl [W, T, U, IN, OUT, IS, IB, BL, MV, R, TX, MA, SM, KP] S) := by
    intro d
    induction d with
    | zero =>
      intro k R l2 hkd hk hR0 he
      rw [it_zero] at he
      rw [he]
      obtain rfl : k = r8 nr := by omega
      refine x_aload_n (pc := 5) C (dq D_Model_sealPadded 3 rfl) rfl ?_
      refine x_get (pc := 6) (ci := 1) (j := 13) C (dq D_Model_sealPadded 4 rfl) rfl rfl (mo hP) rfl k_fl_Model_100 ?_
      refine x_bipush (pc := 9) C (dq D_Model_sealPadded 5 rfl) cb_8 ?_
      refine n_irem (pc := 11) C (dq D_Model_sealPadded 6 rfl) (by omega) (by omega) (by omega) ?_
      refine n_ifeq_t (pc := 12) (tgt := 38) C (dq D_Model_sealPadded 7 rfl) (by decide) (by omega) (by omega) ?_
      refine x_aload_n (pc := 38) C (dq D_Model_sealPadded 21 rfl) rfl ?_
      refine x_sipush (pc := 39) C (dq D_Model_sealPadded 22 rfl) cs_166 ?_
      refine x_bipush (pc := 42) C (dq D_Model_sealPadded 23 rfl) cb_89 ?_
      refine x_cV0 (pc := 44) (ci := 1) (M := M_Model_front) C (dq D_Model_sealPadded 24 rfl) k_ml_Model_117 m_Model_front rfl rfl (mo hP) (cm_front hP (z1.trans hR.1) (by omega)) rfl rfl rfl rfl (by decide) ?_
      refine x_iconst (pc := 47) C (dq D_Model_sealPadded 25 rfl) ci_4 ?_
      refine x_istore_n (i := 2) (pc := 48) C (dq D_Model_sealPadded 26 rfl) rfl rfl rfl ?_
      simp only [List.set_cons_zero, List.set_cons_succ]
      exact four 4 4 _ rfl (by omega) (f1.trans (z1.trans hR.1)) (by rw [pdr])
    | succ d ih =>
      intro k R l2 hkd hk hR0 he
      refine x_aload_n (pc := 5) C (dq D_Model_sealPadded 3 rfl) rfl ?_
      refine x_get (pc := 6) (ci := 1) (j := 13) C (dq D_Model_sealPadded 4 rfl) rfl rfl (by first | exact mo hP | exact ma hP rfl rfl) rfl k_fl_Model_100 ?_
      refine x_bipush (pc := 9) C (dq D_Model_sealPadded 5 rfl) cb_8 ?_
      refine n_irem (pc := 11) C (dq D_Model_sealPadded 6 rfl) (by omega) (by omega) (by omega) ?_
      refine n_ifeq_f (pc := 12) (tgt := 38) C (dq D_Model_sealPadded 7 rfl) (by decide) (by omega) (by omega) ?_
      refine x_aload_n (pc := 15) C (dq D_Model_sealPadded 8 rfl) rfl ?_
      refine x_get (pc := 16) (ci := 1) (j := 14) C (dq D_Model_sealPadded 9 rfl) rfl rfl (by first | exact mo hP | exact ma hP rfl rfl) rfl k_fl_Model_37 ?_
      refine x_aload_n (pc := 19) C (dq D_Model_sealPadded 10 rfl) rfl ?_
      refine x_get (pc := 20) (ci := 1) (j := 13) C (dq D_Model_sealPadded 11 rfl) rfl rfl (by first | exact mo hP | exact ma hP rfl rfl) rfl k_fl_Model_100 ?_
      refine x_iconst (pc := 23) C (dq D_Model_sealPadded 12 rfl) ci_0 ?_
      refine x_iast (pc := 24) C (dq D_Model_sealPadded 13 rfl) (by first | exact mo hP | exact ma hP rfl rfl) (by (try simp only [List.length_set]); omega) ?_
      try rw [List.set_set]
      rw [mh_s hP rfl rfl]
      simp only [Nat.reduceSub, List.set_cons_zero, List.set_cons_succ]
      refine x_aload_n (pc := 25) C (dq D_Model_sealPadded 14 rfl) rfl ?_
      refine x_dup (pc := 26) C (dq D_Model_sealPadded 15 rfl) rfl ?_
      refine x_get (pc := 27) (ci := 1) (j := 13) C (dq D_Model_sealPadded 16 rfl) rfl rfl (mo hP) rfl k_fl_Model_100 ?_
      refine x_iconst (pc := 30) C (dq D_Model_sealPadded 17 rfl) ci_1 ?_
      refine n_iadd (pc := 31) C (dq D_Model_sealPadded 18 rfl) ?_
      refine x_put (pc := 32) (ci := 1) (j := 13) (ty := .int) C (dq D_Model_sealPadded 19 rfl) rfl rfl (mo hP) rfl k_fl_Model_100 (Or.inl rfl) (by decide +kernel) rfl rfl ?_
      simp only [List.set_cons_zero, List.set_cons_succ]
      rw [mh_p hP]
      refine x_goto (pc := 35) (tgt := 5) C (dq D_Model_sealPadded 20 rfl) (by decide) ?_
      exact ih (k + 1) (zr k R) l2 (by omega) (by omega) (by rw [zr_len]; exact hR0) he
  refine x_aload_n (pc := 0) C (dq D_Model_sealPadded 0 rfl) rfl ?_
  refine x_get (pc := 1) (ci := 1) (j := 13) C (dq D_Model_sealPadded 1 rfl) rfl rfl (mo hP) rfl k_fl_Model_100 ?_
  refine x_istore_n (i := 1) (pc := 4) C (dq D_Model_sealPadded 2 rfl) rfl rfl rfl ?_
  simp only [List.set_cons_zero, List.set_cons_succ]
  exact zeros (r8 nr - nr) nr ROW none (by omega) (by omega) hR.1 rfl
/-- the reference opens what is wrapped -/
def eqv (v : Nat) (R : List Nat) (k : Nat) (b : Bool) : Bool := b && decide (R.getD k 0 = v)
theorem cm_openWrapped {g : Gp} {P S : Hp} {cd ni no nt nr nl : Nat} {W T U IN OUT IS IB BL MV ROW TX MA SM KP : List Nat} (hP : P.length = 44) (hW : W.length = 88 ∧ by32 W) (hT : T.length = 256 ∧ by8 T) (hU : U.length = 256 ∧ by8 U) (hb : bm16 (BL, MV)) (hR : ROW.length = 112 ∧ by8 ROW) (hnr : 16 ≤ nr ∧ nr ≤ 88) :
    Con g M_Model_openWrapped 3 (0, 0) [.ref (zA (gz g) 44)] (mh g P cd ni no nt nr nl [W, T, U, IN, OUT, IS, IB, BL, MV, ROW, TX, MA, SM, KP] S) (fun o h' => o = .returned (some (.int (nI (if (it (eqv 166 (mud U W (nr / 8 - 1) ROW)) 0 8 true) then 1 else 0)))) ∧ ∃ B' M' : List Nat, bm16 (B', M') ∧ h' = mh g P cd ni no nt (nr - 8) nl [W, T, U, IN, OUT, IS, IB, B', M', (drp (nr - 8) (mud U W (nr / 8 - 1) ROW)), TX, MA, SM, KP] S) := by
  obtain ⟨m1, m2⟩ := mud_ok hU.2 W (n := nr / 8 - 1) (by omega) hR
  refine Con.of (by decide) rfl rfl (L := [some (.ref (zA (gz g) 44)), none, none]) rfl (fun f C => ?_)
  have cmp : ∀ (d k : Nat) (b : Bool) (B V : List Nat), k + d = 8 → bm16 (B, V) → it (eqv 166 (mud U W (nr / 8 - 1) ROW)) k d b = (it (eqv 166 (mud U W (nr / 8 - 1) ROW)) 0 8 true) → X g f M_Model_openWrapped (0, 0) (fun o h' => o = .returned (some (.int (nI (if (it (eqv 166 (mud U W (nr / 8 - 1) ROW)) 0 8 true) then 1 else 0)))) ∧ ∃ B' M' : List Nat, bm16 (B', M') ∧ h' = mh g P cd ni no nt (nr - 8) nl [W, T, U, IN, OUT, IS, IB, B', M', (drp (nr - 8) (mud U W (nr / 8 - 1) ROW)), TX, MA, SM, KP] S) (0, 0) 8 [some (.ref (zA (gz g) 44)), some (.int (nI (if b then 1 else 0))), some (.int (nI k))] [] (mh g P cd ni no nt nr nl [W, T, U, IN, OUT, IS, IB, B, V, (mud U W (nr / 8 - 1) ROW), TX, MA, SM, KP] S) := by
    intro d
    induction d with
    | zero =>
      intro k b B V hkd hB he
      rw [it_zero] at he
      rw [he]
      have hz : narrow .boolean (.int (nI (if (it (eqv 166 (mud U W (nr / 8 - 1) ROW)) 0 8 true) then 1 else 0))) = .int (nI (if (it (eqv 166 (mud U W (nr / 8 - 1) ROW)) 0 8 true) then 1 else 0)) := by
        split <;> decide +kernel
      refine x_iload_n (pc := 8) C (dq D_Model_openWrapped 6 rfl) rfl ?_
      refine x_bipush (pc := 9) C (dq D_Model_openWrapped 7 rfl) cb_8 ?_
      refine n_ge_t (pc := 11) (tgt := 42) C (dq D_Model_openWrapped 8 rfl) (by decide) (by omega) (by omega) ?_
      refine x_aload_n (pc := 42) C (dq D_Model_openWrapped 23 rfl) rfl ?_
      refine x_cV0 (pc := 43) (ci := 1) (M := M_Model_dropFront) C (dq D_Model_openWrapped 24 rfl) k_ml_Model_130 m_Model_dropFront rfl rfl (mo hP) (cm_dropFront hP m1 (by omega)) rfl rfl rfl rfl (by decide) ?_
      refine x_iload_n (pc := 46) C (dq D_Model_openWrapped 25 rfl) rfl ?_
      exact x_zret (pc := 47) C (dq D_Model_openWrapped 26 rfl) rfl hz (by decide) ⟨rfl, B, V, hB, rfl⟩
    | succ d ih =>
      intro k b B V hkd hB he
      have v1 := m2.at k
      have fin : ∀ b' : Bool, b' = eqv 166 (mud U W (nr / 8 - 1) ROW) k b → X g f M_Model_openWrapped (0, 0) (fun o h' => o = .returned (some (.int (nI (if (it (eqv 166 (mud U W (nr / 8 - 1) ROW)) 0 8 true) then 1 else 0)))) ∧ ∃ B' M' : List Nat, bm16 (B', M') ∧ h' = mh g P cd ni no nt (nr - 8) nl [W, T, U, IN, OUT, IS, IB, B', M', (drp (nr - 8) (mud U W (nr / 8 - 1) ROW)), TX, MA, SM, KP] S) (0, 0) 35 [some (.ref (zA (gz g) 44)), some (.int (nI (if b then 1 else 0))), some (.int (nI k))] [.int (nI (if b' then 1 else 0))] (mh g P cd ni no nt nr nl [W, T, U, IN, OUT, IS, IB, B, V, (mud U W (nr / 8 - 1) ROW), TX, MA, SM, KP] S) := by
        intro b' hb'
        refine x_istore_n (i := 1) (pc := 35) C (dq D_Model_openWrapped 20 rfl) rfl rfl rfl ?_
        simp only [List.set_cons_zero, List.set_cons_succ]
        refine x_iinc (pc := 36) C (dq D_Model_openWrapped 21 rfl) rfl (ii_1 _) rfl rfl ?_
        simp only [List.set_cons_zero, List.set_cons_succ]
        refine x_goto (pc := 39) (tgt := 8) C (dq D_Model_openWrapped 22 rfl) (by decide) ?_
        refine ih (k + 1) b' B V (by omega) hB ?_
        rw [hb']
        exact he
      cases b with
      | false =>
        have e1 : (nI (if false = true then 1 else 0)) = nI 0 := rfl
        rw [e1] at fin ⊢
        refine x_iload_n (pc := 8) C (dq D_Model_openWrapped 6 rfl) rfl ?_
        refine x_bipush (pc := 9) C (dq D_Model_openWrapped 7 rfl) cb_8 ?_
        refine n_ge_f (pc := 11) (tgt := 42) C (dq D_Model_openWrapped 8 rfl) (by decide) (by omega) (by omega) ?_
        refine x_iload_n (pc := 14) C (dq D_Model_openWrapped 9 rfl) rfl ?_
        refine n_ifeq_t (pc := 15) (tgt := 34) C (dq D_Model_openWrapped 10 rfl) (by decide) (by omega) (by omega) ?_
        refine x_iconst (pc := 34) C (dq D_Model_openWrapped 19 rfl) ci_0 ?_
        exact fin false rfl
      | true =>
        have e1 : (nI (if true = true then 1 else 0)) = nI 1 := rfl
        rw [e1] at fin ⊢
        refine x_iload_n (pc := 8) C (dq D_Model_openWrapped 6 rfl) rfl ?_
        refine x_bipush (pc := 9) C (dq D_Model_openWrapped 7 rfl) cb_8 ?_
        refine n_ge_f (pc := 11) (tgt := 42) C (dq D_Model_openWrapped 8 rfl) (by decide) (by omega) (by omega) ?_
        refine x_iload_n (pc := 14) C (dq D_Model_openWrapped 9 rfl) rfl ?_
        refine n_ifeq_f (pc := 15) (tgt := 34) C (dq D_Model_openWrapped 10 rfl) (by decide) (by omega) (by omega) ?_
        refine x_aload_n (pc := 18) C (dq D_Model_openWrapped 11 rfl) rfl ?_
        refine x_get (pc := 19) (ci := 1) (j := 14) C (dq D_Model_openWrapped 12 rfl) rfl rfl (by first | exact mo hP | exact ma hP rfl rfl) rfl k_fl_Model_37 ?_
        refine x_iload_n (pc := 22) C (dq D_Model_openWrapped 13 rfl) rfl ?_
        refine x_iald (pc := 23) C (dq D_Model_openWrapped 14 rfl) (by first | exact mo hP | exact ma hP rfl rfl) (by (try simp only [List.length_set]); omega) ?_
        refine x_sipush (pc := 24) C (dq D_Model_openWrapped 15 rfl) cs_166 ?_
        refine n_ne (pc := 27) (tgt := 34) C (dq D_Model_openWrapped 16 rfl) (by decide) (by omega) (fun hq => ?_) (fun hq => ?_)
        · refine x_iconst (pc := 34) C (dq D_Model_openWrapped 19 rfl) ci_0 ?_
          exact fin false (by unfold eqv; rw [decide_eq_false hq]; rfl)
        · refine x_iconst (pc := 30) C (dq D_Model_openWrapped 17 rfl) ci_1 ?_
          refine x_goto (pc := 31) (tgt := 35) C (dq D_Model_openWrapped 18 rfl) (by decide) ?_
          exact fin true (by unfold eqv; rw [decide_eq_true hq]; rfl)
  refine x_aload_n (pc := 0) C (dq D_Model_openWrapped 0 rfl) rfl ?_
  refine x_cV (pc := 1) (ci := 1) (M := M_Model_unwrap) C (dq D_Model_openWrapped 1 rfl) k_ml_Model_127 m_Model_unwrap rfl rfl (mo hP) (cm_unwrap hP hW hT hU hb hR hnr) rfl rfl rfl rfl (by decide) (fun o h2 hp => ?_)
  obtain ⟨rfl, B2, V2, hB2, rfl⟩ := hp
  refine ⟨none, rfl, ?_⟩
  show X g f M_Model_openWrapped (0, 0) (fun o h' => o = .returned (some (.int (nI (if (it (eqv 166 (mud U W (nr / 8 - 1) ROW)) 0 8 true) then 1 else 0)))) ∧ ∃ B' M' : List Nat, bm16 (B', M') ∧ h' = mh g P cd ni no nt (nr - 8) nl [W, T, U, IN, OUT, IS, IB, B', M', (drp (nr - 8) (mud U W (nr / 8 - 1) ROW)), TX, MA, SM, KP] S) (0, 0) 4 [some (.ref (zA (gz g) 44)), none, none] [] (mh g P cd ni no nt nr nl [W, T, U, IN, OUT, IS, IB, B2, V2, (mud U W (nr / 8 - 1) ROW), TX, MA, SM, KP] S)
  refine x_iconst (pc := 4) C (dq D_Model_openWrapped 2 rfl) ci_1 ?_
  refine x_istore_n (i := 1) (pc := 5) C (dq D_Model_openWrapped 3 rfl) rfl rfl rfl ?_
  simp only [List.set_cons_zero, List.set_cons_succ]
  refine x_iconst (pc := 6) C (dq D_Model_openWrapped 4 rfl) ci_0 ?_
  refine x_istore_n (i := 2) (pc := 7) C (dq D_Model_openWrapped 5 rfl) rfl rfl rfl ?_
  simp only [List.set_cons_zero, List.set_cons_succ]
  exact cmp 8 0 true B2 V2 rfl hB2 rfl
end
section
/-- the reference opens what is padded -/
def opr (U W : List Nat) (n : Nat) (R : List Nat) : List Nat := if n = 16 then sgl (dec U W 0 (R.take 16)) R else mud U W (n / 8 - 1) R
def sgn (R : List Nat) : Bool := decide (R.getD 0 0 = 166 ∧ R.getD 1 0 = 89 ∧ R.getD 2 0 = 89 ∧ R.getD 3 0 = 166 ∧ R.getD 4 0 = 0 ∧ R.getD 5 0 = 0 ∧ R.getD 6 0 = 0)
def eqz (n : Nat) (R : List Nat) (k : Nat) (b : Bool) : Bool := b && decide (k < n ∨ R.getD k 0 = 0)
def opk (m : Nat) (R : List Nat) : Bool := it (eqz (R.getD 7 0) (drp m R)) 0 m (sgn R && decide (m - 8 < R.getD 7 0 ∧ R.getD 7 0 ≤ m))
theorem sgl_ok {K : List Nat} (hK : by8 K) {R : List Nat} (h : by8 R) : (sgl K R).length = R.length ∧ by8 (sgl K R) := by
  unfold sgl
  exact ⟨it_len (cp1_len K) 16 0 R, cp1_8 hK 0 16 h⟩
set_option maxHeartbeats 4000000 in
theorem cm_openPadded {g : Gp} {P S : Hp} {cd ni no nt nr nl : Nat} {W T U IN OUT IS IB BL MV ROW TX MA SM KP : List Nat} (hP : P.length = 44) (hW : W.length = 88 ∧ by32 W) (hT : T.length = 256 ∧ by8 T) (hU : U.length = 256 ∧ by8 U) (hb : bm16 (BL, MV)) (hR : ROW.length = 112 ∧ by8 ROW) (hnr : 16 ≤ nr ∧ nr ≤ 72) :
    Con g M_Model_openPadded 3 (0, 0) [.ref (zA (gz g) 44)] (mh g P cd ni no nt nr nl [W, T, U, IN, OUT, IS, IB, BL, MV, ROW, TX, MA, SM, KP] S) (fun o h' => o = .returned (some (.int (nI (if (opk (nr - 8) (opr U W nr ROW)) then 1 else 0)))) ∧ ∃ B' M' : List Nat, bm16 (B', M') ∧ h' = mh g P cd ni no nt (if (opk (nr - 8) (opr U W nr ROW)) then (opr U W nr ROW).getD 7 0 else nr - 8) nl [W, T, U, IN, OUT, IS, IB, B', M', (drp (nr - 8) (opr U W nr ROW)), TX, MA, SM, KP] S) := by
  have hRl := hR.1
  have ht : (ROW.take 16).length = 16 := by rw [List.length_take]; omega
  have r1 : ((opr U W nr ROW)).length = 112 ∧ by8 (opr U W nr ROW) := by
    unfold opr
    split
    · obtain ⟨a, b⟩ := sgl_ok (dec_ok hU.2 W 0 ht (hR.2.take 16)).2 hR.2
      exact ⟨a.trans hR.1, b⟩
    · exact mud_ok hU.2 W (by omega) hR
  obtain ⟨d1, d2⟩ := drp_ok (nr - 8) r1.2
  have hn7 := r1.2.at 7
  have hrl := r1.1
  refine Con.of (by decide) rfl rfl (L := [some (.ref (zA (gz g) 44)), none, none, none]) rfl (fun f C => ?_)
  have cmp : ∀ (d k : Nat) (b : Bool) (B V : List Nat), k + d = nr - 8 → bm16 (B, V) → it (eqz ((opr U W nr ROW).getD 7 0) (drp (nr - 8) (opr U W nr ROW))) k d b = (opk (nr - 8) (opr U W nr ROW)) → X g f M_Model_openPadded (0, 0) (fun o h' => o = .returned (some (.int (nI (if (opk (nr - 8) (opr U W nr ROW)) then 1 else 0)))) ∧ ∃ B' M' : List Nat, bm16 (B', M') ∧ h' = mh g P cd ni no nt (if (opk (nr - 8) (opr U W nr ROW)) then (opr U W nr ROW).getD 7 0 else nr - 8) nl [W, T, U, IN, OUT, IS, IB, B', M', (drp (nr - 8) (opr U W nr ROW)), TX, MA, SM, KP] S) (0, 0) 144 [some (.ref (zA (gz g) 44)), some (.int (nI (if b then 1 else 0))), some (.int (nI ((opr U W nr ROW).getD 7 0))), some (.int (nI k))] [] (mh g P cd ni no nt (nr - 8) nl [W, T, U, IN, OUT, IS, IB, B, V, (drp (nr - 8) (opr U W nr ROW)), TX, MA, SM, KP] S) := by
    intro d
    induction d with
    | zero =>
      intro k b B V hkd hB he
      rw [it_zero] at he
      rw [he]
      have hz : narrow .boolean (.int (nI (if (opk (nr - 8) (opr U W nr ROW)) then 1 else 0))) = .int (nI (if (opk (nr - 8) (opr U W nr ROW)) then 1 else 0)) := by
        split <;> decide +kernel
      by_cases hok : (opk (nr - 8) (opr U W nr ROW)) = true
      · rw [hok] at hz
        rw [hok]
        have e1 : (nI (if true = true then 1 else 0)) = nI 1 := rfl
        rw [e1] at hz ⊢
        refine x_iload_n (pc := 144) C (dq D_Model_openPadded 78 rfl) rfl ?_
        refine x_aload_n (pc := 145) C (dq D_Model_openPadded 79 rfl) rfl ?_
        refine x_get (pc := 146) (ci := 1) (j := 13) C (dq D_Model_openPadded 80 rfl) rfl rfl (mo hP) rfl k_fl_Model_100 ?_
        refine n_ge_t (pc := 149) (tgt := 182) C (dq D_Model_openPadded 81 rfl) (by decide) (by omega) (by omega) ?_
        refine x_aload_n (pc := 182) C (dq D_Model_openPadded 98 rfl) rfl ?_
        refine x_iload_n (pc := 183) C (dq D_Model_openPadded 99 rfl) rfl ?_
        refine n_ifeq_f (pc := 184) (tgt := 191) C (dq D_Model_openPadded 100 rfl) (by decide) (by omega) (by omega) ?_
        refine x_iload_n (pc := 187) C (dq D_Model_openPadded 101 rfl) rfl ?_
        refine x_goto (pc := 188) (tgt := 195) C (dq D_Model_openPadded 102 rfl) (by decide) ?_
        refine x_put (pc := 195) (ci := 1) (j := 13) (ty := .int) C (dq D_Model_openPadded 105 rfl) rfl rfl (mo hP) rfl k_fl_Model_100 (Or.inl rfl) (by decide +kernel) rfl rfl ?_
        simp only [List.set_cons_zero, List.set_cons_succ]
        rw [mh_p hP]
        refine x_iload_n (pc := 198) C (dq D_Model_openPadded 106 rfl) rfl ?_
        exact x_zret (pc := 199) C (dq D_Model_openPadded 107 rfl) rfl hz (by decide) ⟨rfl, B, V, hB, rfl⟩
      · have hok : (opk (nr - 8) (opr U W nr ROW)) = false := by simpa using hok
        rw [hok] at hz
        rw [hok]
        have e1 : (nI (if false = true then 1 else 0)) = nI 0 := rfl
        rw [e1] at hz ⊢
        refine x_iload_n (pc := 144) C (dq D_Model_openPadded 78 rfl) rfl ?_
        refine x_aload_n (pc := 145) C (dq D_Model_openPadded 79 rfl) rfl ?_
        refine x_get (pc := 146) (ci := 1) (j := 13) C (dq D_Model_openPadded 80 rfl) rfl rfl (mo hP) rfl k_fl_Model_100 ?_
        refine n_ge_t (pc := 149) (tgt := 182) C (dq D_Model_openPadded 81 rfl) (by decide) (by omega) (by omega) ?_
        refine x_aload_n (pc := 182) C (dq D_Model_openPadded 98 rfl) rfl ?_
        refine x_iload_n (pc := 183) C (dq D_Model_openPadded 99 rfl) rfl ?_
        refine n_ifeq_t (pc := 184) (tgt := 191) C (dq D_Model_openPadded 100 rfl) (by decide) (by omega) (by omega) ?_
        refine x_aload_n (pc := 191) C (dq D_Model_openPadded 103 rfl) rfl ?_
        refine x_get (pc := 192) (ci := 1) (j := 13) C (dq D_Model_openPadded 104 rfl) rfl rfl (mo hP) rfl k_fl_Model_100 ?_
        refine x_put (pc := 195) (ci := 1) (j := 13) (ty := .int) C (dq D_Model_openPadded 105 rfl) rfl rfl (mo hP) rfl k_fl_Model_100 (Or.inl rfl) (by decide +kernel) rfl rfl ?_
        simp only [List.set_cons_zero, List.set_cons_succ]
        rw [mh_p hP]
        refine x_iload_n (pc := 198) C (dq D_Model_openPadded 106 rfl) rfl ?_
        exact x_zret (pc := 199) C (dq D_Model_openPadded 107 rfl) rfl hz (by decide) ⟨rfl, B, V, hB, rfl⟩
    | succ d ih =>
      intro k b B V hkd hB he
      have v1 := d2.at k
      have hdl : (drp (nr - 8) (opr U W nr ROW)).length = 112 := d1.trans hrl
      have fin : ∀ b' : Bool, b' = eqz ((opr U W nr ROW).getD 7 0) (drp (nr - 8) (opr U W nr ROW)) k b → X g f M_Model_openPadded (0, 0) (fun o h' => o = .returned (some (.int (nI (if (opk (nr - 8) (opr U W nr ROW)) then 1 else 0)))) ∧ ∃ B' M' : List Nat, bm16 (B', M') ∧ h' = mh g P cd ni no nt (if (opk (nr - 8) (opr U W nr ROW)) then (opr U W nr ROW).getD 7 0 else nr - 8) nl [W, T, U, IN, OUT, IS, IB, B', M', (drp (nr - 8) (opr U W nr ROW)), TX, MA, SM, KP] S) (0, 0) 175 [some (.ref (zA (gz g) 44)), some (.int (nI (if b then 1 else 0))), some (.int (nI ((opr U W nr ROW).getD 7 0))), some (.int (nI k))] [.int (nI (if b' then 1 else 0))] (mh g P cd ni no nt (nr - 8) nl [W, T, U, IN, OUT, IS, IB, B, V, (drp (nr - 8) (opr U W nr ROW)), TX, MA, SM, KP] S) := by
        intro b' hb'
        refine x_istore_n (i := 1) (pc := 175) C (dq D_Model_openPadded 95 rfl) rfl rfl rfl ?_
        simp only [List.set_cons_zero, List.set_cons_succ]
        refine x_iinc (pc := 176) C (dq D_Model_openPadded 96 rfl) rfl (ii_1 _) rfl rfl ?_
        simp only [List.set_cons_zero, List.set_cons_succ]
        refine x_goto (pc := 179) (tgt := 144) C (dq D_Model_openPadded 97 rfl) (by decide) ?_
        refine ih (k + 1) b' B V (by omega) hB ?_
        rw [hb']
        exact he
      cases b with
      | false =>
        have e1 : (nI (if false = true then 1 else 0)) = nI 0 := rfl
        rw [e1] at fin ⊢
        refine x_iload_n (pc := 144) C (dq D_Model_openPadded 78 rfl) rfl ?_
        refine x_aload_n (pc := 145) C (dq D_Model_openPadded 79 rfl) rfl ?_
        refine x_get (pc := 146) (ci := 1) (j := 13) C (dq D_Model_openPadded 80 rfl) rfl rfl (mo hP) rfl k_fl_Model_100 ?_
        refine n_ge_f (pc := 149) (tgt := 182) C (dq D_Model_openPadded 81 rfl) (by decide) (by omega) (by omega) ?_
        refine x_iload_n (pc := 152) C (dq D_Model_openPadded 82 rfl) rfl ?_
        refine n_ifeq_t (pc := 153) (tgt := 174) C (dq D_Model_openPadded 83 rfl) (by decide) (by omega) (by omega) ?_
        refine x_iconst (pc := 174) C (dq D_Model_openPadded 94 rfl) ci_0 ?_
        exact fin false rfl
      | true =>
        have e1 : (nI (if true = true then 1 else 0)) = nI 1 := rfl
        rw [e1] at fin ⊢
        refine x_iload_n (pc := 144) C (dq D_Model_openPadded 78 rfl) rfl ?_
        refine x_aload_n (pc := 145) C (dq D_Model_openPadded 79 rfl) rfl ?_
        refine x_get (pc := 146) (ci := 1) (j := 13) C (dq D_Model_openPadded 80 rfl) rfl rfl (mo hP) rfl k_fl_Model_100 ?_
        refine n_ge_f (pc := 149) (tgt := 182) C (dq D_Model_openPadded 81 rfl) (by decide) (by omega) (by omega) ?_
        refine x_iload_n (pc := 152) C (dq D_Model_openPadded 82 rfl) rfl ?_
        refine n_ifeq_f (pc := 153) (tgt := 174) C (dq D_Model_openPadded 83 rfl) (by decide) (by omega) (by omega) ?_
        refine x_iload_n (pc := 156) C (dq D_Model_openPadded 84 rfl) rfl ?_
        refine x_iload_n (pc := 157) C (dq D_Model_openPadded 85 rfl) rfl ?_
        refine n_lt (pc := 158) (tgt := 170) C (dq D_Model_openPadded 86 rfl) (by decide) (by omega) (fun hq => ?_) (fun hq => ?_)
        · refine x_iconst (pc := 170) C (dq D_Model_openPadded 92 rfl) ci_1 ?_
          refine x_goto (pc := 171) (tgt := 175) C (dq D_Model_openPadded 93 rfl) (by decide) ?_
          exact fin true (by unfold eqz; rw [decide_eq_true (Or.inl hq)]; rfl)
        · have hq0 : ¬ k < (opr U W nr ROW).getD 7 0 := by omega
          refine x_aload_n (pc := 161) C (dq D_Model_openPadded 87 rfl) rfl ?_
          refine x_get (pc := 162) (ci := 1) (j := 14) C (dq D_Model_openPadded 88 rfl) rfl rfl (by first | exact mo hP | exact ma hP rfl rfl) rfl k_fl_Model_37 ?_
          refine x_iload_n (pc := 165) C (dq D_Model_openPadded 89 rfl) rfl ?_
          refine x_iald (pc := 166) C (dq D_Model_openPadded 90 rfl) (by first | exact mo hP | exact ma hP rfl rfl) (by (try simp only [List.length_set]); omega) ?_
          refine n_ifne (pc := 167) (tgt := 174) C (dq D_Model_openPadded 91 rfl) (by decide) (by omega) (fun hq => ?_) (fun hq => ?_)
          · refine x_iconst (pc := 174) C (dq D_Model_openPadded 94 rfl) ci_0 ?_
            exact fin false (by unfold eqz; rw [decide_eq_false (fun z => z.elim hq0 hq)]; rfl)
          · refine x_iconst (pc := 170) C (dq D_Model_openPadded 92 rfl) ci_1 ?_
            refine x_goto (pc := 171) (tgt := 175) C (dq D_Model_openPadded 93 rfl) (by decide) ?_
            exact fin true (by unfold eqz; rw [decide_eq_true (Or.inr hq)]; rfl)
  have half : ∀ (B V : List Nat), bm16 (B, V) → X g f M_Model_openPadded (0, 0) (fun o h' => o = .returned (some (.int (nI (if (opk (nr - 8) (opr U W nr ROW)) then 1 else 0)))) ∧ ∃ B' M' : List Nat, bm16 (B', M') ∧ h' = mh g P cd ni no nt (if (opk (nr - 8) (opr U W nr ROW)) then (opr U W nr ROW).getD 7 0 else nr - 8) nl [W, T, U, IN, OUT, IS, IB, B', M', (drp (nr - 8) (opr U W nr ROW)), TX, MA, SM, KP] S) (0, 0) 100 [some (.ref (zA (gz g) 44)), none, none, none] [.int (nI (if sgn (opr U W nr ROW) then 1 else 0))] (mh g P cd ni no nt nr nl [W, T, U, IN, OUT, IS, IB, B, V, (opr U W nr ROW), TX, MA, SM, KP] S) := by
    intro B V hB
    have fin : ∀ b' : Bool, b' = (sgn (opr U W nr ROW) && decide (nr - 8 - 8 < (opr U W nr ROW).getD 7 0 ∧ (opr U W nr ROW).getD 7 0 ≤ nr - 8)) → X g f M_Model_openPadded (0, 0) (fun o h' => o = .returned (some (.int (nI (if (opk (nr - 8) (opr U W nr ROW)) then 1 else 0)))) ∧ ∃ B' M' : List Nat, bm16 (B', M') ∧ h' = mh g P cd ni no nt (if (opk (nr - 8) (opr U W nr ROW)) then (opr U W nr ROW).getD 7 0 else nr - 8) nl [W, T, U, IN, OUT, IS, IB, B', M', (drp (nr - 8) (opr U W nr ROW)), TX, MA, SM, KP] S) (0, 0) 141 [some (.ref (zA (gz g) 44)), some (.int (nI (if sgn (opr U W nr ROW) then 1 else 0))), some (.int (nI ((opr U W nr ROW).getD 7 0))), none] [.int (nI (if b' then 1 else 0))] (mh g P cd ni no nt (nr - 8) nl [W, T, U, IN, OUT, IS, IB, B, V, (drp (nr - 8) (opr U W nr ROW)), TX, MA, SM, KP] S) := by
      intro b' hb'
      refine x_istore_n (i := 1) (pc := 141) C (dq D_Model_openPadded 75 rfl) rfl rfl rfl ?_
      simp only [List.set_cons_zero, List.set_cons_succ]
      refine x_iconst (pc := 142) C (dq D_Model_openPadded 76 rfl) ci_0 ?_
      refine x_istore_n (i := 3) (pc := 143) C (dq D_Model_openPadded 77 rfl) rfl rfl rfl ?_
      simp only [List.set_cons_zero, List.set_cons_succ]
      refine cmp (nr - 8) 0 b' B V (by omega) hB ?_
      rw [hb', opk]
    refine x_istore_n (i := 1) (pc := 100) C (dq D_Model_openPadded 52 rfl) rfl rfl rfl ?_
    simp only [List.set_cons_zero, List.set_cons_succ]
    refine x_aload_n (pc := 101) C (dq D_Model_openPadded 53 rfl) rfl ?_
    refine x_get (pc := 102) (ci := 1) (j := 14) C (dq D_Model_openPadded 54 rfl) rfl rfl (by first | exact mo hP | exact ma hP rfl rfl) rfl k_fl_Model_37 ?_
    refine x_bipush (pc := 105) C (dq D_Model_openPadded 55 rfl) cb_7 ?_
    refine x_iald (pc := 107) C (dq D_Model_openPadded 56 rfl) (by first | exact mo hP | exact ma hP rfl rfl) (by (try simp only [List.length_set]); omega) ?_
    refine x_istore_n (i := 2) (pc := 108) C (dq D_Model_openPadded 57 rfl) rfl rfl rfl ?_
    simp only [List.set_cons_zero, List.set_cons_succ]
    refine x_aload_n (pc := 109) C (dq D_Model_openPadded 58 rfl) rfl ?_
    refine x_cV0 (pc := 110) (ci := 1) (M := M_Model_dropFront) C (dq D_Model_openPadded 59 rfl) k_ml_Model_130 m_Model_dropFront rfl rfl (by first | exact mo hP | exact ma hP rfl rfl) (cm_dropFront hP hrl (by omega)) rfl rfl rfl rfl (by decide) ?_
    cases hs : sgn (opr U W nr ROW) with
    | false =>
      rw [hs] at fin
      have e1 : (nI (if false = true then 1 else 0)) = nI 0 := rfl
      rw [e1] at fin ⊢
      refine x_iload_n (pc := 113) C (dq D_Model_openPadded 60 rfl) rfl ?_
      refine n_ifeq_t (pc := 114) (tgt := 140) C (dq D_Model_openPadded 61 rfl) (by decide) (by omega) (by omega) ?_
      refine x_iconst (pc := 140) C (dq D_Model_openPadded 74 rfl) ci_0 ?_
      exact fin false rfl
    | true =>
      rw [hs] at fin
      have e1 : (nI (if true = true then 1 else 0)) = nI 1 := rfl
      rw [e1] at fin ⊢
      refine x_iload_n (pc := 113) C (dq D_Model_openPadded 60 rfl) rfl ?_
      refine n_ifeq_f (pc := 114) (tgt := 140) C (dq D_Model_openPadded 61 rfl) (by decide) (by omega) (by omega) ?_
      refine x_iload_n (pc := 117) C (dq D_Model_openPadded 62 rfl) rfl ?_
      refine x_aload_n (pc := 118) C (dq D_Model_openPadded 63 rfl) rfl ?_
      refine x_get (pc := 119) (ci := 1) (j := 13) C (dq D_Model_openPadded 64 rfl) rfl rfl (mo hP) rfl k_fl_Model_100 ?_
      refine x_bipush (pc := 122) C (dq D_Model_openPadded 65 rfl) cb_8 ?_
      refine n_isub (pc := 124) C (dq D_Model_openPadded 66 rfl) (by omega) ?_
      refine n_le (pc := 125) (tgt := 140) C (dq D_Model_openPadded 67 rfl) (by decide) (by omega) (fun hq => ?_) (fun hq => ?_)
      · refine x_iconst (pc := 140) C (dq D_Model_openPadded 74 rfl) ci_0 ?_
        exact fin false (by rw [decide_eq_false (fun z => by omega)]; rfl)
      · have hq0 := hq
        refine x_iload_n (pc := 128) C (dq D_Model_openPadded 68 rfl) rfl ?_
        refine x_aload_n (pc := 129) C (dq D_Model_openPadded 69 rfl) rfl ?_
        refine x_get (pc := 130) (ci := 1) (j := 13) C (dq D_Model_openPadded 70 rfl) rfl rfl (mo hP) rfl k_fl_Model_100 ?_
        refine n_gt (pc := 133) (tgt := 140) C (dq D_Model_openPadded 71 rfl) (by decide) (by omega) (fun hq => ?_) (fun hq => ?_)
        · refine x_iconst (pc := 140) C (dq D_Model_openPadded 74 rfl) ci_0 ?_
          exact fin false (by rw [decide_eq_false (fun z => by omega)]; rfl)
        · refine x_iconst (pc := 136) C (dq D_Model_openPadded 72 rfl) ci_1 ?_
          refine x_goto (pc := 137) (tgt := 141) C (dq D_Model_openPadded 73 rfl) (by decide) ?_
          exact fin true (by rw [decide_eq_true (by omega)]; rfl)
  have first : ∀ (B V : List Nat), bm16 (B, V) → X g f M_Model_openPadded (0, 0) (fun o h' => o = .returned (some (.int (nI (if (opk (nr - 8) (opr U W nr ROW)) then 1 else 0)))) ∧ ∃ B' M' : List Nat, bm16 (B', M') ∧ h' = mh g P cd ni no nt (if (opk (nr - 8) (opr U W nr ROW)) then (opr U W nr ROW).getD 7 0 else nr - 8) nl [W, T, U, IN, OUT, IS, IB, B', M', (drp (nr - 8) (opr U W nr ROW)), TX, MA, SM, KP] S) (0, 0) 21 [some (.ref (zA (gz g) 44)), none, none, none] [] (mh g P cd ni no nt nr nl [W, T, U, IN, OUT, IS, IB, B, V, (opr U W nr ROW), TX, MA, SM, KP] S) := by
    intro B V hB
    have h0 := half B V hB
    have v0 := r1.2.at 0
    have v1 := r1.2.at 1
    have v2 := r1.2.at 2
    have v3 := r1.2.at 3
    have v4 := r1.2.at 4
    have v5 := r1.2.at 5
    have v6 := r1.2.at 6
    have bad : sgn (opr U W nr ROW) = false → X g f M_Model_openPadded (0, 0) (fun o h' => o = .returned (some (.int (nI (if (opk (nr - 8) (opr U W nr ROW)) then 1 else 0)))) ∧ ∃ B' M' : List Nat, bm16 (B', M') ∧ h' = mh g P cd ni no nt (if (opk (nr - 8) (opr U W nr ROW)) then (opr U W nr ROW).getD 7 0 else nr - 8) nl [W, T, U, IN, OUT, IS, IB, B', M', (drp (nr - 8) (opr U W nr ROW)), TX, MA, SM, KP] S) (0, 0) 99 [some (.ref (zA (gz g) 44)), none, none, none] [] (mh g P cd ni no nt nr nl [W, T, U, IN, OUT, IS, IB, B, V, (opr U W nr ROW), TX, MA, SM, KP] S) := by
      intro hs
      rw [hs] at h0
      refine x_iconst (pc := 99) C (dq D_Model_openPadded 51 rfl) ci_0 ?_
      exact h0
    refine x_aload_n (pc := 21) C (dq D_Model_openPadded 10 rfl) rfl ?_
    refine x_get (pc := 22) (ci := 1) (j := 14) C (dq D_Model_openPadded 11 rfl) rfl rfl (by first | exact mo hP | exact ma hP rfl rfl) rfl k_fl_Model_37 ?_
    refine x_iconst (pc := 25) C (dq D_Model_openPadded 12 rfl) ci_0 ?_
    refine x_iald (pc := 26) C (dq D_Model_openPadded 13 rfl) (by first | exact mo hP | exact ma hP rfl rfl) (by (try simp only [List.length_set]); omega) ?_
    refine x_sipush (pc := 27) C (dq D_Model_openPadded 14 rfl) cs_166 ?_
    refine n_ne (pc := 30) (tgt := 99) C (dq D_Model_openPadded 15 rfl) (by decide) (by omega) (fun hq => ?_) (fun hq => ?_)
    · exact bad (decide_eq_false (fun z => hq z.1))
    · have a0 := hq
      refine x_aload_n (pc := 33) C (dq D_Model_openPadded 16 rfl) rfl ?_
      refine x_get (pc := 34) (ci := 1) (j := 14) C (dq D_Model_openPadded 17 rfl) rfl rfl (by first | exact mo hP | exact ma hP rfl rfl) rfl k_fl_Model_37 ?_
      refine x_iconst (pc := 37) C (dq D_Model_openPadded 18 rfl) ci_1 ?_
      refine x_iald (pc := 38) C (dq D_Model_openPadded 19 rfl) (by first | exact mo hP | exact ma hP rfl rfl) (by (try simp only [List.length_set]); omega) ?_
      refine x_bipush (pc := 39) C (dq D_Model_openPadded 20 rfl) cb_89 ?_
      refine n_ne (pc := 41) (tgt := 99) C (dq D_Model_openPadded 21 rfl) (by decide) (by omega) (fun hq => ?_) (fun hq => ?_)
      · exact bad (decide_eq_false (fun z => hq z.2.1))
      · have a1 := hq
        refine x_aload_n (pc := 44) C (dq D_Model_openPadded 22 rfl) rfl ?_
        refine x_get (pc := 45) (ci := 1) (j := 14) C (dq D_Model_openPadded 23 rfl) rfl rfl (by first | exact mo hP | exact ma hP rfl rfl) rfl k_fl_Model_37 ?_
        refine x_iconst (pc := 48) C (dq D_Model_openPadded 24 rfl) ci_2 ?_
        refine x_iald (pc := 49) C (dq D_Model_openPadded 25 rfl) (by first | exact mo hP | exact ma hP rfl rfl) (by (try simp only [List.length_set]); omega) ?_
        refine x_bipush (pc := 50) C (dq D_Model_openPadded 26 rfl) cb_89 ?_
        refine n_ne (pc := 52) (tgt := 99) C (dq D_Model_openPadded 27 rfl) (by decide) (by omega) (fun hq => ?_) (fun hq => ?_)
        · exact bad (decide_eq_false (fun z => hq z.2.2.1))
        · have a2 := hq
          refine x_aload_n (pc := 55) C (dq D_Model_openPadded 28 rfl) rfl ?_
          refine x_get (pc := 56) (ci := 1) (j := 14) C (dq D_Model_openPadded 29 rfl) rfl rfl (by first | exact mo hP | exact ma hP rfl rfl) rfl k_fl_Model_37 ?_
          refine x_iconst (pc := 59) C (dq D_Model_openPadded 30 rfl) ci_3 ?_
          refine x_iald (pc := 60) C (dq D_Model_openPadded 31 rfl) (by first | exact mo hP | exact ma hP rfl rfl) (by (try simp only [List.length_set]); omega) ?_
          refine x_sipush (pc := 61) C (dq D_Model_openPadded 32 rfl) cs_166 ?_
          refine n_ne (pc := 64) (tgt := 99) C (dq D_Model_openPadded 33 rfl) (by decide) (by omega) (fun hq => ?_) (fun hq => ?_)
          · exact bad (decide_eq_false (fun z => hq z.2.2.2.1))
          · have a3 := hq
            refine x_aload_n (pc := 67) C (dq D_Model_openPadded 34 rfl) rfl ?_
            refine x_get (pc := 68) (ci := 1) (j := 14) C (dq D_Model_openPadded 35 rfl) rfl rfl (by first | exact mo hP | exact ma hP rfl rfl) rfl k_fl_Model_37 ?_
            refine x_iconst (pc := 71) C (dq D_Model_openPadded 36 rfl) ci_4 ?_
            refine x_iald (pc := 72) C (dq D_Model_openPadded 37 rfl) (by first | exact mo hP | exact ma hP rfl rfl) (by (try simp only [List.length_set]); omega) ?_
            refine n_ifne (pc := 73) (tgt := 99) C (dq D_Model_openPadded 38 rfl) (by decide) (by omega) (fun hq => ?_) (fun hq => ?_)
            · exact bad (decide_eq_false (fun z => hq z.2.2.2.2.1))
            · have a4 := hq
              refine x_aload_n (pc := 76) C (dq D_Model_openPadded 39 rfl) rfl ?_
              refine x_get (pc := 77) (ci := 1) (j := 14) C (dq D_Model_openPadded 40 rfl) rfl rfl (by first | exact mo hP | exact ma hP rfl rfl) rfl k_fl_Model_37 ?_
              refine x_iconst (pc := 80) C (dq D_Model_openPadded 41 rfl) ci_5 ?_
              refine x_iald (pc := 81) C (dq D_Model_openPadded 42 rfl) (by first | exact mo hP | exact ma hP rfl rfl) (by (try simp only [List.length_set]); omega) ?_
              refine n_ifne (pc := 82) (tgt := 99) C (dq D_Model_openPadded 43 rfl) (by decide) (by omega) (fun hq => ?_) (fun hq => ?_)
              · exact bad (decide_eq_false (fun z => hq z.2.2.2.2.2.1))
              · have a5 := hq
                refine x_aload_n (pc := 85) C (dq D_Model_openPadded 44 rfl) rfl ?_
                refine x_get (pc := 86) (ci := 1) (j := 14) C (dq D_Model_openPadded 45 rfl) rfl rfl (by first | exact mo hP | exact ma hP rfl rfl) rfl k_fl_Model_37 ?_
                refine x_bipush (pc := 89) C (dq D_Model_openPadded 46 rfl) cb_6 ?_
                refine x_iald (pc := 91) C (dq D_Model_openPadded 47 rfl) (by first | exact mo hP | exact ma hP rfl rfl) (by (try simp only [List.length_set]); omega) ?_
                refine n_ifne (pc := 92) (tgt := 99) C (dq D_Model_openPadded 48 rfl) (by decide) (by omega) (fun hq => ?_) (fun hq => ?_)
                · exact bad (decide_eq_false (fun z => hq z.2.2.2.2.2.2))
                · have hs : sgn (opr U W nr ROW) = true := decide_eq_true ⟨a0, a1, a2, a3, a4, a5, hq⟩
                  rw [hs] at h0
                  refine x_iconst (pc := 95) C (dq D_Model_openPadded 49 rfl) ci_1 ?_
                  refine x_goto (pc := 96) (tgt := 100) C (dq D_Model_openPadded 50 rfl) (by decide) ?_
                  exact h0
  refine x_aload_n (pc := 0) C (dq D_Model_openPadded 0 rfl) rfl ?_
  refine x_get (pc := 1) (ci := 1) (j := 13) C (dq D_Model_openPadded 1 rfl) rfl rfl (mo hP) rfl k_fl_Model_100 ?_
  refine x_bipush (pc := 4) C (dq D_Model_openPadded 2 rfl) cb_16 ?_
  refine n_ne (pc := 6) (tgt := 17) C (dq D_Model_openPadded 3 rfl) (by decide) (by omega) (fun hq => ?_) (fun hq => ?_)
  · have e0 : mud U W (nr / 8 - 1) ROW = (opr U W nr ROW) := (if_neg hq).symm
    refine x_aload_n (pc := 17) C (dq D_Model_openPadded 8 rfl) rfl ?_
    refine x_cV (pc := 18) (ci := 1) (M := M_Model_unwrap) C (dq D_Model_openPadded 9 rfl) k_ml_Model_127 m_Model_unwrap rfl rfl (mo hP) (cm_unwrap hP hW hT hU hb hR (by omega)) rfl rfl rfl rfl (by decide) (fun o h2 hp => ?_)
    obtain ⟨rfl, B2, V2, hB2, rfl⟩ := hp
    refine ⟨none, rfl, ?_⟩
    rw [e0]
    exact first B2 V2 hB2
  · have e0 : sgl (if 1 = 0 then enc T W 0 (ROW.take 16) else dec U W 0 (ROW.take 16)) ROW = (opr U W nr ROW) := (if_pos hq).symm
    refine x_aload_n (pc := 9) C (dq D_Model_openPadded 4 rfl) rfl ?_
    refine x_iconst (pc := 10) C (dq D_Model_openPadded 5 rfl) ci_1 ?_
    refine x_cV (pc := 11) (ci := 1) (M := M_Model_single) C (dq D_Model_openPadded 6 rfl) k_ml_Model_120 m_Model_single rfl rfl (mo hP) (cm_single (bk := 1) hP hW hT hU hb hR (by omega)) rfl rfl rfl rfl (by decide) (fun o h2 hp => ?_)
    obtain ⟨rfl, B2, V2, hB2, rfl⟩ := hp
    refine ⟨none, rfl, ?_⟩
    rw [e0]
    show X g f M_Model_openPadded (0, 0) (fun o h' => o = .returned (some (.int (nI (if (opk (nr - 8) (opr U W nr ROW)) then 1 else 0)))) ∧ ∃ B' M' : List Nat, bm16 (B', M') ∧ h' = mh g P cd ni no nt (if (opk (nr - 8) (opr U W nr ROW)) then (opr U W nr ROW).getD 7 0 else nr - 8) nl [W, T, U, IN, OUT, IS, IB, B', M', (drp (nr - 8) (opr U W nr ROW)), TX, MA, SM, KP] S) (0, 0) 14 [some (.ref (zA (gz g) 44)), none, none, none] [] (mh g P cd ni no nt nr nl [W, T, U, IN, OUT, IS, IB, B2, V2, (opr U W nr ROW), TX, MA, SM, KP] S)
    refine x_goto (pc := 14) (tgt := 21) C (dq D_Model_openPadded 7 rfl) (by decide) ?_
    exact first B2 V2 hB2
end
section
/-! The reference's calls: key, feed, drop, alter, item, forget, size, at, take, thrown. -/
def rot (t : Nat) : Nat := (t * 2 ^ 8 % 2 ^ 32) ||| (t / 2 ^ 24)
def exw (T : List Nat) (f i : Nat) (q : Nat × List Nat) : Nat × List Nat := if i % 4 = 0 then (prd q.1 2, q.2.set (f + i) (q.2.getD (f + i - 4) 0 ^^^ (chg T (rot (q.2.getD (f + i - 1) 0)) ^^^ (q.1 * 2 ^ 24)))) else (q.1, q.2.set (f + i) (q.2.getD (f + i - 4) 0 ^^^ q.2.getD (f + i - 1) 0))
def mk4 (f a b c d : Nat) (W : List Nat) : List Nat := (((W.set f a).set (f + 1) b).set (f + 2) c).set (f + 3) d
def mky (T : List Nat) (f a b c d : Nat) (W : List Nat) : List Nat := (it (exw T f) 4 40 (1, mk4 f a b c d W)).2
theorem xor32 {a b : Nat} (ha : a < 2 ^ 32) (hb : b < 2 ^ 32) : a ^^^ b < 2 ^ 32 := Nat.xor_lt_two_pow (n := 32) ha hb
theorem rot32 {t : Nat} (ht : t < 2 ^ 32) : rot t < 2 ^ 32 := Nat.or_lt_two_pow (n := 32) (Nat.mod_lt _ (by omega)) (by omega)
theorem exw_ok {T : List Nat} (hT : by8 T) (f i : Nat) {q : Nat × List Nat} (h : q.1 < 256 ∧ q.2.length = 88 ∧ by32 q.2) : (exw T f i q).1 < 256 ∧ (exw T f i q).2.length = 88 ∧ by32 (exw T f i q).2 := by
  obtain ⟨a, b, c⟩ := h
  unfold exw
  split
  · dsimp only
    refine ⟨prd8 a, by rw [List.length_set]; exact b, c.set (xor32 (c.at _) (xor32 (chg32 hT _) ?_))⟩
    omega
  · dsimp only
    exact ⟨a, by rw [List.length_set]; exact b, c.set (xor32 (c.at _) (c.at _))⟩
theorem mk4_ok (f : Nat) {a b c d : Nat} (ha : a < 2 ^ 32) (hb : b < 2 ^ 32) (hc : c < 2 ^ 32) (hd : d < 2 ^ 32) {W : List Nat} (h : W.length = 88 ∧ by32 W) : (mk4 f a b c d W).length = 88 ∧ by32 (mk4 f a b c d W) := by
  unfold mk4
  exact ⟨by simp only [List.length_set]; exact h.1, (((h.2.set ha).set hb).set hc).set hd⟩
theorem mky_ok {T : List Nat} (hT : by8 T) (f : Nat) {a b c d : Nat} (ha : a < 2 ^ 32) (hb : b < 2 ^ 32) (hc : c < 2 ^ 32) (hd : d < 2 ^ 32) {W : List Nat} (h : W.length = 88 ∧ by32 W) : (mky T f a b c d W).length = 88 ∧ by32 (mky T f a b c d W) := by
  have h0 := mk4_ok f ha hb hc hd h
  have h1 := it_inv (fun q : Nat × List Nat => q.1 < 256 ∧ q.2.length = 88 ∧ by32 q.2) 40 4 (1, mk4 f a b c d W) (fun j q _ _ hq => exw_ok hT f j hq) ⟨show 1 < 256 by omega, h0.1, h0.2⟩
  unfold mky
  exact h1.2
set_option maxHeartbeats 4000000 in
theorem cm_expand {g : Gp} {P S : Hp} {cd ni no nt nr nl : Nat} {W T U IN OUT IS IB BL MV ROW TX MA SM KP : List Nat} {f0 a b c d : Nat} (hP : P.length = 44) (hW : W.length = 88 ∧ by32 W) (hT : T.length = 256 ∧ by8 T) (hf : f0 ≤ 44) (ha : a < 2 ^ 32) (hb : b < 2 ^ 32) (hc : c < 2 ^ 32) (hd : d < 2 ^ 32) :
    Con g M_Model_expand 1 (0, 0) [.ref (zA (gz g) 44), .int (nI f0), .int (nI a), .int (nI b), .int (nI c), .int (nI d)] (mh g P cd ni no nt nr nl [W, T, U, IN, OUT, IS, IB, BL, MV, ROW, TX, MA, SM, KP] S) (Ret none (mh g P cd ni no nt nr nl [(mky T f0 a b c d W), T, U, IN, OUT, IS, IB, BL, MV, ROW, TX, MA, SM, KP] S)) := by
  have hW1 := hW.1
  have hm4 := mk4_ok f0 ha hb hc hd hW
  refine Con.of (by decide) rfl rfl (L := [some (.ref (zA (gz g) 44)), some (.int (nI f0)), some (.int (nI a)), some (.int (nI b)), some (.int (nI c)), some (.int (nI d)), none, none, none]) rfl (fun f C => ?_)
  have loop : ∀ (n i : Nat) (q : Nat × List Nat) (l8 : Option Value), i + n = 44 → 4 ≤ i → q.1 < 256 ∧ q.2.length = 88 ∧ by32 q.2 → (it (exw T f0) i n q).2 = mky T f0 a b c d W → X g f M_Model_expand (0, 0) (Ret none (mh g P cd ni no nt nr nl [(mky T f0 a b c d W), T, U, IN, OUT, IS, IB, BL, MV, ROW, TX, MA, SM, KP] S)) (0, 0) 42 [some (.ref (zA (gz g) 44)), some (.int (nI f0)), some (.int (nI a)), some (.int (nI b)), some (.int (nI c)), some (.int (nI d)), some (.int (nI q.1)), some (.int (nI i)), l8] [] (mh g P cd ni no nt nr nl [q.2, T, U, IN, OUT, IS, IB, BL, MV, ROW, TX, MA, SM, KP] S) := by
    intro n
    induction n with
    | zero =>
      intro i q l8 hin hi hq he
      rw [it_zero] at he
      rw [he]
      refine x_iload (pc := 42) C (dq D_Model_expand 30 rfl) rfl ?_
      refine x_bipush (pc := 44) C (dq D_Model_expand 31 rfl) cb_44 ?_
      refine n_ge_t (pc := 46) (tgt := 129) C (dq D_Model_expand 32 rfl) (by decide) (by omega) (by omega) ?_
      exact x_vret (pc := 129) C (dq D_Model_expand 82 rfl) rfl (by decide) ⟨rfl, rfl⟩
    | succ n ih =>
      intro i q l8 hin hi hq he
      obtain ⟨q1, q2, q3⟩ := hq
      have ht := q3.at (f0 + i - 1)
      have hok := exw_ok hT.2 f0 i ⟨q1, q2, q3⟩
      have fin : ∀ (two t : Nat), (two, q.2.set (f0 + i) (q.2.getD (f0 + i - 4) 0 ^^^ t)) = exw T f0 i q → X g f M_Model_expand (0, 0) (Ret none (mh g P cd ni no nt nr nl [(mky T f0 a b c d W), T, U, IN, OUT, IS, IB, BL, MV, ROW, TX, MA, SM, KP] S)) (0, 0) 100 [some (.ref (zA (gz g) 44)), some (.int (nI f0)), some (.int (nI a)), some (.int (nI b)), some (.int (nI c)), some (.int (nI d)), some (.int (nI two)), some (.int (nI i)), some (.int (nI t))] [] (mh g P cd ni no nt nr nl [q.2, T, U, IN, OUT, IS, IB, BL, MV, ROW, TX, MA, SM, KP] S) := by
        intro two t heq
        refine x_aload_n (pc := 100) C (dq D_Model_expand 64 rfl) rfl ?_
        refine x_get (pc := 101) (ci := 1) (j := 1) C (dq D_Model_expand 65 rfl) rfl rfl (by first | exact mo hP | exact ma hP rfl rfl) rfl k_fl_Model_7 ?_
        refine x_iload_n (pc := 104) C (dq D_Model_expand 66 rfl) rfl ?_
        refine x_iload (pc := 105) C (dq D_Model_expand 67 rfl) rfl ?_
        refine n_iadd (pc := 107) C (dq D_Model_expand 68 rfl) ?_
        refine x_aload_n (pc := 108) C (dq D_Model_expand 69 rfl) rfl ?_
        refine x_get (pc := 109) (ci := 1) (j := 1) C (dq D_Model_expand 70 rfl) rfl rfl (by first | exact mo hP | exact ma hP rfl rfl) rfl k_fl_Model_7 ?_
        refine x_iload_n (pc := 112) C (dq D_Model_expand 71 rfl) rfl ?_
        refine x_iload (pc := 113) C (dq D_Model_expand 72 rfl) rfl ?_
        refine n_iadd (pc := 115) C (dq D_Model_expand 73 rfl) ?_
        refine x_iconst (pc := 116) C (dq D_Model_expand 74 rfl) ci_4 ?_
        refine n_isub (pc := 117) C (dq D_Model_expand 75 rfl) (by omega) ?_
        refine x_iald (pc := 118) C (dq D_Model_expand 76 rfl) (by first | exact mo hP | exact ma hP rfl rfl) (by (try simp only [List.length_set]); omega) ?_
        refine x_iload (pc := 119) C (dq D_Model_expand 77 rfl) rfl ?_
        refine n_ixor (pc := 121) C (dq D_Model_expand 78 rfl) ?_
        refine x_iast (pc := 122) C (dq D_Model_expand 79 rfl) (by first | exact mo hP | exact ma hP rfl rfl) (by (try simp only [List.length_set]); omega) ?_
        try rw [List.set_set]
        rw [mh_s hP rfl rfl]
        simp only [Nat.reduceSub, List.set_cons_zero, List.set_cons_succ]
        refine x_iinc (pc := 123) C (dq D_Model_expand 80 rfl) rfl (ii_1 _) rfl rfl ?_
        simp only [List.set_cons_zero, List.set_cons_succ]
        refine x_goto (pc := 126) (tgt := 42) C (dq D_Model_expand 81 rfl) (by decide) ?_
        have h1 := ih (i + 1) (two, q.2.set (f0 + i) (q.2.getD (f0 + i - 4) 0 ^^^ t)) (some (.int (nI t))) (by omega) (by omega) (by rw [heq]; exact hok) (by rw [heq]; exact he)
        exact h1
      refine x_iload (pc := 42) C (dq D_Model_expand 30 rfl) rfl ?_
      refine x_bipush (pc := 44) C (dq D_Model_expand 31 rfl) cb_44 ?_
      refine n_ge_f (pc := 46) (tgt := 129) C (dq D_Model_expand 32 rfl) (by decide) (by omega) (by omega) ?_
      refine x_aload_n (pc := 49) C (dq D_Model_expand 33 rfl) rfl ?_
      refine x_get (pc := 50) (ci := 1) (j := 1) C (dq D_Model_expand 34 rfl) rfl rfl (by first | exact mo hP | exact ma hP rfl rfl) rfl k_fl_Model_7 ?_
      refine x_iload_n (pc := 53) C (dq D_Model_expand 35 rfl) rfl ?_
      refine x_iload (pc := 54) C (dq D_Model_expand 36 rfl) rfl ?_
      refine n_iadd (pc := 56) C (dq D_Model_expand 37 rfl) ?_
      refine x_iconst (pc := 57) C (dq D_Model_expand 38 rfl) ci_1 ?_
      refine n_isub (pc := 58) C (dq D_Model_expand 39 rfl) (by omega) ?_
      refine x_iald (pc := 59) C (dq D_Model_expand 40 rfl) (by first | exact mo hP | exact ma hP rfl rfl) (by (try simp only [List.length_set]); omega) ?_
      refine x_istore (i := 8) (pc := 60) C (dq D_Model_expand 41 rfl) rfl rfl rfl ?_
      simp only [List.set_cons_zero, List.set_cons_succ]
      refine x_iload (pc := 62) C (dq D_Model_expand 42 rfl) rfl ?_
      refine x_iconst (pc := 64) C (dq D_Model_expand 43 rfl) ci_4 ?_
      refine n_irem (pc := 65) C (dq D_Model_expand 44 rfl) (by omega) (by omega) (by omega) ?_
      refine n_ifne (pc := 66) (tgt := 100) C (dq D_Model_expand 45 rfl) (by decide) (by omega) (fun hq => ?_) (fun hq => ?_)
      · have heq : (q.1, q.2.set (f0 + i) (q.2.getD (f0 + i - 4) 0 ^^^ q.2.getD (f0 + i - 1) 0)) = exw T f0 i q := by
          unfold exw
          rw [if_neg hq]
        exact fin q.1 _ heq
      · have heq : (prd q.1 2, q.2.set (f0 + i) (q.2.getD (f0 + i - 4) 0 ^^^ (chg T (rot (q.2.getD (f0 + i - 1) 0)) ^^^ (q.1 * 2 ^ 24)))) = exw T f0 i q := by
          unfold exw
          rw [if_pos hq]
        refine x_aload_n (pc := 69) C (dq D_Model_expand 46 rfl) rfl ?_
        refine x_iload (pc := 70) C (dq D_Model_expand 47 rfl) rfl ?_
        refine x_bipush (pc := 72) C (dq D_Model_expand 48 rfl) cb_8 ?_
        refine n_ishlM (pc := 74) C (dq D_Model_expand 49 rfl) ht (by omega) ?_
        refine x_iload (pc := 75) C (dq D_Model_expand 50 rfl) rfl ?_
        refine x_bipush (pc := 77) C (dq D_Model_expand 51 rfl) cb_24 ?_
        refine n_iushr (pc := 79) C (dq D_Model_expand 52 rfl) (by omega) ht ?_
        refine n_ior (pc := 80) C (dq D_Model_expand 53 rfl) ?_
        refine x_cV1 (pc := 81) (ci := 1) (M := M_Model_changed) C (dq D_Model_expand 54 rfl) k_ml_Model_71 m_Model_changed rfl rfl (mo hP) (c_changed (mo hP) (ma hP rfl rfl) hT.1 hT.2 (rot32 ht)) rfl rfl rfl rfl (by decide) ?_
        refine x_iload (pc := 84) C (dq D_Model_expand 55 rfl) rfl ?_
        refine x_bipush (pc := 86) C (dq D_Model_expand 56 rfl) cb_24 ?_
        refine n_ishl (pc := 88) C (dq D_Model_expand 57 rfl) (by omega) (by omega) ?_
        refine n_ixor (pc := 89) C (dq D_Model_expand 58 rfl) ?_
        refine x_istore (i := 8) (pc := 90) C (dq D_Model_expand 59 rfl) rfl rfl rfl ?_
        simp only [List.set_cons_zero, List.set_cons_succ]
        refine x_iload (pc := 92) C (dq D_Model_expand 60 rfl) rfl ?_
        refine x_iconst (pc := 94) C (dq D_Model_expand 61 rfl) ci_2 ?_
        refine x_cS1 (pc := 95) (M := M_Model_product) C (dq D_Model_expand 62 rfl) k_ml_Model_68 m_Model_product (c_product q1 (by omega)) rfl rfl rfl rfl (by decide) ?_
        refine x_istore (i := 6) (pc := 98) C (dq D_Model_expand 63 rfl) rfl rfl rfl ?_
        simp only [List.set_cons_zero, List.set_cons_succ]
        exact fin _ _ heq
  refine x_aload_n (pc := 0) C (dq D_Model_expand 0 rfl) rfl ?_
  refine x_get (pc := 1) (ci := 1) (j := 1) C (dq D_Model_expand 1 rfl) rfl rfl (by first | exact mo hP | exact ma hP rfl rfl) rfl k_fl_Model_7 ?_
  refine x_iload_n (pc := 4) C (dq D_Model_expand 2 rfl) rfl ?_
  refine x_iload_n (pc := 5) C (dq D_Model_expand 3 rfl) rfl ?_
  refine x_iast (pc := 6) C (dq D_Model_expand 4 rfl) (by first | exact mo hP | exact ma hP rfl rfl) (by (try simp only [List.length_set]); omega) ?_
  try rw [List.set_set]
  rw [mh_s hP rfl rfl]
  simp only [Nat.reduceSub, List.set_cons_zero, List.set_cons_succ]
  refine x_aload_n (pc := 7) C (dq D_Model_expand 5 rfl) rfl ?_
  refine x_get (pc := 8) (ci := 1) (j := 1) C (dq D_Model_expand 6 rfl) rfl rfl (by first | exact mo hP | exact ma hP rfl rfl) rfl k_fl_Model_7 ?_
  refine x_iload_n (pc := 11) C (dq D_Model_expand 7 rfl) rfl ?_
  refine x_iconst (pc := 12) C (dq D_Model_expand 8 rfl) ci_1 ?_
  refine n_iadd (pc := 13) C (dq D_Model_expand 9 rfl) ?_
  refine x_iload_n (pc := 14) C (dq D_Model_expand 10 rfl) rfl ?_
  refine x_iast (pc := 15) C (dq D_Model_expand 11 rfl) (by first | exact mo hP | exact ma hP rfl rfl) (by (try simp only [List.length_set]); omega) ?_
  try rw [List.set_set]
  rw [mh_s hP rfl rfl]
  simp only [Nat.reduceSub, List.set_cons_zero, List.set_cons_succ]
  refine x_aload_n (pc := 16) C (dq D_Model_expand 12 rfl) rfl ?_
  refine x_get (pc := 17) (ci := 1) (j := 1) C (dq D_Model_expand 13 rfl) rfl rfl (by first | exact mo hP | exact ma hP rfl rfl) rfl k_fl_Model_7 ?_
  refine x_iload_n (pc := 20) C (dq D_Model_expand 14 rfl) rfl ?_
  refine x_iconst (pc := 21) C (dq D_Model_expand 15 rfl) ci_2 ?_
  refine n_iadd (pc := 22) C (dq D_Model_expand 16 rfl) ?_
  refine x_iload (pc := 23) C (dq D_Model_expand 17 rfl) rfl ?_
  refine x_iast (pc := 25) C (dq D_Model_expand 18 rfl) (by first | exact mo hP | exact ma hP rfl rfl) (by (try simp only [List.length_set]); omega) ?_
  try rw [List.set_set]
  rw [mh_s hP rfl rfl]
  simp only [Nat.reduceSub, List.set_cons_zero, List.set_cons_succ]
  refine x_aload_n (pc := 26) C (dq D_Model_expand 19 rfl) rfl ?_
  refine x_get (pc := 27) (ci := 1) (j := 1) C (dq D_Model_expand 20 rfl) rfl rfl (by first | exact mo hP | exact ma hP rfl rfl) rfl k_fl_Model_7 ?_
  refine x_iload_n (pc := 30) C (dq D_Model_expand 21 rfl) rfl ?_
  refine x_iconst (pc := 31) C (dq D_Model_expand 22 rfl) ci_3 ?_
  refine n_iadd (pc := 32) C (dq D_Model_expand 23 rfl) ?_
  refine x_iload (pc := 33) C (dq D_Model_expand 24 rfl) rfl ?_
  refine x_iast (pc := 35) C (dq D_Model_expand 25 rfl) (by first | exact mo hP | exact ma hP rfl rfl) (by (try simp only [List.length_set]); omega) ?_
  try rw [List.set_set]
  rw [mh_s hP rfl rfl]
  simp only [Nat.reduceSub, List.set_cons_zero, List.set_cons_succ]
  refine x_iconst (pc := 36) C (dq D_Model_expand 26 rfl) ci_1 ?_
  refine x_istore (i := 6) (pc := 37) C (dq D_Model_expand 27 rfl) rfl rfl rfl ?_
  simp only [List.set_cons_zero, List.set_cons_succ]
  refine x_iconst (pc := 39) C (dq D_Model_expand 28 rfl) ci_4 ?_
  refine x_istore (i := 7) (pc := 40) C (dq D_Model_expand 29 rfl) rfl rfl rfl ?_
  simp only [List.set_cons_zero, List.set_cons_succ]
  exact loop 40 4 (1, mk4 f0 a b c d W) none rfl (by omega) ⟨show 1 < 256 by omega, hm4.1, hm4.2⟩ (by rw [mky])
theorem cm_thrown {g : Gp} {P S : Hp} {cd ni no nt nr nl : Nat} {W T U IN OUT IS IB BL MV ROW TX MA SM KP : List Nat} (hP : P.length = 44) : Con g M_Model_thrown 0 (0, 0) [.ref (zA (gz g) 44)] (mh g P cd ni no nt nr nl [W, T, U, IN, OUT, IS, IB, BL, MV, ROW, TX, MA, SM, KP] S) (Ret (some (.int (nI cd))) (mh g P cd ni no nt nr nl [W, T, U, IN, OUT, IS, IB, BL, MV, ROW, TX, MA, SM, KP] S)) := by
  refine Con.of (by decide) rfl rfl (L := [some (.ref (zA (gz g) 44))]) rfl (fun f C => ?_)
  refine x_aload_n (pc := 0) C (dq D_Model_thrown 0 rfl) rfl ?_
  refine x_get (pc := 1) (ci := 1) (j := 0) C (dq D_Model_thrown 1 rfl) rfl rfl (mo hP) rfl k_fl_Model_64 ?_
  exact x_iret (pc := 4) C (dq D_Model_thrown 2 rfl) rfl (by decide) ⟨rfl, rfl⟩
theorem cm_size {g : Gp} {P S : Hp} {cd ni no nt nr nl : Nat} {W T U IN OUT IS IB BL MV ROW TX MA SM KP : List Nat} (hP : P.length = 44) : Con g M_Model_size 0 (0, 0) [.ref (zA (gz g) 44)] (mh g P cd ni no nt nr nl [W, T, U, IN, OUT, IS, IB, BL, MV, ROW, TX, MA, SM, KP] S) (Ret (some (.int (nI no))) (mh g P 0 ni no nt nr nl [W, T, U, IN, OUT, IS, IB, BL, MV, ROW, TX, MA, SM, KP] S)) := by
  refine Con.of (by decide) rfl rfl (L := [some (.ref (zA (gz g) 44))]) rfl (fun f C => ?_)
  refine x_aload_n (pc := 0) C (dq D_Model_size 0 rfl) rfl ?_
  refine x_iconst (pc := 1) C (dq D_Model_size 1 rfl) ci_0 ?_
  refine x_put (pc := 2) (ci := 1) (j := 0) (ty := .int) C (dq D_Model_size 2 rfl) rfl rfl (mo hP) rfl k_fl_Model_64 (Or.inl rfl) (by decide +kernel) rfl rfl ?_
  simp only [List.set_cons_zero, List.set_cons_succ]
  rw [mh_p hP]
  refine x_aload_n (pc := 5) C (dq D_Model_size 3 rfl) rfl ?_
  refine x_get (pc := 6) (ci := 1) (j := 6) C (dq D_Model_size 4 rfl) rfl rfl (mo hP) rfl k_fl_Model_136 ?_
  exact x_iret (pc := 9) C (dq D_Model_size 5 rfl) rfl (by decide) ⟨rfl, rfl⟩
theorem cm_drop {g : Gp} {P S : Hp} {cd ni no nt nr nl : Nat} {W T U IN OUT IS IB BL MV ROW TX MA SM KP : List Nat} (hP : P.length = 44) : Con g M_Model_drop 0 (0, 0) [.ref (zA (gz g) 44)] (mh g P cd ni no nt nr nl [W, T, U, IN, OUT, IS, IB, BL, MV, ROW, TX, MA, SM, KP] S) (Ret none (mh g P 0 0 no nt nr nl [W, T, U, IN, OUT, IS, IB, BL, MV, ROW, TX, MA, SM, KP] S)) := by
  refine Con.of (by decide) rfl rfl (L := [some (.ref (zA (gz g) 44))]) rfl (fun f C => ?_)
  refine x_aload_n (pc := 0) C (dq D_Model_drop 0 rfl) rfl ?_
  refine x_iconst (pc := 1) C (dq D_Model_drop 1 rfl) ci_0 ?_
  refine x_put (pc := 2) (ci := 1) (j := 0) (ty := .int) C (dq D_Model_drop 2 rfl) rfl rfl (mo hP) rfl k_fl_Model_64 (Or.inl rfl) (by decide +kernel) rfl rfl ?_
  simp only [List.set_cons_zero, List.set_cons_succ]
  rw [mh_p hP]
  refine x_aload_n (pc := 5) C (dq D_Model_drop 3 rfl) rfl ?_
  refine x_iconst (pc := 6) C (dq D_Model_drop 4 rfl) ci_0 ?_
  refine x_put (pc := 7) (ci := 1) (j := 4) (ty := .int) C (dq D_Model_drop 5 rfl) rfl rfl (mo hP) rfl k_fl_Model_133 (Or.inl rfl) (by decide +kernel) rfl rfl ?_
  simp only [List.set_cons_zero, List.set_cons_succ]
  rw [mh_p hP]
  exact x_vret (pc := 10) C (dq D_Model_drop 6 rfl) rfl (by decide) ⟨rfl, rfl⟩
theorem cm_forget {g : Gp} {P S : Hp} {cd ni no nt nr nl : Nat} {W T U IN OUT IS IB BL MV ROW TX MA SM KP : List Nat} (hP : P.length = 44) : Con g M_Model_forget 0 (0, 0) [.ref (zA (gz g) 44)] (mh g P cd ni no nt nr nl [W, T, U, IN, OUT, IS, IB, BL, MV, ROW, TX, MA, SM, KP] S) (Ret (some (.int (nI nt))) (mh g P 0 ni no 0 nr nl [W, T, U, IN, OUT, IS, IB, BL, MV, ROW, TX, MA, SM, KP] S)) := by
  refine Con.of (by decide) rfl rfl (L := [some (.ref (zA (gz g) 44)), none]) rfl (fun f C => ?_)
  refine x_aload_n (pc := 0) C (dq D_Model_forget 0 rfl) rfl ?_
  refine x_iconst (pc := 1) C (dq D_Model_forget 1 rfl) ci_0 ?_
  refine x_put (pc := 2) (ci := 1) (j := 0) (ty := .int) C (dq D_Model_forget 2 rfl) rfl rfl (mo hP) rfl k_fl_Model_64 (Or.inl rfl) (by decide +kernel) rfl rfl ?_
  simp only [List.set_cons_zero, List.set_cons_succ]
  rw [mh_p hP]
  refine x_aload_n (pc := 5) C (dq D_Model_forget 3 rfl) rfl ?_
  refine x_get (pc := 6) (ci := 1) (j := 8) C (dq D_Model_forget 4 rfl) rfl rfl (mo hP) rfl k_fl_Model_94 ?_
  refine x_istore_n (i := 1) (pc := 9) C (dq D_Model_forget 5 rfl) rfl rfl rfl ?_
  simp only [List.set_cons_zero, List.set_cons_succ]
  refine x_aload_n (pc := 10) C (dq D_Model_forget 6 rfl) rfl ?_
  refine x_iconst (pc := 11) C (dq D_Model_forget 7 rfl) ci_0 ?_
  refine x_put (pc := 12) (ci := 1) (j := 8) (ty := .int) C (dq D_Model_forget 8 rfl) rfl rfl (mo hP) rfl k_fl_Model_94 (Or.inl rfl) (by decide +kernel) rfl rfl ?_
  simp only [List.set_cons_zero, List.set_cons_succ]
  rw [mh_p hP]
  refine x_iload_n (pc := 15) C (dq D_Model_forget 9 rfl) rfl ?_
  exact x_iret (pc := 16) C (dq D_Model_forget 10 rfl) rfl (by decide) ⟨rfl, rfl⟩
theorem cm_take {g : Gp} {P S : Hp} {cd ni no nt nr nl : Nat} {W T U IN OUT IS IB BL MV ROW TX MA SM KP : List Nat} (hP : P.length = 44) (hI : IN.length = 88) (hO : OUT.length = 112) (hn : no ≤ 88) : Con g M_Model_take 0 (0, 0) [.ref (zA (gz g) 44)] (mh g P cd ni no nt nr nl [W, T, U, IN, OUT, IS, IB, BL, MV, ROW, TX, MA, SM, KP] S) (Ret (some (.int (nI no))) (mh g P 0 no no nt nr nl [W, T, U, (it (cp1 OUT) 0 no IN), OUT, IS, IB, BL, MV, ROW, TX, MA, SM, KP] S)) := by
  refine Con.of (by decide) rfl rfl (L := [some (.ref (zA (gz g) 44)), none]) rfl (fun f C => ?_)
  have loop : ∀ (d k : Nat) (R : List Nat), k + d = no → R.length = 88 → X g f M_Model_take (0, 0) (Ret (some (.int (nI no))) (mh g P 0 no no nt nr nl [W, T, U, (it (cp1 OUT) k d R), OUT, IS, IB, BL, MV, ROW, TX, MA, SM, KP] S)) (0, 0) 15 [some (.ref (zA (gz g) 44)), some (.int (nI k))] [] (mh g P 0 no no nt nr nl [W, T, U, R, OUT, IS, IB, BL, MV, ROW, TX, MA, SM, KP] S) := by
    intro d
    induction d with
    | zero =>
      intro k R hkd hR
      refine x_iload_n (pc := 15) C (dq D_Model_take 9 rfl) rfl ?_
      refine x_aload_n (pc := 16) C (dq D_Model_take 10 rfl) rfl ?_
      refine x_get (pc := 17) (ci := 1) (j := 6) C (dq D_Model_take 11 rfl) rfl rfl (mo hP) rfl k_fl_Model_136 ?_
      refine n_ge_t (pc := 20) (tgt := 41) C (dq D_Model_take 12 rfl) (by decide) (by omega) (by omega) ?_
      refine x_aload_n (pc := 41) C (dq D_Model_take 23 rfl) rfl ?_
      refine x_get (pc := 42) (ci := 1) (j := 4) C (dq D_Model_take 24 rfl) rfl rfl (mo hP) rfl k_fl_Model_133 ?_
      exact x_iret (pc := 45) C (dq D_Model_take 25 rfl) rfl (by decide) ⟨rfl, rfl⟩
    | succ d ih =>
      intro k R hkd hR
      refine x_iload_n (pc := 15) C (dq D_Model_take 9 rfl) rfl ?_
      refine x_aload_n (pc := 16) C (dq D_Model_take 10 rfl) rfl ?_
      refine x_get (pc := 17) (ci := 1) (j := 6) C (dq D_Model_take 11 rfl) rfl rfl (by first | exact mo hP | exact ma hP rfl rfl) rfl k_fl_Model_136 ?_
      refine n_ge_f (pc := 20) (tgt := 41) C (dq D_Model_take 12 rfl) (by decide) (by omega) (by omega) ?_
      refine x_aload_n (pc := 23) C (dq D_Model_take 13 rfl) rfl ?_
      refine x_get (pc := 24) (ci := 1) (j := 5) C (dq D_Model_take 14 rfl) rfl rfl (by first | exact mo hP | exact ma hP rfl rfl) rfl k_fl_Model_19 ?_
      refine x_iload_n (pc := 27) C (dq D_Model_take 15 rfl) rfl ?_
      refine x_aload_n (pc := 28) C (dq D_Model_take 16 rfl) rfl ?_
      refine x_get (pc := 29) (ci := 1) (j := 7) C (dq D_Model_take 17 rfl) rfl rfl (by first | exact mo hP | exact ma hP rfl rfl) rfl k_fl_Model_22 ?_
      refine x_iload_n (pc := 32) C (dq D_Model_take 18 rfl) rfl ?_
      refine x_iald (pc := 33) C (dq D_Model_take 19 rfl) (by first | exact mo hP | exact ma hP rfl rfl) (by (try simp only [List.length_set]); omega) ?_
      refine x_iast (pc := 34) C (dq D_Model_take 20 rfl) (by first | exact mo hP | exact ma hP rfl rfl) (by (try simp only [List.length_set]); omega) ?_
      try rw [List.set_set]
      refine x_iinc (pc := 35) C (dq D_Model_take 21 rfl) rfl (ii_1 _) rfl rfl ?_
      simp only [List.set_cons_zero, List.set_cons_succ]
      rw [mh_s hP rfl rfl]
      simp only [Nat.reduceSub, List.set_cons_zero, List.set_cons_succ]
      refine x_goto (pc := 38) (tgt := 15) C (dq D_Model_take 22 rfl) (by decide) ?_
      exact ih (k + 1) (cp1 OUT k R) (by omega) (by rw [cp1_len]; exact hR)
  refine x_aload_n (pc := 0) C (dq D_Model_take 0 rfl) rfl ?_
  refine x_iconst (pc := 1) C (dq D_Model_take 1 rfl) ci_0 ?_
  refine x_put (pc := 2) (ci := 1) (j := 0) (ty := .int) C (dq D_Model_take 2 rfl) rfl rfl (mo hP) rfl k_fl_Model_64 (Or.inl rfl) (by decide +kernel) rfl rfl ?_
  simp only [List.set_cons_zero, List.set_cons_succ]
  rw [mh_p hP]
  refine x_aload_n (pc := 5) C (dq D_Model_take 3 rfl) rfl ?_
  refine x_aload_n (pc := 6) C (dq D_Model_take 4 rfl) rfl ?_
  refine x_get (pc := 7) (ci := 1) (j := 6) C (dq D_Model_take 5 rfl) rfl rfl (mo hP) rfl k_fl_Model_136 ?_
  refine x_put (pc := 10) (ci := 1) (j := 4) (ty := .int) C (dq D_Model_take 6 rfl) rfl rfl (mo hP) rfl k_fl_Model_133 (Or.inl rfl) (by decide +kernel) rfl rfl ?_
  simp only [List.set_cons_zero, List.set_cons_succ]
  rw [mh_p hP]
  refine x_iconst (pc := 13) C (dq D_Model_take 7 rfl) ci_0 ?_
  refine x_istore_n (i := 1) (pc := 14) C (dq D_Model_take 8 rfl) rfl rfl rfl ?_
  simp only [List.set_cons_zero, List.set_cons_succ]
  exact loop no 0 IN (by omega) hI
theorem cm_at_ok {g : Gp} {P S : Hp} {cd ni no nt nr nl : Nat} {W T U IN OUT IS IB BL MV ROW TX MA SM KP : List Nat} {k : Nat} (hP : P.length = 44) (hO : OUT.length = 112) (hk : k < no) (hn : no ≤ 88) : Con g M_Model_at 0 (0, 0) [.ref (zA (gz g) 44), .int (nI k)] (mh g P cd ni no nt nr nl [W, T, U, IN, OUT, IS, IB, BL, MV, ROW, TX, MA, SM, KP] S) (Ret (some (.int (nI (OUT.getD k 0)))) (mh g P 0 ni no nt nr nl [W, T, U, IN, OUT, IS, IB, BL, MV, ROW, TX, MA, SM, KP] S)) := by
  refine Con.of (by decide) rfl rfl (L := [some (.ref (zA (gz g) 44)), some (.int (nI k))]) rfl (fun f C => ?_)
  refine x_aload_n (pc := 0) C (dq D_Model_at 0 rfl) rfl ?_
  refine x_iload_n (pc := 1) C (dq D_Model_at 1 rfl) rfl ?_
  refine n_iflt_f (pc := 2) (tgt := 13) C (dq D_Model_at 2 rfl) (by decide) (by omega) (by omega) ?_
  refine x_iload_n (pc := 5) C (dq D_Model_at 3 rfl) rfl ?_
  refine x_aload_n (pc := 6) C (dq D_Model_at 4 rfl) rfl ?_
  refine x_get (pc := 7) (ci := 1) (j := 6) C (dq D_Model_at 5 rfl) rfl rfl (mo hP) rfl k_fl_Model_136 ?_
  refine n_lt_t (pc := 10) (tgt := 17) C (dq D_Model_at 6 rfl) (by decide) (by omega) (by omega) ?_
  refine x_iconst (pc := 17) C (dq D_Model_at 9 rfl) ci_0 ?_
  refine x_put (pc := 18) (ci := 1) (j := 0) (ty := .int) C (dq D_Model_at 10 rfl) rfl rfl (mo hP) rfl k_fl_Model_64 (Or.inl rfl) (by decide +kernel) rfl rfl ?_
  simp only [List.set_cons_zero, List.set_cons_succ]
  rw [mh_p hP]
  refine x_aload_n (pc := 21) C (dq D_Model_at 11 rfl) rfl ?_
  refine x_get (pc := 22) (ci := 1) (j := 0) C (dq D_Model_at 12 rfl) rfl rfl (by first | exact mo hP | exact ma hP rfl rfl) rfl k_fl_Model_64 ?_
  refine n_ifle_t (pc := 25) (tgt := 32) C (dq D_Model_at 13 rfl) (by decide) (by omega) (by omega) ?_
  refine x_aload_n (pc := 32) C (dq D_Model_at 16 rfl) rfl ?_
  refine x_get (pc := 33) (ci := 1) (j := 7) C (dq D_Model_at 17 rfl) rfl rfl (by first | exact mo hP | exact ma hP rfl rfl) rfl k_fl_Model_22 ?_
  refine x_iload_n (pc := 36) C (dq D_Model_at 18 rfl) rfl ?_
  refine x_iald (pc := 37) C (dq D_Model_at 19 rfl) (by first | exact mo hP | exact ma hP rfl rfl) (by (try simp only [List.length_set]); omega) ?_
  exact x_iret (pc := 38) C (dq D_Model_at 20 rfl) rfl (by decide) ⟨rfl, rfl⟩
theorem cm_at_bad {g : Gp} {P S : Hp} {cd ni no nt nr nl : Nat} {W T U IN OUT IS IB BL MV ROW TX MA SM KP : List Nat} {x : Int32} (hP : P.length = 44) (hx : x < 0 ∨ nI no ≤ x) : Con g M_Model_at 0 (0, 0) [.ref (zA (gz g) 44), .int x] (mh g P cd ni no nt nr nl [W, T, U, IN, OUT, IS, IB, BL, MV, ROW, TX, MA, SM, KP] S) (Ret (some (.int (nI 0))) (mh g P 1 ni no nt nr nl [W, T, U, IN, OUT, IS, IB, BL, MV, ROW, TX, MA, SM, KP] S)) := by
  refine Con.of (by decide) rfl rfl (L := [some (.ref (zA (gz g) 44)), some (.int x)]) rfl (fun f C => ?_)
  have bad : X g f M_Model_at (0, 0) (Ret (some (.int (nI 0))) (mh g P 1 ni no nt nr nl [W, T, U, IN, OUT, IS, IB, BL, MV, ROW, TX, MA, SM, KP] S)) (0, 0) 13 [some (.ref (zA (gz g) 44)), some (.int x)] [.ref (zA (gz g) 44)] (mh g P cd ni no nt nr nl [W, T, U, IN, OUT, IS, IB, BL, MV, ROW, TX, MA, SM, KP] S) := by
    refine x_iconst (pc := 13) C (dq D_Model_at 7 rfl) ci_1 ?_
    refine x_goto (pc := 14) (tgt := 18) C (dq D_Model_at 8 rfl) (by decide) ?_
    refine x_put (pc := 18) (ci := 1) (j := 0) (ty := .int) C (dq D_Model_at 10 rfl) rfl rfl (mo hP) rfl k_fl_Model_64 (Or.inl rfl) (by decide +kernel) rfl rfl ?_
    simp only [List.set_cons_zero, List.set_cons_succ]
    rw [mh_p hP]
    refine x_aload_n (pc := 21) C (dq D_Model_at 11 rfl) rfl ?_
    refine x_get (pc := 22) (ci := 1) (j := 0) C (dq D_Model_at 12 rfl) rfl rfl (mo hP) rfl k_fl_Model_64 ?_
    refine n_ifle_f (pc := 25) (tgt := 32) C (dq D_Model_at 13 rfl) (by decide) (by omega) (by omega) ?_
    refine x_iconst (pc := 28) C (dq D_Model_at 14 rfl) ci_0 ?_
    refine x_goto (pc := 29) (tgt := 38) C (dq D_Model_at 15 rfl) (by decide) ?_
    exact x_iret (pc := 38) C (dq D_Model_at 20 rfl) rfl (by decide) ⟨rfl, rfl⟩
  refine x_aload_n (pc := 0) C (dq D_Model_at 0 rfl) rfl ?_
  refine x_iload_n (pc := 1) C (dq D_Model_at 1 rfl) rfl ?_
  refine x_iflt (pc := 2) (tgt := 13) C (dq D_Model_at 2 rfl) (by decide) (fun hq => ?_) (fun hq => ?_)
  · exact bad
  · have hq0 := hq
    refine x_iload_n (pc := 5) C (dq D_Model_at 3 rfl) rfl ?_
    refine x_aload_n (pc := 6) C (dq D_Model_at 4 rfl) rfl ?_
    refine x_get (pc := 7) (ci := 1) (j := 6) C (dq D_Model_at 5 rfl) rfl rfl (mo hP) rfl k_fl_Model_136 ?_
    refine x_lt (pc := 10) (tgt := 17) C (dq D_Model_at 6 rfl) (by decide) (fun hq => ?_) (fun hq => ?_)
    · exact absurd hx (fun z => z.elim hq0 (fun y => Int32.not_lt.mpr y hq))
    · exact bad
end
section
theorem nI_1' : nI 1 = 1 := rfl
theorem cm_key_ok {g : Gp} {P S : Hp} {cd ni no nt nr nl : Nat} {W T U IN OUT IS IB BL MV ROW TX MA SM KP : List Nat} {w a b c d : Nat} (hP : P.length = 44) (hW : W.length = 88 ∧ by32 W) (hT : T.length = 256 ∧ by8 T) (hw : w < 2) (ha : a < 2 ^ 32) (hb : b < 2 ^ 32) (hc : c < 2 ^ 32) (hd : d < 2 ^ 32) :
    Con g M_Model_key 2 (0, 0) [.ref (zA (gz g) 44), .int (nI w), .int (nI a), .int (nI b), .int (nI c), .int (nI d)] (mh g P cd ni no nt nr nl [W, T, U, IN, OUT, IS, IB, BL, MV, ROW, TX, MA, SM, KP] S) (Ret none (mh g P 0 ni no nt nr nl [(mky T (44 * w) a b c d W), T, U, IN, OUT, IS, IB, BL, MV, ROW, TX, MA, SM, KP] S)) := by
  refine Con.of (by decide) rfl rfl (L := [some (.ref (zA (gz g) 44)), some (.int (nI w)), some (.int (nI a)), some (.int (nI b)), some (.int (nI c)), some (.int (nI d))]) rfl (fun f C => ?_)
  refine x_aload_n (pc := 0) C (dq D_Model_key 0 rfl) rfl ?_
  refine x_iload_n (pc := 1) C (dq D_Model_key 1 rfl) rfl ?_
  refine n_iflt_f (pc := 2) (tgt := 10) C (dq D_Model_key 2 rfl) (by decide) (by omega) (by omega) ?_
  refine x_iload_n (pc := 5) C (dq D_Model_key 3 rfl) rfl ?_
  refine x_iconst (pc := 6) C (dq D_Model_key 4 rfl) ci_1 ?_
  refine n_le_t (pc := 7) (tgt := 14) C (dq D_Model_key 5 rfl) (by decide) (by omega) (by omega) ?_
  refine x_iconst (pc := 14) C (dq D_Model_key 8 rfl) ci_0 ?_
  refine x_put (pc := 15) (ci := 1) (j := 0) (ty := .int) C (dq D_Model_key 9 rfl) rfl rfl (mo hP) rfl k_fl_Model_64 (Or.inl rfl) (by decide +kernel) rfl rfl ?_
  simp only [List.set_cons_zero, List.set_cons_succ]
  rw [mh_p hP]
  refine x_aload_n (pc := 18) C (dq D_Model_key 10 rfl) rfl ?_
  refine x_get (pc := 19) (ci := 1) (j := 0) C (dq D_Model_key 11 rfl) rfl rfl (mo hP) rfl k_fl_Model_64 ?_
  refine n_ifne_f (pc := 22) (tgt := 39) C (dq D_Model_key 12 rfl) (by decide) (by omega) (by omega) ?_
  refine x_aload_n (pc := 25) C (dq D_Model_key 13 rfl) rfl ?_
  refine x_bipush (pc := 26) C (dq D_Model_key 14 rfl) cb_44 ?_
  refine x_iload_n (pc := 28) C (dq D_Model_key 15 rfl) rfl ?_
  refine n_imul (pc := 29) C (dq D_Model_key 16 rfl) ?_
  refine x_iload_n (pc := 30) C (dq D_Model_key 17 rfl) rfl ?_
  refine x_iload_n (pc := 31) C (dq D_Model_key 18 rfl) rfl ?_
  refine x_iload (pc := 32) C (dq D_Model_key 19 rfl) rfl ?_
  refine x_iload (pc := 34) C (dq D_Model_key 20 rfl) rfl ?_
  refine x_cV0 (pc := 36) (ci := 1) (M := M_Model_expand) C (dq D_Model_key 21 rfl) k_ml_Model_60 m_Model_expand rfl rfl (mo hP) (cm_expand hP hW hT (by omega) ha hb hc hd) rfl rfl rfl rfl (by decide) ?_
  exact x_vret (pc := 39) C (dq D_Model_key 22 rfl) rfl (by decide) ⟨rfl, rfl⟩
theorem cm_key_bad {g : Gp} {P S : Hp} {cd ni no nt nr nl : Nat} {W T U IN OUT IS IB BL MV ROW TX MA SM KP : List Nat} {x y1 y2 y3 y4 : Int32} (hP : P.length = 44) (hx : x < 0 ∨ ¬ x ≤ nI 1) :
    Con g M_Model_key 2 (0, 0) [.ref (zA (gz g) 44), .int x, .int y1, .int y2, .int y3, .int y4] (mh g P cd ni no nt nr nl [W, T, U, IN, OUT, IS, IB, BL, MV, ROW, TX, MA, SM, KP] S) (Ret none (mh g P 1 ni no nt nr nl [W, T, U, IN, OUT, IS, IB, BL, MV, ROW, TX, MA, SM, KP] S)) := by
  refine Con.of (by decide) rfl rfl (L := [some (.ref (zA (gz g) 44)), some (.int x), some (.int y1), some (.int y2), some (.int y3), some (.int y4)]) rfl (fun f C => ?_)
  have bad : X g f M_Model_key (0, 0) (Ret none (mh g P 1 ni no nt nr nl [W, T, U, IN, OUT, IS, IB, BL, MV, ROW, TX, MA, SM, KP] S)) (0, 0) 10 [some (.ref (zA (gz g) 44)), some (.int x), some (.int y1), some (.int y2), some (.int y3), some (.int y4)] [.ref (zA (gz g) 44)] (mh g P cd ni no nt nr nl [W, T, U, IN, OUT, IS, IB, BL, MV, ROW, TX, MA, SM, KP] S) := by
    refine x_iconst (pc := 10) C (dq D_Model_key 6 rfl) ci_1 ?_
    refine x_goto (pc := 11) (tgt := 15) C (dq D_Model_key 7 rfl) (by decide) ?_
    refine x_put (pc := 15) (ci := 1) (j := 0) (ty := .int) C (dq D_Model_key 9 rfl) rfl rfl (mo hP) rfl k_fl_Model_64 (Or.inl rfl) (by decide +kernel) rfl rfl ?_
    simp only [List.set_cons_zero, List.set_cons_succ]
    rw [mh_p hP]
    refine x_aload_n (pc := 18) C (dq D_Model_key 10 rfl) rfl ?_
    refine x_get (pc := 19) (ci := 1) (j := 0) C (dq D_Model_key 11 rfl) rfl rfl (mo hP) rfl k_fl_Model_64 ?_
    refine n_ifne_t (pc := 22) (tgt := 39) C (dq D_Model_key 12 rfl) (by decide) (by omega) (by omega) ?_
    exact x_vret (pc := 39) C (dq D_Model_key 22 rfl) rfl (by decide) ⟨rfl, rfl⟩
  refine x_aload_n (pc := 0) C (dq D_Model_key 0 rfl) rfl ?_
  refine x_iload_n (pc := 1) C (dq D_Model_key 1 rfl) rfl ?_
  refine x_iflt (pc := 2) (tgt := 10) C (dq D_Model_key 2 rfl) (by decide) (fun hq => ?_) (fun hq => ?_)
  · exact bad
  · have hq0 := hq
    refine x_iload_n (pc := 5) C (dq D_Model_key 3 rfl) rfl ?_
    refine x_iconst (pc := 6) C (dq D_Model_key 4 rfl) ci_1 ?_
    refine x_le (pc := 7) (tgt := 14) C (dq D_Model_key 5 rfl) (by decide) (fun hq => ?_) (fun hq => ?_)
    · exact absurd hx (fun z => z.elim hq0 (fun y => y hq))
    · exact bad
/-- bytes of a word behind the input -/
def fdm (w n k : Nat) (R : List Nat) : List Nat := R.set (n + k) (bo w k)
theorem fdm_len (w n k : Nat) (R : List Nat) : (fdm w n k R).length = R.length := List.length_set
theorem cm_feed_ok {g : Gp} {P S : Hp} {cd ni no nt nr nl : Nat} {W T U IN OUT IS IB BL MV ROW TX MA SM KP : List Nat} {w n : Nat} (hP : P.length = 44) (hI : IN.length = 88) (hw : w < 2 ^ 32) (hn : 1 ≤ n ∧ n ≤ 4) (hni : ni + n ≤ 88) :
    Con g M_Model_feed 0 (0, 0) [.ref (zA (gz g) 44), .int (nI w), .int (nI n)] (mh g P cd ni no nt nr nl [W, T, U, IN, OUT, IS, IB, BL, MV, ROW, TX, MA, SM, KP] S) (Ret (some (.int (nI (ni + n)))) (mh g P 0 (ni + n) no nt nr nl [W, T, U, (it (fdm w ni) 0 n IN), OUT, IS, IB, BL, MV, ROW, TX, MA, SM, KP] S)) := by
  refine Con.of (by decide) rfl rfl (L := [some (.ref (zA (gz g) 44)), some (.int (nI w)), some (.int (nI n)), none]) rfl (fun f C => ?_)
  have loop : ∀ (d k : Nat) (R : List Nat), k + d = n → R.length = 88 → X g f M_Model_feed (0, 0) (Ret (some (.int (nI (ni + n)))) (mh g P 0 (ni + n) no nt nr nl [W, T, U, (it (fdm w ni) k d R), OUT, IS, IB, BL, MV, ROW, TX, MA, SM, KP] S)) (0, 0) 45 [some (.ref (zA (gz g) 44)), some (.int (nI w)), some (.int (nI n)), some (.int (nI k))] [] (mh g P 0 (ni + k) no nt nr nl [W, T, U, R, OUT, IS, IB, BL, MV, ROW, TX, MA, SM, KP] S) := by
    intro d
    induction d with
    | zero =>
      intro k R hkd hR
      obtain rfl : k = n := by omega
      refine x_iload_n (pc := 45) C (dq D_Model_feed 26 rfl) rfl ?_
      refine x_iload_n (pc := 46) C (dq D_Model_feed 27 rfl) rfl ?_
      refine n_ge_t (pc := 47) (tgt := 88) C (dq D_Model_feed 28 rfl) (by decide) (by omega) (by omega) ?_
      refine x_aload_n (pc := 88) C (dq D_Model_feed 51 rfl) rfl ?_
      refine x_get (pc := 89) (ci := 1) (j := 4) C (dq D_Model_feed 52 rfl) rfl rfl (mo hP) rfl k_fl_Model_133 ?_
      exact x_iret (pc := 92) C (dq D_Model_feed 53 rfl) rfl (by decide) ⟨rfl, rfl⟩
    | succ d ih =>
      intro k R hkd hR
      refine x_iload_n (pc := 45) C (dq D_Model_feed 26 rfl) rfl ?_
      refine x_iload_n (pc := 46) C (dq D_Model_feed 27 rfl) rfl ?_
      refine n_ge_f (pc := 47) (tgt := 88) C (dq D_Model_feed 28 rfl) (by decide) (by omega) (by omega) ?_
      refine x_aload_n (pc := 50) C (dq D_Model_feed 29 rfl) rfl ?_
      refine x_get (pc := 51) (ci := 1) (j := 5) C (dq D_Model_feed 30 rfl) rfl rfl (by first | exact mo hP | exact ma hP rfl rfl) rfl k_fl_Model_19 ?_
      refine x_aload_n (pc := 54) C (dq D_Model_feed 31 rfl) rfl ?_
      refine x_get (pc := 55) (ci := 1) (j := 4) C (dq D_Model_feed 32 rfl) rfl rfl (by first | exact mo hP | exact ma hP rfl rfl) rfl k_fl_Model_133 ?_
      refine x_iload_n (pc := 58) C (dq D_Model_feed 33 rfl) rfl ?_
      refine x_bipush (pc := 59) C (dq D_Model_feed 34 rfl) cb_24 ?_
      refine x_bipush (pc := 61) C (dq D_Model_feed 35 rfl) cb_8 ?_
      refine x_iload_n (pc := 63) C (dq D_Model_feed 36 rfl) rfl ?_
      refine n_imul (pc := 64) C (dq D_Model_feed 37 rfl) ?_
      refine n_isub (pc := 65) C (dq D_Model_feed 38 rfl) (by omega) ?_
      refine x_ishr (pc := 66) C (dq D_Model_feed 39 rfl) ?_
      refine x_sipush (pc := 67) C (dq D_Model_feed 40 rfl) cs_255 ?_
      refine x_iand (pc := 70) C (dq D_Model_feed 41 rfl) ?_
      rw [ws255 hw (by omega)]
      refine x_iast (pc := 71) C (dq D_Model_feed 42 rfl) (by first | exact mo hP | exact ma hP rfl rfl) (by (try simp only [List.length_set]); omega) ?_
      try rw [List.set_set]
      rw [mh_s hP rfl rfl]
      simp only [Nat.reduceSub, List.set_cons_zero, List.set_cons_succ]
      refine x_aload_n (pc := 72) C (dq D_Model_feed 43 rfl) rfl ?_
      refine x_dup (pc := 73) C (dq D_Model_feed 44 rfl) rfl ?_
      refine x_get (pc := 74) (ci := 1) (j := 4) C (dq D_Model_feed 45 rfl) rfl rfl (mo hP) rfl k_fl_Model_133 ?_
      refine x_iconst (pc := 77) C (dq D_Model_feed 46 rfl) ci_1 ?_
      refine n_iadd (pc := 78) C (dq D_Model_feed 47 rfl) ?_
      refine x_put (pc := 79) (ci := 1) (j := 4) (ty := .int) C (dq D_Model_feed 48 rfl) rfl rfl (mo hP) rfl k_fl_Model_133 (Or.inl rfl) (by decide +kernel) rfl rfl ?_
      simp only [List.set_cons_zero, List.set_cons_succ]
      rw [mh_p hP]
      refine x_iinc (pc := 82) C (dq D_Model_feed 49 rfl) rfl (ii_1 _) rfl rfl ?_
      simp only [List.set_cons_zero, List.set_cons_succ]
      refine x_goto (pc := 85) (tgt := 45) C (dq D_Model_feed 50 rfl) (by decide) ?_
      exact ih (k + 1) (fdm w ni k R) (by omega) (by rw [fdm_len]; exact hR)
  refine x_aload_n (pc := 0) C (dq D_Model_feed 0 rfl) rfl ?_
  refine x_iload_n (pc := 1) C (dq D_Model_feed 1 rfl) rfl ?_
  refine x_iconst (pc := 2) C (dq D_Model_feed 2 rfl) ci_1 ?_
  refine n_lt_f (pc := 3) (tgt := 11) C (dq D_Model_feed 3 rfl) (by decide) (by omega) (by omega) ?_
  refine x_iload_n (pc := 6) C (dq D_Model_feed 4 rfl) rfl ?_
  refine x_iconst (pc := 7) C (dq D_Model_feed 5 rfl) ci_4 ?_
  refine n_le_t (pc := 8) (tgt := 15) C (dq D_Model_feed 6 rfl) (by decide) (by omega) (by omega) ?_
  refine x_aload_n (pc := 15) C (dq D_Model_feed 9 rfl) rfl ?_
  refine x_get (pc := 16) (ci := 1) (j := 4) C (dq D_Model_feed 10 rfl) rfl rfl (mo hP) rfl k_fl_Model_133 ?_
  refine x_iload_n (pc := 19) C (dq D_Model_feed 11 rfl) rfl ?_
  refine n_iadd (pc := 20) C (dq D_Model_feed 12 rfl) ?_
  refine x_bipush (pc := 21) C (dq D_Model_feed 13 rfl) cb_88 ?_
  refine n_le_t (pc := 23) (tgt := 30) C (dq D_Model_feed 14 rfl) (by decide) (by omega) (by omega) ?_
  refine x_iconst (pc := 30) C (dq D_Model_feed 17 rfl) ci_0 ?_
  refine x_put (pc := 31) (ci := 1) (j := 0) (ty := .int) C (dq D_Model_feed 18 rfl) rfl rfl (mo hP) rfl k_fl_Model_64 (Or.inl rfl) (by decide +kernel) rfl rfl ?_
  simp only [List.set_cons_zero, List.set_cons_succ]
  rw [mh_p hP]
  refine x_aload_n (pc := 34) C (dq D_Model_feed 19 rfl) rfl ?_
  refine x_get (pc := 35) (ci := 1) (j := 0) C (dq D_Model_feed 20 rfl) rfl rfl (mo hP) rfl k_fl_Model_64 ?_
  refine n_ifle_t (pc := 38) (tgt := 43) C (dq D_Model_feed 21 rfl) (by decide) (by omega) (by omega) ?_
  refine x_iconst (pc := 43) C (dq D_Model_feed 24 rfl) ci_0 ?_
  refine x_istore_n (i := 3) (pc := 44) C (dq D_Model_feed 25 rfl) rfl rfl rfl ?_
  simp only [List.set_cons_zero, List.set_cons_succ]
  exact loop n 0 IN (by omega) hI
theorem cm_feed_full {g : Gp} {P S : Hp} {cd ni no nt nr nl : Nat} {W T U IN OUT IS IB BL MV ROW TX MA SM KP : List Nat} {n : Nat} {x : Int32} (hP : P.length = 44) (hn : 1 ≤ n ∧ n ≤ 4) (hni : 88 < ni + n ∧ ni ≤ 88) :
    Con g M_Model_feed 0 (0, 0) [.ref (zA (gz g) 44), .int x, .int (nI n)] (mh g P cd ni no nt nr nl [W, T, U, IN, OUT, IS, IB, BL, MV, ROW, TX, MA, SM, KP] S) (Ret (some (.int (nI 0))) (mh g P 2 ni no nt nr nl [W, T, U, IN, OUT, IS, IB, BL, MV, ROW, TX, MA, SM, KP] S)) := by
  refine Con.of (by decide) rfl rfl (L := [some (.ref (zA (gz g) 44)), some (.int x), some (.int (nI n)), none]) rfl (fun f C => ?_)
  refine x_aload_n (pc := 0) C (dq D_Model_feed 0 rfl) rfl ?_
  refine x_iload_n (pc := 1) C (dq D_Model_feed 1 rfl) rfl ?_
  refine x_iconst (pc := 2) C (dq D_Model_feed 2 rfl) ci_1 ?_
  refine n_lt_f (pc := 3) (tgt := 11) C (dq D_Model_feed 3 rfl) (by decide) (by omega) (by omega) ?_
  refine x_iload_n (pc := 6) C (dq D_Model_feed 4 rfl) rfl ?_
  refine x_iconst (pc := 7) C (dq D_Model_feed 5 rfl) ci_4 ?_
  refine n_le_t (pc := 8) (tgt := 15) C (dq D_Model_feed 6 rfl) (by decide) (by omega) (by omega) ?_
  refine x_aload_n (pc := 15) C (dq D_Model_feed 9 rfl) rfl ?_
  refine x_get (pc := 16) (ci := 1) (j := 4) C (dq D_Model_feed 10 rfl) rfl rfl (mo hP) rfl k_fl_Model_133 ?_
  refine x_iload_n (pc := 19) C (dq D_Model_feed 11 rfl) rfl ?_
  refine n_iadd (pc := 20) C (dq D_Model_feed 12 rfl) ?_
  refine x_bipush (pc := 21) C (dq D_Model_feed 13 rfl) cb_88 ?_
  refine n_le_f (pc := 23) (tgt := 30) C (dq D_Model_feed 14 rfl) (by decide) (by omega) (by omega) ?_
  refine x_iconst (pc := 26) C (dq D_Model_feed 15 rfl) ci_2 ?_
  refine x_goto (pc := 27) (tgt := 31) C (dq D_Model_feed 16 rfl) (by decide) ?_
  refine x_put (pc := 31) (ci := 1) (j := 0) (ty := .int) C (dq D_Model_feed 18 rfl) rfl rfl (mo hP) rfl k_fl_Model_64 (Or.inl rfl) (by decide +kernel) rfl rfl ?_
  simp only [List.set_cons_zero, List.set_cons_succ]
  rw [mh_p hP]
  refine x_aload_n (pc := 34) C (dq D_Model_feed 19 rfl) rfl ?_
  refine x_get (pc := 35) (ci := 1) (j := 0) C (dq D_Model_feed 20 rfl) rfl rfl (mo hP) rfl k_fl_Model_64 ?_
  refine n_ifle_f (pc := 38) (tgt := 43) C (dq D_Model_feed 21 rfl) (by decide) (by omega) (by omega) ?_
  refine x_iconst (pc := 41) C (dq D_Model_feed 22 rfl) ci_0 ?_
  exact x_iret (pc := 42) C (dq D_Model_feed 23 rfl) rfl (by decide) ⟨rfl, rfl⟩
theorem cm_feed_bad {g : Gp} {P S : Hp} {cd ni no nt nr nl : Nat} {W T U IN OUT IS IB BL MV ROW TX MA SM KP : List Nat} {x y : Int32} (hP : P.length = 44) (hx : y < nI 1 ∨ ¬ y ≤ nI 4) :
    Con g M_Model_feed 0 (0, 0) [.ref (zA (gz g) 44), .int x, .int y] (mh g P cd ni no nt nr nl [W, T, U, IN, OUT, IS, IB, BL, MV, ROW, TX, MA, SM, KP] S) (Ret (some (.int (nI 0))) (mh g P 1 ni no nt nr nl [W, T, U, IN, OUT, IS, IB, BL, MV, ROW, TX, MA, SM, KP] S)) := by
  refine Con.of (by decide) rfl rfl (L := [some (.ref (zA (gz g) 44)), some (.int x), some (.int y), none]) rfl (fun f C => ?_)
  have bad : X g f M_Model_feed (0, 0) (Ret (some (.int (nI 0))) (mh g P 1 ni no nt nr nl [W, T, U, IN, OUT, IS, IB, BL, MV, ROW, TX, MA, SM, KP] S)) (0, 0) 11 [some (.ref (zA (gz g) 44)), some (.int x), some (.int y), none] [.ref (zA (gz g) 44)] (mh g P cd ni no nt nr nl [W, T, U, IN, OUT, IS, IB, BL, MV, ROW, TX, MA, SM, KP] S) := by
    refine x_iconst (pc := 11) C (dq D_Model_feed 7 rfl) ci_1 ?_
    refine x_goto (pc := 12) (tgt := 31) C (dq D_Model_feed 8 rfl) (by decide) ?_
    refine x_put (pc := 31) (ci := 1) (j := 0) (ty := .int) C (dq D_Model_feed 18 rfl) rfl rfl (mo hP) rfl k_fl_Model_64 (Or.inl rfl) (by decide +kernel) rfl rfl ?_
    simp only [List.set_cons_zero, List.set_cons_succ]
    rw [mh_p hP]
    refine x_aload_n (pc := 34) C (dq D_Model_feed 19 rfl) rfl ?_
    refine x_get (pc := 35) (ci := 1) (j := 0) C (dq D_Model_feed 20 rfl) rfl rfl (mo hP) rfl k_fl_Model_64 ?_
    refine n_ifle_f (pc := 38) (tgt := 43) C (dq D_Model_feed 21 rfl) (by decide) (by omega) (by omega) ?_
    refine x_iconst (pc := 41) C (dq D_Model_feed 22 rfl) ci_0 ?_
    exact x_iret (pc := 42) C (dq D_Model_feed 23 rfl) rfl (by decide) ⟨rfl, rfl⟩
  refine x_aload_n (pc := 0) C (dq D_Model_feed 0 rfl) rfl ?_
  refine x_iload_n (pc := 1) C (dq D_Model_feed 1 rfl) rfl ?_
  refine x_iconst (pc := 2) C (dq D_Model_feed 2 rfl) ci_1 ?_
  refine x_lt (pc := 3) (tgt := 11) C (dq D_Model_feed 3 rfl) (by decide) (fun hq => ?_) (fun hq => ?_)
  · exact bad
  · have hq0 := hq
    refine x_iload_n (pc := 6) C (dq D_Model_feed 4 rfl) rfl ?_
    refine x_iconst (pc := 7) C (dq D_Model_feed 5 rfl) ci_4 ?_
    refine x_le (pc := 8) (tgt := 15) C (dq D_Model_feed 6 rfl) (by decide) (fun hq => ?_) (fun hq => ?_)
    · exact absurd hx (fun z => z.elim hq0 (fun y => y hq))
    · exact bad
theorem cm_alter_ok {g : Gp} {P S : Hp} {cd ni no nt nr nl : Nat} {W T U IN OUT IS IB BL MV ROW TX MA SM KP : List Nat} {k v : Nat} (hP : P.length = 44) (hI : IN.length = 88) (hk : k < ni) (hn : ni ≤ 88) (hv : v < 256) :
    Con g M_Model_alter 0 (0, 0) [.ref (zA (gz g) 44), .int (nI k), .int (nI v)] (mh g P cd ni no nt nr nl [W, T, U, IN, OUT, IS, IB, BL, MV, ROW, TX, MA, SM, KP] S) (Ret none (mh g P 0 ni no nt nr nl [W, T, U, (IN.set k v), OUT, IS, IB, BL, MV, ROW, TX, MA, SM, KP] S)) := by
  refine Con.of (by decide) rfl rfl (L := [some (.ref (zA (gz g) 44)), some (.int (nI k)), some (.int (nI v))]) rfl (fun f C => ?_)
  refine x_aload_n (pc := 0) C (dq D_Model_alter 0 rfl) rfl ?_
  refine x_iload_n (pc := 1) C (dq D_Model_alter 1 rfl) rfl ?_
  refine n_iflt_f (pc := 2) (tgt := 13) C (dq D_Model_alter 2 rfl) (by decide) (by omega) (by omega) ?_
  refine x_iload_n (pc := 5) C (dq D_Model_alter 3 rfl) rfl ?_
  refine x_aload_n (pc := 6) C (dq D_Model_alter 4 rfl) rfl ?_
  refine x_get (pc := 7) (ci := 1) (j := 4) C (dq D_Model_alter 5 rfl) rfl rfl (mo hP) rfl k_fl_Model_133 ?_
  refine n_lt_t (pc := 10) (tgt := 17) C (dq D_Model_alter 6 rfl) (by decide) (by omega) (by omega) ?_
  refine x_iload_n (pc := 17) C (dq D_Model_alter 9 rfl) rfl ?_
  refine n_iflt_f (pc := 18) (tgt := 28) C (dq D_Model_alter 10 rfl) (by decide) (by omega) (by omega) ?_
  refine x_iload_n (pc := 21) C (dq D_Model_alter 11 rfl) rfl ?_
  refine x_sipush (pc := 22) C (dq D_Model_alter 12 rfl) cs_255 ?_
  refine n_le_t (pc := 25) (tgt := 32) C (dq D_Model_alter 13 rfl) (by decide) (by omega) (by omega) ?_
  refine x_iconst (pc := 32) C (dq D_Model_alter 16 rfl) ci_0 ?_
  refine x_put (pc := 33) (ci := 1) (j := 0) (ty := .int) C (dq D_Model_alter 17 rfl) rfl rfl (mo hP) rfl k_fl_Model_64 (Or.inl rfl) (by decide +kernel) rfl rfl ?_
  simp only [List.set_cons_zero, List.set_cons_succ]
  rw [mh_p hP]
  refine x_aload_n (pc := 36) C (dq D_Model_alter 18 rfl) rfl ?_
  refine x_get (pc := 37) (ci := 1) (j := 0) C (dq D_Model_alter 19 rfl) rfl rfl (by first | exact mo hP | exact ma hP rfl rfl) rfl k_fl_Model_64 ?_
  refine n_ifne_f (pc := 40) (tgt := 50) C (dq D_Model_alter 20 rfl) (by decide) (by omega) (by omega) ?_
  refine x_aload_n (pc := 43) C (dq D_Model_alter 21 rfl) rfl ?_
  refine x_get (pc := 44) (ci := 1) (j := 5) C (dq D_Model_alter 22 rfl) rfl rfl (by first | exact mo hP | exact ma hP rfl rfl) rfl k_fl_Model_19 ?_
  refine x_iload_n (pc := 47) C (dq D_Model_alter 23 rfl) rfl ?_
  refine x_iload_n (pc := 48) C (dq D_Model_alter 24 rfl) rfl ?_
  refine x_iast (pc := 49) C (dq D_Model_alter 25 rfl) (by first | exact mo hP | exact ma hP rfl rfl) (by (try simp only [List.length_set]); omega) ?_
  try rw [List.set_set]
  rw [mh_s hP rfl rfl]
  simp only [Nat.reduceSub, List.set_cons_zero, List.set_cons_succ]
  exact x_vret (pc := 50) C (dq D_Model_alter 26 rfl) rfl (by decide) ⟨rfl, rfl⟩
theorem cm_alter_bad {g : Gp} {P S : Hp} {cd ni no nt nr nl : Nat} {W T U IN OUT IS IB BL MV ROW TX MA SM KP : List Nat} {x y : Int32} (hP : P.length = 44) (hx : x < 0 ∨ nI ni ≤ x) :
    Con g M_Model_alter 0 (0, 0) [.ref (zA (gz g) 44), .int x, .int y] (mh g P cd ni no nt nr nl [W, T, U, IN, OUT, IS, IB, BL, MV, ROW, TX, MA, SM, KP] S) (Ret none (mh g P 1 ni no nt nr nl [W, T, U, IN, OUT, IS, IB, BL, MV, ROW, TX, MA, SM, KP] S)) := by
  refine Con.of (by decide) rfl rfl (L := [some (.ref (zA (gz g) 44)), some (.int x), some (.int y)]) rfl (fun f C => ?_)
  have bad : X g f M_Model_alter (0, 0) (Ret none (mh g P 1 ni no nt nr nl [W, T, U, IN, OUT, IS, IB, BL, MV, ROW, TX, MA, SM, KP] S)) (0, 0) 13 [some (.ref (zA (gz g) 44)), some (.int x), some (.int y)] [.ref (zA (gz g) 44)] (mh g P cd ni no nt nr nl [W, T, U, IN, OUT, IS, IB, BL, MV, ROW, TX, MA, SM, KP] S) := by
    refine x_iconst (pc := 13) C (dq D_Model_alter 7 rfl) ci_1 ?_
    refine x_goto (pc := 14) (tgt := 33) C (dq D_Model_alter 8 rfl) (by decide) ?_
    refine x_put (pc := 33) (ci := 1) (j := 0) (ty := .int) C (dq D_Model_alter 17 rfl) rfl rfl (mo hP) rfl k_fl_Model_64 (Or.inl rfl) (by decide +kernel) rfl rfl ?_
    simp only [List.set_cons_zero, List.set_cons_succ]
    rw [mh_p hP]
    refine x_aload_n (pc := 36) C (dq D_Model_alter 18 rfl) rfl ?_
    refine x_get (pc := 37) (ci := 1) (j := 0) C (dq D_Model_alter 19 rfl) rfl rfl (mo hP) rfl k_fl_Model_64 ?_
    refine n_ifne_t (pc := 40) (tgt := 50) C (dq D_Model_alter 20 rfl) (by decide) (by omega) (by omega) ?_
    exact x_vret (pc := 50) C (dq D_Model_alter 26 rfl) rfl (by decide) ⟨rfl, rfl⟩
  refine x_aload_n (pc := 0) C (dq D_Model_alter 0 rfl) rfl ?_
  refine x_iload_n (pc := 1) C (dq D_Model_alter 1 rfl) rfl ?_
  refine x_iflt (pc := 2) (tgt := 13) C (dq D_Model_alter 2 rfl) (by decide) (fun hq => ?_) (fun hq => ?_)
  · exact bad
  · have hq0 := hq
    refine x_iload_n (pc := 5) C (dq D_Model_alter 3 rfl) rfl ?_
    refine x_aload_n (pc := 6) C (dq D_Model_alter 4 rfl) rfl ?_
    refine x_get (pc := 7) (ci := 1) (j := 4) C (dq D_Model_alter 5 rfl) rfl rfl (mo hP) rfl k_fl_Model_133 ?_
    refine x_lt (pc := 10) (tgt := 17) C (dq D_Model_alter 6 rfl) (by decide) (fun hq => ?_) (fun hq => ?_)
    · exact absurd hx (fun z => z.elim hq0 (fun y => Int32.not_lt.mpr y hq))
    · exact bad
theorem cm_alter_byte {g : Gp} {P S : Hp} {cd ni no nt nr nl : Nat} {W T U IN OUT IS IB BL MV ROW TX MA SM KP : List Nat} {k : Nat} {y : Int32} (hP : P.length = 44) (hk : k < ni) (hn : ni ≤ 88) (hy : y < 0 ∨ ¬ y ≤ nI 255) :
    Con g M_Model_alter 0 (0, 0) [.ref (zA (gz g) 44), .int (nI k), .int y] (mh g P cd ni no nt nr nl [W, T, U, IN, OUT, IS, IB, BL, MV, ROW, TX, MA, SM, KP] S) (Ret none (mh g P 2 ni no nt nr nl [W, T, U, IN, OUT, IS, IB, BL, MV, ROW, TX, MA, SM, KP] S)) := by
  refine Con.of (by decide) rfl rfl (L := [some (.ref (zA (gz g) 44)), some (.int (nI k)), some (.int y)]) rfl (fun f C => ?_)
  have bad : X g f M_Model_alter (0, 0) (Ret none (mh g P 2 ni no nt nr nl [W, T, U, IN, OUT, IS, IB, BL, MV, ROW, TX, MA, SM, KP] S)) (0, 0) 28 [some (.ref (zA (gz g) 44)), some (.int (nI k)), some (.int y)] [.ref (zA (gz g) 44)] (mh g P cd ni no nt nr nl [W, T, U, IN, OUT, IS, IB, BL, MV, ROW, TX, MA, SM, KP] S) := by
    refine x_iconst (pc := 28) C (dq D_Model_alter 14 rfl) ci_2 ?_
    refine x_goto (pc := 29) (tgt := 33) C (dq D_Model_alter 15 rfl) (by decide) ?_
    refine x_put (pc := 33) (ci := 1) (j := 0) (ty := .int) C (dq D_Model_alter 17 rfl) rfl rfl (mo hP) rfl k_fl_Model_64 (Or.inl rfl) (by decide +kernel) rfl rfl ?_
    simp only [List.set_cons_zero, List.set_cons_succ]
    rw [mh_p hP]
    refine x_aload_n (pc := 36) C (dq D_Model_alter 18 rfl) rfl ?_
    refine x_get (pc := 37) (ci := 1) (j := 0) C (dq D_Model_alter 19 rfl) rfl rfl (mo hP) rfl k_fl_Model_64 ?_
    refine n_ifne_t (pc := 40) (tgt := 50) C (dq D_Model_alter 20 rfl) (by decide) (by omega) (by omega) ?_
    exact x_vret (pc := 50) C (dq D_Model_alter 26 rfl) rfl (by decide) ⟨rfl, rfl⟩
  refine x_aload_n (pc := 0) C (dq D_Model_alter 0 rfl) rfl ?_
  refine x_iload_n (pc := 1) C (dq D_Model_alter 1 rfl) rfl ?_
  refine n_iflt_f (pc := 2) (tgt := 13) C (dq D_Model_alter 2 rfl) (by decide) (by omega) (by omega) ?_
  refine x_iload_n (pc := 5) C (dq D_Model_alter 3 rfl) rfl ?_
  refine x_aload_n (pc := 6) C (dq D_Model_alter 4 rfl) rfl ?_
  refine x_get (pc := 7) (ci := 1) (j := 4) C (dq D_Model_alter 5 rfl) rfl rfl (mo hP) rfl k_fl_Model_133 ?_
  refine n_lt_t (pc := 10) (tgt := 17) C (dq D_Model_alter 6 rfl) (by decide) (by omega) (by omega) ?_
  refine x_iload_n (pc := 17) C (dq D_Model_alter 9 rfl) rfl ?_
  refine x_iflt (pc := 18) (tgt := 28) C (dq D_Model_alter 10 rfl) (by decide) (fun hq => ?_) (fun hq => ?_)
  · exact bad
  · have hq0 := hq
    refine x_iload_n (pc := 21) C (dq D_Model_alter 11 rfl) rfl ?_
    refine x_sipush (pc := 22) C (dq D_Model_alter 12 rfl) cs_255 ?_
    refine x_le (pc := 25) (tgt := 32) C (dq D_Model_alter 13 rfl) (by decide) (fun hq => ?_) (fun hq => ?_)
    · exact absurd hy (fun z => z.elim hq0 (fun y => y hq))
    · exact bad
/-- an item laid among the items -/
def itp (IN : List Nat) (i k : Nat) (R : List Nat) : List Nat := R.set (40 * i + k) (IN.getD k 0)
theorem itp_len (IN : List Nat) (i k : Nat) (R : List Nat) : (itp IN i k R).length = R.length := List.length_set
theorem cm_item_ok {g : Gp} {P S : Hp} {cd ni no nt nr nl : Nat} {W T U IN OUT IS IB BL MV ROW TX MA SM KP : List Nat} (hP : P.length = 44) (hI : IN.length = 88) (hB : IB.length = 200) (hS : IS.length = 5) (hn : ni ≤ 40) (ht : nt < 5) :
    Con g M_Model_item 0 (0, 0) [.ref (zA (gz g) 44)] (mh g P cd ni no nt nr nl [W, T, U, IN, OUT, IS, IB, BL, MV, ROW, TX, MA, SM, KP] S) (Ret (some (.int (nI (nt + 1)))) (mh g P 0 0 no (nt + 1) nr nl [W, T, U, IN, OUT, (IS.set nt ni), (it (itp IN nt) 0 ni IB), BL, MV, ROW, TX, MA, SM, KP] S)) := by
  refine Con.of (by decide) rfl rfl (L := [some (.ref (zA (gz g) 44)), none]) rfl (fun f C => ?_)
  have loop : ∀ (d k : Nat) (R : List Nat), k + d = ni → R.length = 200 → X g f M_Model_item (0, 0) (Ret (some (.int (nI (nt + 1)))) (mh g P 0 0 no (nt + 1) nr nl [W, T, U, IN, OUT, (IS.set nt ni), (it (itp IN nt) k d R), BL, MV, ROW, TX, MA, SM, KP] S)) (0, 0) 54 [some (.ref (zA (gz g) 44)), some (.int (nI k))] [] (mh g P 0 ni no nt nr nl [W, T, U, IN, OUT, (IS.set nt ni), R, BL, MV, ROW, TX, MA, SM, KP] S) := by
    intro d
    induction d with
    | zero =>
      intro k R hkd hR
      refine x_iload_n (pc := 54) C (dq D_Model_item 29 rfl) rfl ?_
      refine x_aload_n (pc := 55) C (dq D_Model_item 30 rfl) rfl ?_
      refine x_get (pc := 56) (ci := 1) (j := 4) C (dq D_Model_item 31 rfl) rfl rfl (mo hP) rfl k_fl_Model_133 ?_
      refine n_ge_t (pc := 59) (tgt := 88) C (dq D_Model_item 32 rfl) (by decide) (by omega) (by omega) ?_
      refine x_aload_n (pc := 88) C (dq D_Model_item 48 rfl) rfl ?_
      refine x_dup (pc := 89) C (dq D_Model_item 49 rfl) rfl ?_
      refine x_get (pc := 90) (ci := 1) (j := 8) C (dq D_Model_item 50 rfl) rfl rfl (mo hP) rfl k_fl_Model_94 ?_
      refine x_iconst (pc := 93) C (dq D_Model_item 51 rfl) ci_1 ?_
      refine n_iadd (pc := 94) C (dq D_Model_item 52 rfl) ?_
      refine x_put (pc := 95) (ci := 1) (j := 8) (ty := .int) C (dq D_Model_item 53 rfl) rfl rfl (mo hP) rfl k_fl_Model_94 (Or.inl rfl) (by decide +kernel) rfl rfl ?_
      simp only [List.set_cons_zero, List.set_cons_succ]
      rw [mh_p hP]
      refine x_aload_n (pc := 98) C (dq D_Model_item 54 rfl) rfl ?_
      refine x_iconst (pc := 99) C (dq D_Model_item 55 rfl) ci_0 ?_
      refine x_put (pc := 100) (ci := 1) (j := 4) (ty := .int) C (dq D_Model_item 56 rfl) rfl rfl (mo hP) rfl k_fl_Model_133 (Or.inl rfl) (by decide +kernel) rfl rfl ?_
      simp only [List.set_cons_zero, List.set_cons_succ]
      rw [mh_p hP]
      refine x_aload_n (pc := 103) C (dq D_Model_item 57 rfl) rfl ?_
      refine x_get (pc := 104) (ci := 1) (j := 8) C (dq D_Model_item 58 rfl) rfl rfl (mo hP) rfl k_fl_Model_94 ?_
      exact x_iret (pc := 107) C (dq D_Model_item 59 rfl) rfl (by decide) ⟨rfl, rfl⟩
    | succ d ih =>
      intro k R hkd hR
      refine x_iload_n (pc := 54) C (dq D_Model_item 29 rfl) rfl ?_
      refine x_aload_n (pc := 55) C (dq D_Model_item 30 rfl) rfl ?_
      refine x_get (pc := 56) (ci := 1) (j := 4) C (dq D_Model_item 31 rfl) rfl rfl (by first | exact mo hP | exact ma hP rfl rfl) rfl k_fl_Model_133 ?_
      refine n_ge_f (pc := 59) (tgt := 88) C (dq D_Model_item 32 rfl) (by decide) (by omega) (by omega) ?_
      refine x_aload_n (pc := 62) C (dq D_Model_item 33 rfl) rfl ?_
      refine x_get (pc := 63) (ci := 1) (j := 10) C (dq D_Model_item 34 rfl) rfl rfl (by first | exact mo hP | exact ma hP rfl rfl) rfl k_fl_Model_28 ?_
      refine x_bipush (pc := 66) C (dq D_Model_item 35 rfl) cb_40 ?_
      refine x_aload_n (pc := 68) C (dq D_Model_item 36 rfl) rfl ?_
      refine x_get (pc := 69) (ci := 1) (j := 8) C (dq D_Model_item 37 rfl) rfl rfl (by first | exact mo hP | exact ma hP rfl rfl) rfl k_fl_Model_94 ?_
      refine n_imul (pc := 72) C (dq D_Model_item 38 rfl) ?_
      refine x_iload_n (pc := 73) C (dq D_Model_item 39 rfl) rfl ?_
      refine n_iadd (pc := 74) C (dq D_Model_item 40 rfl) ?_
      refine x_aload_n (pc := 75) C (dq D_Model_item 41 rfl) rfl ?_
      refine x_get (pc := 76) (ci := 1) (j := 5) C (dq D_Model_item 42 rfl) rfl rfl (by first | exact mo hP | exact ma hP rfl rfl) rfl k_fl_Model_19 ?_
      refine x_iload_n (pc := 79) C (dq D_Model_item 43 rfl) rfl ?_
      refine x_iald (pc := 80) C (dq D_Model_item 44 rfl) (by first | exact mo hP | exact ma hP rfl rfl) (by (try simp only [List.length_set]); omega) ?_
      refine x_iast (pc := 81) C (dq D_Model_item 45 rfl) (by first | exact mo hP | exact ma hP rfl rfl) (by (try simp only [List.length_set]); omega) ?_
      try rw [List.set_set]
      refine x_iinc (pc := 82) C (dq D_Model_item 46 rfl) rfl (ii_1 _) rfl rfl ?_
      simp only [List.set_cons_zero, List.set_cons_succ]
      rw [mh_s hP rfl rfl]
      simp only [Nat.reduceSub, List.set_cons_zero, List.set_cons_succ]
      refine x_goto (pc := 85) (tgt := 54) C (dq D_Model_item 47 rfl) (by decide) ?_
      exact ih (k + 1) (itp IN nt k R) (by omega) (by rw [itp_len]; exact hR)
  refine x_aload_n (pc := 0) C (dq D_Model_item 0 rfl) rfl ?_
  refine x_aload_n (pc := 1) C (dq D_Model_item 1 rfl) rfl ?_
  refine x_get (pc := 2) (ci := 1) (j := 4) C (dq D_Model_item 2 rfl) rfl rfl (mo hP) rfl k_fl_Model_133 ?_
  refine x_bipush (pc := 5) C (dq D_Model_item 3 rfl) cb_40 ?_
  refine n_le_t (pc := 7) (tgt := 14) C (dq D_Model_item 4 rfl) (by decide) (by omega) (by omega) ?_
  refine x_aload_n (pc := 14) C (dq D_Model_item 7 rfl) rfl ?_
  refine x_get (pc := 15) (ci := 1) (j := 8) C (dq D_Model_item 8 rfl) rfl rfl (mo hP) rfl k_fl_Model_94 ?_
  refine x_iconst (pc := 18) C (dq D_Model_item 9 rfl) ci_5 ?_
  refine n_ne_t (pc := 19) (tgt := 26) C (dq D_Model_item 10 rfl) (by decide) (by omega) (by omega) ?_
  refine x_iconst (pc := 26) C (dq D_Model_item 13 rfl) ci_0 ?_
  refine x_put (pc := 27) (ci := 1) (j := 0) (ty := .int) C (dq D_Model_item 14 rfl) rfl rfl (mo hP) rfl k_fl_Model_64 (Or.inl rfl) (by decide +kernel) rfl rfl ?_
  simp only [List.set_cons_zero, List.set_cons_succ]
  rw [mh_p hP]
  refine x_aload_n (pc := 30) C (dq D_Model_item 15 rfl) rfl ?_
  refine x_get (pc := 31) (ci := 1) (j := 0) C (dq D_Model_item 16 rfl) rfl rfl (by first | exact mo hP | exact ma hP rfl rfl) rfl k_fl_Model_64 ?_
  refine n_ifle_t (pc := 34) (tgt := 39) C (dq D_Model_item 17 rfl) (by decide) (by omega) (by omega) ?_
  refine x_aload_n (pc := 39) C (dq D_Model_item 20 rfl) rfl ?_
  refine x_get (pc := 40) (ci := 1) (j := 9) C (dq D_Model_item 21 rfl) rfl rfl (by first | exact mo hP | exact ma hP rfl rfl) rfl k_fl_Model_25 ?_
  refine x_aload_n (pc := 43) C (dq D_Model_item 22 rfl) rfl ?_
  refine x_get (pc := 44) (ci := 1) (j := 8) C (dq D_Model_item 23 rfl) rfl rfl (by first | exact mo hP | exact ma hP rfl rfl) rfl k_fl_Model_94 ?_
  refine x_aload_n (pc := 47) C (dq D_Model_item 24 rfl) rfl ?_
  refine x_get (pc := 48) (ci := 1) (j := 4) C (dq D_Model_item 25 rfl) rfl rfl (by first | exact mo hP | exact ma hP rfl rfl) rfl k_fl_Model_133 ?_
  refine x_iast (pc := 51) C (dq D_Model_item 26 rfl) (by first | exact mo hP | exact ma hP rfl rfl) (by (try simp only [List.length_set]); omega) ?_
  try rw [List.set_set]
  rw [mh_s hP rfl rfl]
  simp only [Nat.reduceSub, List.set_cons_zero, List.set_cons_succ]
  refine x_iconst (pc := 52) C (dq D_Model_item 27 rfl) ci_0 ?_
  refine x_istore_n (i := 1) (pc := 53) C (dq D_Model_item 28 rfl) rfl rfl rfl ?_
  simp only [List.set_cons_zero, List.set_cons_succ]
  exact loop ni 0 IB (by omega) hB
theorem cm_item_long {g : Gp} {P S : Hp} {cd ni no nt nr nl : Nat} {W T U IN OUT IS IB BL MV ROW TX MA SM KP : List Nat} (hP : P.length = 44) (hn : 40 < ni ∧ ni ≤ 88) :
    Con g M_Model_item 0 (0, 0) [.ref (zA (gz g) 44)] (mh g P cd ni no nt nr nl [W, T, U, IN, OUT, IS, IB, BL, MV, ROW, TX, MA, SM, KP] S) (Ret (some (.int (nI 0))) (mh g P 1 ni no nt nr nl [W, T, U, IN, OUT, IS, IB, BL, MV, ROW, TX, MA, SM, KP] S)) := by
  refine Con.of (by decide) rfl rfl (L := [some (.ref (zA (gz g) 44)), none]) rfl (fun f C => ?_)
  refine x_aload_n (pc := 0) C (dq D_Model_item 0 rfl) rfl ?_
  refine x_aload_n (pc := 1) C (dq D_Model_item 1 rfl) rfl ?_
  refine x_get (pc := 2) (ci := 1) (j := 4) C (dq D_Model_item 2 rfl) rfl rfl (mo hP) rfl k_fl_Model_133 ?_
  refine x_bipush (pc := 5) C (dq D_Model_item 3 rfl) cb_40 ?_
  refine n_le_f (pc := 7) (tgt := 14) C (dq D_Model_item 4 rfl) (by decide) (by omega) (by omega) ?_
  refine x_iconst (pc := 10) C (dq D_Model_item 5 rfl) ci_1 ?_
  refine x_goto (pc := 11) (tgt := 27) C (dq D_Model_item 6 rfl) (by decide) ?_
  refine x_put (pc := 27) (ci := 1) (j := 0) (ty := .int) C (dq D_Model_item 14 rfl) rfl rfl (mo hP) rfl k_fl_Model_64 (Or.inl rfl) (by decide +kernel) rfl rfl ?_
  simp only [List.set_cons_zero, List.set_cons_succ]
  rw [mh_p hP]
  refine x_aload_n (pc := 30) C (dq D_Model_item 15 rfl) rfl ?_
  refine x_get (pc := 31) (ci := 1) (j := 0) C (dq D_Model_item 16 rfl) rfl rfl (mo hP) rfl k_fl_Model_64 ?_
  refine n_ifle_f (pc := 34) (tgt := 39) C (dq D_Model_item 17 rfl) (by decide) (by omega) (by omega) ?_
  refine x_iconst (pc := 37) C (dq D_Model_item 18 rfl) ci_0 ?_
  exact x_iret (pc := 38) C (dq D_Model_item 19 rfl) rfl (by decide) ⟨rfl, rfl⟩
theorem cm_item_full {g : Gp} {P S : Hp} {cd ni no nt nr nl : Nat} {W T U IN OUT IS IB BL MV ROW TX MA SM KP : List Nat} (hP : P.length = 44) (hn : ni ≤ 40) (ht : nt = 5) :
    Con g M_Model_item 0 (0, 0) [.ref (zA (gz g) 44)] (mh g P cd ni no nt nr nl [W, T, U, IN, OUT, IS, IB, BL, MV, ROW, TX, MA, SM, KP] S) (Ret (some (.int (nI 0))) (mh g P 2 ni no nt nr nl [W, T, U, IN, OUT, IS, IB, BL, MV, ROW, TX, MA, SM, KP] S)) := by
  refine Con.of (by decide) rfl rfl (L := [some (.ref (zA (gz g) 44)), none]) rfl (fun f C => ?_)
  refine x_aload_n (pc := 0) C (dq D_Model_item 0 rfl) rfl ?_
  refine x_aload_n (pc := 1) C (dq D_Model_item 1 rfl) rfl ?_
  refine x_get (pc := 2) (ci := 1) (j := 4) C (dq D_Model_item 2 rfl) rfl rfl (mo hP) rfl k_fl_Model_133 ?_
  refine x_bipush (pc := 5) C (dq D_Model_item 3 rfl) cb_40 ?_
  refine n_le_t (pc := 7) (tgt := 14) C (dq D_Model_item 4 rfl) (by decide) (by omega) (by omega) ?_
  refine x_aload_n (pc := 14) C (dq D_Model_item 7 rfl) rfl ?_
  refine x_get (pc := 15) (ci := 1) (j := 8) C (dq D_Model_item 8 rfl) rfl rfl (mo hP) rfl k_fl_Model_94 ?_
  refine x_iconst (pc := 18) C (dq D_Model_item 9 rfl) ci_5 ?_
  refine n_ne_f (pc := 19) (tgt := 26) C (dq D_Model_item 10 rfl) (by decide) (by omega) (by omega) ?_
  refine x_iconst (pc := 22) C (dq D_Model_item 11 rfl) ci_2 ?_
  refine x_goto (pc := 23) (tgt := 27) C (dq D_Model_item 12 rfl) (by decide) ?_
  refine x_put (pc := 27) (ci := 1) (j := 0) (ty := .int) C (dq D_Model_item 14 rfl) rfl rfl (mo hP) rfl k_fl_Model_64 (Or.inl rfl) (by decide +kernel) rfl rfl ?_
  simp only [List.set_cons_zero, List.set_cons_succ]
  rw [mh_p hP]
  refine x_aload_n (pc := 30) C (dq D_Model_item 15 rfl) rfl ?_
  refine x_get (pc := 31) (ci := 1) (j := 0) C (dq D_Model_item 16 rfl) rfl rfl (mo hP) rfl k_fl_Model_64 ?_
  refine n_ifle_f (pc := 34) (tgt := 39) C (dq D_Model_item 17 rfl) (by decide) (by omega) (by omega) ?_
  refine x_iconst (pc := 37) C (dq D_Model_item 18 rfl) ci_0 ?_
  exact x_iret (pc := 38) C (dq D_Model_item 19 rfl) rfl (by decide) ⟨rfl, rfl⟩
end
section
/-! The reference's large calls: cipher, mark, seal, open; its scratch apart. -/
/-- the reference's cells, its scratch anyhow -/
def mok (g : Gp) (P S : Hp) (T U : List Nat) (cd ni no nt : Nat) (W IN OUT IS IB : List Nat) (h : Hp) : Prop :=
  ∃ (nr nl : Nat) (BL MV ROW TX MA SM KP : List Nat), bm16 (BL, MV) ∧ (ROW.length = 112 ∧ by8 ROW) ∧ (TX.length = 112 ∧ by8 TX) ∧ (MA.length = 16 ∧ by8 MA) ∧ (SM.length = 16 ∧ by8 SM) ∧ (KP.length = 16 ∧ by8 KP) ∧ h = mh g P cd ni no nt nr nl [W, T, U, IN, OUT, IS, IB, BL, MV, ROW, TX, MA, SM, KP] S
/-- what the reference holds between calls -/
def mst0 (T U : List Nat) (ni no nt : Nat) (W IN OUT IS IB : List Nat) : Prop :=
  (T.length = 256 ∧ by8 T) ∧ (U.length = 256 ∧ by8 U) ∧ (W.length = 88 ∧ by32 W) ∧ (IN.length = 88 ∧ by8 IN) ∧ (OUT.length = 112 ∧ by8 OUT) ∧ (IS.length = 5 ∧ ∀ i, IS.getD i 0 ≤ 40) ∧ (IB.length = 200 ∧ by8 IB) ∧ ni ≤ 88 ∧ no ≤ 88 ∧ nt ≤ 5
/-- a row that begins with the input -/
def rin (IN : List Nat) (ni : Nat) (R : List Nat) : Prop := R.length = 112 ∧ by8 R ∧ R.take ni = IN.take ni
theorem rin_begin {IN ROW : List Nat} {ni : Nat} (hI : IN.length = 88 ∧ by8 IN) (hR : ROW.length = 112 ∧ by8 ROW) (hn : ni ≤ 88) : rin IN ni (it (cp1 IN) 0 ni ROW) := by
  refine ⟨by rw [it_len (cp1_len IN)]; exact hR.1, cp1_8 hI.2 0 ni hR.2, ?_⟩
  have h := cp1_take (R := IN) ni 0 ROW (by omega) (by omega) (by simp)
  rw [Nat.zero_add] at h
  exact h
theorem show_take {R OUT : List Nat} {n : Nat} (hO : OUT.length = 112) (hR : R.length = 112) (hn : n ≤ 112) : (it (cp1 R) 0 n OUT).take n = R.take n := by
  have h := cp1_take (R := R) n 0 OUT (by omega) (by omega) (by simp)
  rw [Nat.zero_add] at h
  exact h
/-- an end of a call of the reference with a new output -/
def mout (g : Gp) (P S : Hp) (T U : List Nat) (ni nt : Nat) (W IN IS IB : List Nat) (r : Option Value) (n : Nat) (L : List Nat) : Outcome → Hp → Prop :=
  fun o h' => o = .returned r ∧ ∃ OUT', (OUT'.length = 112 ∧ by8 OUT') ∧ OUT'.take n = L ∧ mok g P S T U 0 ni n nt W IN OUT' IS IB h'
theorem cq_cipher {g : Gp} {P S : Hp} {T U : List Nat} {cd ni no nt : Nat} {W IN OUT IS IB : List Nat} {h : Hp} {bk : Nat} (hP : P.length = 44) (hs : mst0 T U ni no nt W IN OUT IS IB) (hm : mok g P S T U cd ni no nt W IN OUT IS IB h) (h16 : ni = 16) (hk : bk < 2) :
    Con g M_Model_cipher 3 (0, 0) [.ref (zA (gz g) 44), .int (nI bk)] h (mout g P S T U ni nt W IN IS IB none 16 (if bk = 0 then enc T W 0 (IN.take 16) else dec U W 0 (IN.take 16))) := by
  obtain ⟨nr, nl, BL, MV, ROW, TX, MA, SM, KP, hb, hR, hTX, hMA, hSM, hKP, rfl⟩ := hm
  obtain ⟨sT, sU, sW, sI, sO, sIS, sIB, sni, sno, snt⟩ := hs
  have hr := rin_begin sI hR sni
  generalize hR0 : it (cp1 IN) 0 ni ROW = R0 at hr
  have hr1 := hr.1
  refine Con.of (by decide) rfl rfl (L := [some (.ref (zA (gz g) 44)), some (.int (nI bk)), none]) rfl (fun f C => ?_)
  refine x_aload_n (pc := 0) C (dq D_Model_cipher 0 rfl) rfl ?_
  refine x_aload_n (pc := 1) C (dq D_Model_cipher 1 rfl) rfl ?_
  refine x_get (pc := 2) (ci := 1) (j := 4) C (dq D_Model_cipher 2 rfl) rfl rfl (mo hP) rfl k_fl_Model_133 ?_
  refine x_bipush (pc := 5) C (dq D_Model_cipher 3 rfl) cb_16 ?_
  refine n_eq_t (pc := 7) (tgt := 14) C (dq D_Model_cipher 4 rfl) (by decide) (by omega) (by omega) ?_
  refine x_iconst (pc := 14) C (dq D_Model_cipher 7 rfl) ci_0 ?_
  refine x_put (pc := 15) (ci := 1) (j := 0) (ty := .int) C (dq D_Model_cipher 8 rfl) rfl rfl (mo hP) rfl k_fl_Model_64 (Or.inl rfl) (by decide +kernel) rfl rfl ?_
  simp only [List.set_cons_zero, List.set_cons_succ]
  rw [mh_p hP]
  refine x_aload_n (pc := 18) C (dq D_Model_cipher 9 rfl) rfl ?_
  refine x_get (pc := 19) (ci := 1) (j := 0) C (dq D_Model_cipher 10 rfl) rfl rfl (mo hP) rfl k_fl_Model_64 ?_
  refine n_ifle_t (pc := 22) (tgt := 26) C (dq D_Model_cipher 11 rfl) (by decide) (by omega) (by omega) ?_
  refine x_aload_n (pc := 26) C (dq D_Model_cipher 13 rfl) rfl ?_
  refine x_cV0 (pc := 27) (ci := 1) (M := M_Model_begin) C (dq D_Model_cipher 14 rfl) k_ml_Model_139 m_Model_begin rfl rfl (mo hP) (cm_begin hP sI.1 sni hR.1) rfl rfl rfl rfl (by decide) ?_
  rw [hR0]
  refine x_aload_n (pc := 30) C (dq D_Model_cipher 15 rfl) rfl ?_
  refine x_iload_n (pc := 31) C (dq D_Model_cipher 16 rfl) rfl ?_
  refine x_cV (pc := 32) (ci := 1) (M := M_Model_single) C (dq D_Model_cipher 17 rfl) k_ml_Model_120 m_Model_single rfl rfl (mo hP) (cm_single hP sW sT sU hb ⟨hr.1, hr.2.1⟩ hk) rfl rfl rfl rfl (by decide) (fun o h2 hp => ?_)
  obtain ⟨rfl, B2, V2, hB2, rfl⟩ := hp
  refine ⟨none, rfl, ?_⟩
  have e0 : R0.take 16 = IN.take 16 := by have := hr.2.2; rw [h16] at this; exact this
  rw [e0]
  have ht : (IN.take 16).length = 16 := by rw [List.length_take, sI.1]; rfl
  have hK : (if bk = 0 then enc T W 0 (IN.take 16) else dec U W 0 (IN.take 16)).length = 16 ∧ by8 (if bk = 0 then enc T W 0 (IN.take 16) else dec U W 0 (IN.take 16)) := by
    split
    · exact enc_ok sT.2 W 0 ht (sI.2.take 16)
    · exact dec_ok sU.2 W 0 ht (sI.2.take 16)
  generalize (if bk = 0 then enc T W 0 (IN.take 16) else dec U W 0 (IN.take 16)) = K at hK ⊢
  obtain ⟨g1, g2⟩ := sgl_ok hK.2 hr.2.1
  have g3 : (sgl K R0).take 16 = K := by
    unfold sgl
    have h := cp1_take (R := K) 16 0 R0 (by omega) (by omega) (by simp)
    rw [Nat.zero_add, List.take_of_length_le (l := K) (by omega)] at h
    exact h
  show X g f M_Model_cipher (0, 0) (mout g P S T U ni nt W IN IS IB none 16 K) (0, 0) 35 [some (.ref (zA (gz g) 44)), some (.int (nI bk)), none] [] (mh g P 0 ni no nt ni nl [W, T, U, IN, OUT, IS, IB, B2, V2, sgl K R0, TX, MA, SM, KP] S)
  refine x_aload_n (pc := 35) C (dq D_Model_cipher 18 rfl) rfl ?_
  refine x_cV1 (pc := 36) (ci := 1) (M := M_Model_show) C (dq D_Model_cipher 19 rfl) k_ml_Model_142 m_Model_show rfl rfl (mo hP) (cm_show hP sO.1 sni (g1.trans hr.1)) rfl rfl rfl rfl (by decide) ?_
  rw [h16]
  refine x_istore_n (i := 2) (pc := 39) C (dq D_Model_cipher 20 rfl) rfl rfl rfl ?_
  simp only [List.set_cons_zero, List.set_cons_succ]
  exact x_vret (pc := 40) C (dq D_Model_cipher 21 rfl) rfl (by decide) ⟨rfl, _, ⟨by rw [it_len (cp1_len _)]; exact sO.1, cp1_8 g2 0 16 sO.2⟩, (show_take sO.1 (g1.trans hr.1) (by omega)).trans g3, 16, nl, B2, V2, _, TX, MA, SM, KP, hB2, ⟨g1.trans hr.1, g2⟩, hTX, hMA, hSM, hKP, rfl⟩
theorem cq_cipher_bad {g : Gp} {P S : Hp} {T U : List Nat} {cd ni no nt : Nat} {W IN OUT IS IB : List Nat} {h : Hp} {x : Int32} (hP : P.length = 44) (hm : mok g P S T U cd ni no nt W IN OUT IS IB h) (h16 : ni ≠ 16) (hn : ni ≤ 88) :
    Con g M_Model_cipher 3 (0, 0) [.ref (zA (gz g) 44), .int x] h (fun o h' => o = .returned none ∧ mok g P S T U 1 ni no nt W IN OUT IS IB h') := by
  obtain ⟨nr, nl, BL, MV, ROW, TX, MA, SM, KP, hb, hR, hTX, hMA, hSM, hKP, rfl⟩ := hm
  refine Con.of (by decide) rfl rfl (L := [some (.ref (zA (gz g) 44)), some (.int x), none]) rfl (fun f C => ?_)
  refine x_aload_n (pc := 0) C (dq D_Model_cipher 0 rfl) rfl ?_
  refine x_aload_n (pc := 1) C (dq D_Model_cipher 1 rfl) rfl ?_
  refine x_get (pc := 2) (ci := 1) (j := 4) C (dq D_Model_cipher 2 rfl) rfl rfl (mo hP) rfl k_fl_Model_133 ?_
  refine x_bipush (pc := 5) C (dq D_Model_cipher 3 rfl) cb_16 ?_
  refine n_eq_f (pc := 7) (tgt := 14) C (dq D_Model_cipher 4 rfl) (by decide) (by omega) (by omega) ?_
  refine x_iconst (pc := 10) C (dq D_Model_cipher 5 rfl) ci_1 ?_
  refine x_goto (pc := 11) (tgt := 15) C (dq D_Model_cipher 6 rfl) (by decide) ?_
  refine x_put (pc := 15) (ci := 1) (j := 0) (ty := .int) C (dq D_Model_cipher 8 rfl) rfl rfl (mo hP) rfl k_fl_Model_64 (Or.inl rfl) (by decide +kernel) rfl rfl ?_
  simp only [List.set_cons_zero, List.set_cons_succ]
  rw [mh_p hP]
  refine x_aload_n (pc := 18) C (dq D_Model_cipher 9 rfl) rfl ?_
  refine x_get (pc := 19) (ci := 1) (j := 0) C (dq D_Model_cipher 10 rfl) rfl rfl (mo hP) rfl k_fl_Model_64 ?_
  refine n_ifle_f (pc := 22) (tgt := 26) C (dq D_Model_cipher 11 rfl) (by decide) (by omega) (by omega) ?_
  exact x_vret (pc := 25) C (dq D_Model_cipher 12 rfl) rfl (by decide) ⟨rfl, nr, nl, BL, MV, ROW, TX, MA, SM, KP, hb, hR, hTX, hMA, hSM, hKP, rfl⟩
set_option maxHeartbeats 4000000 in
theorem cq_mark {g : Gp} {P S : Hp} {T U : List Nat} {cd ni no nt : Nat} {W IN OUT IS IB : List Nat} {h : Hp} {jt : Nat} (hP : P.length = 44) (hs : mst0 T U ni no nt W IN OUT IS IB) (hm : mok g P S T U cd ni no nt W IN OUT IS IB h) (hk : jt < 2) :
    Con g M_Model_mark 4 (0, 0) [.ref (zA (gz g) 44), .int (nI jt)] h (mout g P S T U ni nt W IN IS IB none 16 (if jt = 0 then mk T W (IN.take ni) else mjo T W IB IS nt (IN.take ni))) := by
  obtain ⟨nr, nl, BL, MV, ROW, TX, MA, SM, KP, hb, hR, hTX, hMA, hSM, hKP, rfl⟩ := hm
  obtain ⟨sT, sU, sW, sI, sO, sIS, sIB, sni, sno, snt⟩ := hs
  have hr := rin_begin sI hR sni
  generalize hR0 : it (cp1 IN) 0 ni ROW = R0 at hr
  have hr1 := hr.1
  have hLL : ((if jt = 0 then mk T W (IN.take ni) else mjo T W IB IS nt (IN.take ni))).length = 16 ∧ by8 (if jt = 0 then mk T W (IN.take ni) else mjo T W IB IS nt (IN.take ni)) := by
    split
    · exact mk_ok sT.2 W (sI.2.take ni)
    · exact mjo_ok sT.2 W IS sIB.2 nt (sI.2.take ni)
  refine Con.of (by decide) rfl rfl (L := [some (.ref (zA (gz g) 44)), some (.int (nI jt)), none]) rfl (fun f C => ?_)
  have out : ∀ (d k n : Nat) (B V Y Q A O : List Nat), k + d = 16 → A = (if jt = 0 then mk T W (IN.take ni) else mjo T W IB IS nt (IN.take ni)) → bm16 (B, V) → (Y.length = 112 ∧ by8 Y) → (Q.length = 16 ∧ by8 Q) → (O.length = 112 ∧ by8 O) → (it (cp1 A) k d O).take 16 = (if jt = 0 then mk T W (IN.take ni) else mjo T W IB IS nt (IN.take ni)) → X g f M_Model_mark (0, 0) (mout g P S T U ni nt W IN IS IB none 16 (if jt = 0 then mk T W (IN.take ni) else mjo T W IB IS nt (IN.take ni))) (0, 0) 68 [some (.ref (zA (gz g) 44)), some (.int (nI jt)), some (.int (nI k))] [] (mh g P 0 ni 16 nt ni n [W, T, U, IN, O, IS, IB, B, V, R0, Y, A, Q, KP] S) := by
    intro d
    induction d with
    | zero =>
      intro k n B V Y Q A O hkd hA hB hY hQ hO he
      rw [it_zero] at he
      refine x_iload_n (pc := 68) C (dq D_Model_mark 37 rfl) rfl ?_
      refine x_bipush (pc := 69) C (dq D_Model_mark 38 rfl) cb_16 ?_
      refine n_ge_t (pc := 71) (tgt := 92) C (dq D_Model_mark 39 rfl) (by decide) (by omega) (by omega) ?_
      exact x_vret (pc := 92) C (dq D_Model_mark 50 rfl) rfl (by decide) ⟨rfl, O, hO, he, ni, n, B, V, R0, Y, A, Q, KP, hB, ⟨hr.1, hr.2.1⟩, hY, by rw [hA]; exact hLL, hQ, hKP, rfl⟩
    | succ d ih =>
      intro k n B V Y Q A O hkd hA hB hY hQ hO he
      have hAl : A.length = 16 := by rw [hA]; exact hLL.1
      have hA8 : by8 A := by rw [hA]; exact hLL.2
      have hOl := hO.1
      refine x_iload_n (pc := 68) C (dq D_Model_mark 37 rfl) rfl ?_
      refine x_bipush (pc := 69) C (dq D_Model_mark 38 rfl) cb_16 ?_
      refine n_ge_f (pc := 71) (tgt := 92) C (dq D_Model_mark 39 rfl) (by decide) (by omega) (by omega) ?_
      refine x_aload_n (pc := 74) C (dq D_Model_mark 40 rfl) rfl ?_
      refine x_get (pc := 75) (ci := 1) (j := 7) C (dq D_Model_mark 41 rfl) rfl rfl (by first | exact mo hP | exact ma hP rfl rfl) rfl k_fl_Model_22 ?_
      refine x_iload_n (pc := 78) C (dq D_Model_mark 42 rfl) rfl ?_
      refine x_aload_n (pc := 79) C (dq D_Model_mark 43 rfl) rfl ?_
      refine x_get (pc := 80) (ci := 1) (j := 17) C (dq D_Model_mark 44 rfl) rfl rfl (by first | exact mo hP | exact ma hP rfl rfl) rfl k_fl_Model_43 ?_
      refine x_iload_n (pc := 83) C (dq D_Model_mark 45 rfl) rfl ?_
      refine x_iald (pc := 84) C (dq D_Model_mark 46 rfl) (by first | exact mo hP | exact ma hP rfl rfl) (by (try simp only [List.length_set]); omega) ?_
      refine x_iast (pc := 85) C (dq D_Model_mark 47 rfl) (by first | exact mo hP | exact ma hP rfl rfl) (by (try simp only [List.length_set]); omega) ?_
      try rw [List.set_set]
      refine x_iinc (pc := 86) C (dq D_Model_mark 48 rfl) rfl (ii_1 _) rfl rfl ?_
      simp only [List.set_cons_zero, List.set_cons_succ]
      rw [mh_s hP rfl rfl]
      simp only [Nat.reduceSub, List.set_cons_zero, List.set_cons_succ]
      refine x_goto (pc := 89) (tgt := 68) C (dq D_Model_mark 49 rfl) (by decide) ?_
      exact ih (k + 1) n B V Y Q A (cp1 A k O) (by omega) hA hB hY hQ ⟨by rw [cp1_len]; exact hO.1, hO.2.set (hA8.at _)⟩ he
  have last : ∀ (n : Nat) (B V Y Q A : List Nat) (l2 : Option Value), A = (if jt = 0 then mk T W (IN.take ni) else mjo T W IB IS nt (IN.take ni)) → bm16 (B, V) → (Y.length = 112 ∧ by8 Y) → (Q.length = 16 ∧ by8 Q) → X g f M_Model_mark (0, 0) (mout g P S T U ni nt W IN IS IB none 16 (if jt = 0 then mk T W (IN.take ni) else mjo T W IB IS nt (IN.take ni))) (0, 0) 60 [some (.ref (zA (gz g) 44)), some (.int (nI jt)), l2] [] (mh g P 0 ni no nt ni n [W, T, U, IN, OUT, IS, IB, B, V, R0, Y, A, Q, KP] S) := by
    intro n B V Y Q A l2 hA hB hY hQ
    refine x_aload_n (pc := 60) C (dq D_Model_mark 32 rfl) rfl ?_
    refine x_bipush (pc := 61) C (dq D_Model_mark 33 rfl) cb_16 ?_
    refine x_put (pc := 63) (ci := 1) (j := 6) (ty := .int) C (dq D_Model_mark 34 rfl) rfl rfl (mo hP) rfl k_fl_Model_136 (Or.inl rfl) (by decide +kernel) rfl rfl ?_
    simp only [List.set_cons_zero, List.set_cons_succ]
    rw [mh_p hP]
    refine x_iconst (pc := 66) C (dq D_Model_mark 35 rfl) ci_0 ?_
    refine x_istore_n (i := 2) (pc := 67) C (dq D_Model_mark 36 rfl) rfl rfl rfl ?_
    simp only [List.set_cons_zero, List.set_cons_succ]
    refine out 16 0 n B V Y Q A OUT rfl hA hB hY hQ sO ?_
    have hAl : A.length = 16 := by rw [hA]; exact hLL.1
    have h := cp1_take (R := A) 16 0 OUT (by omega) (by omega) (by simp)
    rw [Nat.zero_add, List.take_of_length_le (l := A) (by omega), hA] at h
    rw [hA]
    exact h
  have text : ∀ (d k : Nat) (Y : List Nat), jt = 0 → k + d = ni → (Y.length = 112 ∧ by8 Y) → (it (cp1 R0) k d Y).take ni = IN.take ni → X g f M_Model_mark (0, 0) (mout g P S T U ni nt W IN IS IB none 16 (if jt = 0 then mk T W (IN.take ni) else mjo T W IB IS nt (IN.take ni))) (0, 0) 30 [some (.ref (zA (gz g) 44)), some (.int (nI jt)), some (.int (nI k))] [] (mh g P 0 ni no nt ni ni [W, T, U, IN, OUT, IS, IB, BL, MV, R0, Y, MA, SM, KP] S) := by
    intro d
    induction d with
    | zero =>
      intro k Y h0 hkd hY he
      rw [it_zero] at he
      refine x_iload_n (pc := 30) C (dq D_Model_mark 16 rfl) rfl ?_
      refine x_aload_n (pc := 31) C (dq D_Model_mark 17 rfl) rfl ?_
      refine x_get (pc := 32) (ci := 1) (j := 13) C (dq D_Model_mark 18 rfl) rfl rfl (mo hP) rfl k_fl_Model_100 ?_
      refine n_ge_t (pc := 35) (tgt := 56) C (dq D_Model_mark 19 rfl) (by decide) (by omega) (by omega) ?_
      refine x_aload_n (pc := 56) C (dq D_Model_mark 30 rfl) rfl ?_
      refine x_cV (pc := 57) (ci := 1) (M := M_Model_markText) C (dq D_Model_mark 31 rfl) k_ml_Model_91 m_Model_markText rfl rfl (mo hP) (cm_markText hP sW sT sU hb hY hMA.1 sni) rfl rfl rfl rfl (by decide) (fun o h2 hp => ?_)
      obtain ⟨rfl, B2, V2, T2, q1, q2, q3, rfl⟩ := hp
      refine ⟨none, rfl, ?_⟩
      rw [mmk_mk hY.1 sni, he]
      exact last ni B2 V2 T2 SM _ _ (if_pos h0).symm q1 ⟨q2, q3⟩ hSM
    | succ d ih =>
      intro k Y h0 hkd hY he
      have hYl := hY.1
      refine x_iload_n (pc := 30) C (dq D_Model_mark 16 rfl) rfl ?_
      refine x_aload_n (pc := 31) C (dq D_Model_mark 17 rfl) rfl ?_
      refine x_get (pc := 32) (ci := 1) (j := 13) C (dq D_Model_mark 18 rfl) rfl rfl (by first | exact mo hP | exact ma hP rfl rfl) rfl k_fl_Model_100 ?_
      refine n_ge_f (pc := 35) (tgt := 56) C (dq D_Model_mark 19 rfl) (by decide) (by omega) (by omega) ?_
      refine x_aload_n (pc := 38) C (dq D_Model_mark 20 rfl) rfl ?_
      refine x_get (pc := 39) (ci := 1) (j := 16) C (dq D_Model_mark 21 rfl) rfl rfl (by first | exact mo hP | exact ma hP rfl rfl) rfl k_fl_Model_40 ?_
      refine x_iload_n (pc := 42) C (dq D_Model_mark 22 rfl) rfl ?_
      refine x_aload_n (pc := 43) C (dq D_Model_mark 23 rfl) rfl ?_
      refine x_get (pc := 44) (ci := 1) (j := 14) C (dq D_Model_mark 24 rfl) rfl rfl (by first | exact mo hP | exact ma hP rfl rfl) rfl k_fl_Model_37 ?_
      refine x_iload_n (pc := 47) C (dq D_Model_mark 25 rfl) rfl ?_
      refine x_iald (pc := 48) C (dq D_Model_mark 26 rfl) (by first | exact mo hP | exact ma hP rfl rfl) (by (try simp only [List.length_set]); omega) ?_
      refine x_iast (pc := 49) C (dq D_Model_mark 27 rfl) (by first | exact mo hP | exact ma hP rfl rfl) (by (try simp only [List.length_set]); omega) ?_
      try rw [List.set_set]
      refine x_iinc (pc := 50) C (dq D_Model_mark 28 rfl) rfl (ii_1 _) rfl rfl ?_
      simp only [List.set_cons_zero, List.set_cons_succ]
      rw [mh_s hP rfl rfl]
      simp only [Nat.reduceSub, List.set_cons_zero, List.set_cons_succ]
      refine x_goto (pc := 53) (tgt := 30) C (dq D_Model_mark 29 rfl) (by decide) ?_
      exact ih (k + 1) (cp1 R0 k Y) h0 (by omega) ⟨by rw [cp1_len]; exact hY.1, hY.2.set (hr.2.1.at _)⟩ he
  refine x_aload_n (pc := 0) C (dq D_Model_mark 0 rfl) rfl ?_
  refine x_iconst (pc := 1) C (dq D_Model_mark 1 rfl) ci_0 ?_
  refine x_put (pc := 2) (ci := 1) (j := 0) (ty := .int) C (dq D_Model_mark 2 rfl) rfl rfl (mo hP) rfl k_fl_Model_64 (Or.inl rfl) (by decide +kernel) rfl rfl ?_
  simp only [List.set_cons_zero, List.set_cons_succ]
  rw [mh_p hP]
  refine x_aload_n (pc := 5) C (dq D_Model_mark 3 rfl) rfl ?_
  refine x_cV0 (pc := 6) (ci := 1) (M := M_Model_begin) C (dq D_Model_mark 4 rfl) k_ml_Model_139 m_Model_begin rfl rfl (mo hP) (cm_begin hP sI.1 sni hR.1) rfl rfl rfl rfl (by decide) ?_
  rw [hR0]
  by_cases h0 : jt = 0
  · refine x_iload_n (pc := 9) C (dq D_Model_mark 5 rfl) rfl ?_
    refine n_ifeq_t (pc := 10) (tgt := 20) C (dq D_Model_mark 6 rfl) (by decide) (by omega) (by omega) ?_
    refine x_aload_n (pc := 20) C (dq D_Model_mark 10 rfl) rfl ?_
    refine x_aload_n (pc := 21) C (dq D_Model_mark 11 rfl) rfl ?_
    refine x_get (pc := 22) (ci := 1) (j := 13) C (dq D_Model_mark 12 rfl) rfl rfl (mo hP) rfl k_fl_Model_100 ?_
    refine x_put (pc := 25) (ci := 1) (j := 15) (ty := .int) C (dq D_Model_mark 13 rfl) rfl rfl (mo hP) rfl k_fl_Model_81 (Or.inl rfl) (by decide +kernel) rfl rfl ?_
    simp only [List.set_cons_zero, List.set_cons_succ]
    rw [mh_p hP]
    refine x_iconst (pc := 28) C (dq D_Model_mark 14 rfl) ci_0 ?_
    refine x_istore_n (i := 2) (pc := 29) C (dq D_Model_mark 15 rfl) rfl rfl rfl ?_
    simp only [List.set_cons_zero, List.set_cons_succ]
    refine text ni 0 TX h0 (by omega) hTX ?_
    have h := cp1_take (R := R0) ni 0 TX (by omega) (by omega) (by simp)
    rw [Nat.zero_add, hr.2.2] at h
    exact h
  · refine x_iload_n (pc := 9) C (dq D_Model_mark 5 rfl) rfl ?_
    refine n_ifeq_f (pc := 10) (tgt := 20) C (dq D_Model_mark 6 rfl) (by decide) (by omega) (by omega) ?_
    refine x_aload_n (pc := 13) C (dq D_Model_mark 7 rfl) rfl ?_
    refine x_cV (pc := 14) (ci := 1) (M := M_Model_markJointly) C (dq D_Model_mark 8 rfl) k_ml_Model_105 m_Model_markJointly rfl rfl (mo hP) (cm_markJointly hP sW sT sU hb hTX hMA hSM sIB sIS snt ⟨hr.1, hr.2.1⟩ sni) rfl rfl rfl rfl (by decide) (fun o h2 hp => ?_)
    obtain ⟨rfl, l, B2, V2, T2, S2, q1, q2, q3, q4, q5, rfl⟩ := hp
    refine ⟨none, rfl, ?_⟩
    rw [hr.2.2]
    have e0 : mjo T W IB IS nt (IN.take ni) = (if jt = 0 then mk T W (IN.take ni) else mjo T W IB IS nt (IN.take ni)) := (if_neg h0).symm
    show X g f M_Model_mark (0, 0) (mout g P S T U ni nt W IN IS IB none 16 (if jt = 0 then mk T W (IN.take ni) else mjo T W IB IS nt (IN.take ni))) (0, 0) 17 [some (.ref (zA (gz g) 44)), some (.int (nI jt)), none] [] (mh g P 0 ni no nt ni l [W, T, U, IN, OUT, IS, IB, B2, V2, R0, T2, mjo T W IB IS nt (IN.take ni), S2, KP] S)
    refine x_goto (pc := 17) (tgt := 60) C (dq D_Model_mark 9 rfl) (by decide) ?_
    exact last l B2 V2 T2 S2 _ _ e0 q1 ⟨q2, q3⟩ ⟨q4, q5⟩
end
