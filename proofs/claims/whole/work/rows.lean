section
-- ===== PART A: goes FIRST, ahead of the names: the tables' words, and 'selects' of the private methods out of them =====
/-- a private method of a class that the tables say can be made, by its rows of tables_1 -/
def lw_okq (q : MethodName × Nat) : Prop := (q.1.cls ≠ "java/lang/invoke/MethodHandle" ∧ q.1.cls ≠ "java/lang/invoke/VarHandle") ∧ Cond.instantiable q.1.cls q.2 ∈ tables_1 ∧ Cond.privateMethod q.1 ∈ tables_1 ∧ Cond.instanceMethod q.1 ∈ tables_1
theorem lw_p0 : lw_okq (⟨"SealingDesk$Tables", "enter", "(II)V"⟩, 2) := ⟨⟨by decide +kernel, by decide +kernel⟩, List.mem_of_getElem? (i := 30) (by decide +kernel), List.mem_of_getElem? (i := 39) (by decide +kernel), List.mem_of_getElem? (i := 40) (by decide +kernel)⟩
theorem lw_p1 : lw_okq (⟨"SealingDesk$Cipher", "expandFrom", "(II)V"⟩, 3) := ⟨⟨by decide +kernel, by decide +kernel⟩, List.mem_of_getElem? (i := 56) (by decide +kernel), List.mem_of_getElem? (i := 69) (by decide +kernel), List.mem_of_getElem? (i := 70) (by decide +kernel)⟩
theorem lw_p2 : lw_okq (⟨"SealingDesk$Cipher", "addRoundKey", "([II)V"⟩, 3) := ⟨⟨by decide +kernel, by decide +kernel⟩, List.mem_of_getElem? (i := 56) (by decide +kernel), List.mem_of_getElem? (i := 285) (by decide +kernel), List.mem_of_getElem? (i := 286) (by decide +kernel)⟩
theorem lw_p3 : lw_okq (⟨"SealingDesk$Cipher", "substitute", "([I)V"⟩, 3) := ⟨⟨by decide +kernel, by decide +kernel⟩, List.mem_of_getElem? (i := 56) (by decide +kernel), List.mem_of_getElem? (i := 289) (by decide +kernel), List.mem_of_getElem? (i := 290) (by decide +kernel)⟩
theorem lw_p4 : lw_okq (⟨"java/lang/Throwable", "fillInStackTrace", "(I)Ljava/lang/Throwable;"⟩, 6) := ⟨⟨by decide +kernel, by decide +kernel⟩, List.mem_of_getElem? (i := 377) (by decide +kernel), List.mem_of_getElem? (i := 375) (by decide +kernel), List.mem_of_getElem? (i := 376) (by decide +kernel)⟩
theorem lw_p5 : lw_okq (⟨"SealingDesk$Cipher", "substituteBack", "([I)V"⟩, 3) := ⟨⟨by decide +kernel, by decide +kernel⟩, List.mem_of_getElem? (i := 56) (by decide +kernel), List.mem_of_getElem? (i := 488) (by decide +kernel), List.mem_of_getElem? (i := 489) (by decide +kernel)⟩
theorem lw_p6 : lw_okq (⟨"SealingDesk$Marked", "addStream", "(LSealingDesk$Row;I[I)V"⟩, 6) := ⟨⟨by decide +kernel, by decide +kernel⟩, List.mem_of_getElem? (i := 164) (by decide +kernel), List.mem_of_getElem? (i := 526) (by decide +kernel), List.mem_of_getElem? (i := 527) (by decide +kernel)⟩
theorem lw_p7 : lw_okq (⟨"SealingDesk$Marked", "nextBlock", "()V"⟩, 6) := ⟨⟨by decide +kernel, by decide +kernel⟩, List.mem_of_getElem? (i := 164) (by decide +kernel), List.mem_of_getElem? (i := 531) (by decide +kernel), List.mem_of_getElem? (i := 532) (by decide +kernel)⟩
theorem lw_p8 : lw_okq (⟨"SealingDesk$Wrapping", "lift", "(LSealingDesk$Row;I)V"⟩, 2) := ⟨⟨by decide +kernel, by decide +kernel⟩, List.mem_of_getElem? (i := 84) (by decide +kernel), List.mem_of_getElem? (i := 553) (by decide +kernel), List.mem_of_getElem? (i := 554) (by decide +kernel)⟩
theorem lw_p9 : lw_okq (⟨"SealingDesk$Wrapping", "addNumber", "(I)V"⟩, 2) := ⟨⟨by decide +kernel, by decide +kernel⟩, List.mem_of_getElem? (i := 84) (by decide +kernel), List.mem_of_getElem? (i := 559) (by decide +kernel), List.mem_of_getElem? (i := 560) (by decide +kernel)⟩
theorem lw_p10 : lw_okq (⟨"SealingDesk$Wrapping", "lay", "(LSealingDesk$Row;I)V"⟩, 2) := ⟨⟨by decide +kernel, by decide +kernel⟩, List.mem_of_getElem? (i := 84) (by decide +kernel), List.mem_of_getElem? (i := 563) (by decide +kernel), List.mem_of_getElem? (i := 564) (by decide +kernel)⟩
theorem lw_p11 : lw_okq (⟨"SealingDeskModel", "expand", "(IIIII)V"⟩, 20) := ⟨⟨by decide +kernel, by decide +kernel⟩, List.mem_of_getElem? (i := 633) (by decide +kernel), List.mem_of_getElem? (i := 648) (by decide +kernel), List.mem_of_getElem? (i := 649) (by decide +kernel)⟩
theorem lw_p12 : lw_okq (⟨"SealingDeskModel", "changed", "(I)I"⟩, 20) := ⟨⟨by decide +kernel, by decide +kernel⟩, List.mem_of_getElem? (i := 633) (by decide +kernel), List.mem_of_getElem? (i := 652) (by decide +kernel), List.mem_of_getElem? (i := 653) (by decide +kernel)⟩
theorem lw_p13 : lw_okq (⟨"SealingDeskModel", "begin", "()V"⟩, 20) := ⟨⟨by decide +kernel, by decide +kernel⟩, List.mem_of_getElem? (i := 633) (by decide +kernel), List.mem_of_getElem? (i := 749) (by decide +kernel), List.mem_of_getElem? (i := 750) (by decide +kernel)⟩
theorem lw_p14 : lw_okq (⟨"SealingDeskModel", "single", "(Z)V"⟩, 20) := ⟨⟨by decide +kernel, by decide +kernel⟩, List.mem_of_getElem? (i := 633) (by decide +kernel), List.mem_of_getElem? (i := 753) (by decide +kernel), List.mem_of_getElem? (i := 754) (by decide +kernel)⟩
theorem lw_p15 : lw_okq (⟨"SealingDeskModel", "decipher", "(I)V"⟩, 20) := ⟨⟨by decide +kernel, by decide +kernel⟩, List.mem_of_getElem? (i := 633) (by decide +kernel), List.mem_of_getElem? (i := 757) (by decide +kernel), List.mem_of_getElem? (i := 758) (by decide +kernel)⟩
def lw_privs_1 : List (MethodName × Nat) := [(⟨"SealingDesk$Tables", "enter", "(II)V"⟩, 2), (⟨"SealingDesk$Cipher", "expandFrom", "(II)V"⟩, 3), (⟨"SealingDesk$Cipher", "addRoundKey", "([II)V"⟩, 3), (⟨"SealingDesk$Cipher", "substitute", "([I)V"⟩, 3), (⟨"java/lang/Throwable", "fillInStackTrace", "(I)Ljava/lang/Throwable;"⟩, 6), (⟨"SealingDesk$Cipher", "substituteBack", "([I)V"⟩, 3), (⟨"SealingDesk$Marked", "addStream", "(LSealingDesk$Row;I[I)V"⟩, 6), (⟨"SealingDesk$Marked", "nextBlock", "()V"⟩, 6), (⟨"SealingDesk$Wrapping", "lift", "(LSealingDesk$Row;I)V"⟩, 2), (⟨"SealingDesk$Wrapping", "addNumber", "(I)V"⟩, 2), (⟨"SealingDesk$Wrapping", "lay", "(LSealingDesk$Row;I)V"⟩, 2), (⟨"SealingDeskModel", "expand", "(IIIII)V"⟩, 20), (⟨"SealingDeskModel", "changed", "(I)I"⟩, 20), (⟨"SealingDeskModel", "begin", "()V"⟩, 20), (⟨"SealingDeskModel", "single", "(Z)V"⟩, 20), (⟨"SealingDeskModel", "decipher", "(I)V"⟩, 20)]
theorem lw_r1 : ∀ q ∈ lw_privs_1, lw_okq q := List.forall_mem_cons.mpr ⟨lw_p0, List.forall_mem_cons.mpr ⟨lw_p1, List.forall_mem_cons.mpr ⟨lw_p2, List.forall_mem_cons.mpr ⟨lw_p3, List.forall_mem_cons.mpr ⟨lw_p4, List.forall_mem_cons.mpr ⟨lw_p5, List.forall_mem_cons.mpr ⟨lw_p6, List.forall_mem_cons.mpr ⟨lw_p7, List.forall_mem_cons.mpr ⟨lw_p8, List.forall_mem_cons.mpr ⟨lw_p9, List.forall_mem_cons.mpr ⟨lw_p10, List.forall_mem_cons.mpr ⟨lw_p11, List.forall_mem_cons.mpr ⟨lw_p12, List.forall_mem_cons.mpr ⟨lw_p13, List.forall_mem_cons.mpr ⟨lw_p14, List.forall_mem_cons.mpr ⟨lw_p15, fun _ h => absurd h List.not_mem_nil⟩⟩⟩⟩⟩⟩⟩⟩⟩⟩⟩⟩⟩⟩⟩⟩
theorem lw_p16 : lw_okq (⟨"SealingDeskModel", "addKey", "(II)V"⟩, 20) := ⟨⟨by decide +kernel, by decide +kernel⟩, List.mem_of_getElem? (i := 633) (by decide +kernel), List.mem_of_getElem? (i := 761) (by decide +kernel), List.mem_of_getElem? (i := 762) (by decide +kernel)⟩
theorem lw_p17 : lw_okq (⟨"SealingDeskModel", "encipher", "(I)V"⟩, 20) := ⟨⟨by decide +kernel, by decide +kernel⟩, List.mem_of_getElem? (i := 633) (by decide +kernel), List.mem_of_getElem? (i := 765) (by decide +kernel), List.mem_of_getElem? (i := 766) (by decide +kernel)⟩
theorem lw_p18 : lw_okq (⟨"SealingDeskModel", "show", "()I"⟩, 20) := ⟨⟨by decide +kernel, by decide +kernel⟩, List.mem_of_getElem? (i := 633) (by decide +kernel), List.mem_of_getElem? (i := 769) (by decide +kernel), List.mem_of_getElem? (i := 770) (by decide +kernel)⟩
theorem lw_p19 : lw_okq (⟨"SealingDeskModel", "markJointly", "()V"⟩, 20) := ⟨⟨by decide +kernel, by decide +kernel⟩, List.mem_of_getElem? (i := 633) (by decide +kernel), List.mem_of_getElem? (i := 777) (by decide +kernel), List.mem_of_getElem? (i := 778) (by decide +kernel)⟩
theorem lw_p20 : lw_okq (⟨"SealingDeskModel", "markText", "()V"⟩, 20) := ⟨⟨by decide +kernel, by decide +kernel⟩, List.mem_of_getElem? (i := 633) (by decide +kernel), List.mem_of_getElem? (i := 781) (by decide +kernel), List.mem_of_getElem? (i := 782) (by decide +kernel)⟩
theorem lw_p21 : lw_okq (⟨"SealingDeskModel", "doubleBlock", "()V"⟩, 20) := ⟨⟨by decide +kernel, by decide +kernel⟩, List.mem_of_getElem? (i := 633) (by decide +kernel), List.mem_of_getElem? (i := 785) (by decide +kernel), List.mem_of_getElem? (i := 786) (by decide +kernel)⟩
theorem lw_p22 : lw_okq (⟨"SealingDeskModel", "doubleSum", "()V"⟩, 20) := ⟨⟨by decide +kernel, by decide +kernel⟩, List.mem_of_getElem? (i := 633) (by decide +kernel), List.mem_of_getElem? (i := 792) (by decide +kernel), List.mem_of_getElem? (i := 793) (by decide +kernel)⟩
theorem lw_p23 : lw_okq (⟨"SealingDeskModel", "sealMarked", "()V"⟩, 20) := ⟨⟨by decide +kernel, by decide +kernel⟩, List.mem_of_getElem? (i := 633) (by decide +kernel), List.mem_of_getElem? (i := 800) (by decide +kernel), List.mem_of_getElem? (i := 801) (by decide +kernel)⟩
theorem lw_p24 : lw_okq (⟨"SealingDeskModel", "cross", "()V"⟩, 20) := ⟨⟨by decide +kernel, by decide +kernel⟩, List.mem_of_getElem? (i := 633) (by decide +kernel), List.mem_of_getElem? (i := 804) (by decide +kernel), List.mem_of_getElem? (i := 805) (by decide +kernel)⟩
theorem lw_p25 : lw_okq (⟨"SealingDeskModel", "front", "(II)V"⟩, 20) := ⟨⟨by decide +kernel, by decide +kernel⟩, List.mem_of_getElem? (i := 633) (by decide +kernel), List.mem_of_getElem? (i := 809) (by decide +kernel), List.mem_of_getElem? (i := 810) (by decide +kernel)⟩
theorem lw_p26 : lw_okq (⟨"SealingDeskModel", "wrap", "()V"⟩, 20) := ⟨⟨by decide +kernel, by decide +kernel⟩, List.mem_of_getElem? (i := 633) (by decide +kernel), List.mem_of_getElem? (i := 813) (by decide +kernel), List.mem_of_getElem? (i := 814) (by decide +kernel)⟩
theorem lw_p27 : lw_okq (⟨"SealingDeskModel", "number", "(I)V"⟩, 20) := ⟨⟨by decide +kernel, by decide +kernel⟩, List.mem_of_getElem? (i := 633) (by decide +kernel), List.mem_of_getElem? (i := 817) (by decide +kernel), List.mem_of_getElem? (i := 818) (by decide +kernel)⟩
theorem lw_p28 : lw_okq (⟨"SealingDeskModel", "sealPadded", "()V"⟩, 20) := ⟨⟨by decide +kernel, by decide +kernel⟩, List.mem_of_getElem? (i := 633) (by decide +kernel), List.mem_of_getElem? (i := 821) (by decide +kernel), List.mem_of_getElem? (i := 822) (by decide +kernel)⟩
theorem lw_p29 : lw_okq (⟨"SealingDeskModel", "openMarked", "()Z"⟩, 20) := ⟨⟨by decide +kernel, by decide +kernel⟩, List.mem_of_getElem? (i := 633) (by decide +kernel), List.mem_of_getElem? (i := 829) (by decide +kernel), List.mem_of_getElem? (i := 830) (by decide +kernel)⟩
theorem lw_p30 : lw_okq (⟨"SealingDeskModel", "openWrapped", "()Z"⟩, 20) := ⟨⟨by decide +kernel, by decide +kernel⟩, List.mem_of_getElem? (i := 633) (by decide +kernel), List.mem_of_getElem? (i := 833) (by decide +kernel), List.mem_of_getElem? (i := 834) (by decide +kernel)⟩
theorem lw_p31 : lw_okq (⟨"SealingDeskModel", "unwrap", "()V"⟩, 20) := ⟨⟨by decide +kernel, by decide +kernel⟩, List.mem_of_getElem? (i := 633) (by decide +kernel), List.mem_of_getElem? (i := 837) (by decide +kernel), List.mem_of_getElem? (i := 838) (by decide +kernel)⟩
def lw_privs_2 : List (MethodName × Nat) := [(⟨"SealingDeskModel", "addKey", "(II)V"⟩, 20), (⟨"SealingDeskModel", "encipher", "(I)V"⟩, 20), (⟨"SealingDeskModel", "show", "()I"⟩, 20), (⟨"SealingDeskModel", "markJointly", "()V"⟩, 20), (⟨"SealingDeskModel", "markText", "()V"⟩, 20), (⟨"SealingDeskModel", "doubleBlock", "()V"⟩, 20), (⟨"SealingDeskModel", "doubleSum", "()V"⟩, 20), (⟨"SealingDeskModel", "sealMarked", "()V"⟩, 20), (⟨"SealingDeskModel", "cross", "()V"⟩, 20), (⟨"SealingDeskModel", "front", "(II)V"⟩, 20), (⟨"SealingDeskModel", "wrap", "()V"⟩, 20), (⟨"SealingDeskModel", "number", "(I)V"⟩, 20), (⟨"SealingDeskModel", "sealPadded", "()V"⟩, 20), (⟨"SealingDeskModel", "openMarked", "()Z"⟩, 20), (⟨"SealingDeskModel", "openWrapped", "()Z"⟩, 20), (⟨"SealingDeskModel", "unwrap", "()V"⟩, 20)]
theorem lw_r2 : ∀ q ∈ lw_privs_2, lw_okq q := List.forall_mem_cons.mpr ⟨lw_p16, List.forall_mem_cons.mpr ⟨lw_p17, List.forall_mem_cons.mpr ⟨lw_p18, List.forall_mem_cons.mpr ⟨lw_p19, List.forall_mem_cons.mpr ⟨lw_p20, List.forall_mem_cons.mpr ⟨lw_p21, List.forall_mem_cons.mpr ⟨lw_p22, List.forall_mem_cons.mpr ⟨lw_p23, List.forall_mem_cons.mpr ⟨lw_p24, List.forall_mem_cons.mpr ⟨lw_p25, List.forall_mem_cons.mpr ⟨lw_p26, List.forall_mem_cons.mpr ⟨lw_p27, List.forall_mem_cons.mpr ⟨lw_p28, List.forall_mem_cons.mpr ⟨lw_p29, List.forall_mem_cons.mpr ⟨lw_p30, List.forall_mem_cons.mpr ⟨lw_p31, fun _ h => absurd h List.not_mem_nil⟩⟩⟩⟩⟩⟩⟩⟩⟩⟩⟩⟩⟩⟩⟩⟩
theorem lw_p32 : lw_okq (⟨"SealingDeskModel", "dropFront", "()V"⟩, 20) := ⟨⟨by decide +kernel, by decide +kernel⟩, List.mem_of_getElem? (i := 633) (by decide +kernel), List.mem_of_getElem? (i := 841) (by decide +kernel), List.mem_of_getElem? (i := 842) (by decide +kernel)⟩
theorem lw_p33 : lw_okq (⟨"SealingDeskModel", "openPadded", "()Z"⟩, 20) := ⟨⟨by decide +kernel, by decide +kernel⟩, List.mem_of_getElem? (i := 633) (by decide +kernel), List.mem_of_getElem? (i := 845) (by decide +kernel), List.mem_of_getElem? (i := 846) (by decide +kernel)⟩
def lw_privs_3 : List (MethodName × Nat) := [(⟨"SealingDeskModel", "dropFront", "()V"⟩, 20), (⟨"SealingDeskModel", "openPadded", "()Z"⟩, 20)]
theorem lw_r3 : ∀ q ∈ lw_privs_3, lw_okq q := List.forall_mem_cons.mpr ⟨lw_p32, List.forall_mem_cons.mpr ⟨lw_p33, fun _ h => absurd h List.not_mem_nil⟩⟩
def lw_privs : List (MethodName × Nat) := lw_privs_1 ++ (lw_privs_2 ++ (lw_privs_3))
def lw_tbl : List Cond := k2_sels lw_privs ++ tables_1
theorem lw_privs_ok : ∀ q ∈ lw_privs, lw_okq q := by
  show ∀ q ∈ lw_privs_1 ++ (lw_privs_2 ++ (lw_privs_3)), lw_okq q
  exact List.forall_mem_append.mpr ⟨lw_r1, List.forall_mem_append.mpr ⟨lw_r2, lw_r3⟩⟩
-- ===== end of PART A; then your names; then what follows =====
/-- the good words of the tables -/
def tb : List Cond := lw_tbl.filter goodWord
theorem tb_i {w : Cond} (i : Nat) (h : tables_1[i]? = some w) (g : goodWord w = true) : w ∈ tb := List.mem_filter.mpr ⟨List.mem_append_right _ (List.mem_of_getElem? h), g⟩
theorem tb_p {y : MethodName} {n : Nat} (i : Nat) (h : lw_privs[i]? = some (y, n)) : Cond.selects y.cls y y ∈ tb := List.mem_filter.mpr ⟨List.mem_append_left _ (List.mem_map.mpr ⟨(y, n), List.mem_of_getElem? h, rfl⟩), rfl⟩
end
section
def R_Desk : String := "SealingDesk"
def F_Desk : u_T := fun k => match k with
  | 0 => ("SealingDesk", "ciphers", "[LSealingDesk$Cipher;", true)
  | 1 => ("SealingDesk", "marker", "LSealingDesk$Marker;", true)
  | 2 => ("SealingDesk", "ways", "[LSealingDesk$Way;", true)
  | 3 => ("SealingDesk", "items", "LSealingDesk$Items;", true)
  | 4 => ("SealingDesk", "input", "LSealingDesk$Row;", true)
  | 5 => ("SealingDesk", "output", "LSealingDesk$Row;", true)
  | _ => ("SealingDesk", "opened", "LSealingDesk$Row;", true)
def t_Desk : Nat → FieldType := fun k => match k with
  | 0 => .array (.object "SealingDesk$Cipher")
  | 1 => .object "SealingDesk$Marker"
  | 2 => .array (.object "SealingDesk$Way")
  | 3 => .object "SealingDesk$Items"
  | 4 => .object "SealingDesk$Row"
  | 5 => .object "SealingDesk$Row"
  | _ => .object "SealingDesk$Row"
theorem n_Desk : ∀ a, a < 7 → ∀ b, b < 7 → a ≠ b → (F_Desk a).2.1 ≠ (F_Desk b).2.1 := by decide +kernel
theorem t_Desk_ok : ∀ k, k < 7 → parseFieldDescriptor (F_Desk k).2.2.1 = some (t_Desk k) := by decide +kernel
def R_Model : String := "SealingDeskModel"
def F_Model : u_T := fun k => match k with
  | 0 => ("SealingDeskModel", "code", "I", false)
  | 1 => ("SealingDeskModel", "words", "[I", true)
  | 2 => ("SealingDeskModel", "table", "[I", true)
  | 3 => ("SealingDeskModel", "untable", "[I", true)
  | 4 => ("SealingDeskModel", "inputs", "I", false)
  | 5 => ("SealingDeskModel", "input", "[I", true)
  | 6 => ("SealingDeskModel", "outputs", "I", false)
  | 7 => ("SealingDeskModel", "output", "[I", true)
  | 8 => ("SealingDeskModel", "items", "I", false)
  | 9 => ("SealingDeskModel", "itemSize", "[I", true)
  | 10 => ("SealingDeskModel", "itemBytes", "[I", true)
  | 11 => ("SealingDeskModel", "block", "[I", true)
  | 12 => ("SealingDeskModel", "moved", "[I", true)
  | 13 => ("SealingDeskModel", "rows", "I", false)
  | 14 => ("SealingDeskModel", "row", "[I", true)
  | 15 => ("SealingDeskModel", "longs", "I", false)
  | 16 => ("SealingDeskModel", "text", "[I", true)
  | 17 => ("SealingDeskModel", "made", "[I", true)
  | 18 => ("SealingDeskModel", "sum", "[I", true)
  | _ => ("SealingDeskModel", "kept", "[I", true)
def t_Model : Nat → FieldType := fun k => match k with
  | 0 => .int
  | 1 => .array .int
  | 2 => .array .int
  | 3 => .array .int
  | 4 => .int
  | 5 => .array .int
  | 6 => .int
  | 7 => .array .int
  | 8 => .int
  | 9 => .array .int
  | 10 => .array .int
  | 11 => .array .int
  | 12 => .array .int
  | 13 => .int
  | 14 => .array .int
  | 15 => .int
  | 16 => .array .int
  | 17 => .array .int
  | 18 => .array .int
  | _ => .array .int
theorem n_Model : ∀ a, a < 20 → ∀ b, b < 20 → a ≠ b → (F_Model a).2.1 ≠ (F_Model b).2.1 := by decide +kernel
theorem t_Model_ok : ∀ k, k < 20 → parseFieldDescriptor (F_Model k).2.2.1 = some (t_Model k) := by decide +kernel
def R_Cipher : String := "SealingDesk$Cipher"
def F_Cipher : u_T := fun k => match k with
  | 0 => ("SealingDesk$Cipher", "tables", "LSealingDesk$Tables;", true)
  | 1 => ("SealingDesk$Cipher", "roundKeys", "[I", true)
  | _ => ("SealingDesk$Cipher", "before", "[I", true)
def t_Cipher : Nat → FieldType := fun k => match k with
  | 0 => .object "SealingDesk$Tables"
  | 1 => .array .int
  | _ => .array .int
theorem n_Cipher : ∀ a, a < 3 → ∀ b, b < 3 → a ≠ b → (F_Cipher a).2.1 ≠ (F_Cipher b).2.1 := by decide +kernel
theorem t_Cipher_ok : ∀ k, k < 3 → parseFieldDescriptor (F_Cipher k).2.2.1 = some (t_Cipher k) := by decide +kernel
def R_Items : String := "SealingDesk$Items"
def F_Items : u_T := fun k => match k with
  | 0 => ("SealingDesk$Items", "rows", "[LSealingDesk$Row;", true)
  | _ => ("SealingDesk$Items", "count", "I", false)
def t_Items : Nat → FieldType := fun k => match k with
  | 0 => .array (.object "SealingDesk$Row")
  | _ => .int
theorem n_Items : ∀ a, a < 2 → ∀ b, b < 2 → a ≠ b → (F_Items a).2.1 ≠ (F_Items b).2.1 := by decide +kernel
theorem t_Items_ok : ∀ k, k < 2 → parseFieldDescriptor (F_Items k).2.2.1 = some (t_Items k) := by decide +kernel
def R_Marked : String := "SealingDesk$Marked"
def F_Marked : u_T := fun k => match k with
  | 0 => ("SealingDesk$Marked", "marker", "LSealingDesk$Marker;", true)
  | 1 => ("SealingDesk$Marked", "items", "LSealingDesk$Items;", true)
  | 2 => ("SealingDesk$Marked", "cipher", "LSealingDesk$Cipher;", true)
  | 3 => ("SealingDesk$Marked", "sign", "[I", true)
  | 4 => ("SealingDesk$Marked", "counter", "[I", true)
  | _ => ("SealingDesk$Marked", "block", "[I", true)
def t_Marked : Nat → FieldType := fun k => match k with
  | 0 => .object "SealingDesk$Marker"
  | 1 => .object "SealingDesk$Items"
  | 2 => .object "SealingDesk$Cipher"
  | 3 => .array .int
  | 4 => .array .int
  | _ => .array .int
theorem n_Marked : ∀ a, a < 6 → ∀ b, b < 6 → a ≠ b → (F_Marked a).2.1 ≠ (F_Marked b).2.1 := by decide +kernel
theorem t_Marked_ok : ∀ k, k < 6 → parseFieldDescriptor (F_Marked k).2.2.1 = some (t_Marked k) := by decide +kernel
def R_Marker : String := "SealingDesk$Marker"
def F_Marker : u_T := fun k => match k with
  | 0 => ("SealingDesk$Marker", "cipher", "LSealingDesk$Cipher;", true)
  | 1 => ("SealingDesk$Marker", "twist", "[I", true)
  | 2 => ("SealingDesk$Marker", "sum", "[I", true)
  | _ => ("SealingDesk$Marker", "joined", "LSealingDesk$Row;", true)
def t_Marker : Nat → FieldType := fun k => match k with
  | 0 => .object "SealingDesk$Cipher"
  | 1 => .array .int
  | 2 => .array .int
  | _ => .object "SealingDesk$Row"
theorem n_Marker : ∀ a, a < 4 → ∀ b, b < 4 → a ≠ b → (F_Marker a).2.1 ≠ (F_Marker b).2.1 := by decide +kernel
theorem t_Marker_ok : ∀ k, k < 4 → parseFieldDescriptor (F_Marker k).2.2.1 = some (t_Marker k) := by decide +kernel
def R_Padded : String := "SealingDesk$Padded"
def F_Padded : u_T := fun k => match k with
  | 0 => ("SealingDesk$Padded", "wrapping", "LSealingDesk$Wrapping;", true)
  | _ => ("SealingDesk$Padded", "cipher", "LSealingDesk$Cipher;", true)
def t_Padded : Nat → FieldType := fun k => match k with
  | 0 => .object "SealingDesk$Wrapping"
  | _ => .object "SealingDesk$Cipher"
theorem n_Padded : ∀ a, a < 2 → ∀ b, b < 2 → a ≠ b → (F_Padded a).2.1 ≠ (F_Padded b).2.1 := by decide +kernel
theorem t_Padded_ok : ∀ k, k < 2 → parseFieldDescriptor (F_Padded k).2.2.1 = some (t_Padded k) := by decide +kernel
def R_Row : String := "SealingDesk$Row"
def F_Row : u_T := fun k => match k with
  | 0 => ("SealingDesk$Row", "bytes", "[I", true)
  | _ => ("SealingDesk$Row", "length", "I", false)
def t_Row : Nat → FieldType := fun k => match k with
  | 0 => .array .int
  | _ => .int
theorem n_Row : ∀ a, a < 2 → ∀ b, b < 2 → a ≠ b → (F_Row a).2.1 ≠ (F_Row b).2.1 := by decide +kernel
theorem t_Row_ok : ∀ k, k < 2 → parseFieldDescriptor (F_Row k).2.2.1 = some (t_Row k) := by decide +kernel
def R_Tables : String := "SealingDesk$Tables"
def F_Tables : u_T := fun k => match k with
  | 0 => ("SealingDesk$Tables", "forth", "[I", true)
  | _ => ("SealingDesk$Tables", "back", "[I", true)
def t_Tables : Nat → FieldType := fun k => match k with
  | 0 => .array .int
  | _ => .array .int
theorem n_Tables : ∀ a, a < 2 → ∀ b, b < 2 → a ≠ b → (F_Tables a).2.1 ≠ (F_Tables b).2.1 := by decide +kernel
theorem t_Tables_ok : ∀ k, k < 2 → parseFieldDescriptor (F_Tables k).2.2.1 = some (t_Tables k) := by decide +kernel
def R_Way : String := "SealingDesk$Way"
def F_Way : u_T := fun k => match k with
  | _ => ("", "", "", false)
def t_Way : Nat → FieldType := fun k => match k with
  | _ => .int
theorem n_Way : ∀ a, a < 0 → ∀ b, b < 0 → a ≠ b → (F_Way a).2.1 ≠ (F_Way b).2.1 := by decide +kernel
theorem t_Way_ok : ∀ k, k < 0 → parseFieldDescriptor (F_Way k).2.2.1 = some (t_Way k) := by decide +kernel
def R_Wrapped : String := "SealingDesk$Wrapped"
def F_Wrapped : u_T := fun k => match k with
  | _ => ("SealingDesk$Wrapped", "wrapping", "LSealingDesk$Wrapping;", true)
def t_Wrapped : Nat → FieldType := fun k => match k with
  | _ => .object "SealingDesk$Wrapping"
theorem n_Wrapped : ∀ a, a < 1 → ∀ b, b < 1 → a ≠ b → (F_Wrapped a).2.1 ≠ (F_Wrapped b).2.1 := by decide +kernel
theorem t_Wrapped_ok : ∀ k, k < 1 → parseFieldDescriptor (F_Wrapped k).2.2.1 = some (t_Wrapped k) := by decide +kernel
def R_Wrapping : String := "SealingDesk$Wrapping"
def F_Wrapping : u_T := fun k => match k with
  | 0 => ("SealingDesk$Wrapping", "cipher", "LSealingDesk$Cipher;", true)
  | _ => ("SealingDesk$Wrapping", "block", "[I", true)
def t_Wrapping : Nat → FieldType := fun k => match k with
  | 0 => .object "SealingDesk$Cipher"
  | _ => .array .int
theorem n_Wrapping : ∀ a, a < 2 → ∀ b, b < 2 → a ≠ b → (F_Wrapping a).2.1 ≠ (F_Wrapping b).2.1 := by decide +kernel
theorem t_Wrapping_ok : ∀ k, k < 2 → parseFieldDescriptor (F_Wrapping k).2.2.1 = some (t_Wrapping k) := by decide +kernel
def R_Law : String := "SealingDeskLaw"
def F_Law : u_T := fun k => match k with
  | _ => ("", "", "", false)
def t_Law : Nat → FieldType := fun k => match k with
  | _ => .int
theorem n_Law : ∀ a, a < 0 → ∀ b, b < 0 → a ≠ b → (F_Law a).2.1 ≠ (F_Law b).2.1 := by decide +kernel
theorem t_Law_ok : ∀ k, k < 0 → parseFieldDescriptor (F_Law k).2.2.1 = some (t_Law k) := by decide +kernel
def R_Arrays : String := "java/util/Arrays"
def R_System : String := "java/lang/System"
def R_Throwable : String := "java/lang/Throwable"
def R_Exception : String := "java/lang/Exception"
def R_RuntimeException : String := "java/lang/RuntimeException"
def R_IllegalArgumentException : String := "java/lang/IllegalArgumentException"
def R_IllegalStateException : String := "java/lang/IllegalStateException"
def R_IndexOutOfBoundsException : String := "java/lang/IndexOutOfBoundsException"
abbrev b_Desk_init : ByteArray := prog_1_method_1_code
def y_Desk_init : MethodName := ⟨R_Desk, "<init>", "()V"⟩
abbrev b_Object_init : ByteArray := object_method_1_code
def y_Object_init : MethodName := ⟨"java/lang/Object", "<init>", "()V"⟩
abbrev b_Tables_init : ByteArray := prog_8_method_1_code
def y_Tables_init : MethodName := ⟨R_Tables, "<init>", "()V"⟩
abbrev b_Tables_twice : ByteArray := prog_8_method_4_code
def y_Tables_twice : MethodName := ⟨R_Tables, "twice", "(I)I"⟩
abbrev b_Tables_enter : ByteArray := prog_8_method_2_code
def y_Tables_enter : MethodName := ⟨R_Tables, "enter", "(II)V"⟩
abbrev b_Tables_turnLeft : ByteArray := prog_8_method_3_code
def y_Tables_turnLeft : MethodName := ⟨R_Tables, "turnLeft", "(II)I"⟩
abbrev b_Cipher_init : ByteArray := prog_2_method_1_code
def y_Cipher_init : MethodName := ⟨R_Cipher, "<init>", "(LSealingDesk$Tables;)V"⟩
abbrev b_Cipher_use : ByteArray := prog_2_method_2_code
def y_Cipher_use : MethodName := ⟨R_Cipher, "use", "(IIII)V"⟩
abbrev b_Desk_byteOf : ByteArray := prog_1_method_15_code
def y_Desk_byteOf : MethodName := ⟨R_Desk, "byteOf", "(II)I"⟩
abbrev b_Cipher_expandFrom : ByteArray := prog_2_method_3_code
def y_Cipher_expandFrom : MethodName := ⟨R_Cipher, "expandFrom", "(II)V"⟩
abbrev b_Wrapping_init : ByteArray := prog_11_method_1_code
def y_Wrapping_init : MethodName := ⟨R_Wrapping, "<init>", "(LSealingDesk$Cipher;)V"⟩
abbrev b_Marker_init : ByteArray := prog_5_method_1_code
def y_Marker_init : MethodName := ⟨R_Marker, "<init>", "(LSealingDesk$Cipher;)V"⟩
abbrev b_Row_init : ByteArray := prog_7_method_1_code
def y_Row_init : MethodName := ⟨R_Row, "<init>", "()V"⟩
abbrev b_Items_init : ByteArray := prog_3_method_1_code
def y_Items_init : MethodName := ⟨R_Items, "<init>", "()V"⟩
abbrev b_Marked_init : ByteArray := prog_4_method_1_code
def y_Marked_init : MethodName := ⟨R_Marked, "<init>", "(LSealingDesk$Marker;LSealingDesk$Items;LSealingDesk$Cipher;)V"⟩
abbrev b_Way_init : ByteArray := prog_9_method_1_code
def y_Way_init : MethodName := ⟨R_Way, "<init>", "()V"⟩
abbrev b_Wrapped_init : ByteArray := prog_10_method_1_code
def y_Wrapped_init : MethodName := ⟨R_Wrapped, "<init>", "(LSealingDesk$Wrapping;)V"⟩
abbrev b_Padded_init : ByteArray := prog_6_method_1_code
def y_Padded_init : MethodName := ⟨R_Padded, "<init>", "(LSealingDesk$Wrapping;LSealingDesk$Cipher;)V"⟩
abbrev b_Desk_drop : ByteArray := prog_1_method_4_code
def y_Desk_drop : MethodName := ⟨R_Desk, "drop", "()V"⟩
abbrev b_Row_clear : ByteArray := prog_7_method_3_code
def y_Row_clear : MethodName := ⟨R_Row, "clear", "()V"⟩
abbrev b_Desk_forget : ByteArray := prog_1_method_7_code
def y_Desk_forget : MethodName := ⟨R_Desk, "forget", "()I"⟩
abbrev b_Desk_mark : ByteArray := prog_1_method_9_code
def y_Desk_mark : MethodName := ⟨R_Desk, "mark", "(Z)V"⟩
abbrev b_Marker_join : ByteArray := prog_5_method_3_code
def y_Marker_join : MethodName := ⟨R_Marker, "join", "(LSealingDesk$Items;LSealingDesk$Row;[I)V"⟩
abbrev b_Row_addZeros : ByteArray := prog_7_method_6_code
def y_Row_addZeros : MethodName := ⟨R_Row, "addZeros", "(I)V"⟩
abbrev b_Row_add : ByteArray := prog_7_method_4_code
def y_Row_add : MethodName := ⟨R_Row, "add", "(I)V"⟩
abbrev b_Marker_markRow : ByteArray := prog_5_method_2_code
def y_Marker_markRow : MethodName := ⟨R_Marker, "markRow", "(LSealingDesk$Row;[I)V"⟩
abbrev b_Arrays_fill : ByteArray := prog_22_method_104_code
def y_Arrays_fill : MethodName := ⟨R_Arrays, "fill", "([IIII)V"⟩
abbrev b_Arrays_rangeCheck : ByteArray := prog_22_method_30_code
def y_Arrays_rangeCheck : MethodName := ⟨R_Arrays, "rangeCheck", "(III)V"⟩
abbrev b_Marker_addTo : ByteArray := prog_5_method_4_code
def y_Marker_addTo : MethodName := ⟨R_Marker, "addTo", "([I[III)V"⟩
abbrev b_Cipher_turn : ByteArray := prog_2_method_4_code
def y_Cipher_turn : MethodName := ⟨R_Cipher, "turn", "([I)V"⟩
abbrev b_Cipher_addRoundKey : ByteArray := prog_2_method_6_code
def y_Cipher_addRoundKey : MethodName := ⟨R_Cipher, "addRoundKey", "([II)V"⟩
abbrev b_Cipher_substitute : ByteArray := prog_2_method_7_code
def y_Cipher_substitute : MethodName := ⟨R_Cipher, "substitute", "([I)V"⟩
abbrev b_Cipher_placeBefore : ByteArray := prog_2_method_9_code
def y_Cipher_placeBefore : MethodName := ⟨R_Cipher, "placeBefore", "(I)I"⟩
abbrev b_Cipher_mix : ByteArray := prog_2_method_10_code
def y_Cipher_mix : MethodName := ⟨R_Cipher, "mix", "([I)V"⟩
abbrev b_Arrays_fill1 : ByteArray := prog_22_method_103_code
def y_Arrays_fill1 : MethodName := ⟨R_Arrays, "fill", "([II)V"⟩
abbrev b_Marker_doubleBlock : ByteArray := prog_5_method_6_code
def y_Marker_doubleBlock : MethodName := ⟨R_Marker, "doubleBlock", "([I)V"⟩
abbrev b_Row_become : ByteArray := prog_7_method_7_code
def y_Row_become : MethodName := ⟨R_Row, "become", "(LSealingDesk$Row;)V"⟩
abbrev b_Row_becomeRest : ByteArray := prog_7_method_8_code
def y_Row_becomeRest : MethodName := ⟨R_Row, "becomeRest", "(LSealingDesk$Row;I)V"⟩
abbrev b_Marker_addToEnd : ByteArray := prog_5_method_5_code
def y_Marker_addToEnd : MethodName := ⟨R_Marker, "addToEnd", "(LSealingDesk$Row;[I)V"⟩
abbrev b_Desk_size : ByteArray := prog_1_method_12_code
def y_Desk_size : MethodName := ⟨R_Desk, "size", "()I"⟩
abbrev b_Desk_take : ByteArray := prog_1_method_14_code
def y_Desk_take : MethodName := ⟨R_Desk, "take", "()I"⟩
abbrev b_Law_key : ByteArray := method_3_code
def y_Law_key : MethodName := ⟨R_Law, "key", "(LSealingDesk;IIIII)I"⟩
abbrev b_Desk_key : ByteArray := prog_1_method_2_code
def y_Desk_key : MethodName := ⟨R_Desk, "key", "(IIIII)V"⟩
abbrev b_Throwable_init : ByteArray := prog_21_method_1_code
def y_Throwable_init : MethodName := ⟨R_Throwable, "<init>", "()V"⟩
abbrev b_Throwable_fillInStackTrace : ByteArray := prog_21_method_18_code
def y_Throwable_fillInStackTrace : MethodName := ⟨R_Throwable, "fillInStackTrace", "()Ljava/lang/Throwable;"⟩
abbrev b_IndexOutOfBoundsException_init : ByteArray := prog_17_method_2_code
def y_IndexOutOfBoundsException_init : MethodName := ⟨R_IndexOutOfBoundsException, "<init>", "(Ljava/lang/String;)V"⟩
abbrev b_RuntimeException_init : ByteArray := prog_18_method_2_code
def y_RuntimeException_init : MethodName := ⟨R_RuntimeException, "<init>", "(Ljava/lang/String;)V"⟩
abbrev b_Exception_init : ByteArray := prog_14_method_2_code
def y_Exception_init : MethodName := ⟨R_Exception, "<init>", "(Ljava/lang/String;)V"⟩
abbrev b_Throwable_init1 : ByteArray := prog_21_method_2_code
def y_Throwable_init1 : MethodName := ⟨R_Throwable, "<init>", "(Ljava/lang/String;)V"⟩
abbrev b_Law_feed : ByteArray := method_4_code
def y_Law_feed : MethodName := ⟨R_Law, "feed", "(LSealingDesk;II[J)I"⟩
abbrev b_Desk_feed : ByteArray := prog_1_method_3_code
def y_Desk_feed : MethodName := ⟨R_Desk, "feed", "(II)I"⟩
abbrev b_IllegalArgumentException_init : ByteArray := prog_15_method_2_code
def y_IllegalArgumentException_init : MethodName := ⟨R_IllegalArgumentException, "<init>", "(Ljava/lang/String;)V"⟩
abbrev b_IllegalStateException_init : ByteArray := prog_16_method_2_code
def y_IllegalStateException_init : MethodName := ⟨R_IllegalStateException, "<init>", "(Ljava/lang/String;)V"⟩
abbrev b_Law_alter : ByteArray := method_5_code
def y_Law_alter : MethodName := ⟨R_Law, "alter", "(LSealingDesk;II)I"⟩
abbrev b_Desk_alter : ByteArray := prog_1_method_5_code
def y_Desk_alter : MethodName := ⟨R_Desk, "alter", "(II)V"⟩
abbrev b_Row_has : ByteArray := prog_7_method_2_code
def y_Row_has : MethodName := ⟨R_Row, "has", "(I)Z"⟩
abbrev b_Law_item : ByteArray := method_6_code
def y_Law_item : MethodName := ⟨R_Law, "item", "(LSealingDesk;[J)I"⟩
abbrev b_Desk_item : ByteArray := prog_1_method_6_code
def y_Desk_item : MethodName := ⟨R_Desk, "item", "()I"⟩
abbrev b_Law_cipher : ByteArray := method_7_code
def y_Law_cipher : MethodName := ⟨R_Law, "cipher", "(LSealingDesk;Z)I"⟩
abbrev b_Desk_cipher : ByteArray := prog_1_method_8_code
def y_Desk_cipher : MethodName := ⟨R_Desk, "cipher", "(Z)V"⟩
abbrev b_Cipher_turnBack : ByteArray := prog_2_method_5_code
def y_Cipher_turnBack : MethodName := ⟨R_Cipher, "turnBack", "([I)V"⟩
abbrev b_Cipher_unmix : ByteArray := prog_2_method_11_code
def y_Cipher_unmix : MethodName := ⟨R_Cipher, "unmix", "([I)V"⟩
abbrev b_Cipher_substituteBack : ByteArray := prog_2_method_8_code
def y_Cipher_substituteBack : MethodName := ⟨R_Cipher, "substituteBack", "([I)V"⟩
abbrev b_Law_seal : ByteArray := method_8_code
def y_Law_seal : MethodName := ⟨R_Law, "seal", "(LSealingDesk;I[J)I"⟩
abbrev b_Desk_seal : ByteArray := prog_1_method_10_code
def y_Desk_seal : MethodName := ⟨R_Desk, "seal", "(I)I"⟩
abbrev b_Marked_canLock : ByteArray := prog_4_method_2_code
def y_Marked_canLock : MethodName := ⟨R_Marked, "canLock", "(I)Z"⟩
abbrev b_Padded_canLock : ByteArray := prog_6_method_2_code
def y_Padded_canLock : MethodName := ⟨R_Padded, "canLock", "(I)Z"⟩
abbrev b_Wrapped_canLock : ByteArray := prog_10_method_2_code
def y_Wrapped_canLock : MethodName := ⟨R_Wrapped, "canLock", "(I)Z"⟩
abbrev b_Marked_lock : ByteArray := prog_4_method_4_code
def y_Marked_lock : MethodName := ⟨R_Marked, "lock", "(LSealingDesk$Row;LSealingDesk$Row;)V"⟩
abbrev b_Row_addAll : ByteArray := prog_7_method_5_code
def y_Row_addAll : MethodName := ⟨R_Row, "addAll", "([II)V"⟩
abbrev b_Marked_addStream : ByteArray := prog_4_method_6_code
def y_Marked_addStream : MethodName := ⟨R_Marked, "addStream", "(LSealingDesk$Row;I[I)V"⟩
abbrev b_Marked_nextBlock : ByteArray := prog_4_method_7_code
def y_Marked_nextBlock : MethodName := ⟨R_Marked, "nextBlock", "()V"⟩
abbrev b_Padded_lock : ByteArray := prog_6_method_4_code
def y_Padded_lock : MethodName := ⟨R_Padded, "lock", "(LSealingDesk$Row;LSealingDesk$Row;)V"⟩
abbrev b_Padded_addWord : ByteArray := prog_6_method_7_code
def y_Padded_addWord : MethodName := ⟨R_Padded, "addWord", "(LSealingDesk$Row;I)V"⟩
abbrev b_Wrapping_wind : ByteArray := prog_11_method_2_code
def y_Wrapping_wind : MethodName := ⟨R_Wrapping, "wind", "(LSealingDesk$Row;)V"⟩
abbrev b_Wrapping_lift : ByteArray := prog_11_method_4_code
def y_Wrapping_lift : MethodName := ⟨R_Wrapping, "lift", "(LSealingDesk$Row;I)V"⟩
abbrev b_Wrapping_addNumber : ByteArray := prog_11_method_6_code
def y_Wrapping_addNumber : MethodName := ⟨R_Wrapping, "addNumber", "(I)V"⟩
abbrev b_Wrapping_lay : ByteArray := prog_11_method_5_code
def y_Wrapping_lay : MethodName := ⟨R_Wrapping, "lay", "(LSealingDesk$Row;I)V"⟩
abbrev b_Wrapped_lock : ByteArray := prog_10_method_4_code
def y_Wrapped_lock : MethodName := ⟨R_Wrapped, "lock", "(LSealingDesk$Row;LSealingDesk$Row;)V"⟩
abbrev b_Law_open : ByteArray := method_9_code
def y_Law_open : MethodName := ⟨R_Law, "open", "(LSealingDesk;I[J)I"⟩
abbrev b_Desk_open : ByteArray := prog_1_method_11_code
def y_Desk_open : MethodName := ⟨R_Desk, "open", "(I)I"⟩
abbrev b_Marked_canUnlock : ByteArray := prog_4_method_3_code
def y_Marked_canUnlock : MethodName := ⟨R_Marked, "canUnlock", "(I)Z"⟩
abbrev b_Padded_canUnlock : ByteArray := prog_6_method_3_code
def y_Padded_canUnlock : MethodName := ⟨R_Padded, "canUnlock", "(I)Z"⟩
abbrev b_Wrapped_canUnlock : ByteArray := prog_10_method_3_code
def y_Wrapped_canUnlock : MethodName := ⟨R_Wrapped, "canUnlock", "(I)Z"⟩
abbrev b_Marked_unlock : ByteArray := prog_4_method_5_code
def y_Marked_unlock : MethodName := ⟨R_Marked, "unlock", "(LSealingDesk$Row;LSealingDesk$Row;)Z"⟩
abbrev b_Padded_unlock : ByteArray := prog_6_method_5_code
def y_Padded_unlock : MethodName := ⟨R_Padded, "unlock", "(LSealingDesk$Row;LSealingDesk$Row;)Z"⟩
abbrev b_Wrapping_unwind : ByteArray := prog_11_method_3_code
def y_Wrapping_unwind : MethodName := ⟨R_Wrapping, "unwind", "(LSealingDesk$Row;)V"⟩
abbrev b_Padded_wordAt : ByteArray := prog_6_method_8_code
def y_Padded_wordAt : MethodName := ⟨R_Padded, "wordAt", "(LSealingDesk$Row;I)I"⟩
abbrev b_Padded_cutZeros : ByteArray := prog_6_method_6_code
def y_Padded_cutZeros : MethodName := ⟨R_Padded, "cutZeros", "(LSealingDesk$Row;I)Z"⟩
abbrev b_Wrapped_unlock : ByteArray := prog_10_method_5_code
def y_Wrapped_unlock : MethodName := ⟨R_Wrapped, "unlock", "(LSealingDesk$Row;LSealingDesk$Row;)Z"⟩
abbrev b_Law_at : ByteArray := method_10_code
def y_Law_at : MethodName := ⟨R_Law, "at", "(LSealingDesk;I[J)I"⟩
abbrev b_Desk_at : ByteArray := prog_1_method_13_code
def y_Desk_at : MethodName := ⟨R_Desk, "at", "(I)I"⟩
abbrev b_Model_init : ByteArray := prog_13_method_1_code
def y_Model_init : MethodName := ⟨R_Model, "<init>", "()V"⟩
abbrev b_Model_power : ByteArray := prog_13_method_4_code
def y_Model_power : MethodName := ⟨R_Model, "power", "(I)I"⟩
abbrev b_Model_product : ByteArray := prog_13_method_3_code
def y_Model_product : MethodName := ⟨R_Model, "product", "(II)I"⟩
abbrev b_Model_around : ByteArray := prog_13_method_5_code
def y_Model_around : MethodName := ⟨R_Model, "around", "(II)I"⟩
abbrev b_Model_expand : ByteArray := prog_13_method_7_code
def y_Model_expand : MethodName := ⟨R_Model, "expand", "(IIIII)V"⟩
abbrev b_Model_changed : ByteArray := prog_13_method_6_code
def y_Model_changed : MethodName := ⟨R_Model, "changed", "(I)I"⟩
abbrev b_Model_thrown : ByteArray := prog_13_method_2_code
def y_Model_thrown : MethodName := ⟨R_Model, "thrown", "()I"⟩
abbrev b_Model_key : ByteArray := prog_13_method_28_code
def y_Model_key : MethodName := ⟨R_Model, "key", "(IIIII)V"⟩
abbrev b_Model_feed : ByteArray := prog_13_method_29_code
def y_Model_feed : MethodName := ⟨R_Model, "feed", "(II)I"⟩
abbrev b_Model_drop : ByteArray := prog_13_method_30_code
def y_Model_drop : MethodName := ⟨R_Model, "drop", "()V"⟩
abbrev b_Model_alter : ByteArray := prog_13_method_31_code
def y_Model_alter : MethodName := ⟨R_Model, "alter", "(II)V"⟩
abbrev b_Model_item : ByteArray := prog_13_method_32_code
def y_Model_item : MethodName := ⟨R_Model, "item", "()I"⟩
abbrev b_Model_forget : ByteArray := prog_13_method_33_code
def y_Model_forget : MethodName := ⟨R_Model, "forget", "()I"⟩
abbrev b_Model_cipher : ByteArray := prog_13_method_36_code
def y_Model_cipher : MethodName := ⟨R_Model, "cipher", "(Z)V"⟩
abbrev b_Model_begin : ByteArray := prog_13_method_34_code
def y_Model_begin : MethodName := ⟨R_Model, "begin", "()V"⟩
abbrev b_Model_single : ByteArray := prog_13_method_22_code
def y_Model_single : MethodName := ⟨R_Model, "single", "(Z)V"⟩
abbrev b_Model_decipher : ByteArray := prog_13_method_10_code
def y_Model_decipher : MethodName := ⟨R_Model, "decipher", "(I)V"⟩
abbrev b_Model_addKey : ByteArray := prog_13_method_8_code
def y_Model_addKey : MethodName := ⟨R_Model, "addKey", "(II)V"⟩
abbrev b_Model_encipher : ByteArray := prog_13_method_9_code
def y_Model_encipher : MethodName := ⟨R_Model, "encipher", "(I)V"⟩
abbrev b_Model_show : ByteArray := prog_13_method_35_code
def y_Model_show : MethodName := ⟨R_Model, "show", "()I"⟩
abbrev b_Model_mark : ByteArray := prog_13_method_37_code
def y_Model_mark : MethodName := ⟨R_Model, "mark", "(Z)V"⟩
abbrev b_Model_markJointly : ByteArray := prog_13_method_15_code
def y_Model_markJointly : MethodName := ⟨R_Model, "markJointly", "()V"⟩
abbrev b_Model_markText : ByteArray := prog_13_method_14_code
def y_Model_markText : MethodName := ⟨R_Model, "markText", "()V"⟩
abbrev b_Model_doubleBlock : ByteArray := prog_13_method_13_code
def y_Model_doubleBlock : MethodName := ⟨R_Model, "doubleBlock", "()V"⟩
abbrev b_Model_bitBehind : ByteArray := prog_13_method_11_code
def y_Model_bitBehind : MethodName := ⟨R_Model, "bitBehind", "(II)I"⟩
abbrev b_Model_doubleSum : ByteArray := prog_13_method_12_code
def y_Model_doubleSum : MethodName := ⟨R_Model, "doubleSum", "()V"⟩
abbrev b_Model_seal : ByteArray := prog_13_method_38_code
def y_Model_seal : MethodName := ⟨R_Model, "seal", "(I)I"⟩
abbrev b_Model_sealMarked : ByteArray := prog_13_method_17_code
def y_Model_sealMarked : MethodName := ⟨R_Model, "sealMarked", "()V"⟩
abbrev b_Model_cross : ByteArray := prog_13_method_16_code
def y_Model_cross : MethodName := ⟨R_Model, "cross", "()V"⟩
abbrev b_Model_front : ByteArray := prog_13_method_23_code
def y_Model_front : MethodName := ⟨R_Model, "front", "(II)V"⟩
abbrev b_Model_wrap : ByteArray := prog_13_method_20_code
def y_Model_wrap : MethodName := ⟨R_Model, "wrap", "()V"⟩
abbrev b_Model_number : ByteArray := prog_13_method_19_code
def y_Model_number : MethodName := ⟨R_Model, "number", "(I)V"⟩
abbrev b_Model_sealPadded : ByteArray := prog_13_method_25_code
def y_Model_sealPadded : MethodName := ⟨R_Model, "sealPadded", "()V"⟩
abbrev b_Model_open : ByteArray := prog_13_method_39_code
def y_Model_open : MethodName := ⟨R_Model, "open", "(I)I"⟩
abbrev b_Model_openMarked : ByteArray := prog_13_method_18_code
def y_Model_openMarked : MethodName := ⟨R_Model, "openMarked", "()Z"⟩
abbrev b_Model_openWrapped : ByteArray := prog_13_method_26_code
def y_Model_openWrapped : MethodName := ⟨R_Model, "openWrapped", "()Z"⟩
abbrev b_Model_unwrap : ByteArray := prog_13_method_21_code
def y_Model_unwrap : MethodName := ⟨R_Model, "unwrap", "()V"⟩
abbrev b_Model_dropFront : ByteArray := prog_13_method_24_code
def y_Model_dropFront : MethodName := ⟨R_Model, "dropFront", "()V"⟩
abbrev b_Model_openPadded : ByteArray := prog_13_method_27_code
def y_Model_openPadded : MethodName := ⟨R_Model, "openPadded", "()Z"⟩
abbrev b_Model_size : ByteArray := prog_13_method_40_code
def y_Model_size : MethodName := ⟨R_Model, "size", "()I"⟩
abbrev b_Model_at : ByteArray := prog_13_method_41_code
def y_Model_at : MethodName := ⟨R_Model, "at", "(I)I"⟩
abbrev b_Model_take : ByteArray := prog_13_method_42_code
def y_Model_take : MethodName := ⟨R_Model, "take", "()I"⟩
/-- the classes whose objects a world holds, by their places: 0 Desk, 1 Model, 2 Cipher, 3 Items, 4 Marked, 5 Marker, 6 Padded, 7 Row, 8 Tables, 9 Wrapped, 10 Wrapping -/
abbrev Cls : List vw_C := [(R_Desk, F_Desk, 7), (R_Model, F_Model, 20), (R_Cipher, F_Cipher, 3), (R_Items, F_Items, 2), (R_Marked, F_Marked, 6), (R_Marker, F_Marker, 4), (R_Padded, F_Padded, 2), (R_Row, F_Row, 2), (R_Tables, F_Tables, 2), (R_Wrapped, F_Wrapped, 1), (R_Wrapping, F_Wrapping, 2)]
abbrev M_Desk_init : MethodName × ByteArray × Nat × Option FieldType := (y_Desk_init, b_Desk_init, 7, none)
abbrev M_Object_init : MethodName × ByteArray × Nat × Option FieldType := (y_Object_init, b_Object_init, 1, none)
abbrev M_Tables_init : MethodName × ByteArray × Nat × Option FieldType := (y_Tables_init, b_Tables_init, 3, none)
abbrev M_Tables_twice : MethodName × ByteArray × Nat × Option FieldType := (y_Tables_twice, b_Tables_twice, 1, (some .int))
abbrev M_Tables_enter : MethodName × ByteArray × Nat × Option FieldType := (y_Tables_enter, b_Tables_enter, 4, none)
abbrev M_Tables_turnLeft : MethodName × ByteArray × Nat × Option FieldType := (y_Tables_turnLeft, b_Tables_turnLeft, 2, (some .int))
abbrev M_Cipher_init : MethodName × ByteArray × Nat × Option FieldType := (y_Cipher_init, b_Cipher_init, 2, none)
abbrev M_Cipher_use : MethodName × ByteArray × Nat × Option FieldType := (y_Cipher_use, b_Cipher_use, 7, none)
abbrev M_Desk_byteOf : MethodName × ByteArray × Nat × Option FieldType := (y_Desk_byteOf, b_Desk_byteOf, 2, (some .int))
abbrev M_Cipher_expandFrom : MethodName × ByteArray × Nat × Option FieldType := (y_Cipher_expandFrom, b_Cipher_expandFrom, 5, none)
abbrev M_Wrapping_init : MethodName × ByteArray × Nat × Option FieldType := (y_Wrapping_init, b_Wrapping_init, 2, none)
abbrev M_Marker_init : MethodName × ByteArray × Nat × Option FieldType := (y_Marker_init, b_Marker_init, 2, none)
abbrev M_Row_init : MethodName × ByteArray × Nat × Option FieldType := (y_Row_init, b_Row_init, 1, none)
abbrev M_Items_init : MethodName × ByteArray × Nat × Option FieldType := (y_Items_init, b_Items_init, 2, none)
abbrev M_Marked_init : MethodName × ByteArray × Nat × Option FieldType := (y_Marked_init, b_Marked_init, 4, none)
abbrev M_Way_init : MethodName × ByteArray × Nat × Option FieldType := (y_Way_init, b_Way_init, 1, none)
abbrev M_Wrapped_init : MethodName × ByteArray × Nat × Option FieldType := (y_Wrapped_init, b_Wrapped_init, 2, none)
abbrev M_Padded_init : MethodName × ByteArray × Nat × Option FieldType := (y_Padded_init, b_Padded_init, 3, none)
abbrev M_Desk_drop : MethodName × ByteArray × Nat × Option FieldType := (y_Desk_drop, b_Desk_drop, 1, none)
abbrev M_Row_clear : MethodName × ByteArray × Nat × Option FieldType := (y_Row_clear, b_Row_clear, 1, none)
abbrev M_Desk_forget : MethodName × ByteArray × Nat × Option FieldType := (y_Desk_forget, b_Desk_forget, 2, (some .int))
abbrev M_Desk_mark : MethodName × ByteArray × Nat × Option FieldType := (y_Desk_mark, b_Desk_mark, 2, none)
abbrev M_Marker_join : MethodName × ByteArray × Nat × Option FieldType := (y_Marker_join, b_Marker_join, 5, none)
abbrev M_Row_addZeros : MethodName × ByteArray × Nat × Option FieldType := (y_Row_addZeros, b_Row_addZeros, 3, none)
abbrev M_Row_add : MethodName × ByteArray × Nat × Option FieldType := (y_Row_add, b_Row_add, 2, none)
abbrev M_Marker_markRow : MethodName × ByteArray × Nat × Option FieldType := (y_Marker_markRow, b_Marker_markRow, 5, none)
abbrev M_Arrays_fill : MethodName × ByteArray × Nat × Option FieldType := (y_Arrays_fill, b_Arrays_fill, 5, none)
abbrev M_Arrays_rangeCheck : MethodName × ByteArray × Nat × Option FieldType := (y_Arrays_rangeCheck, b_Arrays_rangeCheck, 3, none)
abbrev M_Marker_addTo : MethodName × ByteArray × Nat × Option FieldType := (y_Marker_addTo, b_Marker_addTo, 5, none)
abbrev M_Cipher_turn : MethodName × ByteArray × Nat × Option FieldType := (y_Cipher_turn, b_Cipher_turn, 3, none)
abbrev M_Cipher_addRoundKey : MethodName × ByteArray × Nat × Option FieldType := (y_Cipher_addRoundKey, b_Cipher_addRoundKey, 4, none)
abbrev M_Cipher_substitute : MethodName × ByteArray × Nat × Option FieldType := (y_Cipher_substitute, b_Cipher_substitute, 3, none)
abbrev M_Cipher_placeBefore : MethodName × ByteArray × Nat × Option FieldType := (y_Cipher_placeBefore, b_Cipher_placeBefore, 1, (some .int))
abbrev M_Cipher_mix : MethodName × ByteArray × Nat × Option FieldType := (y_Cipher_mix, b_Cipher_mix, 7, none)
abbrev M_Arrays_fill1 : MethodName × ByteArray × Nat × Option FieldType := (y_Arrays_fill1, b_Arrays_fill1, 4, none)
abbrev M_Marker_doubleBlock : MethodName × ByteArray × Nat × Option FieldType := (y_Marker_doubleBlock, b_Marker_doubleBlock, 3, none)
abbrev M_Row_become : MethodName × ByteArray × Nat × Option FieldType := (y_Row_become, b_Row_become, 2, none)
abbrev M_Row_becomeRest : MethodName × ByteArray × Nat × Option FieldType := (y_Row_becomeRest, b_Row_becomeRest, 3, none)
abbrev M_Marker_addToEnd : MethodName × ByteArray × Nat × Option FieldType := (y_Marker_addToEnd, b_Marker_addToEnd, 4, none)
abbrev M_Desk_size : MethodName × ByteArray × Nat × Option FieldType := (y_Desk_size, b_Desk_size, 1, (some .int))
abbrev M_Desk_take : MethodName × ByteArray × Nat × Option FieldType := (y_Desk_take, b_Desk_take, 1, (some .int))
abbrev M_Law_key : MethodName × ByteArray × Nat × Option FieldType := (y_Law_key, b_Law_key, 7, (some .int))
abbrev M_Desk_key : MethodName × ByteArray × Nat × Option FieldType := (y_Desk_key, b_Desk_key, 6, none)
abbrev M_Throwable_init : MethodName × ByteArray × Nat × Option FieldType := (y_Throwable_init, b_Throwable_init, 1, none)
abbrev M_Throwable_fillInStackTrace : MethodName × ByteArray × Nat × Option FieldType := (y_Throwable_fillInStackTrace, b_Throwable_fillInStackTrace, 1, (some (.object "java/lang/Throwable")))
abbrev M_IndexOutOfBoundsException_init : MethodName × ByteArray × Nat × Option FieldType := (y_IndexOutOfBoundsException_init, b_IndexOutOfBoundsException_init, 2, none)
abbrev M_RuntimeException_init : MethodName × ByteArray × Nat × Option FieldType := (y_RuntimeException_init, b_RuntimeException_init, 2, none)
abbrev M_Exception_init : MethodName × ByteArray × Nat × Option FieldType := (y_Exception_init, b_Exception_init, 2, none)
abbrev M_Throwable_init1 : MethodName × ByteArray × Nat × Option FieldType := (y_Throwable_init1, b_Throwable_init1, 2, none)
abbrev M_Law_feed : MethodName × ByteArray × Nat × Option FieldType := (y_Law_feed, b_Law_feed, 5, (some .int))
abbrev M_Desk_feed : MethodName × ByteArray × Nat × Option FieldType := (y_Desk_feed, b_Desk_feed, 4, (some .int))
abbrev M_IllegalArgumentException_init : MethodName × ByteArray × Nat × Option FieldType := (y_IllegalArgumentException_init, b_IllegalArgumentException_init, 2, none)
abbrev M_IllegalStateException_init : MethodName × ByteArray × Nat × Option FieldType := (y_IllegalStateException_init, b_IllegalStateException_init, 2, none)
abbrev M_Law_alter : MethodName × ByteArray × Nat × Option FieldType := (y_Law_alter, b_Law_alter, 4, (some .int))
abbrev M_Desk_alter : MethodName × ByteArray × Nat × Option FieldType := (y_Desk_alter, b_Desk_alter, 3, none)
abbrev M_Row_has : MethodName × ByteArray × Nat × Option FieldType := (y_Row_has, b_Row_has, 2, (some .boolean))
abbrev M_Law_item : MethodName × ByteArray × Nat × Option FieldType := (y_Law_item, b_Law_item, 3, (some .int))
abbrev M_Desk_item : MethodName × ByteArray × Nat × Option FieldType := (y_Desk_item, b_Desk_item, 1, (some .int))
abbrev M_Law_cipher : MethodName × ByteArray × Nat × Option FieldType := (y_Law_cipher, b_Law_cipher, 3, (some .int))
abbrev M_Desk_cipher : MethodName × ByteArray × Nat × Option FieldType := (y_Desk_cipher, b_Desk_cipher, 2, none)
abbrev M_Cipher_turnBack : MethodName × ByteArray × Nat × Option FieldType := (y_Cipher_turnBack, b_Cipher_turnBack, 3, none)
abbrev M_Cipher_unmix : MethodName × ByteArray × Nat × Option FieldType := (y_Cipher_unmix, b_Cipher_unmix, 1, none)
abbrev M_Cipher_substituteBack : MethodName × ByteArray × Nat × Option FieldType := (y_Cipher_substituteBack, b_Cipher_substituteBack, 3, none)
abbrev M_Law_seal : MethodName × ByteArray × Nat × Option FieldType := (y_Law_seal, b_Law_seal, 4, (some .int))
abbrev M_Desk_seal : MethodName × ByteArray × Nat × Option FieldType := (y_Desk_seal, b_Desk_seal, 2, (some .int))
abbrev M_Marked_canLock : MethodName × ByteArray × Nat × Option FieldType := (y_Marked_canLock, b_Marked_canLock, 2, (some .boolean))
abbrev M_Padded_canLock : MethodName × ByteArray × Nat × Option FieldType := (y_Padded_canLock, b_Padded_canLock, 2, (some .boolean))
abbrev M_Wrapped_canLock : MethodName × ByteArray × Nat × Option FieldType := (y_Wrapped_canLock, b_Wrapped_canLock, 2, (some .boolean))
abbrev M_Marked_lock : MethodName × ByteArray × Nat × Option FieldType := (y_Marked_lock, b_Marked_lock, 3, none)
abbrev M_Row_addAll : MethodName × ByteArray × Nat × Option FieldType := (y_Row_addAll, b_Row_addAll, 3, none)
abbrev M_Marked_addStream : MethodName × ByteArray × Nat × Option FieldType := (y_Marked_addStream, b_Marked_addStream, 6, none)
abbrev M_Marked_nextBlock : MethodName × ByteArray × Nat × Option FieldType := (y_Marked_nextBlock, b_Marked_nextBlock, 4, none)
abbrev M_Padded_lock : MethodName × ByteArray × Nat × Option FieldType := (y_Padded_lock, b_Padded_lock, 3, none)
abbrev M_Padded_addWord : MethodName × ByteArray × Nat × Option FieldType := (y_Padded_addWord, b_Padded_addWord, 3, none)
abbrev M_Wrapping_wind : MethodName × ByteArray × Nat × Option FieldType := (y_Wrapping_wind, b_Wrapping_wind, 5, none)
abbrev M_Wrapping_lift : MethodName × ByteArray × Nat × Option FieldType := (y_Wrapping_lift, b_Wrapping_lift, 3, none)
abbrev M_Wrapping_addNumber : MethodName × ByteArray × Nat × Option FieldType := (y_Wrapping_addNumber, b_Wrapping_addNumber, 2, none)
abbrev M_Wrapping_lay : MethodName × ByteArray × Nat × Option FieldType := (y_Wrapping_lay, b_Wrapping_lay, 3, none)
abbrev M_Wrapped_lock : MethodName × ByteArray × Nat × Option FieldType := (y_Wrapped_lock, b_Wrapped_lock, 4, none)
abbrev M_Law_open : MethodName × ByteArray × Nat × Option FieldType := (y_Law_open, b_Law_open, 4, (some .int))
abbrev M_Desk_open : MethodName × ByteArray × Nat × Option FieldType := (y_Desk_open, b_Desk_open, 2, (some .int))
abbrev M_Marked_canUnlock : MethodName × ByteArray × Nat × Option FieldType := (y_Marked_canUnlock, b_Marked_canUnlock, 2, (some .boolean))
abbrev M_Padded_canUnlock : MethodName × ByteArray × Nat × Option FieldType := (y_Padded_canUnlock, b_Padded_canUnlock, 2, (some .boolean))
abbrev M_Wrapped_canUnlock : MethodName × ByteArray × Nat × Option FieldType := (y_Wrapped_canUnlock, b_Wrapped_canUnlock, 2, (some .boolean))
abbrev M_Marked_unlock : MethodName × ByteArray × Nat × Option FieldType := (y_Marked_unlock, b_Marked_unlock, 4, (some .boolean))
abbrev M_Padded_unlock : MethodName × ByteArray × Nat × Option FieldType := (y_Padded_unlock, b_Padded_unlock, 5, (some .boolean))
abbrev M_Wrapping_unwind : MethodName × ByteArray × Nat × Option FieldType := (y_Wrapping_unwind, b_Wrapping_unwind, 5, none)
abbrev M_Padded_wordAt : MethodName × ByteArray × Nat × Option FieldType := (y_Padded_wordAt, b_Padded_wordAt, 4, (some .int))
abbrev M_Padded_cutZeros : MethodName × ByteArray × Nat × Option FieldType := (y_Padded_cutZeros, b_Padded_cutZeros, 3, (some .boolean))
abbrev M_Wrapped_unlock : MethodName × ByteArray × Nat × Option FieldType := (y_Wrapped_unlock, b_Wrapped_unlock, 4, (some .boolean))
abbrev M_Law_at : MethodName × ByteArray × Nat × Option FieldType := (y_Law_at, b_Law_at, 4, (some .int))
abbrev M_Desk_at : MethodName × ByteArray × Nat × Option FieldType := (y_Desk_at, b_Desk_at, 2, (some .int))
abbrev M_Model_init : MethodName × ByteArray × Nat × Option FieldType := (y_Model_init, b_Model_init, 4, none)
abbrev M_Model_power : MethodName × ByteArray × Nat × Option FieldType := (y_Model_power, b_Model_power, 4, (some .int))
abbrev M_Model_product : MethodName × ByteArray × Nat × Option FieldType := (y_Model_product, b_Model_product, 4, (some .int))
abbrev M_Model_around : MethodName × ByteArray × Nat × Option FieldType := (y_Model_around, b_Model_around, 2, (some .int))
abbrev M_Model_expand : MethodName × ByteArray × Nat × Option FieldType := (y_Model_expand, b_Model_expand, 9, none)
abbrev M_Model_changed : MethodName × ByteArray × Nat × Option FieldType := (y_Model_changed, b_Model_changed, 2, (some .int))
abbrev M_Model_thrown : MethodName × ByteArray × Nat × Option FieldType := (y_Model_thrown, b_Model_thrown, 1, (some .int))
abbrev M_Model_key : MethodName × ByteArray × Nat × Option FieldType := (y_Model_key, b_Model_key, 6, none)
abbrev M_Model_feed : MethodName × ByteArray × Nat × Option FieldType := (y_Model_feed, b_Model_feed, 4, (some .int))
abbrev M_Model_drop : MethodName × ByteArray × Nat × Option FieldType := (y_Model_drop, b_Model_drop, 1, none)
abbrev M_Model_alter : MethodName × ByteArray × Nat × Option FieldType := (y_Model_alter, b_Model_alter, 3, none)
abbrev M_Model_item : MethodName × ByteArray × Nat × Option FieldType := (y_Model_item, b_Model_item, 2, (some .int))
abbrev M_Model_forget : MethodName × ByteArray × Nat × Option FieldType := (y_Model_forget, b_Model_forget, 2, (some .int))
abbrev M_Model_cipher : MethodName × ByteArray × Nat × Option FieldType := (y_Model_cipher, b_Model_cipher, 3, none)
abbrev M_Model_begin : MethodName × ByteArray × Nat × Option FieldType := (y_Model_begin, b_Model_begin, 2, none)
abbrev M_Model_single : MethodName × ByteArray × Nat × Option FieldType := (y_Model_single, b_Model_single, 3, none)
abbrev M_Model_decipher : MethodName × ByteArray × Nat × Option FieldType := (y_Model_decipher, b_Model_decipher, 6, none)
abbrev M_Model_addKey : MethodName × ByteArray × Nat × Option FieldType := (y_Model_addKey, b_Model_addKey, 4, none)
abbrev M_Model_encipher : MethodName × ByteArray × Nat × Option FieldType := (y_Model_encipher, b_Model_encipher, 6, none)
abbrev M_Model_show : MethodName × ByteArray × Nat × Option FieldType := (y_Model_show, b_Model_show, 2, (some .int))
abbrev M_Model_mark : MethodName × ByteArray × Nat × Option FieldType := (y_Model_mark, b_Model_mark, 3, none)
abbrev M_Model_markJointly : MethodName × ByteArray × Nat × Option FieldType := (y_Model_markJointly, b_Model_markJointly, 3, none)
abbrev M_Model_markText : MethodName × ByteArray × Nat × Option FieldType := (y_Model_markText, b_Model_markText, 5, none)
abbrev M_Model_doubleBlock : MethodName × ByteArray × Nat × Option FieldType := (y_Model_doubleBlock, b_Model_doubleBlock, 3, none)
abbrev M_Model_bitBehind : MethodName × ByteArray × Nat × Option FieldType := (y_Model_bitBehind, b_Model_bitBehind, 2, (some .int))
abbrev M_Model_doubleSum : MethodName × ByteArray × Nat × Option FieldType := (y_Model_doubleSum, b_Model_doubleSum, 3, none)
abbrev M_Model_seal : MethodName × ByteArray × Nat × Option FieldType := (y_Model_seal, b_Model_seal, 3, (some .int))
abbrev M_Model_sealMarked : MethodName × ByteArray × Nat × Option FieldType := (y_Model_sealMarked, b_Model_sealMarked, 2, none)
abbrev M_Model_cross : MethodName × ByteArray × Nat × Option FieldType := (y_Model_cross, b_Model_cross, 7, none)
abbrev M_Model_front : MethodName × ByteArray × Nat × Option FieldType := (y_Model_front, b_Model_front, 4, none)
abbrev M_Model_wrap : MethodName × ByteArray × Nat × Option FieldType := (y_Model_wrap, b_Model_wrap, 5, none)
abbrev M_Model_number : MethodName × ByteArray × Nat × Option FieldType := (y_Model_number, b_Model_number, 2, none)
abbrev M_Model_sealPadded : MethodName × ByteArray × Nat × Option FieldType := (y_Model_sealPadded, b_Model_sealPadded, 3, none)
abbrev M_Model_open : MethodName × ByteArray × Nat × Option FieldType := (y_Model_open, b_Model_open, 4, (some .int))
abbrev M_Model_openMarked : MethodName × ByteArray × Nat × Option FieldType := (y_Model_openMarked, b_Model_openMarked, 3, (some .boolean))
abbrev M_Model_openWrapped : MethodName × ByteArray × Nat × Option FieldType := (y_Model_openWrapped, b_Model_openWrapped, 3, (some .boolean))
abbrev M_Model_unwrap : MethodName × ByteArray × Nat × Option FieldType := (y_Model_unwrap, b_Model_unwrap, 5, none)
abbrev M_Model_dropFront : MethodName × ByteArray × Nat × Option FieldType := (y_Model_dropFront, b_Model_dropFront, 2, none)
abbrev M_Model_openPadded : MethodName × ByteArray × Nat × Option FieldType := (y_Model_openPadded, b_Model_openPadded, 4, (some .boolean))
abbrev M_Model_size : MethodName × ByteArray × Nat × Option FieldType := (y_Model_size, b_Model_size, 1, (some .int))
abbrev M_Model_at : MethodName × ByteArray × Nat × Option FieldType := (y_Model_at, b_Model_at, 2, (some .int))
abbrev M_Model_take : MethodName × ByteArray × Nat × Option FieldType := (y_Model_take, b_Model_take, 2, (some .int))
def nwM : List (String × Nat × MethodName × String) := [(R_Cipher, 26, y_Desk_byteOf, R_Desk), (R_Marker, 20, y_Row_init, R_Desk), (R_Items, 21, y_Row_init, R_Desk), (R_Marked, 3, y_Way_init, R_Desk), (R_Wrapped, 3, y_Way_init, R_Desk), (R_Padded, 3, y_Way_init, R_Desk), (R_Desk, 63, y_Row_init, R_Desk), (R_Padded, 77, y_Desk_byteOf, R_Desk)]
def nwD : List MethodName := [⟨"SealingDesk$Way", "canLock", "(I)Z"⟩, ⟨"SealingDesk$Way", "lock", "(LSealingDesk$Row;LSealingDesk$Row;)V"⟩, ⟨"SealingDesk$Way", "canUnlock", "(I)Z"⟩, ⟨"SealingDesk$Way", "unlock", "(LSealingDesk$Row;LSealingDesk$Row;)Z"⟩]
def nwA : List String := [R_Row, R_Cipher, R_Way]
theorem q_ml_Cipher_26 : (R_Cipher, 26, y_Desk_byteOf, R_Desk) ∈ nwM := List.mem_of_getElem? (i := 0) rfl
theorem q_ml_Marker_20 : (R_Marker, 20, y_Row_init, R_Desk) ∈ nwM := List.mem_of_getElem? (i := 1) rfl
theorem q_ml_Items_21 : (R_Items, 21, y_Row_init, R_Desk) ∈ nwM := List.mem_of_getElem? (i := 2) rfl
theorem q_ml_Marked_3 : (R_Marked, 3, y_Way_init, R_Desk) ∈ nwM := List.mem_of_getElem? (i := 3) rfl
theorem q_ml_Wrapped_3 : (R_Wrapped, 3, y_Way_init, R_Desk) ∈ nwM := List.mem_of_getElem? (i := 4) rfl
theorem q_ml_Padded_3 : (R_Padded, 3, y_Way_init, R_Desk) ∈ nwM := List.mem_of_getElem? (i := 5) rfl
theorem q_ml_Desk_63 : (R_Desk, 63, y_Row_init, R_Desk) ∈ nwM := List.mem_of_getElem? (i := 6) rfl
theorem q_ml_Padded_77 : (R_Padded, 77, y_Desk_byteOf, R_Desk) ∈ nwM := List.mem_of_getElem? (i := 7) rfl
end
section
theorem k_in_Law : Cond.initialized R_Law ∈ tb := tb_i 0 (by decide +kernel) (by decide +kernel)
theorem k_in_Desk : Cond.initialized R_Desk ∈ tb := tb_i 1 (by decide +kernel) (by decide +kernel)
theorem k_in_Tables : Cond.initialized R_Tables ∈ tb := tb_i 2 (by decide +kernel) (by decide +kernel)
theorem k_in_Cipher : Cond.initialized R_Cipher ∈ tb := tb_i 3 (by decide +kernel) (by decide +kernel)
theorem k_in_Wrapping : Cond.initialized R_Wrapping ∈ tb := tb_i 4 (by decide +kernel) (by decide +kernel)
theorem k_in_Marker : Cond.initialized R_Marker ∈ tb := tb_i 5 (by decide +kernel) (by decide +kernel)
theorem k_in_Row : Cond.initialized R_Row ∈ tb := tb_i 6 (by decide +kernel) (by decide +kernel)
theorem k_in_Items : Cond.initialized R_Items ∈ tb := tb_i 7 (by decide +kernel) (by decide +kernel)
theorem k_in_Way : Cond.initialized R_Way ∈ tb := tb_i 8 (by decide +kernel) (by decide +kernel)
theorem k_in_Marked : Cond.initialized R_Marked ∈ tb := tb_i 9 (by decide +kernel) (by decide +kernel)
theorem k_in_Wrapped : Cond.initialized R_Wrapped ∈ tb := tb_i 10 (by decide +kernel) (by decide +kernel)
theorem k_in_Padded : Cond.initialized R_Padded ∈ tb := tb_i 11 (by decide +kernel) (by decide +kernel)
theorem k_in_Model : Cond.initialized R_Model ∈ tb := tb_i 12 (by decide +kernel) (by decide +kernel)
theorem k_in_Throwable : Cond.initialized R_Throwable ∈ tb := tb_i 13 (by decide +kernel) (by decide +kernel)
theorem k_in_Exception : Cond.initialized R_Exception ∈ tb := tb_i 14 (by decide +kernel) (by decide +kernel)
theorem k_in_RuntimeException : Cond.initialized R_RuntimeException ∈ tb := tb_i 15 (by decide +kernel) (by decide +kernel)
theorem k_in_IndexOutOfBoundsException : Cond.initialized R_IndexOutOfBoundsException ∈ tb := tb_i 16 (by decide +kernel) (by decide +kernel)
theorem k_in_IllegalArgumentException : Cond.initialized R_IllegalArgumentException ∈ tb := tb_i 17 (by decide +kernel) (by decide +kernel)
theorem k_in_IllegalStateException : Cond.initialized R_IllegalStateException ∈ tb := tb_i 18 (by decide +kernel) (by decide +kernel)
theorem k_in_System : Cond.initialized R_System ∈ tb := tb_i 19 (by decide +kernel) (by decide +kernel)
theorem k_in_Arrays : Cond.initialized R_Arrays ∈ tb := tb_i 20 (by decide +kernel) (by decide +kernel)
theorem k_cl_Law_8 : Cond.classLink R_Law 8 R_Desk ∈ tb := tb_i 21 (by decide +kernel) (by decide +kernel)
theorem k_it_Desk : Cond.instantiable R_Desk 7 ∈ tb := tb_i 22 (by decide +kernel) (by decide +kernel)
theorem k_ml_Law_45 : Cond.methodLink R_Law 45 y_Desk_init ∈ tb := tb_i 23 (by decide +kernel) (by decide +kernel)
theorem k_im_Desk_init : Cond.instanceMethod y_Desk_init ∈ tb := tb_i 24 (by decide +kernel) (by decide +kernel)
theorem k_cd_Desk_init : Cond.code y_Desk_init b_Desk_init 7 none ∈ tb := tb_i 25 (by decide +kernel) (by decide +kernel)
theorem k_ml_Desk_1 : Cond.methodLink R_Desk 1 y_Object_init ∈ tb := tb_i 26 (by decide +kernel) (by decide +kernel)
theorem k_im_Object_init : Cond.instanceMethod y_Object_init ∈ tb := tb_i 27 (by decide +kernel) (by decide +kernel)
theorem k_cd_Object_init : Cond.code y_Object_init b_Object_init 1 none ∈ tb := tb_i 28 (by decide +kernel) (by decide +kernel)
theorem k_cl_Desk_7 : Cond.classLink R_Desk 7 R_Tables ∈ tb := tb_i 29 (by decide +kernel) (by decide +kernel)
theorem k_it_Tables : Cond.instantiable R_Tables 2 ∈ tb := tb_i 30 (by decide +kernel) (by decide +kernel)
theorem k_ml_Desk_9 : Cond.methodLink R_Desk 9 y_Tables_init ∈ tb := tb_i 31 (by decide +kernel) (by decide +kernel)
theorem k_im_Tables_init : Cond.instanceMethod y_Tables_init ∈ tb := tb_i 32 (by decide +kernel) (by decide +kernel)
theorem k_cd_Tables_init : Cond.code y_Tables_init b_Tables_init 3 none ∈ tb := tb_i 33 (by decide +kernel) (by decide +kernel)
theorem k_ml_Tables_1 : Cond.methodLink R_Tables 1 y_Object_init ∈ tb := tb_i 34 (by decide +kernel) (by decide +kernel)
theorem k_ml_Tables_16 : Cond.methodLink R_Tables 16 y_Tables_twice ∈ tb := tb_i 35 (by decide +kernel) (by decide +kernel)
theorem k_st_Tables_twice : Cond.static y_Tables_twice ∈ tb := tb_i 36 (by decide +kernel) (by decide +kernel)
theorem k_cd_Tables_twice : Cond.code y_Tables_twice b_Tables_twice 1 (some .int) ∈ tb := tb_i 37 (by decide +kernel) (by decide +kernel)
theorem k_ml_Tables_20 : Cond.methodLink R_Tables 20 y_Tables_enter ∈ tb := tb_i 38 (by decide +kernel) (by decide +kernel)
theorem k_im_Tables_enter : Cond.instanceMethod y_Tables_enter ∈ tb := tb_i 40 (by decide +kernel) (by decide +kernel)
theorem k_cd_Tables_enter : Cond.code y_Tables_enter b_Tables_enter 4 none ∈ tb := tb_i 41 (by decide +kernel) (by decide +kernel)
theorem k_ml_Tables_24 : Cond.methodLink R_Tables 24 y_Tables_turnLeft ∈ tb := tb_i 42 (by decide +kernel) (by decide +kernel)
theorem k_st_Tables_turnLeft : Cond.static y_Tables_turnLeft ∈ tb := tb_i 43 (by decide +kernel) (by decide +kernel)
theorem k_cd_Tables_turnLeft : Cond.code y_Tables_turnLeft b_Tables_turnLeft 2 (some .int) ∈ tb := tb_i 44 (by decide +kernel) (by decide +kernel)
theorem k_fl_Tables_7 : Cond.fieldLink R_Tables 7 "SealingDesk$Tables" "forth" "[I" ∈ tb := tb_i 45 (by decide +kernel) (by decide +kernel)
theorem k_fl_Cipher_40 : Cond.fieldLink R_Cipher 40 "SealingDesk$Tables" "forth" "[I" ∈ tb := tb_i 46 (by decide +kernel) (by decide +kernel)
theorem k_fl_Tables_13 : Cond.fieldLink R_Tables 13 "SealingDesk$Tables" "back" "[I" ∈ tb := tb_i 47 (by decide +kernel) (by decide +kernel)
theorem k_fl_Cipher_69 : Cond.fieldLink R_Cipher 69 "SealingDesk$Tables" "back" "[I" ∈ tb := tb_i 48 (by decide +kernel) (by decide +kernel)
theorem k_ly_Tables_forth : Cond.laysFinal R_Tables "SealingDesk$Tables" "forth" "[I" ∈ tb := tb_i 49 (by decide +kernel) (by decide +kernel)
theorem k_ly_Tables_back : Cond.laysFinal R_Tables "SealingDesk$Tables" "back" "[I" ∈ tb := tb_i 51 (by decide +kernel) (by decide +kernel)
theorem k_su_Tables : Cond.superclass R_Tables "java/lang/Object" ∈ tb := tb_i 53 (by decide +kernel) (by decide +kernel)
theorem k_ac_int : Cond.arrayClass .int ∈ tb := tb_i 54 (by decide +kernel) (by decide +kernel)
theorem k_cl_Desk_10 : Cond.classLink R_Desk 10 R_Cipher ∈ tb := tb_i 55 (by decide +kernel) (by decide +kernel)
theorem k_it_Cipher : Cond.instantiable R_Cipher 3 ∈ tb := tb_i 56 (by decide +kernel) (by decide +kernel)
theorem k_ml_Desk_12 : Cond.methodLink R_Desk 12 y_Cipher_init ∈ tb := tb_i 57 (by decide +kernel) (by decide +kernel)
theorem k_im_Cipher_init : Cond.instanceMethod y_Cipher_init ∈ tb := tb_i 58 (by decide +kernel) (by decide +kernel)
theorem k_cd_Cipher_init : Cond.code y_Cipher_init b_Cipher_init 2 none ∈ tb := tb_i 59 (by decide +kernel) (by decide +kernel)
theorem k_ml_Cipher_3 : Cond.methodLink R_Cipher 3 y_Object_init ∈ tb := tb_i 60 (by decide +kernel) (by decide +kernel)
theorem k_ml_Cipher_22 : Cond.methodLink R_Cipher 22 y_Cipher_use ∈ tb := tb_i 61 (by decide +kernel) (by decide +kernel)
theorem k_im_Cipher_use : Cond.instanceMethod y_Cipher_use ∈ tb := tb_i 62 (by decide +kernel) (by decide +kernel)
theorem k_se_Cipher_use_Cipher_use : Cond.selects R_Cipher y_Cipher_use y_Cipher_use ∈ tb := tb_i 63 (by decide +kernel) (by decide +kernel)
theorem k_cd_Cipher_use : Cond.code y_Cipher_use b_Cipher_use 7 none ∈ tb := tb_i 64 (by decide +kernel) (by decide +kernel)
theorem k_st_Desk_byteOf : Cond.static y_Desk_byteOf ∈ tb := tb_i 66 (by decide +kernel) (by decide +kernel)
theorem k_cd_Desk_byteOf : Cond.code y_Desk_byteOf b_Desk_byteOf 2 (some .int) ∈ tb := tb_i 67 (by decide +kernel) (by decide +kernel)
theorem k_ml_Cipher_30 : Cond.methodLink R_Cipher 30 y_Cipher_expandFrom ∈ tb := tb_i 68 (by decide +kernel) (by decide +kernel)
theorem k_im_Cipher_expandFrom : Cond.instanceMethod y_Cipher_expandFrom ∈ tb := tb_i 70 (by decide +kernel) (by decide +kernel)
theorem k_cd_Cipher_expandFrom : Cond.code y_Cipher_expandFrom b_Cipher_expandFrom 5 none ∈ tb := tb_i 71 (by decide +kernel) (by decide +kernel)
theorem k_ml_Cipher_34 : Cond.methodLink R_Cipher 34 y_Tables_twice ∈ tb := tb_i 72 (by decide +kernel) (by decide +kernel)
theorem k_fl_Cipher_18 : Cond.fieldLink R_Cipher 18 "SealingDesk$Cipher" "tables" "LSealingDesk$Tables;" ∈ tb := tb_i 73 (by decide +kernel) (by decide +kernel)
theorem k_fl_Cipher_11 : Cond.fieldLink R_Cipher 11 "SealingDesk$Cipher" "roundKeys" "[I" ∈ tb := tb_i 74 (by decide +kernel) (by decide +kernel)
theorem k_fl_Cipher_15 : Cond.fieldLink R_Cipher 15 "SealingDesk$Cipher" "before" "[I" ∈ tb := tb_i 75 (by decide +kernel) (by decide +kernel)
theorem k_ly_Cipher_tables : Cond.laysFinal R_Cipher "SealingDesk$Cipher" "tables" "LSealingDesk$Tables;" ∈ tb := tb_i 76 (by decide +kernel) (by decide +kernel)
theorem k_ly_Cipher_roundKeys : Cond.laysFinal R_Cipher "SealingDesk$Cipher" "roundKeys" "[I" ∈ tb := tb_i 78 (by decide +kernel) (by decide +kernel)
theorem k_ly_Cipher_before : Cond.laysFinal R_Cipher "SealingDesk$Cipher" "before" "[I" ∈ tb := tb_i 80 (by decide +kernel) (by decide +kernel)
theorem k_su_Cipher : Cond.superclass R_Cipher "java/lang/Object" ∈ tb := tb_i 82 (by decide +kernel) (by decide +kernel)
theorem k_cl_Desk_15 : Cond.classLink R_Desk 15 R_Wrapping ∈ tb := tb_i 83 (by decide +kernel) (by decide +kernel)
theorem k_it_Wrapping : Cond.instantiable R_Wrapping 2 ∈ tb := tb_i 84 (by decide +kernel) (by decide +kernel)
theorem k_ml_Desk_17 : Cond.methodLink R_Desk 17 y_Wrapping_init ∈ tb := tb_i 85 (by decide +kernel) (by decide +kernel)
theorem k_im_Wrapping_init : Cond.instanceMethod y_Wrapping_init ∈ tb := tb_i 86 (by decide +kernel) (by decide +kernel)
theorem k_cd_Wrapping_init : Cond.code y_Wrapping_init b_Wrapping_init 2 none ∈ tb := tb_i 87 (by decide +kernel) (by decide +kernel)
theorem k_ml_Wrapping_3 : Cond.methodLink R_Wrapping 3 y_Object_init ∈ tb := tb_i 88 (by decide +kernel) (by decide +kernel)
theorem k_fl_Wrapping_15 : Cond.fieldLink R_Wrapping 15 "SealingDesk$Wrapping" "cipher" "LSealingDesk$Cipher;" ∈ tb := tb_i 89 (by decide +kernel) (by decide +kernel)
theorem k_fl_Wrapping_9 : Cond.fieldLink R_Wrapping 9 "SealingDesk$Wrapping" "block" "[I" ∈ tb := tb_i 90 (by decide +kernel) (by decide +kernel)
theorem k_ly_Wrapping_cipher : Cond.laysFinal R_Wrapping "SealingDesk$Wrapping" "cipher" "LSealingDesk$Cipher;" ∈ tb := tb_i 91 (by decide +kernel) (by decide +kernel)
theorem k_ly_Wrapping_block : Cond.laysFinal R_Wrapping "SealingDesk$Wrapping" "block" "[I" ∈ tb := tb_i 93 (by decide +kernel) (by decide +kernel)
theorem k_su_Wrapping : Cond.superclass R_Wrapping "java/lang/Object" ∈ tb := tb_i 95 (by decide +kernel) (by decide +kernel)
theorem k_cl_Desk_20 : Cond.classLink R_Desk 20 R_Marker ∈ tb := tb_i 96 (by decide +kernel) (by decide +kernel)
theorem k_it_Marker : Cond.instantiable R_Marker 4 ∈ tb := tb_i 97 (by decide +kernel) (by decide +kernel)
theorem k_ml_Desk_22 : Cond.methodLink R_Desk 22 y_Marker_init ∈ tb := tb_i 98 (by decide +kernel) (by decide +kernel)
theorem k_im_Marker_init : Cond.instanceMethod y_Marker_init ∈ tb := tb_i 99 (by decide +kernel) (by decide +kernel)
theorem k_cd_Marker_init : Cond.code y_Marker_init b_Marker_init 2 none ∈ tb := tb_i 100 (by decide +kernel) (by decide +kernel)
theorem k_ml_Marker_3 : Cond.methodLink R_Marker 3 y_Object_init ∈ tb := tb_i 101 (by decide +kernel) (by decide +kernel)
theorem k_cl_Marker_18 : Cond.classLink R_Marker 18 R_Row ∈ tb := tb_i 102 (by decide +kernel) (by decide +kernel)
theorem k_it_Row : Cond.instantiable R_Row 2 ∈ tb := tb_i 103 (by decide +kernel) (by decide +kernel)
theorem k_im_Row_init : Cond.instanceMethod y_Row_init ∈ tb := tb_i 105 (by decide +kernel) (by decide +kernel)
theorem k_cd_Row_init : Cond.code y_Row_init b_Row_init 1 none ∈ tb := tb_i 106 (by decide +kernel) (by decide +kernel)
theorem k_ml_Row_3 : Cond.methodLink R_Row 3 y_Object_init ∈ tb := tb_i 107 (by decide +kernel) (by decide +kernel)
theorem k_fl_Row_9 : Cond.fieldLink R_Row 9 "SealingDesk$Row" "bytes" "[I" ∈ tb := tb_i 108 (by decide +kernel) (by decide +kernel)
theorem k_fl_Marker_39 : Cond.fieldLink R_Marker 39 "SealingDesk$Row" "bytes" "[I" ∈ tb := tb_i 109 (by decide +kernel) (by decide +kernel)
theorem k_fl_Wrapping_45 : Cond.fieldLink R_Wrapping 45 "SealingDesk$Row" "bytes" "[I" ∈ tb := tb_i 110 (by decide +kernel) (by decide +kernel)
theorem k_fl_Padded_33 : Cond.fieldLink R_Padded 33 "SealingDesk$Row" "bytes" "[I" ∈ tb := tb_i 111 (by decide +kernel) (by decide +kernel)
theorem k_fl_Wrapped_28 : Cond.fieldLink R_Wrapped 28 "SealingDesk$Row" "bytes" "[I" ∈ tb := tb_i 112 (by decide +kernel) (by decide +kernel)
theorem k_fl_Marked_48 : Cond.fieldLink R_Marked 48 "SealingDesk$Row" "bytes" "[I" ∈ tb := tb_i 113 (by decide +kernel) (by decide +kernel)
theorem k_fl_Desk_118 : Cond.fieldLink R_Desk 118 "SealingDesk$Row" "bytes" "[I" ∈ tb := tb_i 114 (by decide +kernel) (by decide +kernel)
theorem k_fl_Row_15 : Cond.fieldLink R_Row 15 "SealingDesk$Row" "length" "I" ∈ tb := tb_i 115 (by decide +kernel) (by decide +kernel)
theorem k_fl_Marker_29 : Cond.fieldLink R_Marker 29 "SealingDesk$Row" "length" "I" ∈ tb := tb_i 116 (by decide +kernel) (by decide +kernel)
theorem k_fl_Wrapping_19 : Cond.fieldLink R_Wrapping 19 "SealingDesk$Row" "length" "I" ∈ tb := tb_i 117 (by decide +kernel) (by decide +kernel)
theorem k_fl_Desk_90 : Cond.fieldLink R_Desk 90 "SealingDesk$Row" "length" "I" ∈ tb := tb_i 118 (by decide +kernel) (by decide +kernel)
theorem k_fl_Padded_29 : Cond.fieldLink R_Padded 29 "SealingDesk$Row" "length" "I" ∈ tb := tb_i 119 (by decide +kernel) (by decide +kernel)
theorem k_fl_Wrapped_32 : Cond.fieldLink R_Wrapped 32 "SealingDesk$Row" "length" "I" ∈ tb := tb_i 120 (by decide +kernel) (by decide +kernel)
theorem k_fl_Marked_51 : Cond.fieldLink R_Marked 51 "SealingDesk$Row" "length" "I" ∈ tb := tb_i 121 (by decide +kernel) (by decide +kernel)
theorem k_ly_Row_bytes : Cond.laysFinal R_Row "SealingDesk$Row" "bytes" "[I" ∈ tb := tb_i 122 (by decide +kernel) (by decide +kernel)
theorem k_ly_Row_length : Cond.lays R_Row "SealingDesk$Row" "length" "I" ∈ tb := tb_i 124 (by decide +kernel) (by decide +kernel)
theorem k_su_Row : Cond.superclass R_Row "java/lang/Object" ∈ tb := tb_i 126 (by decide +kernel) (by decide +kernel)
theorem k_fl_Marker_25 : Cond.fieldLink R_Marker 25 "SealingDesk$Marker" "cipher" "LSealingDesk$Cipher;" ∈ tb := tb_i 127 (by decide +kernel) (by decide +kernel)
theorem k_fl_Marker_9 : Cond.fieldLink R_Marker 9 "SealingDesk$Marker" "twist" "[I" ∈ tb := tb_i 128 (by decide +kernel) (by decide +kernel)
theorem k_fl_Marker_15 : Cond.fieldLink R_Marker 15 "SealingDesk$Marker" "sum" "[I" ∈ tb := tb_i 129 (by decide +kernel) (by decide +kernel)
theorem k_fl_Marker_21 : Cond.fieldLink R_Marker 21 "SealingDesk$Marker" "joined" "LSealingDesk$Row;" ∈ tb := tb_i 130 (by decide +kernel) (by decide +kernel)
theorem k_ly_Marker_cipher : Cond.laysFinal R_Marker "SealingDesk$Marker" "cipher" "LSealingDesk$Cipher;" ∈ tb := tb_i 131 (by decide +kernel) (by decide +kernel)
theorem k_ly_Marker_twist : Cond.laysFinal R_Marker "SealingDesk$Marker" "twist" "[I" ∈ tb := tb_i 133 (by decide +kernel) (by decide +kernel)
theorem k_ly_Marker_sum : Cond.laysFinal R_Marker "SealingDesk$Marker" "sum" "[I" ∈ tb := tb_i 135 (by decide +kernel) (by decide +kernel)
theorem k_ly_Marker_joined : Cond.laysFinal R_Marker "SealingDesk$Marker" "joined" "LSealingDesk$Row;" ∈ tb := tb_i 137 (by decide +kernel) (by decide +kernel)
theorem k_su_Marker : Cond.superclass R_Marker "java/lang/Object" ∈ tb := tb_i 139 (by decide +kernel) (by decide +kernel)
theorem k_cl_Desk_23 : Cond.classLink R_Desk 23 R_Items ∈ tb := tb_i 140 (by decide +kernel) (by decide +kernel)
theorem k_it_Items : Cond.instantiable R_Items 2 ∈ tb := tb_i 141 (by decide +kernel) (by decide +kernel)
theorem k_ml_Desk_25 : Cond.methodLink R_Desk 25 y_Items_init ∈ tb := tb_i 142 (by decide +kernel) (by decide +kernel)
theorem k_im_Items_init : Cond.instanceMethod y_Items_init ∈ tb := tb_i 143 (by decide +kernel) (by decide +kernel)
theorem k_cd_Items_init : Cond.code y_Items_init b_Items_init 2 none ∈ tb := tb_i 144 (by decide +kernel) (by decide +kernel)
theorem k_ml_Items_3 : Cond.methodLink R_Items 3 y_Object_init ∈ tb := tb_i 145 (by decide +kernel) (by decide +kernel)
theorem k_cl_Items_9 : Cond.classLink R_Items 9 R_Row ∈ tb := tb_i 146 (by decide +kernel) (by decide +kernel)
theorem k_fl_Items_11 : Cond.fieldLink R_Items 11 "SealingDesk$Items" "rows" "[LSealingDesk$Row;" ∈ tb := tb_i 149 (by decide +kernel) (by decide +kernel)
theorem k_fl_Marker_74 : Cond.fieldLink R_Marker 74 "SealingDesk$Items" "rows" "[LSealingDesk$Row;" ∈ tb := tb_i 150 (by decide +kernel) (by decide +kernel)
theorem k_fl_Desk_129 : Cond.fieldLink R_Desk 129 "SealingDesk$Items" "rows" "[LSealingDesk$Row;" ∈ tb := tb_i 151 (by decide +kernel) (by decide +kernel)
theorem k_fl_Items_17 : Cond.fieldLink R_Items 17 "SealingDesk$Items" "count" "I" ∈ tb := tb_i 152 (by decide +kernel) (by decide +kernel)
theorem k_fl_Marker_69 : Cond.fieldLink R_Marker 69 "SealingDesk$Items" "count" "I" ∈ tb := tb_i 153 (by decide +kernel) (by decide +kernel)
theorem k_fl_Desk_124 : Cond.fieldLink R_Desk 124 "SealingDesk$Items" "count" "I" ∈ tb := tb_i 154 (by decide +kernel) (by decide +kernel)
theorem k_ly_Items_rows : Cond.laysFinal R_Items "SealingDesk$Items" "rows" "[LSealingDesk$Row;" ∈ tb := tb_i 155 (by decide +kernel) (by decide +kernel)
theorem k_ly_Items_count : Cond.lays R_Items "SealingDesk$Items" "count" "I" ∈ tb := tb_i 157 (by decide +kernel) (by decide +kernel)
theorem k_su_Items : Cond.superclass R_Items "java/lang/Object" ∈ tb := tb_i 159 (by decide +kernel) (by decide +kernel)
theorem k_cl_Desk_40 : Cond.classLink R_Desk 40 R_Way ∈ tb := tb_i 161 (by decide +kernel) (by decide +kernel)
theorem k_cl_Desk_42 : Cond.classLink R_Desk 42 R_Marked ∈ tb := tb_i 163 (by decide +kernel) (by decide +kernel)
theorem k_it_Marked : Cond.instantiable R_Marked 6 ∈ tb := tb_i 164 (by decide +kernel) (by decide +kernel)
theorem k_ml_Desk_44 : Cond.methodLink R_Desk 44 y_Marked_init ∈ tb := tb_i 165 (by decide +kernel) (by decide +kernel)
theorem k_im_Marked_init : Cond.instanceMethod y_Marked_init ∈ tb := tb_i 166 (by decide +kernel) (by decide +kernel)
theorem k_cd_Marked_init : Cond.code y_Marked_init b_Marked_init 4 none ∈ tb := tb_i 167 (by decide +kernel) (by decide +kernel)
theorem k_im_Way_init : Cond.instanceMethod y_Way_init ∈ tb := tb_i 169 (by decide +kernel) (by decide +kernel)
theorem k_cd_Way_init : Cond.code y_Way_init b_Way_init 1 none ∈ tb := tb_i 170 (by decide +kernel) (by decide +kernel)
theorem k_ml_Way_1 : Cond.methodLink R_Way 1 y_Object_init ∈ tb := tb_i 171 (by decide +kernel) (by decide +kernel)
theorem k_fl_Marked_21 : Cond.fieldLink R_Marked 21 "SealingDesk$Marked" "marker" "LSealingDesk$Marker;" ∈ tb := tb_i 172 (by decide +kernel) (by decide +kernel)
theorem k_fl_Marked_25 : Cond.fieldLink R_Marked 25 "SealingDesk$Marked" "items" "LSealingDesk$Items;" ∈ tb := tb_i 173 (by decide +kernel) (by decide +kernel)
theorem k_fl_Marked_29 : Cond.fieldLink R_Marked 29 "SealingDesk$Marked" "cipher" "LSealingDesk$Cipher;" ∈ tb := tb_i 174 (by decide +kernel) (by decide +kernel)
theorem k_fl_Marked_9 : Cond.fieldLink R_Marked 9 "SealingDesk$Marked" "sign" "[I" ∈ tb := tb_i 175 (by decide +kernel) (by decide +kernel)
theorem k_fl_Marked_15 : Cond.fieldLink R_Marked 15 "SealingDesk$Marked" "counter" "[I" ∈ tb := tb_i 176 (by decide +kernel) (by decide +kernel)
theorem k_fl_Marked_18 : Cond.fieldLink R_Marked 18 "SealingDesk$Marked" "block" "[I" ∈ tb := tb_i 177 (by decide +kernel) (by decide +kernel)
theorem k_ly_Marked_marker : Cond.laysFinal R_Marked "SealingDesk$Marked" "marker" "LSealingDesk$Marker;" ∈ tb := tb_i 178 (by decide +kernel) (by decide +kernel)
theorem k_ly_Marked_items : Cond.laysFinal R_Marked "SealingDesk$Marked" "items" "LSealingDesk$Items;" ∈ tb := tb_i 180 (by decide +kernel) (by decide +kernel)
theorem k_ly_Marked_cipher : Cond.laysFinal R_Marked "SealingDesk$Marked" "cipher" "LSealingDesk$Cipher;" ∈ tb := tb_i 182 (by decide +kernel) (by decide +kernel)
theorem k_ly_Marked_sign : Cond.laysFinal R_Marked "SealingDesk$Marked" "sign" "[I" ∈ tb := tb_i 184 (by decide +kernel) (by decide +kernel)
theorem k_ly_Marked_counter : Cond.laysFinal R_Marked "SealingDesk$Marked" "counter" "[I" ∈ tb := tb_i 186 (by decide +kernel) (by decide +kernel)
theorem k_ly_Marked_block : Cond.laysFinal R_Marked "SealingDesk$Marked" "block" "[I" ∈ tb := tb_i 188 (by decide +kernel) (by decide +kernel)
theorem k_su_Marked : Cond.superclass R_Marked R_Way ∈ tb := tb_i 190 (by decide +kernel) (by decide +kernel)
theorem k_cl_Desk_47 : Cond.classLink R_Desk 47 R_Wrapped ∈ tb := tb_i 191 (by decide +kernel) (by decide +kernel)
theorem k_it_Wrapped : Cond.instantiable R_Wrapped 1 ∈ tb := tb_i 192 (by decide +kernel) (by decide +kernel)
theorem k_ml_Desk_49 : Cond.methodLink R_Desk 49 y_Wrapped_init ∈ tb := tb_i 193 (by decide +kernel) (by decide +kernel)
theorem k_im_Wrapped_init : Cond.instanceMethod y_Wrapped_init ∈ tb := tb_i 194 (by decide +kernel) (by decide +kernel)
theorem k_cd_Wrapped_init : Cond.code y_Wrapped_init b_Wrapped_init 2 none ∈ tb := tb_i 195 (by decide +kernel) (by decide +kernel)
theorem k_fl_Wrapped_9 : Cond.fieldLink R_Wrapped 9 "SealingDesk$Wrapped" "wrapping" "LSealingDesk$Wrapping;" ∈ tb := tb_i 197 (by decide +kernel) (by decide +kernel)
theorem k_ly_Wrapped_wrapping : Cond.laysFinal R_Wrapped "SealingDesk$Wrapped" "wrapping" "LSealingDesk$Wrapping;" ∈ tb := tb_i 198 (by decide +kernel) (by decide +kernel)
theorem k_su_Wrapped : Cond.superclass R_Wrapped R_Way ∈ tb := tb_i 200 (by decide +kernel) (by decide +kernel)
theorem k_cl_Desk_52 : Cond.classLink R_Desk 52 R_Padded ∈ tb := tb_i 201 (by decide +kernel) (by decide +kernel)
theorem k_it_Padded : Cond.instantiable R_Padded 2 ∈ tb := tb_i 202 (by decide +kernel) (by decide +kernel)
theorem k_ml_Desk_54 : Cond.methodLink R_Desk 54 y_Padded_init ∈ tb := tb_i 203 (by decide +kernel) (by decide +kernel)
theorem k_im_Padded_init : Cond.instanceMethod y_Padded_init ∈ tb := tb_i 204 (by decide +kernel) (by decide +kernel)
theorem k_cd_Padded_init : Cond.code y_Padded_init b_Padded_init 3 none ∈ tb := tb_i 205 (by decide +kernel) (by decide +kernel)
theorem k_fl_Padded_9 : Cond.fieldLink R_Padded 9 "SealingDesk$Padded" "wrapping" "LSealingDesk$Wrapping;" ∈ tb := tb_i 207 (by decide +kernel) (by decide +kernel)
theorem k_fl_Padded_15 : Cond.fieldLink R_Padded 15 "SealingDesk$Padded" "cipher" "LSealingDesk$Cipher;" ∈ tb := tb_i 208 (by decide +kernel) (by decide +kernel)
theorem k_ly_Padded_wrapping : Cond.laysFinal R_Padded "SealingDesk$Padded" "wrapping" "LSealingDesk$Wrapping;" ∈ tb := tb_i 209 (by decide +kernel) (by decide +kernel)
theorem k_ly_Padded_cipher : Cond.laysFinal R_Padded "SealingDesk$Padded" "cipher" "LSealingDesk$Cipher;" ∈ tb := tb_i 211 (by decide +kernel) (by decide +kernel)
theorem k_su_Padded : Cond.superclass R_Padded R_Way ∈ tb := tb_i 213 (by decide +kernel) (by decide +kernel)
theorem k_cl_Desk_61 : Cond.classLink R_Desk 61 R_Row ∈ tb := tb_i 214 (by decide +kernel) (by decide +kernel)
theorem k_fl_Desk_26 : Cond.fieldLink R_Desk 26 "SealingDesk" "ciphers" "[LSealingDesk$Cipher;" ∈ tb := tb_i 216 (by decide +kernel) (by decide +kernel)
theorem k_fl_Desk_32 : Cond.fieldLink R_Desk 32 "SealingDesk" "marker" "LSealingDesk$Marker;" ∈ tb := tb_i 217 (by decide +kernel) (by decide +kernel)
theorem k_fl_Desk_57 : Cond.fieldLink R_Desk 57 "SealingDesk" "ways" "[LSealingDesk$Way;" ∈ tb := tb_i 218 (by decide +kernel) (by decide +kernel)
theorem k_fl_Desk_36 : Cond.fieldLink R_Desk 36 "SealingDesk" "items" "LSealingDesk$Items;" ∈ tb := tb_i 219 (by decide +kernel) (by decide +kernel)
theorem k_fl_Desk_64 : Cond.fieldLink R_Desk 64 "SealingDesk" "input" "LSealingDesk$Row;" ∈ tb := tb_i 220 (by decide +kernel) (by decide +kernel)
theorem k_fl_Desk_68 : Cond.fieldLink R_Desk 68 "SealingDesk" "output" "LSealingDesk$Row;" ∈ tb := tb_i 221 (by decide +kernel) (by decide +kernel)
theorem k_fl_Desk_71 : Cond.fieldLink R_Desk 71 "SealingDesk" "opened" "LSealingDesk$Row;" ∈ tb := tb_i 222 (by decide +kernel) (by decide +kernel)
theorem k_ly_Desk_ciphers : Cond.laysFinal R_Desk "SealingDesk" "ciphers" "[LSealingDesk$Cipher;" ∈ tb := tb_i 223 (by decide +kernel) (by decide +kernel)
theorem k_ly_Desk_marker : Cond.laysFinal R_Desk "SealingDesk" "marker" "LSealingDesk$Marker;" ∈ tb := tb_i 225 (by decide +kernel) (by decide +kernel)
theorem k_ly_Desk_ways : Cond.laysFinal R_Desk "SealingDesk" "ways" "[LSealingDesk$Way;" ∈ tb := tb_i 227 (by decide +kernel) (by decide +kernel)
theorem k_ly_Desk_items : Cond.laysFinal R_Desk "SealingDesk" "items" "LSealingDesk$Items;" ∈ tb := tb_i 229 (by decide +kernel) (by decide +kernel)
theorem k_ly_Desk_input : Cond.laysFinal R_Desk "SealingDesk" "input" "LSealingDesk$Row;" ∈ tb := tb_i 231 (by decide +kernel) (by decide +kernel)
theorem k_ly_Desk_output : Cond.laysFinal R_Desk "SealingDesk" "output" "LSealingDesk$Row;" ∈ tb := tb_i 233 (by decide +kernel) (by decide +kernel)
theorem k_ly_Desk_opened : Cond.laysFinal R_Desk "SealingDesk" "opened" "LSealingDesk$Row;" ∈ tb := tb_i 235 (by decide +kernel) (by decide +kernel)
theorem k_su_Desk : Cond.superclass R_Desk "java/lang/Object" ∈ tb := tb_i 237 (by decide +kernel) (by decide +kernel)
theorem k_ml_Law_62 : Cond.methodLink R_Law 62 y_Desk_drop ∈ tb := tb_i 238 (by decide +kernel) (by decide +kernel)
theorem k_im_Desk_drop : Cond.instanceMethod y_Desk_drop ∈ tb := tb_i 239 (by decide +kernel) (by decide +kernel)
theorem k_se_Desk_drop_Desk_drop : Cond.selects R_Desk y_Desk_drop y_Desk_drop ∈ tb := tb_i 240 (by decide +kernel) (by decide +kernel)
theorem k_cd_Desk_drop : Cond.code y_Desk_drop b_Desk_drop 1 none ∈ tb := tb_i 241 (by decide +kernel) (by decide +kernel)
theorem k_ml_Desk_107 : Cond.methodLink R_Desk 107 y_Row_clear ∈ tb := tb_i 242 (by decide +kernel) (by decide +kernel)
theorem k_im_Row_clear : Cond.instanceMethod y_Row_clear ∈ tb := tb_i 243 (by decide +kernel) (by decide +kernel)
theorem k_se_Row_clear_Row_clear : Cond.selects R_Row y_Row_clear y_Row_clear ∈ tb := tb_i 244 (by decide +kernel) (by decide +kernel)
theorem k_cd_Row_clear : Cond.code y_Row_clear b_Row_clear 1 none ∈ tb := tb_i 245 (by decide +kernel) (by decide +kernel)
theorem k_ml_Law_74 : Cond.methodLink R_Law 74 y_Desk_forget ∈ tb := tb_i 246 (by decide +kernel) (by decide +kernel)
theorem k_im_Desk_forget : Cond.instanceMethod y_Desk_forget ∈ tb := tb_i 247 (by decide +kernel) (by decide +kernel)
theorem k_se_Desk_forget_Desk_forget : Cond.selects R_Desk y_Desk_forget y_Desk_forget ∈ tb := tb_i 248 (by decide +kernel) (by decide +kernel)
theorem k_cd_Desk_forget : Cond.code y_Desk_forget b_Desk_forget 2 (some .int) ∈ tb := tb_i 249 (by decide +kernel) (by decide +kernel)
theorem k_ml_Law_82 : Cond.methodLink R_Law 82 y_Desk_mark ∈ tb := tb_i 250 (by decide +kernel) (by decide +kernel)
theorem k_im_Desk_mark : Cond.instanceMethod y_Desk_mark ∈ tb := tb_i 251 (by decide +kernel) (by decide +kernel)
theorem k_se_Desk_mark_Desk_mark : Cond.selects R_Desk y_Desk_mark y_Desk_mark ∈ tb := tb_i 252 (by decide +kernel) (by decide +kernel)
theorem k_cd_Desk_mark : Cond.code y_Desk_mark b_Desk_mark 2 none ∈ tb := tb_i 253 (by decide +kernel) (by decide +kernel)
theorem k_ml_Desk_146 : Cond.methodLink R_Desk 146 y_Marker_join ∈ tb := tb_i 254 (by decide +kernel) (by decide +kernel)
theorem k_im_Marker_join : Cond.instanceMethod y_Marker_join ∈ tb := tb_i 255 (by decide +kernel) (by decide +kernel)
theorem k_se_Marker_join_Marker_join : Cond.selects R_Marker y_Marker_join y_Marker_join ∈ tb := tb_i 256 (by decide +kernel) (by decide +kernel)
theorem k_cd_Marker_join : Cond.code y_Marker_join b_Marker_join 5 none ∈ tb := tb_i 257 (by decide +kernel) (by decide +kernel)
theorem k_ml_Marker_58 : Cond.methodLink R_Marker 58 y_Row_clear ∈ tb := tb_i 258 (by decide +kernel) (by decide +kernel)
theorem k_ml_Marker_61 : Cond.methodLink R_Marker 61 y_Row_addZeros ∈ tb := tb_i 259 (by decide +kernel) (by decide +kernel)
theorem k_im_Row_addZeros : Cond.instanceMethod y_Row_addZeros ∈ tb := tb_i 260 (by decide +kernel) (by decide +kernel)
theorem k_se_Row_addZeros_Row_addZeros : Cond.selects R_Row y_Row_addZeros y_Row_addZeros ∈ tb := tb_i 261 (by decide +kernel) (by decide +kernel)
theorem k_cd_Row_addZeros : Cond.code y_Row_addZeros b_Row_addZeros 3 none ∈ tb := tb_i 262 (by decide +kernel) (by decide +kernel)
theorem k_ml_Row_25 : Cond.methodLink R_Row 25 y_Row_add ∈ tb := tb_i 263 (by decide +kernel) (by decide +kernel)
theorem k_im_Row_add : Cond.instanceMethod y_Row_add ∈ tb := tb_i 264 (by decide +kernel) (by decide +kernel)
theorem k_se_Row_add_Row_add : Cond.selects R_Row y_Row_add y_Row_add ∈ tb := tb_i 265 (by decide +kernel) (by decide +kernel)
theorem k_cd_Row_add : Cond.code y_Row_add b_Row_add 2 none ∈ tb := tb_i 266 (by decide +kernel) (by decide +kernel)
theorem k_ml_Marker_65 : Cond.methodLink R_Marker 65 y_Marker_markRow ∈ tb := tb_i 267 (by decide +kernel) (by decide +kernel)
theorem k_im_Marker_markRow : Cond.instanceMethod y_Marker_markRow ∈ tb := tb_i 268 (by decide +kernel) (by decide +kernel)
theorem k_se_Marker_markRow_Marker_markRow : Cond.selects R_Marker y_Marker_markRow y_Marker_markRow ∈ tb := tb_i 269 (by decide +kernel) (by decide +kernel)
theorem k_cd_Marker_markRow : Cond.code y_Marker_markRow b_Marker_markRow 5 none ∈ tb := tb_i 270 (by decide +kernel) (by decide +kernel)
theorem k_ml_Marker_33 : Cond.methodLink R_Marker 33 y_Arrays_fill ∈ tb := tb_i 271 (by decide +kernel) (by decide +kernel)
theorem k_st_Arrays_fill : Cond.static y_Arrays_fill ∈ tb := tb_i 272 (by decide +kernel) (by decide +kernel)
theorem k_cd_Arrays_fill : Cond.code y_Arrays_fill b_Arrays_fill 5 none ∈ tb := tb_i 273 (by decide +kernel) (by decide +kernel)
theorem k_ml_Arrays_13 : Cond.methodLink R_Arrays 13 y_Arrays_rangeCheck ∈ tb := tb_i 274 (by decide +kernel) (by decide +kernel)
theorem k_st_Arrays_rangeCheck : Cond.static y_Arrays_rangeCheck ∈ tb := tb_i 275 (by decide +kernel) (by decide +kernel)
theorem k_cd_Arrays_rangeCheck : Cond.code y_Arrays_rangeCheck b_Arrays_rangeCheck 3 none ∈ tb := tb_i 276 (by decide +kernel) (by decide +kernel)
theorem k_ml_Marker_42 : Cond.methodLink R_Marker 42 y_Marker_addTo ∈ tb := tb_i 277 (by decide +kernel) (by decide +kernel)
theorem k_st_Marker_addTo : Cond.static y_Marker_addTo ∈ tb := tb_i 278 (by decide +kernel) (by decide +kernel)
theorem k_cd_Marker_addTo : Cond.code y_Marker_addTo b_Marker_addTo 5 none ∈ tb := tb_i 279 (by decide +kernel) (by decide +kernel)
theorem k_ml_Marker_46 : Cond.methodLink R_Marker 46 y_Cipher_turn ∈ tb := tb_i 280 (by decide +kernel) (by decide +kernel)
theorem k_im_Cipher_turn : Cond.instanceMethod y_Cipher_turn ∈ tb := tb_i 281 (by decide +kernel) (by decide +kernel)
theorem k_se_Cipher_turn_Cipher_turn : Cond.selects R_Cipher y_Cipher_turn y_Cipher_turn ∈ tb := tb_i 282 (by decide +kernel) (by decide +kernel)
theorem k_cd_Cipher_turn : Cond.code y_Cipher_turn b_Cipher_turn 3 none ∈ tb := tb_i 283 (by decide +kernel) (by decide +kernel)
theorem k_ml_Cipher_43 : Cond.methodLink R_Cipher 43 y_Cipher_addRoundKey ∈ tb := tb_i 284 (by decide +kernel) (by decide +kernel)
theorem k_im_Cipher_addRoundKey : Cond.instanceMethod y_Cipher_addRoundKey ∈ tb := tb_i 286 (by decide +kernel) (by decide +kernel)
theorem k_cd_Cipher_addRoundKey : Cond.code y_Cipher_addRoundKey b_Cipher_addRoundKey 4 none ∈ tb := tb_i 287 (by decide +kernel) (by decide +kernel)
theorem k_ml_Cipher_47 : Cond.methodLink R_Cipher 47 y_Cipher_substitute ∈ tb := tb_i 288 (by decide +kernel) (by decide +kernel)
theorem k_im_Cipher_substitute : Cond.instanceMethod y_Cipher_substitute ∈ tb := tb_i 290 (by decide +kernel) (by decide +kernel)
theorem k_cd_Cipher_substitute : Cond.code y_Cipher_substitute b_Cipher_substitute 3 none ∈ tb := tb_i 291 (by decide +kernel) (by decide +kernel)
theorem k_ml_Cipher_60 : Cond.methodLink R_Cipher 60 ⟨"java/lang/System", "arraycopy", "(Ljava/lang/Object;ILjava/lang/Object;II)V"⟩ ∈ tb := tb_i 292 (by decide +kernel) (by decide +kernel)
theorem k_st_System_arraycopy : Cond.static ⟨"java/lang/System", "arraycopy", "(Ljava/lang/Object;ILjava/lang/Object;II)V"⟩ ∈ tb := tb_i 293 (by decide +kernel) (by decide +kernel)
theorem k_nt_System_arraycopy : Cond.native ⟨"java/lang/System", "arraycopy", "(Ljava/lang/Object;ILjava/lang/Object;II)V"⟩ ∈ tb := tb_i 294 (by decide +kernel) (by decide +kernel)
theorem k_ml_Cipher_66 : Cond.methodLink R_Cipher 66 y_Cipher_placeBefore ∈ tb := tb_i 295 (by decide +kernel) (by decide +kernel)
theorem k_st_Cipher_placeBefore : Cond.static y_Cipher_placeBefore ∈ tb := tb_i 296 (by decide +kernel) (by decide +kernel)
theorem k_cd_Cipher_placeBefore : Cond.code y_Cipher_placeBefore b_Cipher_placeBefore 1 (some .int) ∈ tb := tb_i 297 (by decide +kernel) (by decide +kernel)
theorem k_ml_Cipher_51 : Cond.methodLink R_Cipher 51 y_Cipher_mix ∈ tb := tb_i 298 (by decide +kernel) (by decide +kernel)
theorem k_st_Cipher_mix : Cond.static y_Cipher_mix ∈ tb := tb_i 299 (by decide +kernel) (by decide +kernel)
theorem k_cd_Cipher_mix : Cond.code y_Cipher_mix b_Cipher_mix 7 none ∈ tb := tb_i 300 (by decide +kernel) (by decide +kernel)
theorem k_ml_Marker_52 : Cond.methodLink R_Marker 52 y_Arrays_fill1 ∈ tb := tb_i 301 (by decide +kernel) (by decide +kernel)
theorem k_st_Arrays_fill1 : Cond.static y_Arrays_fill1 ∈ tb := tb_i 302 (by decide +kernel) (by decide +kernel)
theorem k_cd_Arrays_fill1 : Cond.code y_Arrays_fill1 b_Arrays_fill1 4 none ∈ tb := tb_i 303 (by decide +kernel) (by decide +kernel)
theorem k_ml_Marker_55 : Cond.methodLink R_Marker 55 y_Marker_doubleBlock ∈ tb := tb_i 304 (by decide +kernel) (by decide +kernel)
theorem k_st_Marker_doubleBlock : Cond.static y_Marker_doubleBlock ∈ tb := tb_i 305 (by decide +kernel) (by decide +kernel)
theorem k_cd_Marker_doubleBlock : Cond.code y_Marker_doubleBlock b_Marker_doubleBlock 3 none ∈ tb := tb_i 306 (by decide +kernel) (by decide +kernel)
theorem k_ml_Marker_78 : Cond.methodLink R_Marker 78 y_Row_become ∈ tb := tb_i 307 (by decide +kernel) (by decide +kernel)
theorem k_im_Row_become : Cond.instanceMethod y_Row_become ∈ tb := tb_i 308 (by decide +kernel) (by decide +kernel)
theorem k_se_Row_become_Row_become : Cond.selects R_Row y_Row_become y_Row_become ∈ tb := tb_i 309 (by decide +kernel) (by decide +kernel)
theorem k_cd_Row_become : Cond.code y_Row_become b_Row_become 2 none ∈ tb := tb_i 310 (by decide +kernel) (by decide +kernel)
theorem k_ml_Row_29 : Cond.methodLink R_Row 29 y_Row_becomeRest ∈ tb := tb_i 311 (by decide +kernel) (by decide +kernel)
theorem k_im_Row_becomeRest : Cond.instanceMethod y_Row_becomeRest ∈ tb := tb_i 312 (by decide +kernel) (by decide +kernel)
theorem k_se_Row_becomeRest_Row_becomeRest : Cond.selects R_Row y_Row_becomeRest y_Row_becomeRest ∈ tb := tb_i 313 (by decide +kernel) (by decide +kernel)
theorem k_cd_Row_becomeRest : Cond.code y_Row_becomeRest b_Row_becomeRest 3 none ∈ tb := tb_i 314 (by decide +kernel) (by decide +kernel)
theorem k_ml_Row_19 : Cond.methodLink R_Row 19 ⟨"java/lang/System", "arraycopy", "(Ljava/lang/Object;ILjava/lang/Object;II)V"⟩ ∈ tb := tb_i 315 (by decide +kernel) (by decide +kernel)
theorem k_ml_Marker_82 : Cond.methodLink R_Marker 82 y_Row_add ∈ tb := tb_i 316 (by decide +kernel) (by decide +kernel)
theorem k_ml_Marker_85 : Cond.methodLink R_Marker 85 y_Marker_addToEnd ∈ tb := tb_i 317 (by decide +kernel) (by decide +kernel)
theorem k_st_Marker_addToEnd : Cond.static y_Marker_addToEnd ∈ tb := tb_i 318 (by decide +kernel) (by decide +kernel)
theorem k_cd_Marker_addToEnd : Cond.code y_Marker_addToEnd b_Marker_addToEnd 4 none ∈ tb := tb_i 319 (by decide +kernel) (by decide +kernel)
theorem k_ml_Desk_150 : Cond.methodLink R_Desk 150 y_Marker_markRow ∈ tb := tb_i 320 (by decide +kernel) (by decide +kernel)
theorem k_ml_Law_93 : Cond.methodLink R_Law 93 y_Desk_size ∈ tb := tb_i 321 (by decide +kernel) (by decide +kernel)
theorem k_im_Desk_size : Cond.instanceMethod y_Desk_size ∈ tb := tb_i 322 (by decide +kernel) (by decide +kernel)
theorem k_se_Desk_size_Desk_size : Cond.selects R_Desk y_Desk_size y_Desk_size ∈ tb := tb_i 323 (by decide +kernel) (by decide +kernel)
theorem k_cd_Desk_size : Cond.code y_Desk_size b_Desk_size 1 (some .int) ∈ tb := tb_i 324 (by decide +kernel) (by decide +kernel)
theorem k_ml_Law_100 : Cond.methodLink R_Law 100 y_Desk_take ∈ tb := tb_i 325 (by decide +kernel) (by decide +kernel)
theorem k_im_Desk_take : Cond.instanceMethod y_Desk_take ∈ tb := tb_i 326 (by decide +kernel) (by decide +kernel)
theorem k_se_Desk_take_Desk_take : Cond.selects R_Desk y_Desk_take y_Desk_take ∈ tb := tb_i 327 (by decide +kernel) (by decide +kernel)
theorem k_cd_Desk_take : Cond.code y_Desk_take b_Desk_take 1 (some .int) ∈ tb := tb_i 328 (by decide +kernel) (by decide +kernel)
theorem k_ml_Desk_133 : Cond.methodLink R_Desk 133 y_Row_become ∈ tb := tb_i 329 (by decide +kernel) (by decide +kernel)
theorem k_ml_Law_49 : Cond.methodLink R_Law 49 y_Law_key ∈ tb := tb_i 330 (by decide +kernel) (by decide +kernel)
theorem k_st_Law_key : Cond.static y_Law_key ∈ tb := tb_i 331 (by decide +kernel) (by decide +kernel)
theorem k_cl_Law_13 : Cond.classLink R_Law 13 R_IndexOutOfBoundsException ∈ tb := tb_i 333 (by decide +kernel) (by decide +kernel)
theorem k_ml_Law_7 : Cond.methodLink R_Law 7 y_Desk_key ∈ tb := tb_i 334 (by decide +kernel) (by decide +kernel)
theorem k_im_Desk_key : Cond.instanceMethod y_Desk_key ∈ tb := tb_i 335 (by decide +kernel) (by decide +kernel)
theorem k_se_Desk_key_Desk_key : Cond.selects R_Desk y_Desk_key y_Desk_key ∈ tb := tb_i 336 (by decide +kernel) (by decide +kernel)
theorem k_cd_Desk_key : Cond.code y_Desk_key b_Desk_key 6 none ∈ tb := tb_i 337 (by decide +kernel) (by decide +kernel)
theorem k_cl_Desk_74 : Cond.classLink R_Desk 74 R_IndexOutOfBoundsException ∈ tb := tb_i 338 (by decide +kernel) (by decide +kernel)
theorem k_it_IndexOutOfBoundsException : Cond.instantiable R_IndexOutOfBoundsException 6 ∈ tb := tb_i 339 (by decide +kernel) (by decide +kernel)
theorem k_se_Throwable_fillInStackTrace_Throwable_fillInStackTrace_IndexOutOfBoundsException : Cond.selects R_IndexOutOfBoundsException ⟨"java/lang/Throwable", "fillInStackTrace", "(I)Ljava/lang/Throwable;"⟩ ⟨"java/lang/Throwable", "fillInStackTrace", "(I)Ljava/lang/Throwable;"⟩ ∈ tb := tb_i 347 (by decide +kernel) (by decide +kernel)
theorem k_ly_IndexOutOfBoundsException_cause : Cond.lays R_IndexOutOfBoundsException "java/lang/Throwable" "cause" "Ljava/lang/Throwable;" ∈ tb := tb_i 349 (by decide +kernel) (by decide +kernel)
theorem k_ly_Throwable_cause : Cond.lays R_Throwable "java/lang/Throwable" "cause" "Ljava/lang/Throwable;" ∈ tb := tb_i 350 (by decide +kernel) (by decide +kernel)
theorem k_ly_IndexOutOfBoundsException_stackTrace : Cond.lays R_IndexOutOfBoundsException "java/lang/Throwable" "stackTrace" "[Ljava/lang/StackTraceElement;" ∈ tb := tb_i 351 (by decide +kernel) (by decide +kernel)
theorem k_ly_Throwable_stackTrace : Cond.lays R_Throwable "java/lang/Throwable" "stackTrace" "[Ljava/lang/StackTraceElement;" ∈ tb := tb_i 352 (by decide +kernel) (by decide +kernel)
theorem k_ly_IndexOutOfBoundsException_suppressedExceptions : Cond.lays R_IndexOutOfBoundsException "java/lang/Throwable" "suppressedExceptions" "Ljava/util/List;" ∈ tb := tb_i 353 (by decide +kernel) (by decide +kernel)
theorem k_ly_Throwable_suppressedExceptions : Cond.lays R_Throwable "java/lang/Throwable" "suppressedExceptions" "Ljava/util/List;" ∈ tb := tb_i 354 (by decide +kernel) (by decide +kernel)
theorem k_ly_IndexOutOfBoundsException_detailMessage : Cond.lays R_IndexOutOfBoundsException "java/lang/Throwable" "detailMessage" "Ljava/lang/String;" ∈ tb := tb_i 355 (by decide +kernel) (by decide +kernel)
theorem k_ly_Throwable_detailMessage : Cond.lays R_Throwable "java/lang/Throwable" "detailMessage" "Ljava/lang/String;" ∈ tb := tb_i 356 (by decide +kernel) (by decide +kernel)
theorem k_ly_IndexOutOfBoundsException_backtrace : Cond.lays R_IndexOutOfBoundsException "java/lang/Throwable" "backtrace" "Ljava/lang/Object;" ∈ tb := tb_i 357 (by decide +kernel) (by decide +kernel)
theorem k_ly_Throwable_backtrace : Cond.lays R_Throwable "java/lang/Throwable" "backtrace" "Ljava/lang/Object;" ∈ tb := tb_i 358 (by decide +kernel) (by decide +kernel)
theorem k_fl_Throwable_198 : Cond.fieldLink R_Throwable 198 "java/lang/Throwable" "backtrace" "Ljava/lang/Object;" ∈ tb := tb_i 359 (by decide +kernel) (by decide +kernel)
theorem k_su_Throwable : Cond.superclass R_Throwable "java/lang/Object" ∈ tb := tb_i 360 (by decide +kernel) (by decide +kernel)
theorem k_im_Throwable_init : Cond.instanceMethod y_Throwable_init ∈ tb := tb_i 361 (by decide +kernel) (by decide +kernel)
theorem k_cd_Throwable_init : Cond.code y_Throwable_init b_Throwable_init 1 none ∈ tb := tb_i 362 (by decide +kernel) (by decide +kernel)
theorem k_ml_Throwable_1 : Cond.methodLink R_Throwable 1 y_Object_init ∈ tb := tb_i 363 (by decide +kernel) (by decide +kernel)
theorem k_fl_Throwable_13 : Cond.fieldLink R_Throwable 13 "java/lang/Throwable" "UNASSIGNED_STACK" "[Ljava/lang/StackTraceElement;" ∈ tb := tb_i 364 (by decide +kernel) (by decide +kernel)
theorem k_fl_Throwable_20 : Cond.fieldLink R_Throwable 20 "java/lang/Throwable" "SUPPRESSED_SENTINEL" "Ljava/util/List;" ∈ tb := tb_i 366 (by decide +kernel) (by decide +kernel)
theorem k_ml_Throwable_27 : Cond.methodLink R_Throwable 27 y_Throwable_fillInStackTrace ∈ tb := tb_i 368 (by decide +kernel) (by decide +kernel)
theorem k_im_Throwable_fillInStackTrace : Cond.instanceMethod y_Throwable_fillInStackTrace ∈ tb := tb_i 369 (by decide +kernel) (by decide +kernel)
theorem k_sm_Throwable_fillInStackTrace : Cond.sameMethod R_Throwable R_Throwable "fillInStackTrace" "()Ljava/lang/Throwable;" ∈ tb := tb_i 370 (by decide +kernel) (by decide +kernel)
theorem k_se_Throwable_fillInStackTrace_Throwable_fillInStackTrace_IllegalArgumentException : Cond.selects R_IllegalArgumentException y_Throwable_fillInStackTrace y_Throwable_fillInStackTrace ∈ tb := tb_i 371 (by decide +kernel) (by decide +kernel)
theorem k_se_Throwable_fillInStackTrace_Throwable_fillInStackTrace_IllegalStateException : Cond.selects R_IllegalStateException y_Throwable_fillInStackTrace y_Throwable_fillInStackTrace ∈ tb := tb_i 372 (by decide +kernel) (by decide +kernel)
theorem k_ml_Throwable_202 : Cond.methodLink R_Throwable 202 ⟨"java/lang/Throwable", "fillInStackTrace", "(I)Ljava/lang/Throwable;"⟩ ∈ tb := tb_i 374 (by decide +kernel) (by decide +kernel)
theorem k_it_Throwable : Cond.instantiable R_Throwable 6 ∈ tb := tb_i 377 (by decide +kernel) (by decide +kernel)
theorem k_nt_Throwable_fillInStackTrace : Cond.native ⟨"java/lang/Throwable", "fillInStackTrace", "(I)Ljava/lang/Throwable;"⟩ ∈ tb := tb_i 378 (by decide +kernel) (by decide +kernel)
theorem k_ml_Desk_78 : Cond.methodLink R_Desk 78 y_IndexOutOfBoundsException_init ∈ tb := tb_i 380 (by decide +kernel) (by decide +kernel)
theorem k_im_IndexOutOfBoundsException_init : Cond.instanceMethod y_IndexOutOfBoundsException_init ∈ tb := tb_i 381 (by decide +kernel) (by decide +kernel)
theorem k_cd_IndexOutOfBoundsException_init : Cond.code y_IndexOutOfBoundsException_init b_IndexOutOfBoundsException_init 2 none ∈ tb := tb_i 382 (by decide +kernel) (by decide +kernel)
theorem k_ml_IndexOutOfBoundsException_7 : Cond.methodLink R_IndexOutOfBoundsException 7 y_RuntimeException_init ∈ tb := tb_i 383 (by decide +kernel) (by decide +kernel)
theorem k_im_RuntimeException_init : Cond.instanceMethod y_RuntimeException_init ∈ tb := tb_i 384 (by decide +kernel) (by decide +kernel)
theorem k_cd_RuntimeException_init : Cond.code y_RuntimeException_init b_RuntimeException_init 2 none ∈ tb := tb_i 385 (by decide +kernel) (by decide +kernel)
theorem k_ml_RuntimeException_7 : Cond.methodLink R_RuntimeException 7 y_Exception_init ∈ tb := tb_i 386 (by decide +kernel) (by decide +kernel)
theorem k_im_Exception_init : Cond.instanceMethod y_Exception_init ∈ tb := tb_i 387 (by decide +kernel) (by decide +kernel)
theorem k_cd_Exception_init : Cond.code y_Exception_init b_Exception_init 2 none ∈ tb := tb_i 388 (by decide +kernel) (by decide +kernel)
theorem k_ml_Exception_7 : Cond.methodLink R_Exception 7 y_Throwable_init1 ∈ tb := tb_i 389 (by decide +kernel) (by decide +kernel)
theorem k_im_Throwable_init1 : Cond.instanceMethod y_Throwable_init1 ∈ tb := tb_i 390 (by decide +kernel) (by decide +kernel)
theorem k_cd_Throwable_init1 : Cond.code y_Throwable_init1 b_Throwable_init1 2 none ∈ tb := tb_i 391 (by decide +kernel) (by decide +kernel)
theorem k_fl_Throwable_31 : Cond.fieldLink R_Throwable 31 "java/lang/Throwable" "detailMessage" "Ljava/lang/String;" ∈ tb := tb_i 393 (by decide +kernel) (by decide +kernel)
theorem k_fl_Throwable_7 : Cond.fieldLink R_Throwable 7 "java/lang/Throwable" "cause" "Ljava/lang/Throwable;" ∈ tb := tb_i 394 (by decide +kernel) (by decide +kernel)
theorem k_fl_Throwable_17 : Cond.fieldLink R_Throwable 17 "java/lang/Throwable" "stackTrace" "[Ljava/lang/StackTraceElement;" ∈ tb := tb_i 395 (by decide +kernel) (by decide +kernel)
theorem k_fl_Throwable_24 : Cond.fieldLink R_Throwable 24 "java/lang/Throwable" "suppressedExceptions" "Ljava/util/List;" ∈ tb := tb_i 396 (by decide +kernel) (by decide +kernel)
theorem k_ly_IndexOutOfBoundsException_depth : Cond.lays R_IndexOutOfBoundsException "java/lang/Throwable" "depth" "I" ∈ tb := tb_i 401 (by decide +kernel) (by decide +kernel)
theorem k_su_IndexOutOfBoundsException : Cond.superclass R_IndexOutOfBoundsException R_RuntimeException ∈ tb := tb_i 404 (by decide +kernel) (by decide +kernel)
theorem k_ac_byte : Cond.arrayClass .byte ∈ tb := tb_i 405 (by decide +kernel) (by decide +kernel)
theorem k_ml_Desk_81 : Cond.methodLink R_Desk 81 y_Cipher_use ∈ tb := tb_i 406 (by decide +kernel) (by decide +kernel)
theorem k_ml_Law_58 : Cond.methodLink R_Law 58 y_Law_feed ∈ tb := tb_i 407 (by decide +kernel) (by decide +kernel)
theorem k_st_Law_feed : Cond.static y_Law_feed ∈ tb := tb_i 408 (by decide +kernel) (by decide +kernel)
theorem k_cl_Law_19 : Cond.classLink R_Law 19 R_IllegalArgumentException ∈ tb := tb_i 410 (by decide +kernel) (by decide +kernel)
theorem k_cl_Law_21 : Cond.classLink R_Law 21 R_IllegalStateException ∈ tb := tb_i 411 (by decide +kernel) (by decide +kernel)
theorem k_ml_Law_15 : Cond.methodLink R_Law 15 y_Desk_feed ∈ tb := tb_i 412 (by decide +kernel) (by decide +kernel)
theorem k_im_Desk_feed : Cond.instanceMethod y_Desk_feed ∈ tb := tb_i 413 (by decide +kernel) (by decide +kernel)
theorem k_se_Desk_feed_Desk_feed : Cond.selects R_Desk y_Desk_feed y_Desk_feed ∈ tb := tb_i 414 (by decide +kernel) (by decide +kernel)
theorem k_cd_Desk_feed : Cond.code y_Desk_feed b_Desk_feed 4 (some .int) ∈ tb := tb_i 415 (by decide +kernel) (by decide +kernel)
theorem k_cl_Desk_85 : Cond.classLink R_Desk 85 R_IllegalArgumentException ∈ tb := tb_i 416 (by decide +kernel) (by decide +kernel)
theorem k_it_IllegalArgumentException : Cond.instantiable R_IllegalArgumentException 6 ∈ tb := tb_i 417 (by decide +kernel) (by decide +kernel)
theorem k_ly_IllegalArgumentException_cause : Cond.lays R_IllegalArgumentException "java/lang/Throwable" "cause" "Ljava/lang/Throwable;" ∈ tb := tb_i 420 (by decide +kernel) (by decide +kernel)
theorem k_ly_IllegalArgumentException_stackTrace : Cond.lays R_IllegalArgumentException "java/lang/Throwable" "stackTrace" "[Ljava/lang/StackTraceElement;" ∈ tb := tb_i 421 (by decide +kernel) (by decide +kernel)
theorem k_ly_IllegalArgumentException_suppressedExceptions : Cond.lays R_IllegalArgumentException "java/lang/Throwable" "suppressedExceptions" "Ljava/util/List;" ∈ tb := tb_i 422 (by decide +kernel) (by decide +kernel)
theorem k_ly_IllegalArgumentException_detailMessage : Cond.lays R_IllegalArgumentException "java/lang/Throwable" "detailMessage" "Ljava/lang/String;" ∈ tb := tb_i 423 (by decide +kernel) (by decide +kernel)
theorem k_ly_IllegalArgumentException_backtrace : Cond.lays R_IllegalArgumentException "java/lang/Throwable" "backtrace" "Ljava/lang/Object;" ∈ tb := tb_i 424 (by decide +kernel) (by decide +kernel)
theorem k_ml_Desk_89 : Cond.methodLink R_Desk 89 y_IllegalArgumentException_init ∈ tb := tb_i 426 (by decide +kernel) (by decide +kernel)
theorem k_im_IllegalArgumentException_init : Cond.instanceMethod y_IllegalArgumentException_init ∈ tb := tb_i 427 (by decide +kernel) (by decide +kernel)
theorem k_cd_IllegalArgumentException_init : Cond.code y_IllegalArgumentException_init b_IllegalArgumentException_init 2 none ∈ tb := tb_i 428 (by decide +kernel) (by decide +kernel)
theorem k_ml_IllegalArgumentException_7 : Cond.methodLink R_IllegalArgumentException 7 y_RuntimeException_init ∈ tb := tb_i 429 (by decide +kernel) (by decide +kernel)
theorem k_ly_IllegalArgumentException_depth : Cond.lays R_IllegalArgumentException "java/lang/Throwable" "depth" "I" ∈ tb := tb_i 430 (by decide +kernel) (by decide +kernel)
theorem k_su_IllegalArgumentException : Cond.superclass R_IllegalArgumentException R_RuntimeException ∈ tb := tb_i 431 (by decide +kernel) (by decide +kernel)
theorem k_cl_Desk_94 : Cond.classLink R_Desk 94 R_IllegalStateException ∈ tb := tb_i 432 (by decide +kernel) (by decide +kernel)
theorem k_it_IllegalStateException : Cond.instantiable R_IllegalStateException 6 ∈ tb := tb_i 433 (by decide +kernel) (by decide +kernel)
theorem k_ly_IllegalStateException_cause : Cond.lays R_IllegalStateException "java/lang/Throwable" "cause" "Ljava/lang/Throwable;" ∈ tb := tb_i 436 (by decide +kernel) (by decide +kernel)
theorem k_ly_IllegalStateException_stackTrace : Cond.lays R_IllegalStateException "java/lang/Throwable" "stackTrace" "[Ljava/lang/StackTraceElement;" ∈ tb := tb_i 437 (by decide +kernel) (by decide +kernel)
theorem k_ly_IllegalStateException_suppressedExceptions : Cond.lays R_IllegalStateException "java/lang/Throwable" "suppressedExceptions" "Ljava/util/List;" ∈ tb := tb_i 438 (by decide +kernel) (by decide +kernel)
theorem k_ly_IllegalStateException_detailMessage : Cond.lays R_IllegalStateException "java/lang/Throwable" "detailMessage" "Ljava/lang/String;" ∈ tb := tb_i 439 (by decide +kernel) (by decide +kernel)
theorem k_ly_IllegalStateException_backtrace : Cond.lays R_IllegalStateException "java/lang/Throwable" "backtrace" "Ljava/lang/Object;" ∈ tb := tb_i 440 (by decide +kernel) (by decide +kernel)
theorem k_ml_Desk_98 : Cond.methodLink R_Desk 98 y_IllegalStateException_init ∈ tb := tb_i 442 (by decide +kernel) (by decide +kernel)
theorem k_im_IllegalStateException_init : Cond.instanceMethod y_IllegalStateException_init ∈ tb := tb_i 443 (by decide +kernel) (by decide +kernel)
theorem k_cd_IllegalStateException_init : Cond.code y_IllegalStateException_init b_IllegalStateException_init 2 none ∈ tb := tb_i 444 (by decide +kernel) (by decide +kernel)
theorem k_ml_IllegalStateException_7 : Cond.methodLink R_IllegalStateException 7 y_RuntimeException_init ∈ tb := tb_i 445 (by decide +kernel) (by decide +kernel)
theorem k_ly_IllegalStateException_depth : Cond.lays R_IllegalStateException "java/lang/Throwable" "depth" "I" ∈ tb := tb_i 446 (by decide +kernel) (by decide +kernel)
theorem k_su_IllegalStateException : Cond.superclass R_IllegalStateException R_RuntimeException ∈ tb := tb_i 447 (by decide +kernel) (by decide +kernel)
theorem k_ml_Desk_99 : Cond.methodLink R_Desk 99 y_Desk_byteOf ∈ tb := tb_i 448 (by decide +kernel) (by decide +kernel)
theorem k_ml_Desk_103 : Cond.methodLink R_Desk 103 y_Row_add ∈ tb := tb_i 449 (by decide +kernel) (by decide +kernel)
theorem k_ml_Law_66 : Cond.methodLink R_Law 66 y_Law_alter ∈ tb := tb_i 450 (by decide +kernel) (by decide +kernel)
theorem k_st_Law_alter : Cond.static y_Law_alter ∈ tb := tb_i 451 (by decide +kernel) (by decide +kernel)
theorem k_ml_Law_23 : Cond.methodLink R_Law 23 y_Desk_alter ∈ tb := tb_i 453 (by decide +kernel) (by decide +kernel)
theorem k_im_Desk_alter : Cond.instanceMethod y_Desk_alter ∈ tb := tb_i 454 (by decide +kernel) (by decide +kernel)
theorem k_se_Desk_alter_Desk_alter : Cond.selects R_Desk y_Desk_alter y_Desk_alter ∈ tb := tb_i 455 (by decide +kernel) (by decide +kernel)
theorem k_cd_Desk_alter : Cond.code y_Desk_alter b_Desk_alter 3 none ∈ tb := tb_i 456 (by decide +kernel) (by decide +kernel)
theorem k_ml_Desk_110 : Cond.methodLink R_Desk 110 y_Row_has ∈ tb := tb_i 457 (by decide +kernel) (by decide +kernel)
theorem k_im_Row_has : Cond.instanceMethod y_Row_has ∈ tb := tb_i 458 (by decide +kernel) (by decide +kernel)
theorem k_se_Row_has_Row_has : Cond.selects R_Row y_Row_has y_Row_has ∈ tb := tb_i 459 (by decide +kernel) (by decide +kernel)
theorem k_cd_Row_has : Cond.code y_Row_has b_Row_has 2 (some .boolean) ∈ tb := tb_i 460 (by decide +kernel) (by decide +kernel)
theorem k_ml_Law_70 : Cond.methodLink R_Law 70 y_Law_item ∈ tb := tb_i 463 (by decide +kernel) (by decide +kernel)
theorem k_st_Law_item : Cond.static y_Law_item ∈ tb := tb_i 464 (by decide +kernel) (by decide +kernel)
theorem k_ml_Law_27 : Cond.methodLink R_Law 27 y_Desk_item ∈ tb := tb_i 466 (by decide +kernel) (by decide +kernel)
theorem k_im_Desk_item : Cond.instanceMethod y_Desk_item ∈ tb := tb_i 467 (by decide +kernel) (by decide +kernel)
theorem k_se_Desk_item_Desk_item : Cond.selects R_Desk y_Desk_item y_Desk_item ∈ tb := tb_i 468 (by decide +kernel) (by decide +kernel)
theorem k_cd_Desk_item : Cond.code y_Desk_item b_Desk_item 1 (some .int) ∈ tb := tb_i 469 (by decide +kernel) (by decide +kernel)
theorem k_ml_Law_78 : Cond.methodLink R_Law 78 y_Law_cipher ∈ tb := tb_i 472 (by decide +kernel) (by decide +kernel)
theorem k_st_Law_cipher : Cond.static y_Law_cipher ∈ tb := tb_i 473 (by decide +kernel) (by decide +kernel)
theorem k_ml_Law_31 : Cond.methodLink R_Law 31 y_Desk_cipher ∈ tb := tb_i 475 (by decide +kernel) (by decide +kernel)
theorem k_im_Desk_cipher : Cond.instanceMethod y_Desk_cipher ∈ tb := tb_i 476 (by decide +kernel) (by decide +kernel)
theorem k_se_Desk_cipher_Desk_cipher : Cond.selects R_Desk y_Desk_cipher y_Desk_cipher ∈ tb := tb_i 477 (by decide +kernel) (by decide +kernel)
theorem k_cd_Desk_cipher : Cond.code y_Desk_cipher b_Desk_cipher 2 none ∈ tb := tb_i 478 (by decide +kernel) (by decide +kernel)
theorem k_ml_Desk_139 : Cond.methodLink R_Desk 139 y_Cipher_turnBack ∈ tb := tb_i 480 (by decide +kernel) (by decide +kernel)
theorem k_im_Cipher_turnBack : Cond.instanceMethod y_Cipher_turnBack ∈ tb := tb_i 481 (by decide +kernel) (by decide +kernel)
theorem k_se_Cipher_turnBack_Cipher_turnBack : Cond.selects R_Cipher y_Cipher_turnBack y_Cipher_turnBack ∈ tb := tb_i 482 (by decide +kernel) (by decide +kernel)
theorem k_cd_Cipher_turnBack : Cond.code y_Cipher_turnBack b_Cipher_turnBack 3 none ∈ tb := tb_i 483 (by decide +kernel) (by decide +kernel)
theorem k_ml_Cipher_54 : Cond.methodLink R_Cipher 54 y_Cipher_unmix ∈ tb := tb_i 484 (by decide +kernel) (by decide +kernel)
theorem k_st_Cipher_unmix : Cond.static y_Cipher_unmix ∈ tb := tb_i 485 (by decide +kernel) (by decide +kernel)
theorem k_cd_Cipher_unmix : Cond.code y_Cipher_unmix b_Cipher_unmix 1 none ∈ tb := tb_i 486 (by decide +kernel) (by decide +kernel)
theorem k_ml_Cipher_57 : Cond.methodLink R_Cipher 57 y_Cipher_substituteBack ∈ tb := tb_i 487 (by decide +kernel) (by decide +kernel)
theorem k_im_Cipher_substituteBack : Cond.instanceMethod y_Cipher_substituteBack ∈ tb := tb_i 489 (by decide +kernel) (by decide +kernel)
theorem k_cd_Cipher_substituteBack : Cond.code y_Cipher_substituteBack b_Cipher_substituteBack 3 none ∈ tb := tb_i 490 (by decide +kernel) (by decide +kernel)
theorem k_ml_Desk_143 : Cond.methodLink R_Desk 143 y_Cipher_turn ∈ tb := tb_i 491 (by decide +kernel) (by decide +kernel)
theorem k_ml_Law_86 : Cond.methodLink R_Law 86 y_Law_seal ∈ tb := tb_i 492 (by decide +kernel) (by decide +kernel)
theorem k_st_Law_seal : Cond.static y_Law_seal ∈ tb := tb_i 493 (by decide +kernel) (by decide +kernel)
theorem k_ml_Law_35 : Cond.methodLink R_Law 35 y_Desk_seal ∈ tb := tb_i 495 (by decide +kernel) (by decide +kernel)
theorem k_im_Desk_seal : Cond.instanceMethod y_Desk_seal ∈ tb := tb_i 496 (by decide +kernel) (by decide +kernel)
theorem k_se_Desk_seal_Desk_seal : Cond.selects R_Desk y_Desk_seal y_Desk_seal ∈ tb := tb_i 497 (by decide +kernel) (by decide +kernel)
theorem k_cd_Desk_seal : Cond.code y_Desk_seal b_Desk_seal 2 (some .int) ∈ tb := tb_i 498 (by decide +kernel) (by decide +kernel)
theorem k_ml_Desk_156 : Cond.methodLink R_Desk 156 ⟨"SealingDesk$Way", "canLock", "(I)Z"⟩ ∈ tb := tb_i 500 (by decide +kernel) (by decide +kernel)
theorem k_sm_Way_canLock : Cond.sameMethod R_Way R_Way "canLock" "(I)Z" ∈ tb := tb_i 502 (by decide +kernel) (by decide +kernel)
theorem k_se_Way_canLock_Marked_canLock : Cond.selects R_Marked ⟨"SealingDesk$Way", "canLock", "(I)Z"⟩ y_Marked_canLock ∈ tb := tb_i 503 (by decide +kernel) (by decide +kernel)
theorem k_im_Marked_canLock : Cond.instanceMethod y_Marked_canLock ∈ tb := tb_i 504 (by decide +kernel) (by decide +kernel)
theorem k_cd_Marked_canLock : Cond.code y_Marked_canLock b_Marked_canLock 2 (some .boolean) ∈ tb := tb_i 505 (by decide +kernel) (by decide +kernel)
theorem k_se_Way_canLock_Padded_canLock : Cond.selects R_Padded ⟨"SealingDesk$Way", "canLock", "(I)Z"⟩ y_Padded_canLock ∈ tb := tb_i 506 (by decide +kernel) (by decide +kernel)
theorem k_im_Padded_canLock : Cond.instanceMethod y_Padded_canLock ∈ tb := tb_i 507 (by decide +kernel) (by decide +kernel)
theorem k_cd_Padded_canLock : Cond.code y_Padded_canLock b_Padded_canLock 2 (some .boolean) ∈ tb := tb_i 508 (by decide +kernel) (by decide +kernel)
theorem k_se_Way_canLock_Wrapped_canLock : Cond.selects R_Wrapped ⟨"SealingDesk$Way", "canLock", "(I)Z"⟩ y_Wrapped_canLock ∈ tb := tb_i 509 (by decide +kernel) (by decide +kernel)
theorem k_im_Wrapped_canLock : Cond.instanceMethod y_Wrapped_canLock ∈ tb := tb_i 510 (by decide +kernel) (by decide +kernel)
theorem k_cd_Wrapped_canLock : Cond.code y_Wrapped_canLock b_Wrapped_canLock 2 (some .boolean) ∈ tb := tb_i 511 (by decide +kernel) (by decide +kernel)
theorem k_ml_Desk_161 : Cond.methodLink R_Desk 161 ⟨"SealingDesk$Way", "lock", "(LSealingDesk$Row;LSealingDesk$Row;)V"⟩ ∈ tb := tb_i 513 (by decide +kernel) (by decide +kernel)
theorem k_sm_Way_lock : Cond.sameMethod R_Way R_Way "lock" "(LSealingDesk$Row;LSealingDesk$Row;)V" ∈ tb := tb_i 515 (by decide +kernel) (by decide +kernel)
theorem k_se_Way_lock_Marked_lock : Cond.selects R_Marked ⟨"SealingDesk$Way", "lock", "(LSealingDesk$Row;LSealingDesk$Row;)V"⟩ y_Marked_lock ∈ tb := tb_i 516 (by decide +kernel) (by decide +kernel)
theorem k_im_Marked_lock : Cond.instanceMethod y_Marked_lock ∈ tb := tb_i 517 (by decide +kernel) (by decide +kernel)
theorem k_cd_Marked_lock : Cond.code y_Marked_lock b_Marked_lock 3 none ∈ tb := tb_i 518 (by decide +kernel) (by decide +kernel)
theorem k_ml_Marked_33 : Cond.methodLink R_Marked 33 y_Marker_join ∈ tb := tb_i 519 (by decide +kernel) (by decide +kernel)
theorem k_ml_Marked_39 : Cond.methodLink R_Marked 39 y_Row_clear ∈ tb := tb_i 520 (by decide +kernel) (by decide +kernel)
theorem k_ml_Marked_44 : Cond.methodLink R_Marked 44 y_Row_addAll ∈ tb := tb_i 521 (by decide +kernel) (by decide +kernel)
theorem k_im_Row_addAll : Cond.instanceMethod y_Row_addAll ∈ tb := tb_i 522 (by decide +kernel) (by decide +kernel)
theorem k_se_Row_addAll_Row_addAll : Cond.selects R_Row y_Row_addAll y_Row_addAll ∈ tb := tb_i 523 (by decide +kernel) (by decide +kernel)
theorem k_cd_Row_addAll : Cond.code y_Row_addAll b_Row_addAll 3 none ∈ tb := tb_i 524 (by decide +kernel) (by decide +kernel)
theorem k_ml_Marked_55 : Cond.methodLink R_Marked 55 y_Marked_addStream ∈ tb := tb_i 525 (by decide +kernel) (by decide +kernel)
theorem k_im_Marked_addStream : Cond.instanceMethod y_Marked_addStream ∈ tb := tb_i 527 (by decide +kernel) (by decide +kernel)
theorem k_cd_Marked_addStream : Cond.code y_Marked_addStream b_Marked_addStream 6 none ∈ tb := tb_i 528 (by decide +kernel) (by decide +kernel)
theorem k_ml_Marked_63 : Cond.methodLink R_Marked 63 ⟨"java/lang/System", "arraycopy", "(Ljava/lang/Object;ILjava/lang/Object;II)V"⟩ ∈ tb := tb_i 529 (by decide +kernel) (by decide +kernel)
theorem k_ml_Marked_69 : Cond.methodLink R_Marked 69 y_Marked_nextBlock ∈ tb := tb_i 530 (by decide +kernel) (by decide +kernel)
theorem k_im_Marked_nextBlock : Cond.instanceMethod y_Marked_nextBlock ∈ tb := tb_i 532 (by decide +kernel) (by decide +kernel)
theorem k_cd_Marked_nextBlock : Cond.code y_Marked_nextBlock b_Marked_nextBlock 4 none ∈ tb := tb_i 533 (by decide +kernel) (by decide +kernel)
theorem k_ml_Marked_72 : Cond.methodLink R_Marked 72 y_Cipher_turn ∈ tb := tb_i 534 (by decide +kernel) (by decide +kernel)
theorem k_se_Way_lock_Padded_lock : Cond.selects R_Padded ⟨"SealingDesk$Way", "lock", "(LSealingDesk$Row;LSealingDesk$Row;)V"⟩ y_Padded_lock ∈ tb := tb_i 535 (by decide +kernel) (by decide +kernel)
theorem k_im_Padded_lock : Cond.instanceMethod y_Padded_lock ∈ tb := tb_i 536 (by decide +kernel) (by decide +kernel)
theorem k_cd_Padded_lock : Cond.code y_Padded_lock b_Padded_lock 3 none ∈ tb := tb_i 537 (by decide +kernel) (by decide +kernel)
theorem k_ml_Padded_19 : Cond.methodLink R_Padded 19 y_Row_clear ∈ tb := tb_i 538 (by decide +kernel) (by decide +kernel)
theorem k_co_Padded_24 : Cond.constant R_Padded 24 (-1504093786) ∈ tb := tb_i 539 (by decide +kernel) (by decide +kernel)
theorem k_ml_Padded_25 : Cond.methodLink R_Padded 25 y_Padded_addWord ∈ tb := tb_i 540 (by decide +kernel) (by decide +kernel)
theorem k_st_Padded_addWord : Cond.static y_Padded_addWord ∈ tb := tb_i 541 (by decide +kernel) (by decide +kernel)
theorem k_cd_Padded_addWord : Cond.code y_Padded_addWord b_Padded_addWord 3 none ∈ tb := tb_i 542 (by decide +kernel) (by decide +kernel)
theorem k_ml_Padded_81 : Cond.methodLink R_Padded 81 y_Row_add ∈ tb := tb_i 544 (by decide +kernel) (by decide +kernel)
theorem k_ml_Padded_37 : Cond.methodLink R_Padded 37 y_Row_addAll ∈ tb := tb_i 545 (by decide +kernel) (by decide +kernel)
theorem k_ml_Padded_41 : Cond.methodLink R_Padded 41 y_Row_addZeros ∈ tb := tb_i 546 (by decide +kernel) (by decide +kernel)
theorem k_ml_Padded_45 : Cond.methodLink R_Padded 45 y_Cipher_turn ∈ tb := tb_i 547 (by decide +kernel) (by decide +kernel)
theorem k_ml_Padded_51 : Cond.methodLink R_Padded 51 y_Wrapping_wind ∈ tb := tb_i 548 (by decide +kernel) (by decide +kernel)
theorem k_im_Wrapping_wind : Cond.instanceMethod y_Wrapping_wind ∈ tb := tb_i 549 (by decide +kernel) (by decide +kernel)
theorem k_se_Wrapping_wind_Wrapping_wind : Cond.selects R_Wrapping y_Wrapping_wind y_Wrapping_wind ∈ tb := tb_i 550 (by decide +kernel) (by decide +kernel)
theorem k_cd_Wrapping_wind : Cond.code y_Wrapping_wind b_Wrapping_wind 5 none ∈ tb := tb_i 551 (by decide +kernel) (by decide +kernel)
theorem k_ml_Wrapping_25 : Cond.methodLink R_Wrapping 25 y_Wrapping_lift ∈ tb := tb_i 552 (by decide +kernel) (by decide +kernel)
theorem k_im_Wrapping_lift : Cond.instanceMethod y_Wrapping_lift ∈ tb := tb_i 554 (by decide +kernel) (by decide +kernel)
theorem k_cd_Wrapping_lift : Cond.code y_Wrapping_lift b_Wrapping_lift 3 none ∈ tb := tb_i 555 (by decide +kernel) (by decide +kernel)
theorem k_ml_Wrapping_48 : Cond.methodLink R_Wrapping 48 ⟨"java/lang/System", "arraycopy", "(Ljava/lang/Object;ILjava/lang/Object;II)V"⟩ ∈ tb := tb_i 556 (by decide +kernel) (by decide +kernel)
theorem k_ml_Wrapping_29 : Cond.methodLink R_Wrapping 29 y_Cipher_turn ∈ tb := tb_i 557 (by decide +kernel) (by decide +kernel)
theorem k_ml_Wrapping_35 : Cond.methodLink R_Wrapping 35 y_Wrapping_addNumber ∈ tb := tb_i 558 (by decide +kernel) (by decide +kernel)
theorem k_im_Wrapping_addNumber : Cond.instanceMethod y_Wrapping_addNumber ∈ tb := tb_i 560 (by decide +kernel) (by decide +kernel)
theorem k_cd_Wrapping_addNumber : Cond.code y_Wrapping_addNumber b_Wrapping_addNumber 2 none ∈ tb := tb_i 561 (by decide +kernel) (by decide +kernel)
theorem k_ml_Wrapping_39 : Cond.methodLink R_Wrapping 39 y_Wrapping_lay ∈ tb := tb_i 562 (by decide +kernel) (by decide +kernel)
theorem k_im_Wrapping_lay : Cond.instanceMethod y_Wrapping_lay ∈ tb := tb_i 564 (by decide +kernel) (by decide +kernel)
theorem k_cd_Wrapping_lay : Cond.code y_Wrapping_lay b_Wrapping_lay 3 none ∈ tb := tb_i 565 (by decide +kernel) (by decide +kernel)
theorem k_se_Way_lock_Wrapped_lock : Cond.selects R_Wrapped ⟨"SealingDesk$Way", "lock", "(LSealingDesk$Row;LSealingDesk$Row;)V"⟩ y_Wrapped_lock ∈ tb := tb_i 566 (by decide +kernel) (by decide +kernel)
theorem k_im_Wrapped_lock : Cond.instanceMethod y_Wrapped_lock ∈ tb := tb_i 567 (by decide +kernel) (by decide +kernel)
theorem k_cd_Wrapped_lock : Cond.code y_Wrapped_lock b_Wrapped_lock 4 none ∈ tb := tb_i 568 (by decide +kernel) (by decide +kernel)
theorem k_ml_Wrapped_19 : Cond.methodLink R_Wrapped 19 y_Row_clear ∈ tb := tb_i 569 (by decide +kernel) (by decide +kernel)
theorem k_ml_Wrapped_24 : Cond.methodLink R_Wrapped 24 y_Row_add ∈ tb := tb_i 570 (by decide +kernel) (by decide +kernel)
theorem k_ml_Wrapped_36 : Cond.methodLink R_Wrapped 36 y_Row_addAll ∈ tb := tb_i 571 (by decide +kernel) (by decide +kernel)
theorem k_ml_Wrapped_40 : Cond.methodLink R_Wrapped 40 y_Wrapping_wind ∈ tb := tb_i 572 (by decide +kernel) (by decide +kernel)
theorem k_ml_Law_90 : Cond.methodLink R_Law 90 y_Law_open ∈ tb := tb_i 573 (by decide +kernel) (by decide +kernel)
theorem k_st_Law_open : Cond.static y_Law_open ∈ tb := tb_i 574 (by decide +kernel) (by decide +kernel)
theorem k_ml_Law_39 : Cond.methodLink R_Law 39 y_Desk_open ∈ tb := tb_i 576 (by decide +kernel) (by decide +kernel)
theorem k_im_Desk_open : Cond.instanceMethod y_Desk_open ∈ tb := tb_i 577 (by decide +kernel) (by decide +kernel)
theorem k_se_Desk_open_Desk_open : Cond.selects R_Desk y_Desk_open y_Desk_open ∈ tb := tb_i 578 (by decide +kernel) (by decide +kernel)
theorem k_cd_Desk_open : Cond.code y_Desk_open b_Desk_open 2 (some .int) ∈ tb := tb_i 579 (by decide +kernel) (by decide +kernel)
theorem k_ml_Desk_165 : Cond.methodLink R_Desk 165 ⟨"SealingDesk$Way", "canUnlock", "(I)Z"⟩ ∈ tb := tb_i 580 (by decide +kernel) (by decide +kernel)
theorem k_sm_Way_canUnlock : Cond.sameMethod R_Way R_Way "canUnlock" "(I)Z" ∈ tb := tb_i 582 (by decide +kernel) (by decide +kernel)
theorem k_se_Way_canUnlock_Marked_canUnlock : Cond.selects R_Marked ⟨"SealingDesk$Way", "canUnlock", "(I)Z"⟩ y_Marked_canUnlock ∈ tb := tb_i 583 (by decide +kernel) (by decide +kernel)
theorem k_im_Marked_canUnlock : Cond.instanceMethod y_Marked_canUnlock ∈ tb := tb_i 584 (by decide +kernel) (by decide +kernel)
theorem k_cd_Marked_canUnlock : Cond.code y_Marked_canUnlock b_Marked_canUnlock 2 (some .boolean) ∈ tb := tb_i 585 (by decide +kernel) (by decide +kernel)
theorem k_se_Way_canUnlock_Padded_canUnlock : Cond.selects R_Padded ⟨"SealingDesk$Way", "canUnlock", "(I)Z"⟩ y_Padded_canUnlock ∈ tb := tb_i 586 (by decide +kernel) (by decide +kernel)
theorem k_im_Padded_canUnlock : Cond.instanceMethod y_Padded_canUnlock ∈ tb := tb_i 587 (by decide +kernel) (by decide +kernel)
theorem k_cd_Padded_canUnlock : Cond.code y_Padded_canUnlock b_Padded_canUnlock 2 (some .boolean) ∈ tb := tb_i 588 (by decide +kernel) (by decide +kernel)
theorem k_se_Way_canUnlock_Wrapped_canUnlock : Cond.selects R_Wrapped ⟨"SealingDesk$Way", "canUnlock", "(I)Z"⟩ y_Wrapped_canUnlock ∈ tb := tb_i 589 (by decide +kernel) (by decide +kernel)
theorem k_im_Wrapped_canUnlock : Cond.instanceMethod y_Wrapped_canUnlock ∈ tb := tb_i 590 (by decide +kernel) (by decide +kernel)
theorem k_cd_Wrapped_canUnlock : Cond.code y_Wrapped_canUnlock b_Wrapped_canUnlock 2 (some .boolean) ∈ tb := tb_i 591 (by decide +kernel) (by decide +kernel)
theorem k_ml_Wrapped_15 : Cond.methodLink R_Wrapped 15 y_Wrapped_canLock ∈ tb := tb_i 592 (by decide +kernel) (by decide +kernel)
theorem k_ml_Desk_170 : Cond.methodLink R_Desk 170 ⟨"SealingDesk$Way", "unlock", "(LSealingDesk$Row;LSealingDesk$Row;)Z"⟩ ∈ tb := tb_i 594 (by decide +kernel) (by decide +kernel)
theorem k_sm_Way_unlock : Cond.sameMethod R_Way R_Way "unlock" "(LSealingDesk$Row;LSealingDesk$Row;)Z" ∈ tb := tb_i 596 (by decide +kernel) (by decide +kernel)
theorem k_se_Way_unlock_Marked_unlock : Cond.selects R_Marked ⟨"SealingDesk$Way", "unlock", "(LSealingDesk$Row;LSealingDesk$Row;)Z"⟩ y_Marked_unlock ∈ tb := tb_i 597 (by decide +kernel) (by decide +kernel)
theorem k_im_Marked_unlock : Cond.instanceMethod y_Marked_unlock ∈ tb := tb_i 598 (by decide +kernel) (by decide +kernel)
theorem k_cd_Marked_unlock : Cond.code y_Marked_unlock b_Marked_unlock 4 (some .boolean) ∈ tb := tb_i 599 (by decide +kernel) (by decide +kernel)
theorem k_ml_Marked_59 : Cond.methodLink R_Marked 59 y_Row_becomeRest ∈ tb := tb_i 600 (by decide +kernel) (by decide +kernel)
theorem k_se_Way_unlock_Padded_unlock : Cond.selects R_Padded ⟨"SealingDesk$Way", "unlock", "(LSealingDesk$Row;LSealingDesk$Row;)Z"⟩ y_Padded_unlock ∈ tb := tb_i 601 (by decide +kernel) (by decide +kernel)
theorem k_im_Padded_unlock : Cond.instanceMethod y_Padded_unlock ∈ tb := tb_i 602 (by decide +kernel) (by decide +kernel)
theorem k_cd_Padded_unlock : Cond.code y_Padded_unlock b_Padded_unlock 5 (some .boolean) ∈ tb := tb_i 603 (by decide +kernel) (by decide +kernel)
theorem k_ml_Padded_57 : Cond.methodLink R_Padded 57 y_Row_become ∈ tb := tb_i 604 (by decide +kernel) (by decide +kernel)
theorem k_ml_Padded_60 : Cond.methodLink R_Padded 60 y_Cipher_turnBack ∈ tb := tb_i 605 (by decide +kernel) (by decide +kernel)
theorem k_ml_Padded_63 : Cond.methodLink R_Padded 63 y_Wrapping_unwind ∈ tb := tb_i 606 (by decide +kernel) (by decide +kernel)
theorem k_im_Wrapping_unwind : Cond.instanceMethod y_Wrapping_unwind ∈ tb := tb_i 607 (by decide +kernel) (by decide +kernel)
theorem k_se_Wrapping_unwind_Wrapping_unwind : Cond.selects R_Wrapping y_Wrapping_unwind y_Wrapping_unwind ∈ tb := tb_i 608 (by decide +kernel) (by decide +kernel)
theorem k_cd_Wrapping_unwind : Cond.code y_Wrapping_unwind b_Wrapping_unwind 5 none ∈ tb := tb_i 609 (by decide +kernel) (by decide +kernel)
theorem k_ml_Wrapping_42 : Cond.methodLink R_Wrapping 42 y_Cipher_turnBack ∈ tb := tb_i 610 (by decide +kernel) (by decide +kernel)
theorem k_ml_Padded_66 : Cond.methodLink R_Padded 66 y_Padded_wordAt ∈ tb := tb_i 611 (by decide +kernel) (by decide +kernel)
theorem k_st_Padded_wordAt : Cond.static y_Padded_wordAt ∈ tb := tb_i 612 (by decide +kernel) (by decide +kernel)
theorem k_cd_Padded_wordAt : Cond.code y_Padded_wordAt b_Padded_wordAt 4 (some .int) ∈ tb := tb_i 613 (by decide +kernel) (by decide +kernel)
theorem k_ml_Padded_70 : Cond.methodLink R_Padded 70 y_Row_becomeRest ∈ tb := tb_i 614 (by decide +kernel) (by decide +kernel)
theorem k_ml_Padded_73 : Cond.methodLink R_Padded 73 y_Padded_cutZeros ∈ tb := tb_i 615 (by decide +kernel) (by decide +kernel)
theorem k_st_Padded_cutZeros : Cond.static y_Padded_cutZeros ∈ tb := tb_i 616 (by decide +kernel) (by decide +kernel)
theorem k_cd_Padded_cutZeros : Cond.code y_Padded_cutZeros b_Padded_cutZeros 3 (some .boolean) ∈ tb := tb_i 617 (by decide +kernel) (by decide +kernel)
theorem k_se_Way_unlock_Wrapped_unlock : Cond.selects R_Wrapped ⟨"SealingDesk$Way", "unlock", "(LSealingDesk$Row;LSealingDesk$Row;)Z"⟩ y_Wrapped_unlock ∈ tb := tb_i 618 (by decide +kernel) (by decide +kernel)
theorem k_im_Wrapped_unlock : Cond.instanceMethod y_Wrapped_unlock ∈ tb := tb_i 619 (by decide +kernel) (by decide +kernel)
theorem k_cd_Wrapped_unlock : Cond.code y_Wrapped_unlock b_Wrapped_unlock 4 (some .boolean) ∈ tb := tb_i 620 (by decide +kernel) (by decide +kernel)
theorem k_ml_Wrapped_46 : Cond.methodLink R_Wrapped 46 y_Row_become ∈ tb := tb_i 621 (by decide +kernel) (by decide +kernel)
theorem k_ml_Wrapped_49 : Cond.methodLink R_Wrapped 49 y_Wrapping_unwind ∈ tb := tb_i 622 (by decide +kernel) (by decide +kernel)
theorem k_ml_Wrapped_52 : Cond.methodLink R_Wrapped 52 y_Row_becomeRest ∈ tb := tb_i 623 (by decide +kernel) (by decide +kernel)
theorem k_ml_Law_97 : Cond.methodLink R_Law 97 y_Law_at ∈ tb := tb_i 624 (by decide +kernel) (by decide +kernel)
theorem k_st_Law_at : Cond.static y_Law_at ∈ tb := tb_i 625 (by decide +kernel) (by decide +kernel)
theorem k_ml_Law_42 : Cond.methodLink R_Law 42 y_Desk_at ∈ tb := tb_i 627 (by decide +kernel) (by decide +kernel)
theorem k_im_Desk_at : Cond.instanceMethod y_Desk_at ∈ tb := tb_i 628 (by decide +kernel) (by decide +kernel)
theorem k_se_Desk_at_Desk_at : Cond.selects R_Desk y_Desk_at y_Desk_at ∈ tb := tb_i 629 (by decide +kernel) (by decide +kernel)
theorem k_cd_Desk_at : Cond.code y_Desk_at b_Desk_at 2 (some .int) ∈ tb := tb_i 630 (by decide +kernel) (by decide +kernel)
theorem k_cl_Law_46 : Cond.classLink R_Law 46 R_Model ∈ tb := tb_i 632 (by decide +kernel) (by decide +kernel)
theorem k_it_Model : Cond.instantiable R_Model 20 ∈ tb := tb_i 633 (by decide +kernel) (by decide +kernel)
theorem k_ml_Law_48 : Cond.methodLink R_Law 48 y_Model_init ∈ tb := tb_i 634 (by decide +kernel) (by decide +kernel)
theorem k_im_Model_init : Cond.instanceMethod y_Model_init ∈ tb := tb_i 635 (by decide +kernel) (by decide +kernel)
theorem k_cd_Model_init : Cond.code y_Model_init b_Model_init 4 none ∈ tb := tb_i 636 (by decide +kernel) (by decide +kernel)
theorem k_ml_Model_1 : Cond.methodLink R_Model 1 y_Object_init ∈ tb := tb_i 637 (by decide +kernel) (by decide +kernel)
theorem k_ml_Model_52 : Cond.methodLink R_Model 52 y_Model_power ∈ tb := tb_i 638 (by decide +kernel) (by decide +kernel)
theorem k_st_Model_power : Cond.static y_Model_power ∈ tb := tb_i 639 (by decide +kernel) (by decide +kernel)
theorem k_cd_Model_power : Cond.code y_Model_power b_Model_power 4 (some .int) ∈ tb := tb_i 640 (by decide +kernel) (by decide +kernel)
theorem k_ml_Model_68 : Cond.methodLink R_Model 68 y_Model_product ∈ tb := tb_i 641 (by decide +kernel) (by decide +kernel)
theorem k_st_Model_product : Cond.static y_Model_product ∈ tb := tb_i 642 (by decide +kernel) (by decide +kernel)
theorem k_cd_Model_product : Cond.code y_Model_product b_Model_product 4 (some .int) ∈ tb := tb_i 643 (by decide +kernel) (by decide +kernel)
theorem k_ml_Model_56 : Cond.methodLink R_Model 56 y_Model_around ∈ tb := tb_i 644 (by decide +kernel) (by decide +kernel)
theorem k_st_Model_around : Cond.static y_Model_around ∈ tb := tb_i 645 (by decide +kernel) (by decide +kernel)
theorem k_cd_Model_around : Cond.code y_Model_around b_Model_around 2 (some .int) ∈ tb := tb_i 646 (by decide +kernel) (by decide +kernel)
theorem k_ml_Model_60 : Cond.methodLink R_Model 60 y_Model_expand ∈ tb := tb_i 647 (by decide +kernel) (by decide +kernel)
theorem k_im_Model_expand : Cond.instanceMethod y_Model_expand ∈ tb := tb_i 649 (by decide +kernel) (by decide +kernel)
theorem k_cd_Model_expand : Cond.code y_Model_expand b_Model_expand 9 none ∈ tb := tb_i 650 (by decide +kernel) (by decide +kernel)
theorem k_ml_Model_71 : Cond.methodLink R_Model 71 y_Model_changed ∈ tb := tb_i 651 (by decide +kernel) (by decide +kernel)
theorem k_im_Model_changed : Cond.instanceMethod y_Model_changed ∈ tb := tb_i 653 (by decide +kernel) (by decide +kernel)
theorem k_cd_Model_changed : Cond.code y_Model_changed b_Model_changed 2 (some .int) ∈ tb := tb_i 654 (by decide +kernel) (by decide +kernel)
theorem k_fl_Model_64 : Cond.fieldLink R_Model 64 "SealingDeskModel" "code" "I" ∈ tb := tb_i 655 (by decide +kernel) (by decide +kernel)
theorem k_fl_Model_7 : Cond.fieldLink R_Model 7 "SealingDeskModel" "words" "[I" ∈ tb := tb_i 656 (by decide +kernel) (by decide +kernel)
theorem k_fl_Model_13 : Cond.fieldLink R_Model 13 "SealingDeskModel" "table" "[I" ∈ tb := tb_i 657 (by decide +kernel) (by decide +kernel)
theorem k_fl_Model_16 : Cond.fieldLink R_Model 16 "SealingDeskModel" "untable" "[I" ∈ tb := tb_i 658 (by decide +kernel) (by decide +kernel)
theorem k_fl_Model_133 : Cond.fieldLink R_Model 133 "SealingDeskModel" "inputs" "I" ∈ tb := tb_i 659 (by decide +kernel) (by decide +kernel)
theorem k_fl_Model_19 : Cond.fieldLink R_Model 19 "SealingDeskModel" "input" "[I" ∈ tb := tb_i 660 (by decide +kernel) (by decide +kernel)
theorem k_fl_Model_136 : Cond.fieldLink R_Model 136 "SealingDeskModel" "outputs" "I" ∈ tb := tb_i 661 (by decide +kernel) (by decide +kernel)
theorem k_fl_Model_22 : Cond.fieldLink R_Model 22 "SealingDeskModel" "output" "[I" ∈ tb := tb_i 662 (by decide +kernel) (by decide +kernel)
theorem k_fl_Model_94 : Cond.fieldLink R_Model 94 "SealingDeskModel" "items" "I" ∈ tb := tb_i 663 (by decide +kernel) (by decide +kernel)
theorem k_fl_Model_25 : Cond.fieldLink R_Model 25 "SealingDeskModel" "itemSize" "[I" ∈ tb := tb_i 664 (by decide +kernel) (by decide +kernel)
theorem k_fl_Model_28 : Cond.fieldLink R_Model 28 "SealingDeskModel" "itemBytes" "[I" ∈ tb := tb_i 665 (by decide +kernel) (by decide +kernel)
theorem k_fl_Model_31 : Cond.fieldLink R_Model 31 "SealingDeskModel" "block" "[I" ∈ tb := tb_i 666 (by decide +kernel) (by decide +kernel)
theorem k_fl_Model_34 : Cond.fieldLink R_Model 34 "SealingDeskModel" "moved" "[I" ∈ tb := tb_i 667 (by decide +kernel) (by decide +kernel)
theorem k_fl_Model_100 : Cond.fieldLink R_Model 100 "SealingDeskModel" "rows" "I" ∈ tb := tb_i 668 (by decide +kernel) (by decide +kernel)
theorem k_fl_Model_37 : Cond.fieldLink R_Model 37 "SealingDeskModel" "row" "[I" ∈ tb := tb_i 669 (by decide +kernel) (by decide +kernel)
theorem k_fl_Model_81 : Cond.fieldLink R_Model 81 "SealingDeskModel" "longs" "I" ∈ tb := tb_i 670 (by decide +kernel) (by decide +kernel)
theorem k_fl_Model_40 : Cond.fieldLink R_Model 40 "SealingDeskModel" "text" "[I" ∈ tb := tb_i 671 (by decide +kernel) (by decide +kernel)
theorem k_fl_Model_43 : Cond.fieldLink R_Model 43 "SealingDeskModel" "made" "[I" ∈ tb := tb_i 672 (by decide +kernel) (by decide +kernel)
theorem k_fl_Model_46 : Cond.fieldLink R_Model 46 "SealingDeskModel" "sum" "[I" ∈ tb := tb_i 673 (by decide +kernel) (by decide +kernel)
theorem k_fl_Model_49 : Cond.fieldLink R_Model 49 "SealingDeskModel" "kept" "[I" ∈ tb := tb_i 674 (by decide +kernel) (by decide +kernel)
theorem k_ly_Model_code : Cond.lays R_Model "SealingDeskModel" "code" "I" ∈ tb := tb_i 675 (by decide +kernel) (by decide +kernel)
theorem k_ly_Model_words : Cond.laysFinal R_Model "SealingDeskModel" "words" "[I" ∈ tb := tb_i 677 (by decide +kernel) (by decide +kernel)
theorem k_ly_Model_table : Cond.laysFinal R_Model "SealingDeskModel" "table" "[I" ∈ tb := tb_i 679 (by decide +kernel) (by decide +kernel)
theorem k_ly_Model_untable : Cond.laysFinal R_Model "SealingDeskModel" "untable" "[I" ∈ tb := tb_i 681 (by decide +kernel) (by decide +kernel)
theorem k_ly_Model_inputs : Cond.lays R_Model "SealingDeskModel" "inputs" "I" ∈ tb := tb_i 683 (by decide +kernel) (by decide +kernel)
theorem k_ly_Model_input : Cond.laysFinal R_Model "SealingDeskModel" "input" "[I" ∈ tb := tb_i 685 (by decide +kernel) (by decide +kernel)
theorem k_ly_Model_outputs : Cond.lays R_Model "SealingDeskModel" "outputs" "I" ∈ tb := tb_i 687 (by decide +kernel) (by decide +kernel)
theorem k_ly_Model_output : Cond.laysFinal R_Model "SealingDeskModel" "output" "[I" ∈ tb := tb_i 689 (by decide +kernel) (by decide +kernel)
theorem k_ly_Model_items : Cond.lays R_Model "SealingDeskModel" "items" "I" ∈ tb := tb_i 691 (by decide +kernel) (by decide +kernel)
theorem k_ly_Model_itemSize : Cond.laysFinal R_Model "SealingDeskModel" "itemSize" "[I" ∈ tb := tb_i 693 (by decide +kernel) (by decide +kernel)
theorem k_ly_Model_itemBytes : Cond.laysFinal R_Model "SealingDeskModel" "itemBytes" "[I" ∈ tb := tb_i 695 (by decide +kernel) (by decide +kernel)
theorem k_ly_Model_block : Cond.laysFinal R_Model "SealingDeskModel" "block" "[I" ∈ tb := tb_i 697 (by decide +kernel) (by decide +kernel)
theorem k_ly_Model_moved : Cond.laysFinal R_Model "SealingDeskModel" "moved" "[I" ∈ tb := tb_i 699 (by decide +kernel) (by decide +kernel)
theorem k_ly_Model_rows : Cond.lays R_Model "SealingDeskModel" "rows" "I" ∈ tb := tb_i 701 (by decide +kernel) (by decide +kernel)
theorem k_ly_Model_row : Cond.laysFinal R_Model "SealingDeskModel" "row" "[I" ∈ tb := tb_i 703 (by decide +kernel) (by decide +kernel)
theorem k_ly_Model_longs : Cond.lays R_Model "SealingDeskModel" "longs" "I" ∈ tb := tb_i 705 (by decide +kernel) (by decide +kernel)
theorem k_ly_Model_text : Cond.laysFinal R_Model "SealingDeskModel" "text" "[I" ∈ tb := tb_i 707 (by decide +kernel) (by decide +kernel)
theorem k_ly_Model_made : Cond.laysFinal R_Model "SealingDeskModel" "made" "[I" ∈ tb := tb_i 709 (by decide +kernel) (by decide +kernel)
theorem k_ly_Model_sum : Cond.laysFinal R_Model "SealingDeskModel" "sum" "[I" ∈ tb := tb_i 711 (by decide +kernel) (by decide +kernel)
theorem k_ly_Model_kept : Cond.laysFinal R_Model "SealingDeskModel" "kept" "[I" ∈ tb := tb_i 713 (by decide +kernel) (by decide +kernel)
theorem k_su_Model : Cond.superclass R_Model "java/lang/Object" ∈ tb := tb_i 715 (by decide +kernel) (by decide +kernel)
theorem k_ml_Law_55 : Cond.methodLink R_Law 55 y_Model_thrown ∈ tb := tb_i 716 (by decide +kernel) (by decide +kernel)
theorem k_im_Model_thrown : Cond.instanceMethod y_Model_thrown ∈ tb := tb_i 717 (by decide +kernel) (by decide +kernel)
theorem k_se_Model_thrown_Model_thrown : Cond.selects R_Model y_Model_thrown y_Model_thrown ∈ tb := tb_i 718 (by decide +kernel) (by decide +kernel)
theorem k_cd_Model_thrown : Cond.code y_Model_thrown b_Model_thrown 1 (some .int) ∈ tb := tb_i 719 (by decide +kernel) (by decide +kernel)
theorem k_ml_Law_54 : Cond.methodLink R_Law 54 y_Model_key ∈ tb := tb_i 720 (by decide +kernel) (by decide +kernel)
theorem k_im_Model_key : Cond.instanceMethod y_Model_key ∈ tb := tb_i 721 (by decide +kernel) (by decide +kernel)
theorem k_se_Model_key_Model_key : Cond.selects R_Model y_Model_key y_Model_key ∈ tb := tb_i 722 (by decide +kernel) (by decide +kernel)
theorem k_cd_Model_key : Cond.code y_Model_key b_Model_key 6 none ∈ tb := tb_i 723 (by decide +kernel) (by decide +kernel)
theorem k_ml_Law_61 : Cond.methodLink R_Law 61 y_Model_feed ∈ tb := tb_i 724 (by decide +kernel) (by decide +kernel)
theorem k_im_Model_feed : Cond.instanceMethod y_Model_feed ∈ tb := tb_i 725 (by decide +kernel) (by decide +kernel)
theorem k_se_Model_feed_Model_feed : Cond.selects R_Model y_Model_feed y_Model_feed ∈ tb := tb_i 726 (by decide +kernel) (by decide +kernel)
theorem k_cd_Model_feed : Cond.code y_Model_feed b_Model_feed 4 (some .int) ∈ tb := tb_i 727 (by decide +kernel) (by decide +kernel)
theorem k_ml_Law_65 : Cond.methodLink R_Law 65 y_Model_drop ∈ tb := tb_i 728 (by decide +kernel) (by decide +kernel)
theorem k_im_Model_drop : Cond.instanceMethod y_Model_drop ∈ tb := tb_i 729 (by decide +kernel) (by decide +kernel)
theorem k_se_Model_drop_Model_drop : Cond.selects R_Model y_Model_drop y_Model_drop ∈ tb := tb_i 730 (by decide +kernel) (by decide +kernel)
theorem k_cd_Model_drop : Cond.code y_Model_drop b_Model_drop 1 none ∈ tb := tb_i 731 (by decide +kernel) (by decide +kernel)
theorem k_ml_Law_69 : Cond.methodLink R_Law 69 y_Model_alter ∈ tb := tb_i 732 (by decide +kernel) (by decide +kernel)
theorem k_im_Model_alter : Cond.instanceMethod y_Model_alter ∈ tb := tb_i 733 (by decide +kernel) (by decide +kernel)
theorem k_se_Model_alter_Model_alter : Cond.selects R_Model y_Model_alter y_Model_alter ∈ tb := tb_i 734 (by decide +kernel) (by decide +kernel)
theorem k_cd_Model_alter : Cond.code y_Model_alter b_Model_alter 3 none ∈ tb := tb_i 735 (by decide +kernel) (by decide +kernel)
theorem k_ml_Law_73 : Cond.methodLink R_Law 73 y_Model_item ∈ tb := tb_i 736 (by decide +kernel) (by decide +kernel)
theorem k_im_Model_item : Cond.instanceMethod y_Model_item ∈ tb := tb_i 737 (by decide +kernel) (by decide +kernel)
theorem k_se_Model_item_Model_item : Cond.selects R_Model y_Model_item y_Model_item ∈ tb := tb_i 738 (by decide +kernel) (by decide +kernel)
theorem k_cd_Model_item : Cond.code y_Model_item b_Model_item 2 (some .int) ∈ tb := tb_i 739 (by decide +kernel) (by decide +kernel)
theorem k_ml_Law_77 : Cond.methodLink R_Law 77 y_Model_forget ∈ tb := tb_i 740 (by decide +kernel) (by decide +kernel)
theorem k_im_Model_forget : Cond.instanceMethod y_Model_forget ∈ tb := tb_i 741 (by decide +kernel) (by decide +kernel)
theorem k_se_Model_forget_Model_forget : Cond.selects R_Model y_Model_forget y_Model_forget ∈ tb := tb_i 742 (by decide +kernel) (by decide +kernel)
theorem k_cd_Model_forget : Cond.code y_Model_forget b_Model_forget 2 (some .int) ∈ tb := tb_i 743 (by decide +kernel) (by decide +kernel)
theorem k_ml_Law_81 : Cond.methodLink R_Law 81 y_Model_cipher ∈ tb := tb_i 744 (by decide +kernel) (by decide +kernel)
theorem k_im_Model_cipher : Cond.instanceMethod y_Model_cipher ∈ tb := tb_i 745 (by decide +kernel) (by decide +kernel)
theorem k_se_Model_cipher_Model_cipher : Cond.selects R_Model y_Model_cipher y_Model_cipher ∈ tb := tb_i 746 (by decide +kernel) (by decide +kernel)
theorem k_cd_Model_cipher : Cond.code y_Model_cipher b_Model_cipher 3 none ∈ tb := tb_i 747 (by decide +kernel) (by decide +kernel)
theorem k_ml_Model_139 : Cond.methodLink R_Model 139 y_Model_begin ∈ tb := tb_i 748 (by decide +kernel) (by decide +kernel)
theorem k_im_Model_begin : Cond.instanceMethod y_Model_begin ∈ tb := tb_i 750 (by decide +kernel) (by decide +kernel)
theorem k_cd_Model_begin : Cond.code y_Model_begin b_Model_begin 2 none ∈ tb := tb_i 751 (by decide +kernel) (by decide +kernel)
theorem k_ml_Model_120 : Cond.methodLink R_Model 120 y_Model_single ∈ tb := tb_i 752 (by decide +kernel) (by decide +kernel)
theorem k_im_Model_single : Cond.instanceMethod y_Model_single ∈ tb := tb_i 754 (by decide +kernel) (by decide +kernel)
theorem k_cd_Model_single : Cond.code y_Model_single b_Model_single 3 none ∈ tb := tb_i 755 (by decide +kernel) (by decide +kernel)
theorem k_ml_Model_114 : Cond.methodLink R_Model 114 y_Model_decipher ∈ tb := tb_i 756 (by decide +kernel) (by decide +kernel)
theorem k_im_Model_decipher : Cond.instanceMethod y_Model_decipher ∈ tb := tb_i 758 (by decide +kernel) (by decide +kernel)
theorem k_cd_Model_decipher : Cond.code y_Model_decipher b_Model_decipher 6 none ∈ tb := tb_i 759 (by decide +kernel) (by decide +kernel)
theorem k_ml_Model_74 : Cond.methodLink R_Model 74 y_Model_addKey ∈ tb := tb_i 760 (by decide +kernel) (by decide +kernel)
theorem k_im_Model_addKey : Cond.instanceMethod y_Model_addKey ∈ tb := tb_i 762 (by decide +kernel) (by decide +kernel)
theorem k_cd_Model_addKey : Cond.code y_Model_addKey b_Model_addKey 4 none ∈ tb := tb_i 763 (by decide +kernel) (by decide +kernel)
theorem k_ml_Model_84 : Cond.methodLink R_Model 84 y_Model_encipher ∈ tb := tb_i 764 (by decide +kernel) (by decide +kernel)
theorem k_im_Model_encipher : Cond.instanceMethod y_Model_encipher ∈ tb := tb_i 766 (by decide +kernel) (by decide +kernel)
theorem k_cd_Model_encipher : Cond.code y_Model_encipher b_Model_encipher 6 none ∈ tb := tb_i 767 (by decide +kernel) (by decide +kernel)
theorem k_ml_Model_142 : Cond.methodLink R_Model 142 y_Model_show ∈ tb := tb_i 768 (by decide +kernel) (by decide +kernel)
theorem k_im_Model_show : Cond.instanceMethod y_Model_show ∈ tb := tb_i 770 (by decide +kernel) (by decide +kernel)
theorem k_cd_Model_show : Cond.code y_Model_show b_Model_show 2 (some .int) ∈ tb := tb_i 771 (by decide +kernel) (by decide +kernel)
theorem k_ml_Law_85 : Cond.methodLink R_Law 85 y_Model_mark ∈ tb := tb_i 772 (by decide +kernel) (by decide +kernel)
theorem k_im_Model_mark : Cond.instanceMethod y_Model_mark ∈ tb := tb_i 773 (by decide +kernel) (by decide +kernel)
theorem k_se_Model_mark_Model_mark : Cond.selects R_Model y_Model_mark y_Model_mark ∈ tb := tb_i 774 (by decide +kernel) (by decide +kernel)
theorem k_cd_Model_mark : Cond.code y_Model_mark b_Model_mark 3 none ∈ tb := tb_i 775 (by decide +kernel) (by decide +kernel)
theorem k_ml_Model_105 : Cond.methodLink R_Model 105 y_Model_markJointly ∈ tb := tb_i 776 (by decide +kernel) (by decide +kernel)
theorem k_im_Model_markJointly : Cond.instanceMethod y_Model_markJointly ∈ tb := tb_i 778 (by decide +kernel) (by decide +kernel)
theorem k_cd_Model_markJointly : Cond.code y_Model_markJointly b_Model_markJointly 3 none ∈ tb := tb_i 779 (by decide +kernel) (by decide +kernel)
theorem k_ml_Model_91 : Cond.methodLink R_Model 91 y_Model_markText ∈ tb := tb_i 780 (by decide +kernel) (by decide +kernel)
theorem k_im_Model_markText : Cond.instanceMethod y_Model_markText ∈ tb := tb_i 782 (by decide +kernel) (by decide +kernel)
theorem k_cd_Model_markText : Cond.code y_Model_markText b_Model_markText 5 none ∈ tb := tb_i 783 (by decide +kernel) (by decide +kernel)
theorem k_ml_Model_88 : Cond.methodLink R_Model 88 y_Model_doubleBlock ∈ tb := tb_i 784 (by decide +kernel) (by decide +kernel)
theorem k_im_Model_doubleBlock : Cond.instanceMethod y_Model_doubleBlock ∈ tb := tb_i 786 (by decide +kernel) (by decide +kernel)
theorem k_cd_Model_doubleBlock : Cond.code y_Model_doubleBlock b_Model_doubleBlock 3 none ∈ tb := tb_i 787 (by decide +kernel) (by decide +kernel)
theorem k_ml_Model_78 : Cond.methodLink R_Model 78 y_Model_bitBehind ∈ tb := tb_i 788 (by decide +kernel) (by decide +kernel)
theorem k_st_Model_bitBehind : Cond.static y_Model_bitBehind ∈ tb := tb_i 789 (by decide +kernel) (by decide +kernel)
theorem k_cd_Model_bitBehind : Cond.code y_Model_bitBehind b_Model_bitBehind 2 (some .int) ∈ tb := tb_i 790 (by decide +kernel) (by decide +kernel)
theorem k_ml_Model_97 : Cond.methodLink R_Model 97 y_Model_doubleSum ∈ tb := tb_i 791 (by decide +kernel) (by decide +kernel)
theorem k_im_Model_doubleSum : Cond.instanceMethod y_Model_doubleSum ∈ tb := tb_i 793 (by decide +kernel) (by decide +kernel)
theorem k_cd_Model_doubleSum : Cond.code y_Model_doubleSum b_Model_doubleSum 3 none ∈ tb := tb_i 794 (by decide +kernel) (by decide +kernel)
theorem k_ml_Law_89 : Cond.methodLink R_Law 89 y_Model_seal ∈ tb := tb_i 795 (by decide +kernel) (by decide +kernel)
theorem k_im_Model_seal : Cond.instanceMethod y_Model_seal ∈ tb := tb_i 796 (by decide +kernel) (by decide +kernel)
theorem k_se_Model_seal_Model_seal : Cond.selects R_Model y_Model_seal y_Model_seal ∈ tb := tb_i 797 (by decide +kernel) (by decide +kernel)
theorem k_cd_Model_seal : Cond.code y_Model_seal b_Model_seal 3 (some .int) ∈ tb := tb_i 798 (by decide +kernel) (by decide +kernel)
theorem k_ml_Model_146 : Cond.methodLink R_Model 146 y_Model_sealMarked ∈ tb := tb_i 799 (by decide +kernel) (by decide +kernel)
theorem k_im_Model_sealMarked : Cond.instanceMethod y_Model_sealMarked ∈ tb := tb_i 801 (by decide +kernel) (by decide +kernel)
theorem k_cd_Model_sealMarked : Cond.code y_Model_sealMarked b_Model_sealMarked 2 none ∈ tb := tb_i 802 (by decide +kernel) (by decide +kernel)
theorem k_ml_Model_108 : Cond.methodLink R_Model 108 y_Model_cross ∈ tb := tb_i 803 (by decide +kernel) (by decide +kernel)
theorem k_im_Model_cross : Cond.instanceMethod y_Model_cross ∈ tb := tb_i 805 (by decide +kernel) (by decide +kernel)
theorem k_cd_Model_cross : Cond.code y_Model_cross b_Model_cross 7 none ∈ tb := tb_i 806 (by decide +kernel) (by decide +kernel)
theorem k_co_Model_103 : Cond.constantLong R_Model 103 (255) ∈ tb := tb_i 807 (by decide +kernel) (by decide +kernel)
theorem k_ml_Model_117 : Cond.methodLink R_Model 117 y_Model_front ∈ tb := tb_i 808 (by decide +kernel) (by decide +kernel)
theorem k_im_Model_front : Cond.instanceMethod y_Model_front ∈ tb := tb_i 810 (by decide +kernel) (by decide +kernel)
theorem k_cd_Model_front : Cond.code y_Model_front b_Model_front 4 none ∈ tb := tb_i 811 (by decide +kernel) (by decide +kernel)
theorem k_ml_Model_124 : Cond.methodLink R_Model 124 y_Model_wrap ∈ tb := tb_i 812 (by decide +kernel) (by decide +kernel)
theorem k_im_Model_wrap : Cond.instanceMethod y_Model_wrap ∈ tb := tb_i 814 (by decide +kernel) (by decide +kernel)
theorem k_cd_Model_wrap : Cond.code y_Model_wrap b_Model_wrap 5 none ∈ tb := tb_i 815 (by decide +kernel) (by decide +kernel)
theorem k_ml_Model_111 : Cond.methodLink R_Model 111 y_Model_number ∈ tb := tb_i 816 (by decide +kernel) (by decide +kernel)
theorem k_im_Model_number : Cond.instanceMethod y_Model_number ∈ tb := tb_i 818 (by decide +kernel) (by decide +kernel)
theorem k_cd_Model_number : Cond.code y_Model_number b_Model_number 2 none ∈ tb := tb_i 819 (by decide +kernel) (by decide +kernel)
theorem k_ml_Model_149 : Cond.methodLink R_Model 149 y_Model_sealPadded ∈ tb := tb_i 820 (by decide +kernel) (by decide +kernel)
theorem k_im_Model_sealPadded : Cond.instanceMethod y_Model_sealPadded ∈ tb := tb_i 822 (by decide +kernel) (by decide +kernel)
theorem k_cd_Model_sealPadded : Cond.code y_Model_sealPadded b_Model_sealPadded 3 none ∈ tb := tb_i 823 (by decide +kernel) (by decide +kernel)
theorem k_ml_Law_92 : Cond.methodLink R_Law 92 y_Model_open ∈ tb := tb_i 824 (by decide +kernel) (by decide +kernel)
theorem k_im_Model_open : Cond.instanceMethod y_Model_open ∈ tb := tb_i 825 (by decide +kernel) (by decide +kernel)
theorem k_se_Model_open_Model_open : Cond.selects R_Model y_Model_open y_Model_open ∈ tb := tb_i 826 (by decide +kernel) (by decide +kernel)
theorem k_cd_Model_open : Cond.code y_Model_open b_Model_open 4 (some .int) ∈ tb := tb_i 827 (by decide +kernel) (by decide +kernel)
theorem k_ml_Model_152 : Cond.methodLink R_Model 152 y_Model_openMarked ∈ tb := tb_i 828 (by decide +kernel) (by decide +kernel)
theorem k_im_Model_openMarked : Cond.instanceMethod y_Model_openMarked ∈ tb := tb_i 830 (by decide +kernel) (by decide +kernel)
theorem k_cd_Model_openMarked : Cond.code y_Model_openMarked b_Model_openMarked 3 (some .boolean) ∈ tb := tb_i 831 (by decide +kernel) (by decide +kernel)
theorem k_ml_Model_156 : Cond.methodLink R_Model 156 y_Model_openWrapped ∈ tb := tb_i 832 (by decide +kernel) (by decide +kernel)
theorem k_im_Model_openWrapped : Cond.instanceMethod y_Model_openWrapped ∈ tb := tb_i 834 (by decide +kernel) (by decide +kernel)
theorem k_cd_Model_openWrapped : Cond.code y_Model_openWrapped b_Model_openWrapped 3 (some .boolean) ∈ tb := tb_i 835 (by decide +kernel) (by decide +kernel)
theorem k_ml_Model_127 : Cond.methodLink R_Model 127 y_Model_unwrap ∈ tb := tb_i 836 (by decide +kernel) (by decide +kernel)
theorem k_im_Model_unwrap : Cond.instanceMethod y_Model_unwrap ∈ tb := tb_i 838 (by decide +kernel) (by decide +kernel)
theorem k_cd_Model_unwrap : Cond.code y_Model_unwrap b_Model_unwrap 5 none ∈ tb := tb_i 839 (by decide +kernel) (by decide +kernel)
theorem k_ml_Model_130 : Cond.methodLink R_Model 130 y_Model_dropFront ∈ tb := tb_i 840 (by decide +kernel) (by decide +kernel)
theorem k_im_Model_dropFront : Cond.instanceMethod y_Model_dropFront ∈ tb := tb_i 842 (by decide +kernel) (by decide +kernel)
theorem k_cd_Model_dropFront : Cond.code y_Model_dropFront b_Model_dropFront 2 none ∈ tb := tb_i 843 (by decide +kernel) (by decide +kernel)
theorem k_ml_Model_159 : Cond.methodLink R_Model 159 y_Model_openPadded ∈ tb := tb_i 844 (by decide +kernel) (by decide +kernel)
theorem k_im_Model_openPadded : Cond.instanceMethod y_Model_openPadded ∈ tb := tb_i 846 (by decide +kernel) (by decide +kernel)
theorem k_cd_Model_openPadded : Cond.code y_Model_openPadded b_Model_openPadded 4 (some .boolean) ∈ tb := tb_i 847 (by decide +kernel) (by decide +kernel)
theorem k_ml_Law_96 : Cond.methodLink R_Law 96 y_Model_size ∈ tb := tb_i 848 (by decide +kernel) (by decide +kernel)
theorem k_im_Model_size : Cond.instanceMethod y_Model_size ∈ tb := tb_i 849 (by decide +kernel) (by decide +kernel)
theorem k_se_Model_size_Model_size : Cond.selects R_Model y_Model_size y_Model_size ∈ tb := tb_i 850 (by decide +kernel) (by decide +kernel)
theorem k_cd_Model_size : Cond.code y_Model_size b_Model_size 1 (some .int) ∈ tb := tb_i 851 (by decide +kernel) (by decide +kernel)
theorem k_ml_Law_99 : Cond.methodLink R_Law 99 y_Model_at ∈ tb := tb_i 852 (by decide +kernel) (by decide +kernel)
theorem k_im_Model_at : Cond.instanceMethod y_Model_at ∈ tb := tb_i 853 (by decide +kernel) (by decide +kernel)
theorem k_se_Model_at_Model_at : Cond.selects R_Model y_Model_at y_Model_at ∈ tb := tb_i 854 (by decide +kernel) (by decide +kernel)
theorem k_cd_Model_at : Cond.code y_Model_at b_Model_at 2 (some .int) ∈ tb := tb_i 855 (by decide +kernel) (by decide +kernel)
theorem k_ml_Law_103 : Cond.methodLink R_Law 103 y_Model_take ∈ tb := tb_i 856 (by decide +kernel) (by decide +kernel)
theorem k_im_Model_take : Cond.instanceMethod y_Model_take ∈ tb := tb_i 857 (by decide +kernel) (by decide +kernel)
theorem k_se_Model_take_Model_take : Cond.selects R_Model y_Model_take y_Model_take ∈ tb := tb_i 858 (by decide +kernel) (by decide +kernel)
theorem k_cd_Model_take : Cond.code y_Model_take b_Model_take 2 (some .int) ∈ tb := tb_i 859 (by decide +kernel) (by decide +kernel)
theorem k_ac_long : Cond.arrayClass .long ∈ tb := tb_i 860 (by decide +kernel) (by decide +kernel)
theorem k_se_Wrapped_canLock_Wrapped_canLock : Cond.selects R_Wrapped y_Wrapped_canLock y_Wrapped_canLock ∈ tb := tb_i 862 (by decide +kernel) (by decide +kernel)
end
section
theorem p_se_Tables_enter : Cond.selects R_Tables y_Tables_enter y_Tables_enter ∈ tb := tb_p (y := y_Tables_enter) (n := 2) 0 (by decide +kernel)
theorem p_se_Cipher_expandFrom : Cond.selects R_Cipher y_Cipher_expandFrom y_Cipher_expandFrom ∈ tb := tb_p (y := y_Cipher_expandFrom) (n := 3) 1 (by decide +kernel)
theorem p_se_Cipher_addRoundKey : Cond.selects R_Cipher y_Cipher_addRoundKey y_Cipher_addRoundKey ∈ tb := tb_p (y := y_Cipher_addRoundKey) (n := 3) 2 (by decide +kernel)
theorem p_se_Cipher_substitute : Cond.selects R_Cipher y_Cipher_substitute y_Cipher_substitute ∈ tb := tb_p (y := y_Cipher_substitute) (n := 3) 3 (by decide +kernel)
theorem p_se_Cipher_substituteBack : Cond.selects R_Cipher y_Cipher_substituteBack y_Cipher_substituteBack ∈ tb := tb_p (y := y_Cipher_substituteBack) (n := 3) 5 (by decide +kernel)
theorem p_se_Marked_addStream : Cond.selects R_Marked y_Marked_addStream y_Marked_addStream ∈ tb := tb_p (y := y_Marked_addStream) (n := 6) 6 (by decide +kernel)
theorem p_se_Marked_nextBlock : Cond.selects R_Marked y_Marked_nextBlock y_Marked_nextBlock ∈ tb := tb_p (y := y_Marked_nextBlock) (n := 6) 7 (by decide +kernel)
theorem p_se_Wrapping_lift : Cond.selects R_Wrapping y_Wrapping_lift y_Wrapping_lift ∈ tb := tb_p (y := y_Wrapping_lift) (n := 2) 8 (by decide +kernel)
theorem p_se_Wrapping_addNumber : Cond.selects R_Wrapping y_Wrapping_addNumber y_Wrapping_addNumber ∈ tb := tb_p (y := y_Wrapping_addNumber) (n := 2) 9 (by decide +kernel)
theorem p_se_Wrapping_lay : Cond.selects R_Wrapping y_Wrapping_lay y_Wrapping_lay ∈ tb := tb_p (y := y_Wrapping_lay) (n := 2) 10 (by decide +kernel)
theorem p_se_Model_expand : Cond.selects R_Model y_Model_expand y_Model_expand ∈ tb := tb_p (y := y_Model_expand) (n := 20) 11 (by decide +kernel)
theorem p_se_Model_changed : Cond.selects R_Model y_Model_changed y_Model_changed ∈ tb := tb_p (y := y_Model_changed) (n := 20) 12 (by decide +kernel)
theorem p_se_Model_begin : Cond.selects R_Model y_Model_begin y_Model_begin ∈ tb := tb_p (y := y_Model_begin) (n := 20) 13 (by decide +kernel)
theorem p_se_Model_single : Cond.selects R_Model y_Model_single y_Model_single ∈ tb := tb_p (y := y_Model_single) (n := 20) 14 (by decide +kernel)
theorem p_se_Model_decipher : Cond.selects R_Model y_Model_decipher y_Model_decipher ∈ tb := tb_p (y := y_Model_decipher) (n := 20) 15 (by decide +kernel)
theorem p_se_Model_addKey : Cond.selects R_Model y_Model_addKey y_Model_addKey ∈ tb := tb_p (y := y_Model_addKey) (n := 20) 16 (by decide +kernel)
theorem p_se_Model_encipher : Cond.selects R_Model y_Model_encipher y_Model_encipher ∈ tb := tb_p (y := y_Model_encipher) (n := 20) 17 (by decide +kernel)
theorem p_se_Model_show : Cond.selects R_Model y_Model_show y_Model_show ∈ tb := tb_p (y := y_Model_show) (n := 20) 18 (by decide +kernel)
theorem p_se_Model_markJointly : Cond.selects R_Model y_Model_markJointly y_Model_markJointly ∈ tb := tb_p (y := y_Model_markJointly) (n := 20) 19 (by decide +kernel)
theorem p_se_Model_markText : Cond.selects R_Model y_Model_markText y_Model_markText ∈ tb := tb_p (y := y_Model_markText) (n := 20) 20 (by decide +kernel)
theorem p_se_Model_doubleBlock : Cond.selects R_Model y_Model_doubleBlock y_Model_doubleBlock ∈ tb := tb_p (y := y_Model_doubleBlock) (n := 20) 21 (by decide +kernel)
theorem p_se_Model_doubleSum : Cond.selects R_Model y_Model_doubleSum y_Model_doubleSum ∈ tb := tb_p (y := y_Model_doubleSum) (n := 20) 22 (by decide +kernel)
theorem p_se_Model_sealMarked : Cond.selects R_Model y_Model_sealMarked y_Model_sealMarked ∈ tb := tb_p (y := y_Model_sealMarked) (n := 20) 23 (by decide +kernel)
theorem p_se_Model_cross : Cond.selects R_Model y_Model_cross y_Model_cross ∈ tb := tb_p (y := y_Model_cross) (n := 20) 24 (by decide +kernel)
theorem p_se_Model_front : Cond.selects R_Model y_Model_front y_Model_front ∈ tb := tb_p (y := y_Model_front) (n := 20) 25 (by decide +kernel)
theorem p_se_Model_wrap : Cond.selects R_Model y_Model_wrap y_Model_wrap ∈ tb := tb_p (y := y_Model_wrap) (n := 20) 26 (by decide +kernel)
theorem p_se_Model_number : Cond.selects R_Model y_Model_number y_Model_number ∈ tb := tb_p (y := y_Model_number) (n := 20) 27 (by decide +kernel)
theorem p_se_Model_sealPadded : Cond.selects R_Model y_Model_sealPadded y_Model_sealPadded ∈ tb := tb_p (y := y_Model_sealPadded) (n := 20) 28 (by decide +kernel)
theorem p_se_Model_openMarked : Cond.selects R_Model y_Model_openMarked y_Model_openMarked ∈ tb := tb_p (y := y_Model_openMarked) (n := 20) 29 (by decide +kernel)
theorem p_se_Model_openWrapped : Cond.selects R_Model y_Model_openWrapped y_Model_openWrapped ∈ tb := tb_p (y := y_Model_openWrapped) (n := 20) 30 (by decide +kernel)
theorem p_se_Model_unwrap : Cond.selects R_Model y_Model_unwrap y_Model_unwrap ∈ tb := tb_p (y := y_Model_unwrap) (n := 20) 31 (by decide +kernel)
theorem p_se_Model_dropFront : Cond.selects R_Model y_Model_dropFront y_Model_dropFront ∈ tb := tb_p (y := y_Model_dropFront) (n := 20) 32 (by decide +kernel)
theorem p_se_Model_openPadded : Cond.selects R_Model y_Model_openPadded y_Model_openPadded ∈ tb := tb_p (y := y_Model_openPadded) (n := 20) 33 (by decide +kernel)
/-- a class by its number: name, fields, how many -/
def Tc (ci : Nat) : vw_C := Cls.getD ci ("", fun _ => ("", "", "", false), 0)
theorem Tc_at {ci : Nat} (h : Nat.blt ci Cls.length = true) : Cls[ci]? = some ((Tc ci).1, (Tc ci).2.1, (Tc ci).2.2) := by
  have h1 : ci < Cls.length := Nat.le_of_ble_eq_true h
  unfold Tc
  rw [List.getD_eq_getElem?_getD, List.getElem?_eq_getElem h1]
  rfl
def Tc_ty (ci : Nat) : Nat → FieldType := match ci with
  | 0 => t_Desk
  | 1 => t_Model
  | 2 => t_Cipher
  | 3 => t_Items
  | 4 => t_Marked
  | 5 => t_Marker
  | 6 => t_Padded
  | 7 => t_Row
  | 8 => t_Tables
  | 9 => t_Wrapped
  | _ => t_Wrapping
theorem in_Desk : ∀ w ∈ u_ws R_Desk F_Desk 7, w ∈ tb := by
  intro w hw
  obtain ⟨k, hk, rfl⟩ := List.mem_map.mp hw
  have hk := List.mem_range.mp hk
  rcases (show k = 0 ∨ k = 1 ∨ k = 2 ∨ k = 3 ∨ k = 4 ∨ k = 5 ∨ k = 6 by omega) with rfl | rfl | rfl | rfl | rfl | rfl | rfl
  · exact k_ly_Desk_ciphers
  · exact k_ly_Desk_marker
  · exact k_ly_Desk_ways
  · exact k_ly_Desk_items
  · exact k_ly_Desk_input
  · exact k_ly_Desk_output
  · exact k_ly_Desk_opened
theorem in_Model : ∀ w ∈ u_ws R_Model F_Model 20, w ∈ tb := by
  intro w hw
  obtain ⟨k, hk, rfl⟩ := List.mem_map.mp hw
  have hk := List.mem_range.mp hk
  rcases (show k = 0 ∨ k = 1 ∨ k = 2 ∨ k = 3 ∨ k = 4 ∨ k = 5 ∨ k = 6 ∨ k = 7 ∨ k = 8 ∨ k = 9 ∨ k = 10 ∨ k = 11 ∨ k = 12 ∨ k = 13 ∨ k = 14 ∨ k = 15 ∨ k = 16 ∨ k = 17 ∨ k = 18 ∨ k = 19 by omega) with rfl | rfl | rfl | rfl | rfl | rfl | rfl | rfl | rfl | rfl | rfl | rfl | rfl | rfl | rfl | rfl | rfl | rfl | rfl | rfl
  · exact k_ly_Model_code
  · exact k_ly_Model_words
  · exact k_ly_Model_table
  · exact k_ly_Model_untable
  · exact k_ly_Model_inputs
  · exact k_ly_Model_input
  · exact k_ly_Model_outputs
  · exact k_ly_Model_output
  · exact k_ly_Model_items
  · exact k_ly_Model_itemSize
  · exact k_ly_Model_itemBytes
  · exact k_ly_Model_block
  · exact k_ly_Model_moved
  · exact k_ly_Model_rows
  · exact k_ly_Model_row
  · exact k_ly_Model_longs
  · exact k_ly_Model_text
  · exact k_ly_Model_made
  · exact k_ly_Model_sum
  · exact k_ly_Model_kept
theorem in_Cipher : ∀ w ∈ u_ws R_Cipher F_Cipher 3, w ∈ tb := by
  intro w hw
  obtain ⟨k, hk, rfl⟩ := List.mem_map.mp hw
  have hk := List.mem_range.mp hk
  rcases (show k = 0 ∨ k = 1 ∨ k = 2 by omega) with rfl | rfl | rfl
  · exact k_ly_Cipher_tables
  · exact k_ly_Cipher_roundKeys
  · exact k_ly_Cipher_before
theorem in_Items : ∀ w ∈ u_ws R_Items F_Items 2, w ∈ tb := by
  intro w hw
  obtain ⟨k, hk, rfl⟩ := List.mem_map.mp hw
  have hk := List.mem_range.mp hk
  rcases (show k = 0 ∨ k = 1 by omega) with rfl | rfl
  · exact k_ly_Items_rows
  · exact k_ly_Items_count
theorem in_Marked : ∀ w ∈ u_ws R_Marked F_Marked 6, w ∈ tb := by
  intro w hw
  obtain ⟨k, hk, rfl⟩ := List.mem_map.mp hw
  have hk := List.mem_range.mp hk
  rcases (show k = 0 ∨ k = 1 ∨ k = 2 ∨ k = 3 ∨ k = 4 ∨ k = 5 by omega) with rfl | rfl | rfl | rfl | rfl | rfl
  · exact k_ly_Marked_marker
  · exact k_ly_Marked_items
  · exact k_ly_Marked_cipher
  · exact k_ly_Marked_sign
  · exact k_ly_Marked_counter
  · exact k_ly_Marked_block
theorem in_Marker : ∀ w ∈ u_ws R_Marker F_Marker 4, w ∈ tb := by
  intro w hw
  obtain ⟨k, hk, rfl⟩ := List.mem_map.mp hw
  have hk := List.mem_range.mp hk
  rcases (show k = 0 ∨ k = 1 ∨ k = 2 ∨ k = 3 by omega) with rfl | rfl | rfl | rfl
  · exact k_ly_Marker_cipher
  · exact k_ly_Marker_twist
  · exact k_ly_Marker_sum
  · exact k_ly_Marker_joined
theorem in_Padded : ∀ w ∈ u_ws R_Padded F_Padded 2, w ∈ tb := by
  intro w hw
  obtain ⟨k, hk, rfl⟩ := List.mem_map.mp hw
  have hk := List.mem_range.mp hk
  rcases (show k = 0 ∨ k = 1 by omega) with rfl | rfl
  · exact k_ly_Padded_wrapping
  · exact k_ly_Padded_cipher
theorem in_Row : ∀ w ∈ u_ws R_Row F_Row 2, w ∈ tb := by
  intro w hw
  obtain ⟨k, hk, rfl⟩ := List.mem_map.mp hw
  have hk := List.mem_range.mp hk
  rcases (show k = 0 ∨ k = 1 by omega) with rfl | rfl
  · exact k_ly_Row_bytes
  · exact k_ly_Row_length
theorem in_Tables : ∀ w ∈ u_ws R_Tables F_Tables 2, w ∈ tb := by
  intro w hw
  obtain ⟨k, hk, rfl⟩ := List.mem_map.mp hw
  have hk := List.mem_range.mp hk
  rcases (show k = 0 ∨ k = 1 by omega) with rfl | rfl
  · exact k_ly_Tables_forth
  · exact k_ly_Tables_back
theorem in_Wrapped : ∀ w ∈ u_ws R_Wrapped F_Wrapped 1, w ∈ tb := by
  intro w hw
  obtain ⟨k, hk, rfl⟩ := List.mem_map.mp hw
  have hk := List.mem_range.mp hk
  rcases (show k = 0 by omega) with rfl
  · exact k_ly_Wrapped_wrapping
theorem in_Wrapping : ∀ w ∈ u_ws R_Wrapping F_Wrapping 2, w ∈ tb := by
  intro w hw
  obtain ⟨k, hk, rfl⟩ := List.mem_map.mp hw
  have hk := List.mem_range.mp hk
  rcases (show k = 0 ∨ k = 1 by omega) with rfl | rfl
  · exact k_ly_Wrapping_cipher
  · exact k_ly_Wrapping_block
theorem Tc_in {ci : Nat} (h : Nat.blt ci Cls.length = true) : ∀ w ∈ u_ws (Tc ci).1 (Tc ci).2.1 (Tc ci).2.2, w ∈ tb := by
  have h1 : ci < 11 := Nat.le_of_ble_eq_true h
  match ci, h1 with
  | 0, _ => exact in_Desk
  | 1, _ => exact in_Model
  | 2, _ => exact in_Cipher
  | 3, _ => exact in_Items
  | 4, _ => exact in_Marked
  | 5, _ => exact in_Marker
  | 6, _ => exact in_Padded
  | 7, _ => exact in_Row
  | 8, _ => exact in_Tables
  | 9, _ => exact in_Wrapped
  | 10, _ => exact in_Wrapping
theorem Tc_tyok {ci : Nat} (h : Nat.blt ci Cls.length = true) : ∀ k, k < (Tc ci).2.2 → parseFieldDescriptor ((Tc ci).2.1 k).2.2.1 = some (Tc_ty ci k) := by
  have h1 : ci < 11 := Nat.le_of_ble_eq_true h
  match ci, h1 with
  | 0, _ => exact t_Desk_ok
  | 1, _ => exact t_Model_ok
  | 2, _ => exact t_Cipher_ok
  | 3, _ => exact t_Items_ok
  | 4, _ => exact t_Marked_ok
  | 5, _ => exact t_Marker_ok
  | 6, _ => exact t_Padded_ok
  | 7, _ => exact t_Row_ok
  | 8, _ => exact t_Tables_ok
  | 9, _ => exact t_Wrapped_ok
  | 10, _ => exact t_Wrapping_ok
theorem Tc_nm {ci : Nat} (h : Nat.blt ci Cls.length = true) : ∀ a, a < (Tc ci).2.2 → ∀ b, b < (Tc ci).2.2 → a ≠ b → ((Tc ci).2.1 a).2.1 ≠ ((Tc ci).2.1 b).2.1 := by
  have h1 : ci < 11 := Nat.le_of_ble_eq_true h
  match ci, h1 with
  | 0, _ => exact n_Desk
  | 1, _ => exact n_Model
  | 2, _ => exact n_Cipher
  | 3, _ => exact n_Items
  | 4, _ => exact n_Marked
  | 5, _ => exact n_Marker
  | 6, _ => exact n_Padded
  | 7, _ => exact n_Row
  | 8, _ => exact n_Tables
  | 9, _ => exact n_Wrapped
  | 10, _ => exact n_Wrapping
end
section
/-- an int array's contents, as a list of naturals -/
def la (L : List Nat) : Nat → Int32 := fun k => nI (L.getD k 0)
theorem la_at (L : List Nat) {i : Nat} (h : i < 2 ^ 31) : la L (nI i).toNatClampNeg = nI (L.getD i 0) := by
  unfold la
  rw [nI_clamp h]
theorem la_set {L : List Nat} {i v : Nat} (h : i < L.length) : upd (la L) i (nI v) = la (L.set i v) := by
  funext k
  unfold upd la
  by_cases hk : k = i
  · subst hk
    rw [if_pos rfl, List.getD_eq_getElem?_getD, List.getElem?_set_self h]
    rfl
  · rw [if_neg hk, List.getD_eq_getElem?_getD, List.getD_eq_getElem?_getD, List.getElem?_set_ne (Ne.symm hk)]
theorem la_zero (n : Nat) : (fun _ => (0 : Int32)) = la (List.replicate n 0) := by
  funext k
  unfold la
  rw [List.getD_eq_getElem?_getD, List.getElem?_replicate]
  split <;> rfl
/-- n places of f, from sp on, laid over g from dp on -/
def cpy (f g : List Nat) (sp dp n : Nat) : List Nat := g.take dp ++ ((f.drop sp).take n ++ g.drop (dp + n))
theorem cpy_length {f g : List Nat} {sp dp n : Nat} (h1 : sp + n ≤ f.length) (h2 : dp + n ≤ g.length) : (cpy f g sp dp n).length = g.length := by
  simp [cpy]
  omega
theorem la_cpy {f g : List Nat} {sp dp n : Nat} (h1 : sp + n ≤ f.length) (h2 : dp + n ≤ g.length) : va_cpy (la f) (la g) sp dp n = la (cpy f g sp dp n) := by
  funext k
  unfold va_cpy la cpy
  rw [List.getD_eq_getElem?_getD (l := List.take dp g ++ _)]
  by_cases hk : k < dp
  · rw [if_neg (by omega), List.getElem?_append_left (by simp; omega), List.getElem?_take_of_lt hk, List.getD_eq_getElem?_getD]
  · rw [List.getElem?_append_right (by simp; omega)]
    have e1 : (List.take dp g).length = dp := by simp; omega
    rw [e1]
    by_cases hk2 : k < dp + n
    · rw [if_pos (by omega), List.getElem?_append_left (by simp; omega), List.getElem?_take_of_lt (by omega), List.getElem?_drop, List.getD_eq_getElem?_getD]
    · have e2 : (List.take n (List.drop sp f)).length = n := by simp; omega
      rw [if_neg (by omega), List.getElem?_append_right (by rw [e2]; omega), e2, List.getElem?_drop, List.getD_eq_getElem?_getD]
      congr 3
      omega
theorem nx_and (a b : Nat) : nI a &&& nI b = nI (a &&& b) := by
  apply Int32.toBitVec_inj.1
  show BitVec.ofNat 32 a &&& BitVec.ofNat 32 b = BitVec.ofNat 32 (a &&& b)
  rw [BitVec.ofNat_and]
theorem nx_xor (a b : Nat) : nI a ^^^ nI b = nI (a ^^^ b) := by
  apply Int32.toBitVec_inj.1
  show BitVec.ofNat 32 a ^^^ BitVec.ofNat 32 b = BitVec.ofNat 32 (a ^^^ b)
  rw [BitVec.ofNat_xor]
theorem nx_or (a b : Nat) : nI a ||| nI b = nI (a ||| b) := by
  apply Int32.toBitVec_inj.1
  show BitVec.ofNat 32 a ||| BitVec.ofNat 32 b = BitVec.ofNat 32 (a ||| b)
  rw [BitVec.ofNat_or]
theorem ln_s31 : ∀ n, n < 32 → ((nI n &&& 31).toBitVec.smod 32).toNat = n := by decide +kernel
theorem ln_u31 : ∀ n, n < 32 → (((nI n).toUInt32 &&& Int32.toUInt32 31).toBitVec % 32).toNat = n := by decide +kernel
/-! Worlds by number: the cells that the run has made, in the order of their making; a frame in one word; rows of the walk. -/
abbrev Hp : Type := List va_E
def zA (z i : Nat) : Nat := z + i
def wl (z : Nat) (h : Hp) : va_W := h.zipIdx.map (fun q => (zA z q.2, q.1))
theorem wl_at (z : Nat) (h : Hp) (i : Nat) : (wl z h)[i]? = (h[i]?).map (fun e => (zA z i, e)) := by
  unfold wl
  rw [List.getElem?_map, List.getElem?_zipIdx]
  cases h[i]? <;> simp
theorem wl_get {z : Nat} {h : Hp} {i : Nat} {e : va_E} (hi : h[i]? = some e) : (wl z h)[i]? = some (zA z i, e) := by
  rw [wl_at, hi]
  rfl
theorem wl_len (z : Nat) (h : Hp) : (wl z h).length = h.length := by simp [wl]
theorem wl_set (z : Nat) (h : Hp) (i : Nat) (e : va_E) : wl z (h.set i e) = (wl z h).set i (zA z i, e) := by
  apply List.ext_getElem?
  intro j
  rw [wl_at, List.getElem?_set, List.getElem?_set, wl_len]
  by_cases hj : i = j
  · subst hj
    simp only [if_true]
    split <;> rfl
  · simp only [hj, if_false, wl_at]
theorem wl_push (z : Nat) (h : Hp) (e : va_E) : wl z (h ++ [e]) = wl z h ++ [(zA z h.length, e)] := by
  unfold wl
  rw [List.zipIdx_append]
  simp
theorem wl_of {z : Nat} {h : Hp} {i : Nat} {q : Nat × va_E} (hi : (wl z h)[i]? = some q) : q.1 = z + i := by
  rw [wl_at] at hi
  cases hh : h[i]? with
  | none => rw [hh] at hi; simp at hi
  | some e => rw [hh] at hi; simp at hi; rw [← hi]; rfl
theorem wl_D (z : Nat) (h : Hp) : va_D (fun q => z ≤ q) (wl z h) := by
  refine ⟨fun i j p q hi hj hpq => ?_, fun k q hk => ?_⟩
  · have h1 := wl_of hi
    have h2 := wl_of hj
    omega
  · have h1 := wl_of hk
    show z ≤ q.1
    omega
/-- launch, classes and their slots, classes of arrays, the first address -/
abbrev Gp : Type := Launch × va_G × (Nat → ClassId) × Nat
abbrev gl (g : Gp) : Launch := g.1
abbrev gD (g : Gp) : va_G := g.2.1
abbrev gC (g : Gp) : Nat → ClassId := g.2.2.1
abbrev gz (g : Gp) : Nat := g.2.2.2
def gT (g : Gp) : List (ClassId × FieldType) := [(gC g 0, .int), (gC g 1, .long), (gC g 2, .object R_Row), (gC g 3, .object R_Cipher), (gC g 4, .object R_Way)]
def zle (g : Gp) : Nat → Prop := fun q => gz g ≤ q
/-- the heap holds the cells h from the first address on, and no more while they are fewer than 60 -/
def Rl (g : Gp) (h : Hp) (H : Heap) : Prop := va_P (gD g) Cls (wl (gz g) h) H ∧ gz g + h.length ≤ H.size ∧ (h.length < 60 → H.size = gz g + h.length)
/-- a method: name, code, room for locals, answer -/
abbrev MD : Type := MethodName × ByteArray × Nat × Option FieldType
def wz (md : MD) : List Cond := .code md.1 md.2.1 md.2.2.1 md.2.2.2 :: tb
def rmo (fr : Nat) (mc : Nat × Nat) : Room := { frames := fr, cells := mc.1, slots := mc.2, locals := 36 * fr }
/-- the words that aren't good ones -/
def nzw (U : State) : Prop := (∀ q ∈ nwM, va_Nw (.methodLinkNest q.1 q.2.1 q.2.2.1 q.2.2.2) U) ∧ (∀ x ∈ nwD, va_Nw (.declares x) U) ∧ ∀ c ∈ nwA, va_AO c U
theorem nzw.warm {s U : State} (hW : s.WarmedH U.vm) (h : nzw s) : nzw U := ⟨fun q hq => va_Nw.warmM hW (h.1 q hq), fun x hx => va_Nw.warmD hW (h.2.1 x hx), fun c hc => va_AO.moved hW.alike (h.2.2 c hc)⟩
theorem nzw.same {s U : State} (hv : s.vm = U.vm) (h : nzw s) : nzw U := ⟨fun q hq => va_Nw.same rfl hv (h.1 q hq), fun x hx => va_Nw.same rfl hv (h.2.1 x hx), fun c hc => va_AO.moved (by rw [hv]; exact Vm.Alike.refl _) (h.2.2 c hc)⟩
/-- a method's end -/
def Qx (g : Gp) (Post : Outcome → Hp → Prop) : Array Value → State → Outcome → State → Prop := fun _ st o t => (∃ h', Post o h' ∧ Rl g h' t.heap) ∧ va_F (zle g) st t
def Px (g : Gp) (av : List Value) (h : Hp) : Array Value → State → Prop := va_Pc av (fun U => Rl g h U.heap ∧ va_K (gD g) Cls (gT g) U ∧ nzw U)
/-- a contract: on the arguments av and the cells h the method ends with Post -/
def Con (g : Gp) (md : MD) (fr : Nat) (mc : Nat × Nat) (av : List Value) (h : Hp) (Post : Outcome → Hp → Prop) : Prop :=
  Met (gl g) md.1 (wz md) (rmo fr mc) (Px g av h) (Qx g Post) mc.1 mc.2 (zle g)
/-- an exact end -/
def Ret (r : Option Value) (h : Hp) : Outcome → Hp → Prop := fun o h' => o = .returned r ∧ h' = h
/-- the locals -/
def lx (ls : Array Slot) (nL : Nat) (L : List (Option Value)) : Prop := ls.size = nL ∧ lv_wf ls ∧ ∀ (i : Nat) (v : Value), L[i]? = some (some v) → ls[i]? = some (.val v)
def lp (L : List (Option Value)) : List (Nat × Value) := L.zipIdx.filterMap (fun q => q.1.map (fun v => (q.2, v)))
theorem lp_mem {L : List (Option Value)} {i : Nat} {v : Value} : (i, v) ∈ lp L ↔ L[i]? = some (some v) := by
  unfold lp
  rw [List.mem_filterMap]
  constructor
  · rintro ⟨⟨x, j⟩, h1, h2⟩
    have h3 := List.mem_zipIdx_iff_getElem?.mp h1
    cases x with
    | none => simp at h2
    | some w =>
      simp at h2
      obtain ⟨rfl, rfl⟩ := h2
      exact h3
  · intro h
    exact ⟨(some v, i), List.mem_zipIdx_iff_getElem?.mpr h, rfl⟩
theorem lx_has {ls : Array Slot} {nL : Nat} {L : List (Option Value)} (h : lx ls nL L) : lv_has ls nL (lp L) :=
  ⟨h.1, h.2.1, fun q hq => h.2.2 q.1 q.2 (lp_mem.mp hq)⟩
/-- no long stands just below place i -/
def ok1 (L : List (Option Value)) : Nat → Bool
  | 0 => true
  | j + 1 => match L[j]? with
    | some (some v) => !(v.category == 2)
    | _ => true
theorem ok1_spec {L : List (Option Value)} {i j : Nat} {v : Value} (h : ok1 L i = true) (hj : L[j]? = some (some v)) : (!(j + 1 == i && v.category == 2)) = true := by
  cases i with
  | zero => simp
  | succ k =>
    by_cases hk : j = k
    · subst hk
      simp only [ok1, hj] at h
      simpa using h
    · have : (j + 1 == k + 1) = false := by simpa using hk
      rw [this]
      rfl
theorem lx_st1 {ls : Array Slot} {nL i : Nat} {L : List (Option Value)} {v : Value} (hok : ok1 L i = true) (h : lv_has ls nL ((i, v) :: (lp L).filter (fun q => !(q.1 == i) && !(q.1 + 1 == i && q.2.category == 2)))) : lx ls nL (L.set i (some v)) := by
  refine ⟨h.1, h.2.1, fun j w hj => ?_⟩
  rw [List.getElem?_set] at hj
  by_cases hij : i = j
  · subst hij
    simp only [if_true] at hj
    split at hj
    · cases hj
      exact h.2.2 (i, v) List.mem_cons_self
    · cases hj
  · simp only [hij, if_false] at hj
    refine h.2.2 (j, w) (List.mem_cons_of_mem _ (List.mem_filter.mpr ⟨lp_mem.mpr hj, ?_⟩))
    rw [Bool.and_eq_true]
    exact ⟨by simpa using fun e => hij e.symm, ok1_spec hok hj⟩
theorem lx_st2 {ls : Array Slot} {nL i : Nat} {L : List (Option Value)} {v : Value} (hok : ok1 L i = true) (h : lv_has ls nL ((i, v) :: (lp L).filter (fun q => !(q.1 == i) && (!(q.1 == i + 1) && !(q.1 + 1 == i && q.2.category == 2))))) : lx ls nL ((L.set i (some v)).set (i + 1) none) := by
  refine ⟨h.1, h.2.1, fun j w hj => ?_⟩
  rw [List.getElem?_set] at hj
  by_cases hij1 : i + 1 = j
  · simp only [hij1, if_true] at hj
    split at hj <;> cases hj
  · simp only [hij1, if_false] at hj
    rw [List.getElem?_set] at hj
    by_cases hij : i = j
    · subst hij
      simp only [if_true] at hj
      split at hj
      · cases hj
        exact h.2.2 (i, v) List.mem_cons_self
      · cases hj
    · simp only [hij, if_false] at hj
      refine h.2.2 (j, w) (List.mem_cons_of_mem _ (List.mem_filter.mpr ⟨lp_mem.mpr hj, ?_⟩))
      rw [Bool.and_eq_true, Bool.and_eq_true]
      exact ⟨by simpa using fun e => hij e.symm, by simpa using fun e => hij1 e.symm, ok1_spec hok hj⟩
/-- the locals at a method's entry (no long among its arguments) -/
def lin (av : List Value) (n : Nat) : List (Option Value) := av.map some ++ List.replicate (n - av.length) none
theorem lv_args_at : ∀ (vs : List Value) (k i : Nat) (v : Value), (vs.all fun v => v.category == 1) = true → vs[i]? = some v → (k + i, v) ∈ lv_args k vs
  | [], k, i, v, _, h => by simp at h
  | a :: vs, k, i, v, hc, h => by
    rw [List.all_cons, Bool.and_eq_true, beq_iff_eq] at hc
    cases i with
    | zero =>
      simp at h
      subst h
      exact List.mem_cons_self
    | succ i =>
      rw [List.getElem?_cons_succ] at h
      have h1 := lv_args_at vs (k + 1) i v hc.2 h
      refine List.mem_cons_of_mem _ ?_
      rw [if_neg (by rw [hc.1]; decide)]
      rw [show k + (i + 1) = k + 1 + i by omega]
      exact h1
theorem lin_lx {av : List Value} {n : Nat} {ls : Array Slot} (hc : (av.all fun v => v.category == 1) = true) (h : lv_has ls n (lv_args 0 av)) : lx ls n (lin av n) := by
  refine ⟨h.1, h.2.1, fun i v hi => ?_⟩
  unfold lin at hi
  by_cases hl : i < av.length
  · rw [List.getElem?_append_left (by simpa using hl), List.getElem?_map] at hi
    cases ha : av[i]? with
    | none => rw [ha] at hi; cases hi
    | some w =>
      rw [ha] at hi
      simp at hi
      subst hi
      have := lv_args_at av 0 i w hc ha
      rw [Nat.zero_add] at this
      exact h.2.2 (i, w) this
  · rw [List.getElem?_append_right (by simpa using hl), List.getElem?_replicate] at hi
    split at hi <;> cases hi
/-- a frame's fixed things: program, environment, room, start, method, arguments, frames below, the method's entry, its code -/
abbrev Fm : Type := Program × Env × Room × State × MethodId × Array Value × List Frame × Method × Code × Option String
abbrev fP (f : Fm) : Program := f.1
abbrev fE (f : Fm) : Env := f.2.1
abbrev fR (f : Fm) : Room := f.2.2.1
abbrev fS (f : Fm) : State := f.2.2.2.1
abbrev fI (f : Fm) : MethodId := f.2.2.2.2.1
abbrev fA (f : Fm) : Array Value := f.2.2.2.2.2.1
abbrev fB (f : Fm) : List Frame := f.2.2.2.2.2.2.1
abbrev fM (f : Fm) : Method := f.2.2.2.2.2.2.2.1
abbrev fC (f : Fm) : Code := f.2.2.2.2.2.2.2.2.1
/-- the class that the method may throw -/
abbrev fT (f : Fm) : Option String := f.2.2.2.2.2.2.2.2.2
/-- it returned, or it threw what it may throw -/
def oc (f : Fm) (o : Outcome) (t : State) : Prop := (∃ v, o = .returned v) ∨ ∃ (cls : String) (a : Nat) (ce : Cell), fT f = some cls ∧ o = .threw a ∧ t.heap[a]? = some ce ∧ (fS f).vm.findClass cls = some ce.cls ∧ ce.vm = .none
def XQ (g : Gp) (f : Fm) (mc : Nat × Nat) (Post : Outcome → Hp → Prop) : State → Prop := fun t => ∃ o, t.status = .running ∧ Ended t (fB f) o ∧ Qx g Post (fA f) (fS f) o t ∧ oc f o t ∧ (fS f).WarmedH t.vm ∧ ∃ L, (fS f).sameButNew ({ t with vm := (fS f).vm } : State) L mc.1 mc.2 ∧ ∀ q ∈ L, zle g q.base
theorem XQ.of {g : Gp} {f : Fm} {mc : Nat × Nat} {Post : Outcome → Hp → Prop} {t : State} (h : MQ (fB f) (Qx g Post) (fA f) (fS f) mc.1 mc.2 (zle g) t) : XQ g f mc Post t := by
  obtain ⟨o, a, b, c, L, ⟨r, w, q⟩, z⟩ := h
  exact ⟨o, a, b, c, Or.inl r, w, L, q, z⟩
theorem XQ.to {g : Gp} {f : Fm} {mc : Nat × Nat} {Post : Outcome → Hp → Prop} {t : State} (hT : fT f = none) (h : XQ g f mc Post t) : MQ (fB f) (Qx g Post) (fA f) (fS f) mc.1 mc.2 (zle g) t := by
  obtain ⟨o, a, b, c, r, w, L, q, z⟩ := h
  refine ⟨o, a, b, c, L, ⟨?_, w, q⟩, z⟩
  rcases r with r | ⟨cls, _, _, r, _⟩
  · exact r
  · rw [hT] at r
    cases r
theorem W.monoQ {p : Program} {l : Launch} {e : Env} {R : Room} {s : State} {m : MethodId} {args : Array Value} {below : List Frame} {meth : Method} {c : Code} {H : Heap} {locs : List Loc} {cells slots : Nat} {Q Q2 : State → Prop} {g : JFrame} (k : W p l e R s m args below meth c H locs cells slots Q g) (h : ∀ t, Q t → Q2 t) : W p l e R s m args below meth c H locs cells slots Q2 g := by
  intro T hT XX
  obtain ⟨t, a, b⟩ := k T hT XX
  exact ⟨t, a, h t b⟩
/-- the walk: at pc, with locals L, operand stack st, cells h, the method comes to its end with Post -/
def X (g : Gp) (f : Fm) (md : MD) (mc : Nat × Nat) (Post : Outcome → Hp → Prop) (n : Nat × Nat) (pc : Nat) (L : List (Option Value)) (st : List Value) (h : Hp) : Prop :=
  ∀ (H : Heap) (locs : List Loc) (ls : Array Slot), Rl g h H → va_S (zle g) (fS f).heap H locs → lx ls md.2.2.1 L →
    W (fP f) (gl g) (fE f) (fR f) (fS f) (fI f) (fA f) (fB f) (fM f) (fC f) H locs n.1 n.2 (XQ g f mc Post) (F0 (fI f) pc ls st)
/-- what a frame knows -/
def Cx (g : Gp) (f : Fm) (md : MD) (fr : Nat) (mc : Nat × Nat) : Prop :=
  (fP f).tables.exec = Jvm.exec ∧ (fC f).code = md.2.1 ∧ (fM f).sig.returnType = md.2.2.2 ∧ (∀ w ∈ tb, w.before (fA f) (fS f) = true) ∧ (fS f).vm.findClass md.1.cls = some (fI f).cls ∧
  (fC f).maxLocals = md.2.2.1 ∧ (fM f).locks = false ∧ va_K (gD g) Cls (gT g) (fS f) ∧ nzw (fS f) ∧ (fM f).name = md.1.name ∧ (fR f) = rmo fr mc ∧ gz g ≤ (fS f).heap.size
section XC
variable {g : Gp} {f : Fm} {md : MD} {fr : Nat} {mc : Nat × Nat}
theorem Cx.exec (C : Cx g f md fr mc) : (fP f).tables.exec = Jvm.exec := C.1
theorem Cx.code (C : Cx g f md fr mc) : (fC f).code = md.2.1 := C.2.1
theorem Cx.ret (C : Cx g f md fr mc) : (fM f).sig.returnType = md.2.2.2 := C.2.2.1
theorem Cx.ts (C : Cx g f md fr mc) : ∀ w ∈ tb, w.before (fA f) (fS f) = true := C.2.2.2.1
theorem Cx.own (C : Cx g f md fr mc) : (fS f).vm.findClass md.1.cls = some (fI f).cls := C.2.2.2.2.1
theorem Cx.ml (C : Cx g f md fr mc) : (fC f).maxLocals = md.2.2.1 := C.2.2.2.2.2.1
theorem Cx.locks (C : Cx g f md fr mc) : (fM f).locks = false := C.2.2.2.2.2.2.1
theorem Cx.K (C : Cx g f md fr mc) : va_K (gD g) Cls (gT g) (fS f) := C.2.2.2.2.2.2.2.1
theorem Cx.nw (C : Cx g f md fr mc) : nzw (fS f) := C.2.2.2.2.2.2.2.2.1
theorem Cx.name (C : Cx g f md fr mc) : (fM f).name = md.1.name := C.2.2.2.2.2.2.2.2.2.1
theorem Cx.room (C : Cx g f md fr mc) : (fR f) = rmo fr mc := C.2.2.2.2.2.2.2.2.2.2.1
theorem Cx.z (C : Cx g f md fr mc) : gz g ≤ (fS f).heap.size := C.2.2.2.2.2.2.2.2.2.2.2
end XC
theorem Con.of {g : Gp} {md : MD} {fr : Nat} {mc : Nat × Nat} {av : List Value} {h : Hp} {Post : Outcome → Hp → Prop} (hy : plainName md.1.cls = true) (hc : (av.all fun v => v.category == 1) = true) (hn : Nat.ble av.length md.2.2.1 = true) {L : List (Option Value)} (hL : lin av md.2.2.1 = L)
    (body : ∀ f : Fm, Cx g f md fr mc → X g f md mc Post (0, 0) 0 L [] h) : Con g md fr mc av h Post := by
  refine Met.ofW (cc := md.2.1) (maxL := md.2.2.1) (ret := md.2.2.2) (ws' := tb) hy rfl ?_
  intro p e s m args below meth c s₁ B hml hv
  obtain ⟨rfl, hR, hK, hz⟩ := hv
  have hts := atoms_spec (ws := wz md) B.pre
  have hl0 : (lg_sl av).length ≤ md.2.2.1 := by
    have h1 : ∀ vs : List Value, (vs.all fun v => v.category == 1) = true → (lg_sl vs).length = vs.length := by
      intro vs
      induction vs with
      | nil => intro _; rfl
      | cons v vs ih =>
        intro h
        rw [List.all_cons, Bool.and_eq_true, beq_iff_eq] at h
        have h2 := ih h.2
        have h3 : lg_sl (v :: vs) = [.val v] ++ lg_sl vs := by simp [lg_sl, h.1]
        rw [h3, List.length_append, h2]
        show 1 + vs.length = vs.length + 1
        omega
    rw [h1 av hc]
    exact Nat.le_of_ble_eq_true hn
  have hl := lin_lx hc (lv_entry av hl0)
  rw [hL] at hl
  rw [lg_entry_eq]
  exact W.monoQ (body (p, e, (headSpec (wz md) (rmo fr mc)).room, s, m, av.toArray, below, meth, c, none) ⟨B.exec, B.bytes, B.returns, fun w hw => hts w (List.mem_cons_of_mem _ hw), findClass_of_methodNamed B.named, hml, B.notSynchronized, hK, hz, (name_of_methodNamed B.named B.method).1, rfl, Nat.le_trans (Nat.le_add_right _ _) hR.2.1⟩ s.heap [] _ hR va_S.rf hl) (fun t q => XQ.to rfl q)
theorem Con.weaken {g : Gp} {md : MD} {fr : Nat} {mc : Nat × Nat} {av : List Value} {h : Hp} {Post Post' : Outcome → Hp → Prop} (H : Con g md fr mc av h Post) (hp : ∀ o h', Post o h' → Post' o h') : Con g md fr mc av h Post' := by
  intro p e ha hc hk s m args below hf happ hP hKK
  obtain ⟨s₂, o, h1, h2, h3, ⟨⟨h', q1, q2⟩, q3⟩, q4⟩ := H p e ha hc hk s m args below hf happ hP hKK
  exact ⟨s₂, o, h1, h2, h3, ⟨⟨h', hp _ _ q1, q2⟩, q3⟩, q4⟩
section XR
variable {g : Gp} {f : Fm} {md : MD} {fr : Nat} {mc : Nat × Nat} {Post : Outcome → Hp → Prop} {n : Nat × Nat} {pc : Nat} {L : List (Option Value)} {st : List Value} {h : Hp}
theorem x_iconst {a : Int} {v : Int32} (C : Cx g f md fr mc) (d : decode md.2.1 pc = .ok (.iconst a, 1)) (hv : Int32.ofInt a = v) (k : X g f md mc Post n (pc + 1) L (.int v :: st) h) : X g f md mc Post n pc L (st) h :=
  fun H locs ls hR hS hl => lv_iconst C.exec C.code d hv (k H locs ls hR hS hl)
theorem x_bipush {a : Int} {v : Int32} (C : Cx g f md fr mc) (d : decode md.2.1 pc = .ok (.bipush a, 2)) (hv : (Int8.ofInt a).toInt32 = v) (k : X g f md mc Post n (pc + 2) L (.int v :: st) h) : X g f md mc Post n pc L (st) h :=
  fun H locs ls hR hS hl => lv_bipush C.exec C.code d hv (k H locs ls hR hS hl)
theorem x_sipush {a : Int} {v : Int32} (C : Cx g f md fr mc) (d : decode md.2.1 pc = .ok (.sipush a, 3)) (hv : (Int16.ofInt a).toInt32 = v) (k : X g f md mc Post n (pc + 3) L (.int v :: st) h) : X g f md mc Post n pc L (st) h :=
  fun H locs ls hR hS hl => lv_sipush C.exec C.code d hv (k H locs ls hR hS hl)
theorem x_lconst {a : Fin 2} {v : Int64} (C : Cx g f md fr mc) (d : decode md.2.1 pc = .ok (.lconst a, 1)) (hv : Int64.ofNat (a : Nat) = v) (k : X g f md mc Post n (pc + 1) L (.long v :: st) h) : X g f md mc Post n pc L (st) h :=
  fun H locs ls hR hS hl => lv_lconst C.exec C.code d hv (k H locs ls hR hS hl)
theorem x_iload_n {q : Fin 4} {x : Int32} (C : Cx g f md fr mc) (d : decode md.2.1 pc = .ok (.iload_n q, 1)) (hk : L[(q : Nat)]? = some (some (.int x))) (k : X g f md mc Post n (pc + 1) L (.int x :: st) h) : X g f md mc Post n pc L (st) h :=
  fun H locs ls hR hS hl => lv_iload_n C.exec C.code d rfl (hl.2.2 _ _ hk) (k H locs ls hR hS hl)
theorem x_iload {q : Nat} {x : Int32} (C : Cx g f md fr mc) (d : decode md.2.1 pc = .ok (.iload q, 2)) (hk : L[q]? = some (some (.int x))) (k : X g f md mc Post n (pc + 2) L (.int x :: st) h) : X g f md mc Post n pc L (st) h :=
  fun H locs ls hR hS hl => lv_iload C.exec C.code d (hl.2.2 _ _ hk) (k H locs ls hR hS hl)
theorem x_istore_n {q : Fin 4} {i : Nat} {x : Int32} (C : Cx g f md fr mc) (d : decode md.2.1 pc = .ok (.istore_n q, 1)) (hi : (q : Nat) = i) (hn : Nat.blt (i) md.2.2.1 = true) (hok : ok1 L i = true) (k : X g f md mc Post n (pc + 1) (L.set i (some (.int x))) st h) : X g f md mc Post n pc L (.int x :: st) h := fun H locs ls hR hS hl => lv_istore_n C.exec C.code d hi (lx_has hl) (Nat.le_of_ble_eq_true hn) rfl (fun ls2 h2 => k H locs ls2 hR hS (lx_st1 hok h2))
theorem x_istore {q i : Nat} {x : Int32} (C : Cx g f md fr mc) (d : decode md.2.1 pc = .ok (.istore q, 2)) (hi : q = i) (hn : Nat.blt (i) md.2.2.1 = true) (hok : ok1 L i = true) (k : X g f md mc Post n (pc + 2) (L.set i (some (.int x))) st h) : X g f md mc Post n pc L (.int x :: st) h := by
  subst hi
  exact fun H locs ls hR hS hl => lv_istore C.exec C.code d (lx_has hl) (Nat.le_of_ble_eq_true hn) rfl (fun ls2 h2 => k H locs ls2 hR hS (lx_st1 hok h2))
theorem x_lload_n {q : Fin 4} {x : Int64} (C : Cx g f md fr mc) (d : decode md.2.1 pc = .ok (.lload_n q, 1)) (hk : L[(q : Nat)]? = some (some (.long x))) (k : X g f md mc Post n (pc + 1) L (.long x :: st) h) : X g f md mc Post n pc L (st) h :=
  fun H locs ls hR hS hl => lv_lload_n C.exec C.code d rfl (hl.2.2 _ _ hk) (k H locs ls hR hS hl)
theorem x_lload {q : Nat} {x : Int64} (C : Cx g f md fr mc) (d : decode md.2.1 pc = .ok (.lload q, 2)) (hk : L[q]? = some (some (.long x))) (k : X g f md mc Post n (pc + 2) L (.long x :: st) h) : X g f md mc Post n pc L (st) h :=
  fun H locs ls hR hS hl => lv_lload C.exec C.code d (hl.2.2 _ _ hk) (k H locs ls hR hS hl)
theorem x_lstore_n {q : Fin 4} {i : Nat} {x : Int64} (C : Cx g f md fr mc) (d : decode md.2.1 pc = .ok (.lstore_n q, 1)) (hi : (q : Nat) = i) (hn : Nat.blt (i + 1) md.2.2.1 = true) (hok : ok1 L i = true) (k : X g f md mc Post n (pc + 1) ((L.set i (some (.long x))).set (i + 1) none) st h) : X g f md mc Post n pc L (.long x :: st) h := fun H locs ls hR hS hl => lv_lstore_n C.exec C.code d hi (lx_has hl) (Nat.le_of_ble_eq_true hn) rfl (fun ls2 h2 => k H locs ls2 hR hS (lx_st2 hok h2))
theorem x_lstore {q i : Nat} {x : Int64} (C : Cx g f md fr mc) (d : decode md.2.1 pc = .ok (.lstore q, 2)) (hi : q = i) (hn : Nat.blt (i + 1) md.2.2.1 = true) (hok : ok1 L i = true) (k : X g f md mc Post n (pc + 2) ((L.set i (some (.long x))).set (i + 1) none) st h) : X g f md mc Post n pc L (.long x :: st) h := by
  subst hi
  exact fun H locs ls hR hS hl => lv_lstore C.exec C.code d (lx_has hl) (Nat.le_of_ble_eq_true hn) rfl (fun ls2 h2 => k H locs ls2 hR hS (lx_st2 hok h2))
theorem x_aload_n {q : Fin 4} {x : Nat} (C : Cx g f md fr mc) (d : decode md.2.1 pc = .ok (.aload_n q, 1)) (hk : L[(q : Nat)]? = some (some (.ref x))) (k : X g f md mc Post n (pc + 1) L (.ref x :: st) h) : X g f md mc Post n pc L (st) h :=
  fun H locs ls hR hS hl => lv_aload_n C.exec C.code d rfl (hl.2.2 _ _ hk) (k H locs ls hR hS hl)
theorem x_aload {q : Nat} {x : Nat} (C : Cx g f md fr mc) (d : decode md.2.1 pc = .ok (.aload q, 2)) (hk : L[q]? = some (some (.ref x))) (k : X g f md mc Post n (pc + 2) L (.ref x :: st) h) : X g f md mc Post n pc L (st) h :=
  fun H locs ls hR hS hl => lv_aload C.exec C.code d (hl.2.2 _ _ hk) (k H locs ls hR hS hl)
theorem x_astore_n {q : Fin 4} {i : Nat} {x : Nat} (C : Cx g f md fr mc) (d : decode md.2.1 pc = .ok (.astore_n q, 1)) (hi : (q : Nat) = i) (hn : Nat.blt (i) md.2.2.1 = true) (hok : ok1 L i = true) (k : X g f md mc Post n (pc + 1) (L.set i (some (.ref x))) st h) : X g f md mc Post n pc L (.ref x :: st) h := fun H locs ls hR hS hl => lv_astore_n C.exec C.code d hi (lx_has hl) (Nat.le_of_ble_eq_true hn) rfl (fun ls2 h2 => k H locs ls2 hR hS (lx_st1 hok h2))
theorem x_astore {q i : Nat} {x : Nat} (C : Cx g f md fr mc) (d : decode md.2.1 pc = .ok (.astore q, 2)) (hi : q = i) (hn : Nat.blt (i) md.2.2.1 = true) (hok : ok1 L i = true) (k : X g f md mc Post n (pc + 2) (L.set i (some (.ref x))) st h) : X g f md mc Post n pc L (.ref x :: st) h := by
  subst hi
  exact fun H locs ls hR hS hl => lv_astore C.exec C.code d (lx_has hl) (Nat.le_of_ble_eq_true hn) rfl (fun ls2 h2 => k H locs ls2 hR hS (lx_st1 hok h2))
theorem x_iinc {q : Nat} {a : Int} {x v : Int32} (C : Cx g f md fr mc) (d : decode md.2.1 pc = .ok (.iinc q a, 3)) (hk : L[q]? = some (some (.int x))) (hv : x + Int32.ofInt a = v) (hn : Nat.blt q md.2.2.1 = true) (hok : ok1 L q = true) (k : X g f md mc Post n (pc + 3) (L.set q (some (.int v))) st h) : X g f md mc Post n pc L st h := by
  intro H locs ls hR hS hl
  obtain ⟨j, hj⟩ := List.getElem?_of_mem (lp_mem.mpr hk)
  exact lv_iinc C.exec C.code d (lx_has hl) hj hv (Nat.le_of_ble_eq_true hn) rfl (fun ls2 h2 => k H locs ls2 hR hS (lx_st1 hok h2))
theorem x_iadd {x y : Int32} (C : Cx g f md fr mc) (d : decode md.2.1 pc = .ok (.iadd, 1))  (k : X g f md mc Post n (pc + 1) L (.int (x + y) :: st) h) : X g f md mc Post n pc L (.int y :: .int x :: st) h :=
  fun H locs ls hR hS hl => lv_iadd C.exec C.code d (k H locs ls hR hS hl)
theorem x_isub {x y : Int32} (C : Cx g f md fr mc) (d : decode md.2.1 pc = .ok (.isub, 1))  (k : X g f md mc Post n (pc + 1) L (.int (x - y) :: st) h) : X g f md mc Post n pc L (.int y :: .int x :: st) h :=
  fun H locs ls hR hS hl => lv_isub C.exec C.code d (k H locs ls hR hS hl)
theorem x_imul {x y : Int32} (C : Cx g f md fr mc) (d : decode md.2.1 pc = .ok (.imul, 1))  (k : X g f md mc Post n (pc + 1) L (.int (x * y) :: st) h) : X g f md mc Post n pc L (.int y :: .int x :: st) h :=
  fun H locs ls hR hS hl => lv_imul C.exec C.code d (k H locs ls hR hS hl)
theorem x_iand {x y : Int32} (C : Cx g f md fr mc) (d : decode md.2.1 pc = .ok (.iand, 1))  (k : X g f md mc Post n (pc + 1) L (.int (x &&& y) :: st) h) : X g f md mc Post n pc L (.int y :: .int x :: st) h :=
  fun H locs ls hR hS hl => lv_iand C.exec C.code d (k H locs ls hR hS hl)
theorem x_ior {x y : Int32} (C : Cx g f md fr mc) (d : decode md.2.1 pc = .ok (.ior, 1))  (k : X g f md mc Post n (pc + 1) L (.int (x ||| y) :: st) h) : X g f md mc Post n pc L (.int y :: .int x :: st) h :=
  fun H locs ls hR hS hl => lv_ior C.exec C.code d (k H locs ls hR hS hl)
theorem x_ixor {x y : Int32} (C : Cx g f md fr mc) (d : decode md.2.1 pc = .ok (.ixor, 1))  (k : X g f md mc Post n (pc + 1) L (.int (x ^^^ y) :: st) h) : X g f md mc Post n pc L (.int y :: .int x :: st) h :=
  fun H locs ls hR hS hl => lv_ixor C.exec C.code d (k H locs ls hR hS hl)
theorem x_ladd {x y : Int64} (C : Cx g f md fr mc) (d : decode md.2.1 pc = .ok (.ladd, 1))  (k : X g f md mc Post n (pc + 1) L (.long (x + y) :: st) h) : X g f md mc Post n pc L (.long y :: .long x :: st) h :=
  fun H locs ls hR hS hl => lv_ladd C.exec C.code d (k H locs ls hR hS hl)
theorem x_land {x y : Int64} (C : Cx g f md fr mc) (d : decode md.2.1 pc = .ok (.land, 1))  (k : X g f md mc Post n (pc + 1) L (.long (x &&& y) :: st) h) : X g f md mc Post n pc L (.long y :: .long x :: st) h :=
  fun H locs ls hR hS hl => lv_land C.exec C.code d (k H locs ls hR hS hl)
theorem x_lor {x y : Int64} (C : Cx g f md fr mc) (d : decode md.2.1 pc = .ok (.lor, 1))  (k : X g f md mc Post n (pc + 1) L (.long (x ||| y) :: st) h) : X g f md mc Post n pc L (.long y :: .long x :: st) h :=
  fun H locs ls hR hS hl => lv_lor C.exec C.code d (k H locs ls hR hS hl)
theorem x_i2l {x : Int32} {v : Int64} (C : Cx g f md fr mc) (d : decode md.2.1 pc = .ok (.i2l, 1)) (hv : x.toInt64 = v) (k : X g f md mc Post n (pc + 1) L (.long v :: st) h) : X g f md mc Post n pc L (.int x :: st) h :=
  fun H locs ls hR hS hl => lv_i2l C.exec C.code d hv (k H locs ls hR hS hl)
theorem x_l2i {x : Int64} {v : Int32} (C : Cx g f md fr mc) (d : decode md.2.1 pc = .ok (.l2i, 1)) (hv : x.toInt32 = v) (k : X g f md mc Post n (pc + 1) L (.int v :: st) h) : X g f md mc Post n pc L (.long x :: st) h :=
  fun H locs ls hR hS hl => lv_l2i C.exec C.code d hv (k H locs ls hR hS hl)
theorem x_lshl {x v : Int64} {y : Int32} (C : Cx g f md fr mc) (d : decode md.2.1 pc = .ok (.lshl, 1)) (hv : x <<< (y.toInt64 &&& 63) = v) (k : X g f md mc Post n (pc + 1) L (.long v :: st) h) : X g f md mc Post n pc L (.int y :: .long x :: st) h :=
  fun H locs ls hR hS hl => lv_lshl C.exec C.code d hv (k H locs ls hR hS hl)
theorem x_lshr {x v : Int64} {y : Int32} (C : Cx g f md fr mc) (d : decode md.2.1 pc = .ok (.lshr, 1)) (hv : x >>> (y.toInt64 &&& 63) = v) (k : X g f md mc Post n (pc + 1) L (.long v :: st) h) : X g f md mc Post n pc L (.int y :: .long x :: st) h :=
  fun H locs ls hR hS hl => lv_lshr C.exec C.code d hv (k H locs ls hR hS hl)
theorem x_dup {a : Value} (C : Cx g f md fr mc) (d : decode md.2.1 pc = .ok (.dup, 1)) (ha : a.category = 1) (k : X g f md mc Post n (pc + 1) L (a :: a :: st) h) : X g f md mc Post n pc L (a :: st) h :=
  fun H locs ls hR hS hl => lv_dup C.exec C.code d ha (k H locs ls hR hS hl)
theorem x_dup2 {a b : Value} (C : Cx g f md fr mc) (d : decode md.2.1 pc = .ok (.dup2, 1)) (ha : a.category = 1) (hb : b.category = 1) (k : X g f md mc Post n (pc + 1) L (a :: b :: a :: b :: st) h) : X g f md mc Post n pc L (a :: b :: st) h :=
  fun H locs ls hR hS hl => lv_dup2_11 C.exec C.code d ha hb (k H locs ls hR hS hl)
theorem x_pop {a : Value} (C : Cx g f md fr mc) (d : decode md.2.1 pc = .ok (.pop, 1)) (ha : a.category = 1) (k : X g f md mc Post n (pc + 1) L (st) h) : X g f md mc Post n pc L (a :: st) h :=
  fun H locs ls hR hS hl => lv_pop C.exec C.code d ha (k H locs ls hR hS hl)
theorem x_goto {off : Int} {tgt : Nat} (C : Cx g f md fr mc) (d : decode md.2.1 pc = .ok (.goto off, 3)) (ht : (pc : Int) + off = (tgt : Int)) (k : X g f md mc Post n tgt L st h) : X g f md mc Post n pc L st h :=
  fun H locs ls hR hS hl => lv_goto C.exec C.code d ht (k H locs ls hR hS hl)
theorem x_ifeq {x : Int32} {off : Int} {tgt : Nat} (C : Cx g f md fr mc) (d : decode md.2.1 pc = .ok (.ifCond .eq off, 3)) (ht : (pc : Int) + off = (tgt : Int)) (kt : x = 0 → X g f md mc Post n tgt L st h) (kf : ¬ x = 0 → X g f md mc Post n (pc + 3) L st h) : X g f md mc Post n pc L (.int x :: st) h :=
  fun H locs ls hR hS hl => lv_if_eq C.exec C.code d ht (fun q => kt q H locs ls hR hS hl) (fun q => kf q H locs ls hR hS hl)
theorem x_eq {x y : Int32} {off : Int} {tgt : Nat} (C : Cx g f md fr mc) (d : decode md.2.1 pc = .ok (.if_icmp .eq off, 3)) (ht : (pc : Int) + off = (tgt : Int)) (kt : x = y → X g f md mc Post n tgt L st h) (kf : ¬ x = y → X g f md mc Post n (pc + 3) L st h) : X g f md mc Post n pc L (.int y :: .int x :: st) h :=
  fun H locs ls hR hS hl => lv_icmp_eq C.exec C.code d ht (fun q => kt q H locs ls hR hS hl) (fun q => kf q H locs ls hR hS hl)
theorem x_ifne {x : Int32} {off : Int} {tgt : Nat} (C : Cx g f md fr mc) (d : decode md.2.1 pc = .ok (.ifCond .ne off, 3)) (ht : (pc : Int) + off = (tgt : Int)) (kt : ¬ x = 0 → X g f md mc Post n tgt L st h) (kf : x = 0 → X g f md mc Post n (pc + 3) L st h) : X g f md mc Post n pc L (.int x :: st) h :=
  fun H locs ls hR hS hl => lv_if_ne C.exec C.code d ht (fun q => kt q H locs ls hR hS hl) (fun q => kf q H locs ls hR hS hl)
theorem x_ne {x y : Int32} {off : Int} {tgt : Nat} (C : Cx g f md fr mc) (d : decode md.2.1 pc = .ok (.if_icmp .ne off, 3)) (ht : (pc : Int) + off = (tgt : Int)) (kt : ¬ x = y → X g f md mc Post n tgt L st h) (kf : x = y → X g f md mc Post n (pc + 3) L st h) : X g f md mc Post n pc L (.int y :: .int x :: st) h :=
  fun H locs ls hR hS hl => lv_icmp_ne C.exec C.code d ht (fun q => kt q H locs ls hR hS hl) (fun q => kf q H locs ls hR hS hl)
theorem x_iflt {x : Int32} {off : Int} {tgt : Nat} (C : Cx g f md fr mc) (d : decode md.2.1 pc = .ok (.ifCond .lt off, 3)) (ht : (pc : Int) + off = (tgt : Int)) (kt : x < 0 → X g f md mc Post n tgt L st h) (kf : ¬ x < 0 → X g f md mc Post n (pc + 3) L st h) : X g f md mc Post n pc L (.int x :: st) h :=
  fun H locs ls hR hS hl => lv_if_lt C.exec C.code d ht (fun q => kt q H locs ls hR hS hl) (fun q => kf q H locs ls hR hS hl)
theorem x_lt {x y : Int32} {off : Int} {tgt : Nat} (C : Cx g f md fr mc) (d : decode md.2.1 pc = .ok (.if_icmp .lt off, 3)) (ht : (pc : Int) + off = (tgt : Int)) (kt : x < y → X g f md mc Post n tgt L st h) (kf : ¬ x < y → X g f md mc Post n (pc + 3) L st h) : X g f md mc Post n pc L (.int y :: .int x :: st) h :=
  fun H locs ls hR hS hl => lv_icmp_lt C.exec C.code d ht (fun q => kt q H locs ls hR hS hl) (fun q => kf q H locs ls hR hS hl)
theorem x_ifge {x : Int32} {off : Int} {tgt : Nat} (C : Cx g f md fr mc) (d : decode md.2.1 pc = .ok (.ifCond .ge off, 3)) (ht : (pc : Int) + off = (tgt : Int)) (kt : 0 ≤ x → X g f md mc Post n tgt L st h) (kf : ¬ 0 ≤ x → X g f md mc Post n (pc + 3) L st h) : X g f md mc Post n pc L (.int x :: st) h :=
  fun H locs ls hR hS hl => lv_if_ge C.exec C.code d ht (fun q => kt q H locs ls hR hS hl) (fun q => kf q H locs ls hR hS hl)
theorem x_ge {x y : Int32} {off : Int} {tgt : Nat} (C : Cx g f md fr mc) (d : decode md.2.1 pc = .ok (.if_icmp .ge off, 3)) (ht : (pc : Int) + off = (tgt : Int)) (kt : y ≤ x → X g f md mc Post n tgt L st h) (kf : ¬ y ≤ x → X g f md mc Post n (pc + 3) L st h) : X g f md mc Post n pc L (.int y :: .int x :: st) h :=
  fun H locs ls hR hS hl => lv_icmp_ge C.exec C.code d ht (fun q => kt q H locs ls hR hS hl) (fun q => kf q H locs ls hR hS hl)
theorem x_ifgt {x : Int32} {off : Int} {tgt : Nat} (C : Cx g f md fr mc) (d : decode md.2.1 pc = .ok (.ifCond .gt off, 3)) (ht : (pc : Int) + off = (tgt : Int)) (kt : 0 < x → X g f md mc Post n tgt L st h) (kf : ¬ 0 < x → X g f md mc Post n (pc + 3) L st h) : X g f md mc Post n pc L (.int x :: st) h :=
  fun H locs ls hR hS hl => lv_if_gt C.exec C.code d ht (fun q => kt q H locs ls hR hS hl) (fun q => kf q H locs ls hR hS hl)
theorem x_gt {x y : Int32} {off : Int} {tgt : Nat} (C : Cx g f md fr mc) (d : decode md.2.1 pc = .ok (.if_icmp .gt off, 3)) (ht : (pc : Int) + off = (tgt : Int)) (kt : y < x → X g f md mc Post n tgt L st h) (kf : ¬ y < x → X g f md mc Post n (pc + 3) L st h) : X g f md mc Post n pc L (.int y :: .int x :: st) h :=
  fun H locs ls hR hS hl => lv_icmp_gt C.exec C.code d ht (fun q => kt q H locs ls hR hS hl) (fun q => kf q H locs ls hR hS hl)
theorem x_ifle {x : Int32} {off : Int} {tgt : Nat} (C : Cx g f md fr mc) (d : decode md.2.1 pc = .ok (.ifCond .le off, 3)) (ht : (pc : Int) + off = (tgt : Int)) (kt : x ≤ 0 → X g f md mc Post n tgt L st h) (kf : ¬ x ≤ 0 → X g f md mc Post n (pc + 3) L st h) : X g f md mc Post n pc L (.int x :: st) h :=
  fun H locs ls hR hS hl => lv_if_le C.exec C.code d ht (fun q => kt q H locs ls hR hS hl) (fun q => kf q H locs ls hR hS hl)
theorem x_le {x y : Int32} {off : Int} {tgt : Nat} (C : Cx g f md fr mc) (d : decode md.2.1 pc = .ok (.if_icmp .le off, 3)) (ht : (pc : Int) + off = (tgt : Int)) (kt : x ≤ y → X g f md mc Post n tgt L st h) (kf : ¬ x ≤ y → X g f md mc Post n (pc + 3) L st h) : X g f md mc Post n pc L (.int y :: .int x :: st) h :=
  fun H locs ls hR hS hl => lv_icmp_le C.exec C.code d ht (fun q => kt q H locs ls hR hS hl) (fun q => kf q H locs ls hR hS hl)
theorem n_eq {a b : Nat} {off : Int} {tgt : Nat} (C : Cx g f md fr mc) (d : decode md.2.1 pc = .ok (.if_icmp .eq off, 3)) (ht : (pc : Int) + off = (tgt : Int)) (hx : a < 2 ^ 31 ∧ b < 2 ^ 31) (kt : a = b → X g f md mc Post n tgt L st h) (kf : a ≠ b → X g f md mc Post n (pc + 3) L st h) : X g f md mc Post n pc L (.int (nI b) :: .int (nI a) :: st) h :=
  x_eq C d ht (fun q => kt ((nI_eq hx.1 hx.2).mp q)) (fun q => kf fun z => q ((nI_eq hx.1 hx.2).mpr z))
theorem n_eq_t {a b : Nat} {off : Int} {tgt : Nat} (C : Cx g f md fr mc) (d : decode md.2.1 pc = .ok (.if_icmp .eq off, 3)) (ht : (pc : Int) + off = (tgt : Int)) (hx : a < 2 ^ 31 ∧ b < 2 ^ 31) (q : a = b) (k : X g f md mc Post n tgt L st h) : X g f md mc Post n pc L (.int (nI b) :: .int (nI a) :: st) h :=
  n_eq C d ht hx (fun _ => k) (fun z => absurd q (by omega))
theorem n_eq_f {a b : Nat} {off : Int} {tgt : Nat} (C : Cx g f md fr mc) (d : decode md.2.1 pc = .ok (.if_icmp .eq off, 3)) (ht : (pc : Int) + off = (tgt : Int)) (hx : a < 2 ^ 31 ∧ b < 2 ^ 31) (q : a ≠ b) (k : X g f md mc Post n (pc + 3) L st h) : X g f md mc Post n pc L (.int (nI b) :: .int (nI a) :: st) h :=
  n_eq C d ht hx (fun z => absurd q (by omega)) (fun _ => k)
theorem n_ifeq {a : Nat} {off : Int} {tgt : Nat} (C : Cx g f md fr mc) (d : decode md.2.1 pc = .ok (.ifCond .eq off, 3)) (ht : (pc : Int) + off = (tgt : Int)) (hx : a < 2 ^ 31) (kt : a = 0 → X g f md mc Post n tgt L st h) (kf : a ≠ 0 → X g f md mc Post n (pc + 3) L st h) : X g f md mc Post n pc L (.int (nI a) :: st) h := by
  have hx : a < 2 ^ 31 ∧ 0 < 2 ^ 31 := ⟨hx, by omega⟩
  refine x_ifeq C d ht ?_ ?_
  · rw [← nI_0]
    exact (fun q => kt ((nI_eq hx.1 hx.2).mp q))
  · rw [← nI_0]
    exact (fun q => kf fun z => q ((nI_eq hx.1 hx.2).mpr z))
theorem n_ifeq_t {a : Nat} {off : Int} {tgt : Nat} (C : Cx g f md fr mc) (d : decode md.2.1 pc = .ok (.ifCond .eq off, 3)) (ht : (pc : Int) + off = (tgt : Int)) (hx : a < 2 ^ 31) (q : a = 0) (k : X g f md mc Post n tgt L st h) : X g f md mc Post n pc L (.int (nI a) :: st) h :=
  n_ifeq C d ht hx (fun _ => k) (fun z => absurd q (by omega))
theorem n_ifeq_f {a : Nat} {off : Int} {tgt : Nat} (C : Cx g f md fr mc) (d : decode md.2.1 pc = .ok (.ifCond .eq off, 3)) (ht : (pc : Int) + off = (tgt : Int)) (hx : a < 2 ^ 31) (q : a ≠ 0) (k : X g f md mc Post n (pc + 3) L st h) : X g f md mc Post n pc L (.int (nI a) :: st) h :=
  n_ifeq C d ht hx (fun z => absurd q (by omega)) (fun _ => k)
theorem n_ne {a b : Nat} {off : Int} {tgt : Nat} (C : Cx g f md fr mc) (d : decode md.2.1 pc = .ok (.if_icmp .ne off, 3)) (ht : (pc : Int) + off = (tgt : Int)) (hx : a < 2 ^ 31 ∧ b < 2 ^ 31) (kt : a ≠ b → X g f md mc Post n tgt L st h) (kf : a = b → X g f md mc Post n (pc + 3) L st h) : X g f md mc Post n pc L (.int (nI b) :: .int (nI a) :: st) h :=
  x_ne C d ht (fun q => kt fun z => q ((nI_eq hx.1 hx.2).mpr z)) (fun q => kf ((nI_eq hx.1 hx.2).mp q))
theorem n_ne_t {a b : Nat} {off : Int} {tgt : Nat} (C : Cx g f md fr mc) (d : decode md.2.1 pc = .ok (.if_icmp .ne off, 3)) (ht : (pc : Int) + off = (tgt : Int)) (hx : a < 2 ^ 31 ∧ b < 2 ^ 31) (q : a ≠ b) (k : X g f md mc Post n tgt L st h) : X g f md mc Post n pc L (.int (nI b) :: .int (nI a) :: st) h :=
  n_ne C d ht hx (fun _ => k) (fun z => absurd q (by omega))
theorem n_ne_f {a b : Nat} {off : Int} {tgt : Nat} (C : Cx g f md fr mc) (d : decode md.2.1 pc = .ok (.if_icmp .ne off, 3)) (ht : (pc : Int) + off = (tgt : Int)) (hx : a < 2 ^ 31 ∧ b < 2 ^ 31) (q : a = b) (k : X g f md mc Post n (pc + 3) L st h) : X g f md mc Post n pc L (.int (nI b) :: .int (nI a) :: st) h :=
  n_ne C d ht hx (fun z => absurd q (by omega)) (fun _ => k)
theorem n_ifne {a : Nat} {off : Int} {tgt : Nat} (C : Cx g f md fr mc) (d : decode md.2.1 pc = .ok (.ifCond .ne off, 3)) (ht : (pc : Int) + off = (tgt : Int)) (hx : a < 2 ^ 31) (kt : a ≠ 0 → X g f md mc Post n tgt L st h) (kf : a = 0 → X g f md mc Post n (pc + 3) L st h) : X g f md mc Post n pc L (.int (nI a) :: st) h := by
  have hx : a < 2 ^ 31 ∧ 0 < 2 ^ 31 := ⟨hx, by omega⟩
  refine x_ifne C d ht ?_ ?_
  · rw [← nI_0]
    exact (fun q => kt fun z => q ((nI_eq hx.1 hx.2).mpr z))
  · rw [← nI_0]
    exact (fun q => kf ((nI_eq hx.1 hx.2).mp q))
theorem n_ifne_t {a : Nat} {off : Int} {tgt : Nat} (C : Cx g f md fr mc) (d : decode md.2.1 pc = .ok (.ifCond .ne off, 3)) (ht : (pc : Int) + off = (tgt : Int)) (hx : a < 2 ^ 31) (q : a ≠ 0) (k : X g f md mc Post n tgt L st h) : X g f md mc Post n pc L (.int (nI a) :: st) h :=
  n_ifne C d ht hx (fun _ => k) (fun z => absurd q (by omega))
theorem n_ifne_f {a : Nat} {off : Int} {tgt : Nat} (C : Cx g f md fr mc) (d : decode md.2.1 pc = .ok (.ifCond .ne off, 3)) (ht : (pc : Int) + off = (tgt : Int)) (hx : a < 2 ^ 31) (q : a = 0) (k : X g f md mc Post n (pc + 3) L st h) : X g f md mc Post n pc L (.int (nI a) :: st) h :=
  n_ifne C d ht hx (fun z => absurd q (by omega)) (fun _ => k)
theorem n_lt {a b : Nat} {off : Int} {tgt : Nat} (C : Cx g f md fr mc) (d : decode md.2.1 pc = .ok (.if_icmp .lt off, 3)) (ht : (pc : Int) + off = (tgt : Int)) (hx : a < 2 ^ 31 ∧ b < 2 ^ 31) (kt : a < b → X g f md mc Post n tgt L st h) (kf : b ≤ a → X g f md mc Post n (pc + 3) L st h) : X g f md mc Post n pc L (.int (nI b) :: .int (nI a) :: st) h :=
  x_lt C d ht (fun q => kt ((nI_ltI hx.1 hx.2).mp q)) (fun q => kf (Nat.le_of_not_lt fun z => q ((nI_ltI hx.1 hx.2).mpr z)))
theorem n_lt_t {a b : Nat} {off : Int} {tgt : Nat} (C : Cx g f md fr mc) (d : decode md.2.1 pc = .ok (.if_icmp .lt off, 3)) (ht : (pc : Int) + off = (tgt : Int)) (hx : a < 2 ^ 31 ∧ b < 2 ^ 31) (q : a < b) (k : X g f md mc Post n tgt L st h) : X g f md mc Post n pc L (.int (nI b) :: .int (nI a) :: st) h :=
  n_lt C d ht hx (fun _ => k) (fun z => absurd q (by omega))
theorem n_lt_f {a b : Nat} {off : Int} {tgt : Nat} (C : Cx g f md fr mc) (d : decode md.2.1 pc = .ok (.if_icmp .lt off, 3)) (ht : (pc : Int) + off = (tgt : Int)) (hx : a < 2 ^ 31 ∧ b < 2 ^ 31) (q : b ≤ a) (k : X g f md mc Post n (pc + 3) L st h) : X g f md mc Post n pc L (.int (nI b) :: .int (nI a) :: st) h :=
  n_lt C d ht hx (fun z => absurd q (by omega)) (fun _ => k)
theorem n_iflt {a : Nat} {off : Int} {tgt : Nat} (C : Cx g f md fr mc) (d : decode md.2.1 pc = .ok (.ifCond .lt off, 3)) (ht : (pc : Int) + off = (tgt : Int)) (hx : a < 2 ^ 31) (kt : a < 0 → X g f md mc Post n tgt L st h) (kf : 0 ≤ a → X g f md mc Post n (pc + 3) L st h) : X g f md mc Post n pc L (.int (nI a) :: st) h := by
  have hx : a < 2 ^ 31 ∧ 0 < 2 ^ 31 := ⟨hx, by omega⟩
  refine x_iflt C d ht ?_ ?_
  · rw [← nI_0]
    exact (fun q => kt ((nI_ltI hx.1 hx.2).mp q))
  · rw [← nI_0]
    exact (fun q => kf (Nat.le_of_not_lt fun z => q ((nI_ltI hx.1 hx.2).mpr z)))
theorem n_iflt_t {a : Nat} {off : Int} {tgt : Nat} (C : Cx g f md fr mc) (d : decode md.2.1 pc = .ok (.ifCond .lt off, 3)) (ht : (pc : Int) + off = (tgt : Int)) (hx : a < 2 ^ 31) (q : a < 0) (k : X g f md mc Post n tgt L st h) : X g f md mc Post n pc L (.int (nI a) :: st) h :=
  n_iflt C d ht hx (fun _ => k) (fun z => absurd q (by omega))
theorem n_iflt_f {a : Nat} {off : Int} {tgt : Nat} (C : Cx g f md fr mc) (d : decode md.2.1 pc = .ok (.ifCond .lt off, 3)) (ht : (pc : Int) + off = (tgt : Int)) (hx : a < 2 ^ 31) (q : 0 ≤ a) (k : X g f md mc Post n (pc + 3) L st h) : X g f md mc Post n pc L (.int (nI a) :: st) h :=
  n_iflt C d ht hx (fun z => absurd q (by omega)) (fun _ => k)
theorem n_ge {a b : Nat} {off : Int} {tgt : Nat} (C : Cx g f md fr mc) (d : decode md.2.1 pc = .ok (.if_icmp .ge off, 3)) (ht : (pc : Int) + off = (tgt : Int)) (hx : a < 2 ^ 31 ∧ b < 2 ^ 31) (kt : b ≤ a → X g f md mc Post n tgt L st h) (kf : a < b → X g f md mc Post n (pc + 3) L st h) : X g f md mc Post n pc L (.int (nI b) :: .int (nI a) :: st) h :=
  x_ge C d ht (fun q => kt ((nI_leI hx.2 hx.1).mp q)) (fun q => kf (Nat.lt_of_not_le fun z => q ((nI_leI hx.2 hx.1).mpr z)))
theorem n_ge_t {a b : Nat} {off : Int} {tgt : Nat} (C : Cx g f md fr mc) (d : decode md.2.1 pc = .ok (.if_icmp .ge off, 3)) (ht : (pc : Int) + off = (tgt : Int)) (hx : a < 2 ^ 31 ∧ b < 2 ^ 31) (q : b ≤ a) (k : X g f md mc Post n tgt L st h) : X g f md mc Post n pc L (.int (nI b) :: .int (nI a) :: st) h :=
  n_ge C d ht hx (fun _ => k) (fun z => absurd q (by omega))
theorem n_ge_f {a b : Nat} {off : Int} {tgt : Nat} (C : Cx g f md fr mc) (d : decode md.2.1 pc = .ok (.if_icmp .ge off, 3)) (ht : (pc : Int) + off = (tgt : Int)) (hx : a < 2 ^ 31 ∧ b < 2 ^ 31) (q : a < b) (k : X g f md mc Post n (pc + 3) L st h) : X g f md mc Post n pc L (.int (nI b) :: .int (nI a) :: st) h :=
  n_ge C d ht hx (fun z => absurd q (by omega)) (fun _ => k)
theorem n_ifge {a : Nat} {off : Int} {tgt : Nat} (C : Cx g f md fr mc) (d : decode md.2.1 pc = .ok (.ifCond .ge off, 3)) (ht : (pc : Int) + off = (tgt : Int)) (hx : a < 2 ^ 31) (kt : 0 ≤ a → X g f md mc Post n tgt L st h) (kf : a < 0 → X g f md mc Post n (pc + 3) L st h) : X g f md mc Post n pc L (.int (nI a) :: st) h := by
  have hx : a < 2 ^ 31 ∧ 0 < 2 ^ 31 := ⟨hx, by omega⟩
  refine x_ifge C d ht ?_ ?_
  · rw [← nI_0]
    exact (fun q => kt ((nI_leI hx.2 hx.1).mp q))
  · rw [← nI_0]
    exact (fun q => kf (Nat.lt_of_not_le fun z => q ((nI_leI hx.2 hx.1).mpr z)))
theorem n_ifge_t {a : Nat} {off : Int} {tgt : Nat} (C : Cx g f md fr mc) (d : decode md.2.1 pc = .ok (.ifCond .ge off, 3)) (ht : (pc : Int) + off = (tgt : Int)) (hx : a < 2 ^ 31) (q : 0 ≤ a) (k : X g f md mc Post n tgt L st h) : X g f md mc Post n pc L (.int (nI a) :: st) h :=
  n_ifge C d ht hx (fun _ => k) (fun z => absurd q (by omega))
theorem n_ifge_f {a : Nat} {off : Int} {tgt : Nat} (C : Cx g f md fr mc) (d : decode md.2.1 pc = .ok (.ifCond .ge off, 3)) (ht : (pc : Int) + off = (tgt : Int)) (hx : a < 2 ^ 31) (q : a < 0) (k : X g f md mc Post n (pc + 3) L st h) : X g f md mc Post n pc L (.int (nI a) :: st) h :=
  n_ifge C d ht hx (fun z => absurd q (by omega)) (fun _ => k)
theorem n_gt {a b : Nat} {off : Int} {tgt : Nat} (C : Cx g f md fr mc) (d : decode md.2.1 pc = .ok (.if_icmp .gt off, 3)) (ht : (pc : Int) + off = (tgt : Int)) (hx : a < 2 ^ 31 ∧ b < 2 ^ 31) (kt : b < a → X g f md mc Post n tgt L st h) (kf : a ≤ b → X g f md mc Post n (pc + 3) L st h) : X g f md mc Post n pc L (.int (nI b) :: .int (nI a) :: st) h :=
  x_gt C d ht (fun q => kt ((nI_ltI hx.2 hx.1).mp q)) (fun q => kf (Nat.le_of_not_lt fun z => q ((nI_ltI hx.2 hx.1).mpr z)))
theorem n_gt_t {a b : Nat} {off : Int} {tgt : Nat} (C : Cx g f md fr mc) (d : decode md.2.1 pc = .ok (.if_icmp .gt off, 3)) (ht : (pc : Int) + off = (tgt : Int)) (hx : a < 2 ^ 31 ∧ b < 2 ^ 31) (q : b < a) (k : X g f md mc Post n tgt L st h) : X g f md mc Post n pc L (.int (nI b) :: .int (nI a) :: st) h :=
  n_gt C d ht hx (fun _ => k) (fun z => absurd q (by omega))
theorem n_gt_f {a b : Nat} {off : Int} {tgt : Nat} (C : Cx g f md fr mc) (d : decode md.2.1 pc = .ok (.if_icmp .gt off, 3)) (ht : (pc : Int) + off = (tgt : Int)) (hx : a < 2 ^ 31 ∧ b < 2 ^ 31) (q : a ≤ b) (k : X g f md mc Post n (pc + 3) L st h) : X g f md mc Post n pc L (.int (nI b) :: .int (nI a) :: st) h :=
  n_gt C d ht hx (fun z => absurd q (by omega)) (fun _ => k)
theorem n_ifgt {a : Nat} {off : Int} {tgt : Nat} (C : Cx g f md fr mc) (d : decode md.2.1 pc = .ok (.ifCond .gt off, 3)) (ht : (pc : Int) + off = (tgt : Int)) (hx : a < 2 ^ 31) (kt : 0 < a → X g f md mc Post n tgt L st h) (kf : a ≤ 0 → X g f md mc Post n (pc + 3) L st h) : X g f md mc Post n pc L (.int (nI a) :: st) h := by
  have hx : a < 2 ^ 31 ∧ 0 < 2 ^ 31 := ⟨hx, by omega⟩
  refine x_ifgt C d ht ?_ ?_
  · rw [← nI_0]
    exact (fun q => kt ((nI_ltI hx.2 hx.1).mp q))
  · rw [← nI_0]
    exact (fun q => kf (Nat.le_of_not_lt fun z => q ((nI_ltI hx.2 hx.1).mpr z)))
theorem n_ifgt_t {a : Nat} {off : Int} {tgt : Nat} (C : Cx g f md fr mc) (d : decode md.2.1 pc = .ok (.ifCond .gt off, 3)) (ht : (pc : Int) + off = (tgt : Int)) (hx : a < 2 ^ 31) (q : 0 < a) (k : X g f md mc Post n tgt L st h) : X g f md mc Post n pc L (.int (nI a) :: st) h :=
  n_ifgt C d ht hx (fun _ => k) (fun z => absurd q (by omega))
theorem n_ifgt_f {a : Nat} {off : Int} {tgt : Nat} (C : Cx g f md fr mc) (d : decode md.2.1 pc = .ok (.ifCond .gt off, 3)) (ht : (pc : Int) + off = (tgt : Int)) (hx : a < 2 ^ 31) (q : a ≤ 0) (k : X g f md mc Post n (pc + 3) L st h) : X g f md mc Post n pc L (.int (nI a) :: st) h :=
  n_ifgt C d ht hx (fun z => absurd q (by omega)) (fun _ => k)
theorem n_le {a b : Nat} {off : Int} {tgt : Nat} (C : Cx g f md fr mc) (d : decode md.2.1 pc = .ok (.if_icmp .le off, 3)) (ht : (pc : Int) + off = (tgt : Int)) (hx : a < 2 ^ 31 ∧ b < 2 ^ 31) (kt : a ≤ b → X g f md mc Post n tgt L st h) (kf : b < a → X g f md mc Post n (pc + 3) L st h) : X g f md mc Post n pc L (.int (nI b) :: .int (nI a) :: st) h :=
  x_le C d ht (fun q => kt ((nI_leI hx.1 hx.2).mp q)) (fun q => kf (Nat.lt_of_not_le fun z => q ((nI_leI hx.1 hx.2).mpr z)))
theorem n_le_t {a b : Nat} {off : Int} {tgt : Nat} (C : Cx g f md fr mc) (d : decode md.2.1 pc = .ok (.if_icmp .le off, 3)) (ht : (pc : Int) + off = (tgt : Int)) (hx : a < 2 ^ 31 ∧ b < 2 ^ 31) (q : a ≤ b) (k : X g f md mc Post n tgt L st h) : X g f md mc Post n pc L (.int (nI b) :: .int (nI a) :: st) h :=
  n_le C d ht hx (fun _ => k) (fun z => absurd q (by omega))
theorem n_le_f {a b : Nat} {off : Int} {tgt : Nat} (C : Cx g f md fr mc) (d : decode md.2.1 pc = .ok (.if_icmp .le off, 3)) (ht : (pc : Int) + off = (tgt : Int)) (hx : a < 2 ^ 31 ∧ b < 2 ^ 31) (q : b < a) (k : X g f md mc Post n (pc + 3) L st h) : X g f md mc Post n pc L (.int (nI b) :: .int (nI a) :: st) h :=
  n_le C d ht hx (fun z => absurd q (by omega)) (fun _ => k)
theorem n_ifle {a : Nat} {off : Int} {tgt : Nat} (C : Cx g f md fr mc) (d : decode md.2.1 pc = .ok (.ifCond .le off, 3)) (ht : (pc : Int) + off = (tgt : Int)) (hx : a < 2 ^ 31) (kt : a ≤ 0 → X g f md mc Post n tgt L st h) (kf : 0 < a → X g f md mc Post n (pc + 3) L st h) : X g f md mc Post n pc L (.int (nI a) :: st) h := by
  have hx : a < 2 ^ 31 ∧ 0 < 2 ^ 31 := ⟨hx, by omega⟩
  refine x_ifle C d ht ?_ ?_
  · rw [← nI_0]
    exact (fun q => kt ((nI_leI hx.1 hx.2).mp q))
  · rw [← nI_0]
    exact (fun q => kf (Nat.lt_of_not_le fun z => q ((nI_leI hx.1 hx.2).mpr z)))
theorem n_ifle_t {a : Nat} {off : Int} {tgt : Nat} (C : Cx g f md fr mc) (d : decode md.2.1 pc = .ok (.ifCond .le off, 3)) (ht : (pc : Int) + off = (tgt : Int)) (hx : a < 2 ^ 31) (q : a ≤ 0) (k : X g f md mc Post n tgt L st h) : X g f md mc Post n pc L (.int (nI a) :: st) h :=
  n_ifle C d ht hx (fun _ => k) (fun z => absurd q (by omega))
theorem n_ifle_f {a : Nat} {off : Int} {tgt : Nat} (C : Cx g f md fr mc) (d : decode md.2.1 pc = .ok (.ifCond .le off, 3)) (ht : (pc : Int) + off = (tgt : Int)) (hx : a < 2 ^ 31) (q : 0 < a) (k : X g f md mc Post n (pc + 3) L st h) : X g f md mc Post n pc L (.int (nI a) :: st) h :=
  n_ifle C d ht hx (fun z => absurd q (by omega)) (fun _ => k)
theorem n_iadd {a b : Nat} (C : Cx g f md fr mc) (d : decode md.2.1 pc = .ok (.iadd, 1))  (k : X g f md mc Post n (pc + 1) L (.int (nI (a + b)) :: st) h) : X g f md mc Post n pc L (.int (nI b) :: .int (nI a) :: st) h := by
  refine x_iadd C d ?_
  rw [nI_add]
  exact k
theorem n_isub {a b : Nat} (C : Cx g f md fr mc) (d : decode md.2.1 pc = .ok (.isub, 1)) (hb : b ≤ a) (k : X g f md mc Post n (pc + 1) L (.int (nI (a - b)) :: st) h) : X g f md mc Post n pc L (.int (nI b) :: .int (nI a) :: st) h := by
  refine x_isub C d ?_
  rw [pk_sub hb]
  exact k
theorem n_imul {a b : Nat} (C : Cx g f md fr mc) (d : decode md.2.1 pc = .ok (.imul, 1))  (k : X g f md mc Post n (pc + 1) L (.int (nI (a * b)) :: st) h) : X g f md mc Post n pc L (.int (nI b) :: .int (nI a) :: st) h := by
  refine x_imul C d ?_
  rw [pk_mul]
  exact k
theorem n_ixor {a b : Nat} (C : Cx g f md fr mc) (d : decode md.2.1 pc = .ok (.ixor, 1))  (k : X g f md mc Post n (pc + 1) L (.int (nI (a ^^^ b)) :: st) h) : X g f md mc Post n pc L (.int (nI b) :: .int (nI a) :: st) h := by
  refine x_ixor C d ?_
  rw [nx_xor]
  exact k
theorem n_iand {a b : Nat} (C : Cx g f md fr mc) (d : decode md.2.1 pc = .ok (.iand, 1))  (k : X g f md mc Post n (pc + 1) L (.int (nI (a &&& b)) :: st) h) : X g f md mc Post n pc L (.int (nI b) :: .int (nI a) :: st) h := by
  refine x_iand C d ?_
  rw [nx_and]
  exact k
theorem n_ior {a b : Nat} (C : Cx g f md fr mc) (d : decode md.2.1 pc = .ok (.ior, 1))  (k : X g f md mc Post n (pc + 1) L (.int (nI (a ||| b)) :: st) h) : X g f md mc Post n pc L (.int (nI b) :: .int (nI a) :: st) h := by
  refine x_ior C d ?_
  rw [nx_or]
  exact k
theorem n_ishl {a b : Nat} (C : Cx g f md fr mc) (d : decode md.2.1 pc = .ok (.ishl, 1)) (hb : b < 32) (ha : a * 2 ^ b < 2 ^ 32) (k : X g f md mc Post n (pc + 1) L (.int (nI (a * 2 ^ b)) :: st) h) : X g f md mc Post n pc L (.int (nI b) :: .int (nI a) :: st) h := by
  intro H locs ls hR hS hl
  refine lv_ishl C.exec C.code d ?_
  rw [pk_shlN _ b (ln_s31 b hb) ha]
  exact k H locs ls hR hS hl
theorem n_ishr {a b : Nat} (C : Cx g f md fr mc) (d : decode md.2.1 pc = .ok (.ishr, 1)) (hb : b < 32) (ha : a < 2 ^ 31) (k : X g f md mc Post n (pc + 1) L (.int (nI (a / 2 ^ b)) :: st) h) : X g f md mc Post n pc L (.int (nI b) :: .int (nI a) :: st) h := by
  intro H locs ls hR hS hl
  refine lv_ishr C.exec C.code d ?_
  rw [pk_shrN ha _ b (ln_s31 b hb)]
  exact k H locs ls hR hS hl
theorem n_iushr {a b : Nat} (C : Cx g f md fr mc) (d : decode md.2.1 pc = .ok (.iushr, 1)) (hb : b < 32) (ha : a < 2 ^ 32) (k : X g f md mc Post n (pc + 1) L (.int (nI (a / 2 ^ b)) :: st) h) : X g f md mc Post n pc L (.int (nI b) :: .int (nI a) :: st) h := by
  intro H locs ls hR hS hl
  exact lv_iushr C.exec C.code d (pk_ushrN ha _ b (ln_u31 b hb)) (k H locs ls hR hS hl)
theorem n_idiv {a b : Nat} (C : Cx g f md fr mc) (d : decode md.2.1 pc = .ok (.idiv, 1)) (ha : a < 2 ^ 31) (h0 : 0 < b) (hb : b < 2 ^ 31) (k : X g f md mc Post n (pc + 1) L (.int (nI (a / b)) :: st) h) : X g f md mc Post n pc L (.int (nI b) :: .int (nI a) :: st) h := by
  intro H locs ls hR hS hl
  refine lv_idiv C.exec C.code d (nI_ne0 h0 hb) ?_
  rw [pk_div ha h0 hb]
  exact k H locs ls hR hS hl
theorem n_irem {a b : Nat} (C : Cx g f md fr mc) (d : decode md.2.1 pc = .ok (.irem, 1)) (ha : a < 2 ^ 31) (h0 : 0 < b) (hb : b < 2 ^ 31) (k : X g f md mc Post n (pc + 1) L (.int (nI (a % b)) :: st) h) : X g f md mc Post n pc L (.int (nI b) :: .int (nI a) :: st) h := by
  intro H locs ls hR hS hl
  refine lv_irem C.exec C.code d (nI_ne0 h0 hb) ?_
  rw [pk_rem ha h0 hb]
  exact k H locs ls hR hS hl
/-- an int array -/
def ia (g : Gp) (A : List Nat) : va_E := .inl (gC g 0, A.length, .inl (la A))
/-- an array of references -/
def ra (g : Gp) (t : Nat) (A : List (Option Nat)) : va_E := .inl (gC g t, A.length, .inr (.inr (.inr (.inr (fun k => A.getD k none)))))
theorem zA_zle (g : Gp) (a : Nat) : zle g (zA (gz g) a) := Nat.le_add_right _ _
theorem Rl.put {H H1 : Heap} {a : Nat} {e0 e : va_E} (hR : Rl g h H) (ha : h[a]? = some e0) (he : va_at (gD g) Cls (zA (gz g) a, e) H1) (z : H1.size = H.size) (oq : ∀ q : Nat, q ≠ zA (gz g) a → H1[q]? = H[q]?) : Rl g (h.set a e) H1 :=
  ⟨by rw [wl_set]; exact hR.1.set (wl_D _ _) (wl_get ha) he oq, by rw [z, List.length_set]; exact hR.2.1, fun q => by rw [z, List.length_set]; exact hR.2.2 (by rwa [List.length_set] at q)⟩
theorem Rl.push {H H1 : Heap} {e : va_E} (hlt : h.length < 60) (hR : Rl g h H) (he : va_at (gD g) Cls (zA (gz g) h.length, e) H1) (z : H1.size = H.size + 1) (oq : ∀ q : Nat, q < H.size → H1[q]? = H[q]?) : Rl g (h ++ [e]) H1 := by
  have ez : H1.size = gz g + (h ++ [e]).length := by rw [z, hR.2.2 hlt, List.length_append, List.length_singleton, Nat.add_assoc]
  refine ⟨?_, Nat.le_of_eq ez.symm, fun _ => ez⟩
  rw [wl_push]
  refine (hR.1.kept (fun k x hx => oq x.1 ((hR.1 k x hx).lt))).app (fun k x hx => ?_)
  have hz : k < 1 := (List.getElem?_eq_some_iff.mp hx).1
  rw [show k = 0 by omega] at hx
  cases hx
  exact he
theorem va_S.grow {A : Nat → Prop} {H0 H H1 : Heap} {locs : List Loc} (hS : va_S A H0 H locs) (z : H1.size = H.size + 1) (oq : ∀ q : Nat, q < H.size → H1[q]? = H[q]?) : va_S A H0 H1 locs :=
  ⟨Nat.le_trans hS.1 (by omega), fun x h1 h2 => (oq x (Nat.lt_of_lt_of_le h1 hS.1)).trans (hS.2.1 x h1 h2), hS.2.2⟩
theorem x_iald {a i : Nat} {A : List Nat} (C : Cx g f md fr mc) (d : decode md.2.1 pc = .ok (.iaload, 1)) (ha : h[a]? = some (ia g A)) (hk : i < A.length ∧ A.length < 2 ^ 31) (k : X g f md mc Post n (pc + 1) L (.int (nI (A.getD i 0)) :: st) h) : X g f md mc Post n pc L (.int (nI i) :: .ref (zA (gz g) a) :: st) h :=
  fun H locs ls hR hS hl => va_iald C.exec C.code C.K hR.1 a 0 (wl_get ha) rfl (vp_in_nI hk.1 hk.2) d (by rw [la_at A (Nat.lt_trans hk.1 hk.2)]; exact k H locs ls hR hS hl)
theorem x_iast {a i v : Nat} {A : List Nat} (C : Cx g f md fr mc) (d : decode md.2.1 pc = .ok (.iastore, 1)) (ha : h[a]? = some (ia g A)) (hk : i < A.length ∧ A.length < 2 ^ 31) (k : X g f md mc Post n (pc + 1) L st (h.set a (ia g (A.set i v)))) : X g f md mc Post n pc L (.int (nI v) :: .int (nI i) :: .ref (zA (gz g) a) :: st) h := by
  intro H locs ls hR hS hl
  refine W.iast C.exec C.code (hR.1 a _ (wl_get ha)) ((C.K.2 0 _ rfl).1 A.length (fun j => .int (la A j))) (fun q => by cases q) (by show ¬ (nI i < 0 ∨ (arrV _ _ _).slots.size ≤ _); rw [arrV_size]; exact vp_in_nI hk.1 hk.2) rfl rfl d fun H1 e z oq => ?_
  refine k H1 _ ls (hR.put ha ?_ z oq) (hS.put z oq (zA_zle g a)) hl
  show H1[zA (gz g) a]? = some (vp_cell (gC g 0) ((A.set i v).length, .inl (la (A.set i v))))
  rw [e, List.length_set, vp_cell_i, vp_cell_i, arrV_store, nI_clamp (Nat.lt_trans hk.1 hk.2), ← la_set hk.1]
  congr 2
  funext q
  by_cases hq : q = i
  · subst hq
    simp [updV, upd]
  · simp [updV, upd, hq]
theorem x_alen {a : Nat} {A : List Nat} (C : Cx g f md fr mc) (d : decode md.2.1 pc = .ok (.arraylength, 1)) (ha : h[a]? = some (ia g A)) (k : X g f md mc Post n (pc + 1) L (.int (nI A.length) :: st) h) : X g f md mc Post n pc L (.ref (zA (gz g) a) :: st) h :=
  fun H locs ls hR hS hl => va_alen (x := (A.length, .inl (la A))) C.exec C.code C.K hR.1 a 0 (wl_get ha) (ty := .int) rfl rfl d (k H locs ls hR hS hl)
theorem x_rlen {a t : Nat} {ty : FieldType} {A : List (Option Nat)} (C : Cx g f md fr mc) (d : decode md.2.1 pc = .ok (.arraylength, 1)) (ha : h[a]? = some (ra g t A)) (ht : (gT g)[t]? = some (gC g t, ty)) (k : X g f md mc Post n (pc + 1) L (.int (nI A.length) :: st) h) : X g f md mc Post n pc L (.ref (zA (gz g) a) :: st) h :=
  fun H locs ls hR hS hl => va_alen (x := (A.length, .inr (.inr (.inr (.inr (fun k => A.getD k none)))))) C.exec C.code C.K hR.1 a t (wl_get ha) (ty := ty) ht rfl d (k H locs ls hR hS hl)
theorem x_aald {a i t v : Nat} {cn : String} {A : List (Option Nat)} (C : Cx g f md fr mc) (d : decode md.2.1 pc = .ok (.aaload, 1)) (ha : h[a]? = some (ra g t A)) (ht : (gT g)[t]? = some (gC g t, .object cn)) (hv : A[i]? = some (some v)) (hn : A.length < 2 ^ 31) (k : X g f md mc Post n (pc + 1) L (.ref v :: st) h) : X g f md mc Post n pc L (.int (nI i) :: .ref (zA (gz g) a) :: st) h := by
  intro H locs ls hR hS hl
  have hi : i < A.length := (List.getElem?_eq_some_iff.mp hv).1
  refine va_aldq C.exec C.code C.K hR.1 a t (wl_get ha) ht (vp_in_nI hi hn) d ?_
  rw [nI_clamp (Nat.lt_trans hi hn), List.getD_eq_getElem?_getD, hv]
  exact k H locs ls hR hS hl
theorem x_aast {a i t v ci : Nat} {r : vw_C} {vs : List Value} {A : List (Option Nat)} (C : Cx g f md fr mc) (d : decode md.2.1 pc = .ok (.aastore, 1)) (ha : h[a]? = some (ra g t A)) (ht : (gT g)[t]? = some (gC g t, .object r.1)) (hv : h[v]? = some (.inr (ci, vs))) (hc : Cls[ci]? = some r) (hi : i < A.length ∧ A.length < 2 ^ 31) (k : X g f md mc Post n (pc + 1) L st (h.set a (ra g t (A.set i (some (zA (gz g) v)))))) : X g f md mc Post n pc L (.ref (zA (gz g) v) :: .int (nI i) :: .ref (zA (gz g) a) :: st) h := by
  intro H locs ls hR hS hl
  obtain ⟨r', hr', cellV, g1, g2, g3, -⟩ := hR.1 v _ (wl_get hv)
  have hcls := (C.K.1 ci r hc).2
  obtain ⟨kA, comp, k1, k2, k3, -⟩ := (C.K.2 t _ ht).2
  have hcomp : comp = (gD g).1 ci := Option.some.inj (k3.symm.trans hcls.1)
  subst hcomp
  obtain ⟨kC, hkC, -⟩ := hcls.2
  refine W.aast C.exec C.code (hR.1 a _ (wl_get ha)) (fun q h => by cases h) (fun h => by cases h) k1 k2 rfl hkC ⟨nI_pos (Nat.lt_trans hi.1 hi.2), by show _ < (arrV _ _ _).slots.size; rw [arrV_size, nI_clamp (Nat.lt_trans hi.1 hi.2)]; exact hi.1⟩ g1 (fun q h => by rw [g3] at h; cases h) (by rw [g2]; exact hkC) (by rw [g2]; exact va_assign hcls) rfl rfl d fun H1 e z oq => ?_
  refine k H1 _ ls (hR.put ha ?_ z oq) (hS.put z oq (zA_zle g a)) hl
  show H1[zA (gz g) a]? = some (vp_cell (gC g t) ((A.set i (some (zA (gz g) v))).length, .inr (.inr (.inr (.inr (fun k => (A.set i (some (zA (gz g) v))).getD k none))))))
  rw [e, List.length_set, vp_cell_q, vp_cell_q, arrV_store, nI_clamp (Nat.lt_trans hi.1 hi.2)]
  congr 2
  funext q
  rw [List.getD_eq_getElem?_getD, List.getElem?_set]
  by_cases hq : i = q
  · subst hq
    simp [updV, va_rf, hi.1]
  · simp [updV, hq, Ne.symm hq]
theorem x_get {a ci j idx : Nat} {fs : List Value} {v : Value} (C : Cx g f md fr mc) (d : decode md.2.1 pc = .ok (.getfield idx, 3)) (hc : Nat.blt ci Cls.length = true) (hj : Nat.blt j (Tc ci).2.2 = true) (ha : h[a]? = some (.inr (ci, fs))) (hv : fs[j]? = some v) (hw : Cond.fieldLink md.1.cls idx ((Tc ci).2.1 j).1 ((Tc ci).2.1 j).2.1 ((Tc ci).2.1 j).2.2.1 ∈ tb) (k : X g f md mc Post n (pc + 3) L (v :: st) h) : X g f md mc Post n pc L (.ref (zA (gz g) a) :: st) h :=
  fun H locs ls hR hS hl => va_get (tys := gT g) C.exec C.code C.ts (Tc_in hc) C.own C.K hR.1 a (wl_get ha) (Tc_at hc) j (Nat.le_of_ble_eq_true hj) (C.ts _ hw) (fun _ q => q) hv d (k H locs ls hR hS hl)
theorem x_put {a ci j idx : Nat} {fs : List Value} {v : Value} {ty : FieldType} (C : Cx g f md fr mc) (d : decode md.2.1 pc = .ok (.putfield idx, 3)) (hc : Nat.blt ci Cls.length = true) (hj : Nat.blt j (Tc ci).2.2 = true) (ha : h[a]? = some (.inr (ci, fs))) (hl0 : Nat.blt j fs.length = true) (hw : Cond.fieldLink md.1.cls idx ((Tc ci).2.1 j).1 ((Tc ci).2.1 j).2.1 ((Tc ci).2.1 j).2.2.1 ∈ tb)
    (hfin : ((Tc ci).2.1 j).2.2.2 = false ∨ (md.1.name = "<init>" ∧ ((Tc ci).2.1 j).1 = md.1.cls ∧ ((Tc ci).2.1 j).2.2.2 = true)) (hd : parseFieldDescriptor ((Tc ci).2.1 j).2.2.1 = some ty) (hnr : narrow ty v = v) (hfit : fits ty v = true) (k : X g f md mc Post n (pc + 3) L st (h.set a (.inr (ci, fs.set j v)))) : X g f md mc Post n pc L (v :: .ref (zA (gz g) a) :: st) h := by
  intro H locs ls hR hS hl
  have hcA := Tc_at hc
  have hjN : j < (Tc ci).2.2 := Nat.le_of_ble_eq_true hj
  have hap := va_apart (own := md.1.cls) C.ts (Tc_in hc) (Tc_ty ci) (Tc_tyok hc) (Tc_nm hc) C.K hcA
  obtain ⟨r, h1, cell, q1, q2, q3, q4⟩ := hR.1 a _ (wl_get ha)
  have hr : r = ((Tc ci).1, (Tc ci).2.1, (Tc ci).2.2) := Option.some.inj (h1.symm.trans hcA)
  subst hr
  obtain ⟨hSl, hfc, kC, hkC, hkind⟩ := C.K.1 ci _ hcA
  obtain ⟨cf, kf, fi, ff, hi, hsl⟩ := hSl j hjN
  have hlay := C.ts _ (Tc_in hc _ (u_in_lay hjN))
  have hst := (u_facts hfc hkC (u_lays C.ts (Tc_in hc) hjN) hi).1
  have fin : ∀ H1 : Heap, H1[zA (gz g) a]? = some (cell.setSlot ff.slot v) → H1.size = H.size → (∀ q : Nat, q ≠ zA (gz g) a → H1[q]? = H[q]?) → Rl g (h.set a (.inr (ci, fs.set j v))) H1 ∧ va_S (zle g) (fS f).heap H1 (locs ++ [⟨zA (gz g) a, ff.slot⟩]) := by
    intro H1 e1 e2 e3
    rw [hsl] at e1
    exact ⟨hR.put ha ⟨_, hcA, t_OB.to (V := updV (vp_V fs) j v) ⟨_, e1, q2, q3, t_set q4 hap hjN v⟩ (fun i _ => vp_updV_set (Nat.le_of_ble_eq_true hl0) v i)⟩ e2 e3, hS.put e2 e3 (zA_zle g a)⟩
  unfold u_lay at hlay
  rcases hfin with hfin | ⟨hin, hdecl, hfin⟩
  · rw [if_neg (by rw [hfin]; decide)] at hlay
    have h6 := u_store hfc hkC hkind hlay hi hd hnr hfit
    refine W.putK C.exec C.code (f := ff) ⟨C.own, C.ts _ hw, ⟨_, _, _, hi⟩, hst⟩ (by rw [q2]; exact h6) q1 q3 (by rw [hsl]; exact k2_hasslot (q4 j hjN)) rfl rfl d fun H1 e1 e2 e3 => ?_
    obtain ⟨x1, x2⟩ := fin H1 e1 e2 e3
    exact k H1 _ ls x1 x2 hl
  · rw [if_pos hfin] at hlay
    have hcf : (fI f).cls = cf := by
      obtain ⟨_, _, c', _, _, _, -, -, hf', -, -, -, hown2, -⟩ := Cond.laysFinal_spec hlay
      have e1 : c' = cf := by have := hi.symm.trans hf'; simp at this; exact this.1.symm
      rw [hdecl] at hown2
      rw [← e1]; exact Option.some.inj (C.own.symm.trans hown2)
    have h6 := u_fits hfc hkC hkind (Or.inr hlay) hi hd hnr hfit
    refine W.putFinK C.exec C.code C.own (C.ts _ hw) hi hst hcf (C.name.trans hin) (by rw [q2]; exact h6) q1 q3 (by rw [hsl]; exact k2_hasslot (q4 j hjN)) rfl rfl d fun H1 e1 e2 e3 => ?_
    obtain ⟨x1, x2⟩ := fin H1 e1 e2 e3
    exact k H1 _ ls x1 x2 hl
theorem x_new {ci idx : Nat} {fs : List Value} (C : Cx g f md fr mc) (d : decode md.2.1 pc = .ok (.new idx, 3)) (hc : Nat.blt ci Cls.length = true) (hw : Cond.classLink md.1.cls idx (Tc ci).1 ∈ tb) (hi : Cond.instantiable (Tc ci).1 (Tc ci).2.2 ∈ tb) (hn : Cond.initialized (Tc ci).1 ∈ tb) (hfs : ∀ j, j < (Tc ci).2.2 → defaultValue (Tc_ty ci j) = vp_V fs j) (hlt : h.length < 60) (hm : n.1 + 1 ≤ mc.1 ∧ n.2 + (Tc ci).2.2 ≤ mc.2)
    (k : X g f md mc Post (n.1 + 1, n.2 + (Tc ci).2.2) (pc + 3) L (.ref (zA (gz g) h.length) :: st) (h ++ [.inr (ci, fs)])) : X g f md mc Post n pc L st h := by
  intro H locs ls hR hS hl
  have hcA := Tc_at hc
  have hKn := C.K.1 ci _ hcA
  refine W.newcK C.exec C.code C.own (C.ts _ hw) (C.ts _ hi) (C.ts _ hn) rfl d (by rw [C.room]; exact hm.1) (by rw [C.room]; exact hm.2) hKn.2.1 (hR.2.2 hlt) fun H1 kC hkC e1 z1 o1 => ?_
  exact k H1 locs ls (Rl.push hlt hR ⟨_, hcA, (u_born (Tc_ty ci) C.ts (Tc_in hc) hKn hkC e1 (Tc_tyok hc)).to hfs⟩ (by rw [z1, hR.2.2 hlt]) (fun q hq => o1 q (by rw [← hR.2.2 hlt]; exact hq))) (hS.grow (by rw [z1, hR.2.2 hlt]) (fun q hq => o1 q (by rw [← hR.2.2 hlt]; exact hq))) hl
theorem x_newi {N : Nat} (C : Cx g f md fr mc) (d : decode md.2.1 pc = .ok (.newarray .int, 2)) (hN : N < 2 ^ 20) (hlt : h.length < 60) (hm : n.1 + 1 ≤ mc.1 ∧ n.2 + N ≤ mc.2) (k : X g f md mc Post (n.1 + 1, n.2 + N) (pc + 2) L (.ref (zA (gz g) h.length) :: st) (h ++ [ia g (List.replicate N 0)])) : X g f md mc Post n pc L (.int (nI N) :: st) h := by
  intro H locs ls hR hS hl
  refine va_newaK (atype := .int) C.exec C.code (C.ts _ k_ac_int) rfl d rfl (nI_pos (by omega)) (nI_clamp (by omega)) (by show N * 4 ≤ _; omega) (by rw [C.room]; exact hm.1) (by rw [C.room]; exact hm.2) (hR.2.2 hlt) fun H1 cA e1 z1 o1 hAr hNm => ?_
  have hcA : cA = gC g 0 := Option.some.inj (hNm.symm.trans (C.K.2 0 _ rfl).2)
  subst hcA
  refine k H1 locs ls (Rl.push hlt hR ?_ (by rw [z1, hR.2.2 hlt]) (fun q hq => o1 q (by rw [← hR.2.2 hlt]; exact hq))) (hS.grow (by rw [z1, hR.2.2 hlt]) (fun q hq => o1 q (by rw [← hR.2.2 hlt]; exact hq))) hl
  show H1[zA (gz g) h.length]? = some (vp_cell (gC g 0) ((List.replicate N 0).length, .inl (la (List.replicate N 0))))
  rw [List.length_replicate, ← la_zero, vp_cell_i]
  exact e1
theorem x_iret {v : Int32} (C : Cx g f md fr mc) (d : decode md.2.1 pc = .ok (.ireturn, 1)) (hr : md.2.2.2 = some .int) (hm : n.1 ≤ mc.1 ∧ n.2 ≤ mc.2) (hp : Post (.returned (some (.int v))) h) : X g f md mc Post n pc L [.int v] h :=
  fun H locs ls hR hS hl => W.monoQ (Q := MQ (fB f) (Qx g Post) (fA f) (fS f) mc.1 mc.2 (zle g)) (W.widen hm.1 hm.2 (W.iret C.exec C.code (C.ret.trans hr) (fun t ht hW => ⟨⟨h, hp, by rw [ht]; exact hR⟩, hS.F ht⟩) hS.2.2 d C.locks)) (fun t q => XQ.of q)
theorem x_zret {v : Int32} {ty : FieldType} (C : Cx g f md fr mc) (d : decode md.2.1 pc = .ok (.ireturn, 1)) (hr : md.2.2.2 = some ty) (hn : narrow ty (.int v) = .int v) (hm : n.1 ≤ mc.1 ∧ n.2 ≤ mc.2) (hp : Post (.returned (some (.int v))) h) : X g f md mc Post n pc L [.int v] h :=
  fun H locs ls hR hS hl => W.monoQ (Q := MQ (fB f) (Qx g Post) (fA f) (fS f) mc.1 mc.2 (zle g)) (W.widen hm.1 hm.2 (W.zret C.exec C.code (C.ret.trans hr) hn (fun t ht hW => ⟨⟨h, hp, by rw [ht]; exact hR⟩, hS.F ht⟩) hS.2.2 d C.locks)) (fun t q => XQ.of q)
theorem x_vret (C : Cx g f md fr mc) (d : decode md.2.1 pc = .ok (.return_, 1)) (hr : md.2.2.2 = none) (hm : n.1 ≤ mc.1 ∧ n.2 ≤ mc.2) (hp : Post (.returned none) h) : X g f md mc Post n pc L [] h :=
  fun H locs ls hR hS hl => W.monoQ (Q := MQ (fB f) (Qx g Post) (fA f) (fS f) mc.1 mc.2 (zle g)) (W.widen hm.1 hm.2 (W.vret C.exec C.code (C.ret.trans hr) (fun t ht hW => ⟨⟨h, hp, by rw [ht]; exact hR⟩, hS.F ht⟩) hS.2.2 d C.locks)) (fun t q => XQ.of q)
theorem x_objInit {idx a : Nat} (C : Cx g f md fr mc) (d : decode md.2.1 pc = .ok (.invokespecial idx, 3)) (hw : Cond.methodLink md.1.cls idx objectInit ∈ tb) (hfr : Nat.ble 1 fr = true) (hs : Nat.ble (st.map fun v => v.category).sum 20 = true) (k : X g f md mc Post n (pc + 3) L st h) : X g f md mc Post n pc L (.ref a :: st) h :=
  fun H locs ls hR hS hl => W.objInit C.exec C.code C.own (C.ts _ hw) (C.ts _ k_im_Object_init) (C.ts _ k_cd_Object_init) rfl (by rw [C.ml]; exact hl.1) rfl d (by rw [C.room]; exact Nat.le_of_ble_eq_true hfr) (by rw [C.room]; have h1 := Nat.le_of_ble_eq_true hfr; have h2 := Nat.le_of_ble_eq_true hs; show 2 * 0 + _ + 12 ≤ 36 * fr; omega) (k H locs ls hR hS hl)
/-- a call that comes back -/
theorem x_run {mc2 : Nat × Nat} {Post2 : Outcome → Hp → Prop} {av rest : List Value} (C : Cx g f md fr mc) (hr : ∀ (H : Heap) (locs : List Loc) (ls : Array Slot), Rl g h H → va_S (zle g) (fS f).heap H locs → lx ls md.2.2.1 L → va_Run (fP f) (gl g) (fE f) (fR f) (fS f) (fI f) (fA f) (fB f) (fM f) (fC f) H locs n.1 n.2 mc2.1 mc2.2 (F0 (fI f) pc ls st) rest (Qx g Post2 av.toArray) (zle g))
    (k : ∀ o h2, Post2 o h2 → ∃ r, o = .returned r ∧ X g f md mc Post (n.1 + mc2.1, n.2 + mc2.2) (pc + 3) L (r.toList ++ rest) h2) : X g f md mc Post n pc L st h := by
  intro H locs ls hR hS hl T hT XX
  obtain ⟨v, st₀, t, T', Lc, h0, X', hL, e1, e2, ⟨⟨h2, hp, hR2⟩, hz, hk⟩, stp⟩ := hr H locs ls hR hS hl T hT XX
  obtain ⟨r, hr0, kk⟩ := k _ h2 hp
  cases hr0
  rw [h0] at hz hk
  obtain ⟨t2, a1, b1⟩ := kk T'.heap (locs ++ Lc) ls (by rw [e1]; exact hR2)
    ⟨Nat.le_trans hS.1 (by rw [e1]; exact hz), fun q h1 h2 => by rw [e1, hk q (Nat.lt_of_lt_of_le h1 hS.1) h2]; exact hS.2.1 q h1 h2, fun q hq => by
      rcases List.mem_append.mp hq with h | h
      · exact hS.2.2 q h
      · exact hL q h⟩ hl T' rfl X'
  exact ⟨t2, stp t2 a1, b1⟩

theorem Px_blind {av : List Value} : FrameBlind (Px g av h) := fun a U g2 mk q => by
  obtain ⟨q0, q1, qK, qz⟩ := q
  exact ⟨q0, q1, va_K.moved (u := U) (U := U.calling g2 mk a) (Vm.Alike.refl U.vm) qK, qz.same rfl⟩
theorem Px_pre {av : List Value} {H : Heap} (C : Cx g f md fr mc) (hR : Rl g h H) : ∀ U : State, U.heap = H → (fS f).WarmedH U.vm → Px g av h av.toArray U :=
  fun U hU hW => ⟨rfl, by rw [hU]; exact hR, va_K.moved hW.alike C.K, C.nw.warm hW⟩
theorem tb_good {w : Cond} (h : w ∈ tb) : (w.onTables && w.keeps) = true ∨ ∃ ty, w = .arrayClass ty := good_of_word (List.mem_filter.mp h).2
theorem tb_wz {M : MD} (h : Cond.code M.1 M.2.1 M.2.2.1 M.2.2.2 ∈ tb) : GoodIn tb (wz M) := by
  intro w hw
  rcases List.mem_cons.mp hw with rfl | hw
  · exact ⟨h, tb_good h⟩
  · exact ⟨hw, tb_good hw⟩
theorem tb_app {a : List Cond} {b : List Cond} (h1 : ∀ w ∈ a, w ∈ tb) (h2 : GoodIn tb b) : GoodIn tb (a ++ b) := by
  intro w hw
  rcases List.mem_append.mp hw with hw | hw
  · exact ⟨h1 w hw, tb_good (h1 w hw)⟩
  · exact h2 w hw
/-- the number of a method's parameters, and that it is no handle -/
def mP (M : MD) (na : Nat) : Prop := M.1.cls ≠ "java/lang/invoke/MethodHandle" ∧ M.1.cls ≠ "java/lang/invoke/VarHandle" ∧ (parseMethodDescriptor M.1.desc).map (fun d => d.parameters.length) = some na
def mV (M : MD) (na : Nat) : Prop := Cond.instanceMethod M.1 ∈ tb ∧ Cond.selects M.1.cls M.1 M.1 ∈ tb ∧ Cond.initialized M.1.cls ∈ tb ∧ Cond.code M.1 M.2.1 M.2.2.1 M.2.2.2 ∈ tb ∧ mP M na
def mU (M : MD) (na : Nat) : Prop := Cond.instanceMethod M.1 ∈ tb ∧ Cond.initialized M.1.cls ∈ tb ∧ Cond.code M.1 M.2.1 M.2.2.1 M.2.2.2 ∈ tb ∧ mP M na
def mS (M : MD) (na : Nat) : Prop := Cond.static M.1 ∈ tb ∧ Cond.initialized M.1.cls ∈ tb ∧ Cond.code M.1 M.2.1 M.2.2.1 M.2.2.2 ∈ tb ∧ mP M na
def mI (M : MD) (na : Nat) : Prop := Cond.instanceMethod M.1 ∈ tb ∧ M.1.name = "<init>" ∧ Cond.initialized M.1.cls ∈ tb ∧ Cond.code M.1 M.2.1 M.2.2.1 M.2.2.2 ∈ tb ∧ mP M na ∧ M.2.2.2 = none
def rmK (fr2 fr nL : Nat) : Bool := Nat.ble (fr2 + 1) fr && Nat.ble (8 + (nL + 11) + 36 * fr2) (36 * fr)
theorem rmK.ok {fr2 nL : Nat} {mc2 : Nat × Nat} (C : Cx g f md fr mc) (h : rmK fr2 fr nL = true) : (rmo fr2 mc2).frames + 1 ≤ (fR f).frames ∧ 8 + (nL + 11) + (rmo fr2 mc2).locals ≤ (fR f).locals := by
  rw [C.room]
  unfold rmK at h
  rw [Bool.and_eq_true] at h
  exact ⟨Nat.le_of_ble_eq_true h.1, Nat.le_of_ble_eq_true h.2⟩
theorem mcK_ok {mc2 : Nat × Nat} (C : Cx g f md fr mc) (h : n.1 + mc2.1 ≤ mc.1 ∧ n.2 + mc2.2 ≤ mc.2) : n.1 + mc2.1 ≤ (fR f).cells ∧ n.2 + mc2.2 ≤ (fR f).slots := by
  rw [C.room]
  exact h
variable {M : MD} {fr2 na idx : Nat} {mc2 : Nat × Nat} {Post2 : Outcome → Hp → Prop} {As rest : List Value}
theorem x_callV {a ci : Nat} {vs : List Value} (C : Cx g f md fr mc) (d : decode md.2.1 pc = .ok (.invokevirtual idx, 3)) (hw : Cond.methodLink md.1.cls idx M.1 ∈ tb) (hm : mV M na) (hci : Nat.blt ci Cls.length = true) (hcl : (Tc ci).1 = M.1.cls) (ha : h[a]? = some (.inr (ci, vs))) (hc : Con g M fr2 mc2 (.ref (zA (gz g) a) :: As) h Post2)
    (hst : st = As.reverse ++ .ref (zA (gz g) a) :: rest) (hlen : As.length = na) (hcat : Nat.ble (rest.map fun v => v.category).sum 8 = true) (hfr : rmK fr2 fr M.2.2.1 = true) (hmc : n.1 + mc2.1 ≤ mc.1 ∧ n.2 + mc2.2 ≤ mc.2)
    (k : ∀ o h2, Post2 o h2 → ∃ r, o = .returned r ∧ X g f md mc Post (n.1 + mc2.1, n.2 + mc2.2) (pc + 3) L (r.toList ++ rest) h2) : X g f md mc Post n pc L st h := by
  obtain ⟨m1, m2, m3, m4, m5⟩ := hm
  refine x_run (av := .ref (zA (gz g) a) :: As) C (fun H locs ls hR hS hl => ?_) k
  have hrec := va_recv C.K hR.1 (Tc_at hci) (wl_get ha)
  rw [hcl] at hrec
  exact va_runV (Ts := tb) ⟨C.exec, C.code, C.ml, C.own, C.ts⟩ hc (cwV (C := M.1.cls) na C.ts (tb_app (by simp only [List.forall_mem_cons]; exact ⟨hw, m1, m2, m3, fun _ h => by cases h⟩) (tb_wz m4)) rfl rfl rfl ⟨rfl, m5⟩ (rmK.ok C hfr)) ⟨Px_blind, hrec, Px_pre C hR⟩ rfl hlen hl.1 hst (lv_room (Nat.le_of_ble_eq_true hcat)) d (mcK_ok C hmc)
theorem x_callS (C : Cx g f md fr mc) (d : decode md.2.1 pc = .ok (.invokestatic idx, 3)) (hw : Cond.methodLink md.1.cls idx M.1 ∈ tb) (hm : mS M na) (hc : Con g M fr2 mc2 As h Post2)
    (hst : st = As.reverse ++ rest) (hlen : As.length = na) (hcat : Nat.ble (rest.map fun v => v.category).sum 8 = true) (hfr : rmK fr2 fr M.2.2.1 = true) (hmc : n.1 + mc2.1 ≤ mc.1 ∧ n.2 + mc2.2 ≤ mc.2)
    (k : ∀ o h2, Post2 o h2 → ∃ r, o = .returned r ∧ X g f md mc Post (n.1 + mc2.1, n.2 + mc2.2) (pc + 3) L (r.toList ++ rest) h2) : X g f md mc Post n pc L st h := by
  obtain ⟨m1, m3, m4, m5⟩ := hm
  refine x_run (av := As) C (fun H locs ls hR hS hl => ?_) k
  exact va_runS (Ts := tb) ⟨C.exec, C.code, C.ml, C.own, C.ts⟩ hc (va_cwS na C.ts (tb_app (by simp only [List.forall_mem_cons]; exact ⟨hw, m1, m3, fun _ h => by cases h⟩) (tb_wz m4)) rfl rfl rfl m5 (rmK.ok C hfr)) ⟨Px_blind, Px_pre C hR⟩ rfl hlen hl.1 hst (lv_room (Nat.le_of_ble_eq_true hcat)) d (mcK_ok C hmc)
theorem x_callSN {host : String} (C : Cx g f md fr mc) (d : decode md.2.1 pc = .ok (.invokestatic idx, 3)) (hw : (md.1.cls, idx, M.1, host) ∈ nwM) (hm : mS M na) (hc : Con g M fr2 mc2 As h Post2)
    (hst : st = As.reverse ++ rest) (hlen : As.length = na) (hcat : Nat.ble (rest.map fun v => v.category).sum 8 = true) (hfr : rmK fr2 fr M.2.2.1 = true) (hmc : n.1 + mc2.1 ≤ mc.1 ∧ n.2 + mc2.2 ≤ mc.2)
    (k : ∀ o h2, Post2 o h2 → ∃ r, o = .returned r ∧ X g f md mc Post (n.1 + mc2.1, n.2 + mc2.2) (pc + 3) L (r.toList ++ rest) h2) : X g f md mc Post n pc L st h := by
  obtain ⟨m1, m3, m4, m5⟩ := hm
  refine x_run (av := As) C (fun H locs ls hR hS hl => ?_) k
  exact va_runSN (Ts := tb) ⟨C.exec, C.code, C.ml, C.own, C.ts⟩ hc ⟨va_cnB na C.ts (tb_wz m4) rfl rfl rfl (C.nw.1 _ hw) (C.ts _ m3) m5 (rmK.ok C hfr), C.ts _ m1, trivial⟩ ⟨Px_blind, Px_pre C hR⟩ rfl hlen hl.1 hst (lv_room (Nat.le_of_ble_eq_true hcat)) d (mcK_ok C hmc)
theorem x_callI {a : Nat} (C : Cx g f md fr mc) (d : decode md.2.1 pc = .ok (.invokespecial idx, 3)) (hw : Cond.methodLink md.1.cls idx M.1 ∈ tb) (hm : mI M na) (hc : Con g M fr2 mc2 (.ref a :: As) h Post2)
    (hst : st = As.reverse ++ .ref a :: rest) (hlen : As.length = na) (hcat : Nat.ble (rest.map fun v => v.category).sum 8 = true) (hfr : rmK fr2 fr M.2.2.1 = true) (hmc : n.1 + mc2.1 ≤ mc.1 ∧ n.2 + mc2.2 ≤ mc.2)
    (k : ∀ o h2, Post2 o h2 → ∃ r, o = .returned r ∧ X g f md mc Post (n.1 + mc2.1, n.2 + mc2.2) (pc + 3) L (r.toList ++ rest) h2) : X g f md mc Post n pc L st h := by
  obtain ⟨m1, m2, m3, m4, m5, m6⟩ := hm
  refine x_run (av := .ref a :: As) C (fun H locs ls hR hS hl => ?_) k
  exact va_runI (Ts := tb) ⟨C.exec, C.code, C.ml, C.own, C.ts⟩ hc (cwI na C.ts (tb_wz m4) (by unfold wz; rw [m6]) rfl rfl (C.ts _ m3) (C.ts _ hw) (C.ts _ m1) m2 m5 (rmK.ok C hfr)) ⟨Px_blind, Px_pre C hR⟩ rfl hlen hl.1 hst (lv_room (Nat.le_of_ble_eq_true hcat)) d (mcK_ok C hmc)
theorem x_callIN {a : Nat} {host : String} (C : Cx g f md fr mc) (d : decode md.2.1 pc = .ok (.invokespecial idx, 3)) (hw : (md.1.cls, idx, M.1, host) ∈ nwM) (hm : mI M na) (hc : Con g M fr2 mc2 (.ref a :: As) h Post2)
    (hst : st = As.reverse ++ .ref a :: rest) (hlen : As.length = na) (hcat : Nat.ble (rest.map fun v => v.category).sum 8 = true) (hfr : rmK fr2 fr M.2.2.1 = true) (hmc : n.1 + mc2.1 ≤ mc.1 ∧ n.2 + mc2.2 ≤ mc.2)
    (k : ∀ o h2, Post2 o h2 → ∃ r, o = .returned r ∧ X g f md mc Post (n.1 + mc2.1, n.2 + mc2.2) (pc + 3) L (r.toList ++ rest) h2) : X g f md mc Post n pc L st h := by
  obtain ⟨m1, m2, m3, m4, m5, m6⟩ := hm
  refine x_run (av := .ref a :: As) C (fun H locs ls hR hS hl => ?_) k
  refine va_runIN (Ts := tb) ⟨C.exec, C.code, C.ml, C.own, C.ts⟩ hc ⟨va_cnB na C.ts (tb_wz m4) (by unfold wz; rw [m6]) rfl rfl (C.nw.1 _ hw) (C.ts _ m3) m5 (rmK.ok C hfr), m2, C.ts _ m1⟩ ⟨Px_blind, Px_pre C hR⟩ rfl hlen hl.1 hst (lv_room (Nat.le_of_ble_eq_true hcat)) d (mcK_ok C hmc)
theorem x_callU {a ci : Nat} {x : MethodName} {owner : String} {vs : List Value} (C : Cx g f md fr mc) (d : decode md.2.1 pc = .ok (.invokevirtual idx, 3)) (hw : Cond.methodLink md.1.cls idx x ∈ tb) (hsm : Cond.sameMethod x.cls owner x.name x.desc ∈ tb) (hsel : Cond.selects (Tc ci).1 x M.1 ∈ tb) (hdc : (⟨owner, x.name, x.desc⟩ : MethodName) ∈ nwD) (hm : mU M na) (hpx : owner ≠ "java/lang/invoke/MethodHandle" ∧ owner ≠ "java/lang/invoke/VarHandle" ∧ (parseMethodDescriptor x.desc).map (fun d => d.parameters.length) = some na) (hci : Nat.blt ci Cls.length = true) (ha : h[a]? = some (.inr (ci, vs))) (hc : Con g M fr2 mc2 (.ref (zA (gz g) a) :: As) h Post2)
    (hst : st = As.reverse ++ .ref (zA (gz g) a) :: rest) (hlen : As.length = na) (hcat : Nat.ble (rest.map fun v => v.category).sum 8 = true) (hfr : rmK fr2 fr M.2.2.1 = true) (hmc : n.1 + mc2.1 ≤ mc.1 ∧ n.2 + mc2.2 ≤ mc.2)
    (k : ∀ o h2, Post2 o h2 → ∃ r, o = .returned r ∧ X g f md mc Post (n.1 + mc2.1, n.2 + mc2.2) (pc + 3) L (r.toList ++ rest) h2) : X g f md mc Post n pc L st h := by
  obtain ⟨m1, m3, m4, m5⟩ := hm
  refine x_run (av := .ref (zA (gz g) a) :: As) C (fun H locs ls hR hS hl => ?_) k
  have hrec := va_recv C.K hR.1 (Tc_at hci) (wl_get ha)
  exact va_runU (Ts := tb) ⟨C.exec, C.code, C.ml, C.own, C.ts⟩ hc (va_cwA (C := (Tc ci).1) (owner := owner) na C.ts (tb_app (by simp only [List.forall_mem_cons]; exact ⟨hw, hsm, hsel, m1, m3, fun _ h => by cases h⟩) (tb_wz m4)) rfl rfl rfl (C.nw.2.1 _ hdc) hpx (rmK.ok C hfr)) ⟨Px_blind, hrec, Px_pre C hR⟩ rfl hlen hl.1 hst (lv_room (Nat.le_of_ble_eq_true hcat)) d (mcK_ok C hmc)
/-- calls that make nothing: exact ends, void and with an answer; any end -/
theorem x_cV0 {a ci : Nat} {vs : List Value} {h2 : Hp} (C : Cx g f md fr mc) (d : decode md.2.1 pc = .ok (.invokevirtual idx, 3)) (hw : Cond.methodLink md.1.cls idx M.1 ∈ tb) (hm : mV M na) (hci : Nat.blt ci Cls.length = true) (hcl : (Tc ci).1 = M.1.cls) (ha : h[a]? = some (.inr (ci, vs))) (hc : Con g M fr2 (0, 0) (.ref (zA (gz g) a) :: As) h (Ret none h2)) (hst : st = As.reverse ++ .ref (zA (gz g) a) :: rest) (hlen : As.length = na) (hcat : Nat.ble (rest.map fun v => v.category).sum 8 = true) (hfr : rmK fr2 fr M.2.2.1 = true) (hmc : n.1 ≤ mc.1 ∧ n.2 ≤ mc.2) (k : X g f md mc Post n (pc + 3) L rest h2) : X g f md mc Post n pc L st h :=
  x_callV C d hw hm hci hcl ha hc hst hlen hcat hfr hmc (fun o h3 hp => ⟨none, hp.1, by rw [hp.2]; exact k⟩)
theorem x_cV1 {a ci : Nat} {vs : List Value} {h2 : Hp} {v : Value} (C : Cx g f md fr mc) (d : decode md.2.1 pc = .ok (.invokevirtual idx, 3)) (hw : Cond.methodLink md.1.cls idx M.1 ∈ tb) (hm : mV M na) (hci : Nat.blt ci Cls.length = true) (hcl : (Tc ci).1 = M.1.cls) (ha : h[a]? = some (.inr (ci, vs))) (hc : Con g M fr2 (0, 0) (.ref (zA (gz g) a) :: As) h (Ret (some v) h2)) (hst : st = As.reverse ++ .ref (zA (gz g) a) :: rest) (hlen : As.length = na) (hcat : Nat.ble (rest.map fun v => v.category).sum 8 = true) (hfr : rmK fr2 fr M.2.2.1 = true) (hmc : n.1 ≤ mc.1 ∧ n.2 ≤ mc.2) (k : X g f md mc Post n (pc + 3) L (v :: rest) h2) : X g f md mc Post n pc L st h :=
  x_callV C d hw hm hci hcl ha hc hst hlen hcat hfr hmc (fun o h3 hp => ⟨some v, hp.1, by rw [hp.2]; exact k⟩)
theorem x_cV {a ci : Nat} {vs : List Value} (C : Cx g f md fr mc) (d : decode md.2.1 pc = .ok (.invokevirtual idx, 3)) (hw : Cond.methodLink md.1.cls idx M.1 ∈ tb) (hm : mV M na) (hci : Nat.blt ci Cls.length = true) (hcl : (Tc ci).1 = M.1.cls) (ha : h[a]? = some (.inr (ci, vs))) (hc : Con g M fr2 (0, 0) (.ref (zA (gz g) a) :: As) h Post2) (hst : st = As.reverse ++ .ref (zA (gz g) a) :: rest) (hlen : As.length = na) (hcat : Nat.ble (rest.map fun v => v.category).sum 8 = true) (hfr : rmK fr2 fr M.2.2.1 = true) (hmc : n.1 ≤ mc.1 ∧ n.2 ≤ mc.2) (k : ∀ o h2, Post2 o h2 → ∃ r, o = .returned r ∧ X g f md mc Post n (pc + 3) L (r.toList ++ rest) h2) : X g f md mc Post n pc L st h :=
  x_callV C d hw hm hci hcl ha hc hst hlen hcat hfr hmc k
/-- calls that make nothing: exact ends, void and with an answer; any end -/
theorem x_cS0  {h2 : Hp} (C : Cx g f md fr mc) (d : decode md.2.1 pc = .ok (.invokestatic idx, 3)) (hw : Cond.methodLink md.1.cls idx M.1 ∈ tb) (hm : mS M na) (hc : Con g M fr2 (0, 0) (As) h (Ret none h2)) (hst : st = As.reverse ++ rest) (hlen : As.length = na) (hcat : Nat.ble (rest.map fun v => v.category).sum 8 = true) (hfr : rmK fr2 fr M.2.2.1 = true) (hmc : n.1 ≤ mc.1 ∧ n.2 ≤ mc.2) (k : X g f md mc Post n (pc + 3) L rest h2) : X g f md mc Post n pc L st h :=
  x_callS C d hw hm hc hst hlen hcat hfr hmc (fun o h3 hp => ⟨none, hp.1, by rw [hp.2]; exact k⟩)
theorem x_cS1  {h2 : Hp} {v : Value} (C : Cx g f md fr mc) (d : decode md.2.1 pc = .ok (.invokestatic idx, 3)) (hw : Cond.methodLink md.1.cls idx M.1 ∈ tb) (hm : mS M na) (hc : Con g M fr2 (0, 0) (As) h (Ret (some v) h2)) (hst : st = As.reverse ++ rest) (hlen : As.length = na) (hcat : Nat.ble (rest.map fun v => v.category).sum 8 = true) (hfr : rmK fr2 fr M.2.2.1 = true) (hmc : n.1 ≤ mc.1 ∧ n.2 ≤ mc.2) (k : X g f md mc Post n (pc + 3) L (v :: rest) h2) : X g f md mc Post n pc L st h :=
  x_callS C d hw hm hc hst hlen hcat hfr hmc (fun o h3 hp => ⟨some v, hp.1, by rw [hp.2]; exact k⟩)
theorem x_cS  (C : Cx g f md fr mc) (d : decode md.2.1 pc = .ok (.invokestatic idx, 3)) (hw : Cond.methodLink md.1.cls idx M.1 ∈ tb) (hm : mS M na) (hc : Con g M fr2 (0, 0) (As) h Post2) (hst : st = As.reverse ++ rest) (hlen : As.length = na) (hcat : Nat.ble (rest.map fun v => v.category).sum 8 = true) (hfr : rmK fr2 fr M.2.2.1 = true) (hmc : n.1 ≤ mc.1 ∧ n.2 ≤ mc.2) (k : ∀ o h2, Post2 o h2 → ∃ r, o = .returned r ∧ X g f md mc Post n (pc + 3) L (r.toList ++ rest) h2) : X g f md mc Post n pc L st h :=
  x_callS C d hw hm hc hst hlen hcat hfr hmc k
/-- calls that make nothing: exact ends, void and with an answer; any end -/
theorem x_cSN0 {host : String} {h2 : Hp} (C : Cx g f md fr mc) (d : decode md.2.1 pc = .ok (.invokestatic idx, 3)) (hw : (md.1.cls, idx, M.1, host) ∈ nwM) (hm : mS M na) (hc : Con g M fr2 (0, 0) (As) h (Ret none h2)) (hst : st = As.reverse ++ rest) (hlen : As.length = na) (hcat : Nat.ble (rest.map fun v => v.category).sum 8 = true) (hfr : rmK fr2 fr M.2.2.1 = true) (hmc : n.1 ≤ mc.1 ∧ n.2 ≤ mc.2) (k : X g f md mc Post n (pc + 3) L rest h2) : X g f md mc Post n pc L st h :=
  x_callSN C d hw hm hc hst hlen hcat hfr hmc (fun o h3 hp => ⟨none, hp.1, by rw [hp.2]; exact k⟩)
theorem x_cSN1 {host : String} {h2 : Hp} {v : Value} (C : Cx g f md fr mc) (d : decode md.2.1 pc = .ok (.invokestatic idx, 3)) (hw : (md.1.cls, idx, M.1, host) ∈ nwM) (hm : mS M na) (hc : Con g M fr2 (0, 0) (As) h (Ret (some v) h2)) (hst : st = As.reverse ++ rest) (hlen : As.length = na) (hcat : Nat.ble (rest.map fun v => v.category).sum 8 = true) (hfr : rmK fr2 fr M.2.2.1 = true) (hmc : n.1 ≤ mc.1 ∧ n.2 ≤ mc.2) (k : X g f md mc Post n (pc + 3) L (v :: rest) h2) : X g f md mc Post n pc L st h :=
  x_callSN C d hw hm hc hst hlen hcat hfr hmc (fun o h3 hp => ⟨some v, hp.1, by rw [hp.2]; exact k⟩)
theorem x_cSN {host : String} (C : Cx g f md fr mc) (d : decode md.2.1 pc = .ok (.invokestatic idx, 3)) (hw : (md.1.cls, idx, M.1, host) ∈ nwM) (hm : mS M na) (hc : Con g M fr2 (0, 0) (As) h Post2) (hst : st = As.reverse ++ rest) (hlen : As.length = na) (hcat : Nat.ble (rest.map fun v => v.category).sum 8 = true) (hfr : rmK fr2 fr M.2.2.1 = true) (hmc : n.1 ≤ mc.1 ∧ n.2 ≤ mc.2) (k : ∀ o h2, Post2 o h2 → ∃ r, o = .returned r ∧ X g f md mc Post n (pc + 3) L (r.toList ++ rest) h2) : X g f md mc Post n pc L st h :=
  x_callSN C d hw hm hc hst hlen hcat hfr hmc k
theorem x_copy {a b sp dp c : Nat} {A B : List Nat} (C : Cx g f md fr mc) (d : decode md.2.1 pc = .ok (.invokestatic idx, 3)) (hw : Cond.methodLink md.1.cls idx arraycopyName ∈ tb) (ha : h[a]? = some (ia g A)) (hb : h[b]? = some (ia g B)) (h4 : sp + c ≤ A.length) (h5 : dp + c ≤ B.length) (hl0 : A.length < 2 ^ 31 ∧ B.length < 2 ^ 31) (hm : n.1 ≤ mc.1 ∧ n.2 ≤ mc.2) (hfr : Nat.ble 1 fr = true) (hcat : Nat.ble (st.map fun v => v.category).sum 8 = true)
    (k : X g f md mc Post n (pc + 3) L st (h.set b (ia g (cpy A B sp dp c)))) : X g f md mc Post n pc L (.int (nI c) :: .int (nI dp) :: .ref (zA (gz g) b) :: .int (nI sp) :: .ref (zA (gz g) a) :: st) h := by
  intro H locs ls hR hS hl T hT XX
  have hc0 : H[zA (gz g) a]? = some (vp_cell (gC g 0) (A.length, .inl (la A))) := hR.1 a _ (wl_get ha)
  have hc1 : H[zA (gz g) b]? = some (vp_cell (gC g 0) (B.length, .inl (la B))) := hR.1 b _ (wl_get hb)
  obtain ⟨-, k0, hk0, cm0, hkk0⟩ := (C.K.2 0 _ rfl).1 A.length (fun j => .int (la A j))
  obtain ⟨-, k1, hk1, cm1, hkk1⟩ := (C.K.2 0 _ rfl).1 B.length (fun j => .int (la B j))
  have n1 := nI_toInt (n := sp) (by omega)
  have n2 := nI_toInt (n := dp) (by omega)
  have n3 := nI_toInt (n := c) (by omega)
  have m1 := nI_clamp (n := sp) (by omega)
  have m2 := nI_clamp (n := dp) (by omega)
  have m3 := nI_clamp (n := c) (by omega)
  have q1 := Nat.le_of_ble_eq_true hfr
  have q2 := Nat.le_of_ble_eq_true hcat
  have q3 : nativeFrameWords "java/lang/System" "arraycopy" 5 ≤ 17 := by decide +kernel
  obtain ⟨vm', X', step⟩ := XX.arraycopy C.exec C.own (C.ts _ hw) (C.ts _ k_nt_System_arraycopy) (C.ts _ k_st_System_arraycopy) (C.ts _ k_in_System) (src := zA (gz g) a) (dst := zA (gz g) b) (cs := vp_cell (gC g 0) (A.length, .inl (la A))) (cd := vp_cell (gC g 0) (B.length, .inl (la B))) (srcPos := nI sp) (destPos := nI dp) (n := nI c) (by rw [hT]; exact hc0) (by rw [hT]; exact hc1)
    (fun _ h => by cases h) (fun _ h => by cases h) (fun h => by cases h) (fun h => by cases h) hk0 hk1 hkk0 hkk1 (by simp [refKind]) (nI_pos (by omega)) (nI_pos (by omega)) (nI_pos (by omega))
    (by rw [n1, n3]; show ¬ _ > ((arrV _ _ _).slots.size : Int); rw [arrV_size]; omega)
    (by rw [n2, n3]; show ¬ _ > ((arrV _ _ _).slots.size : Int); rw [arrV_size]; omega)
    (fun vm₁ _ i hi => by
      rw [m3] at hi
      have e : (vp_cell (gC g 0) (A.length, .inl (la A))).slots.getD ((nI sp).toNatClampNeg + i) .null = .int (la A ((nI sp).toNatClampNeg + i)) := by
        show (arrV _ _ (fun j => .int (la A j))).slots.getD _ _ = _
        rw [Array.getD_eq_getD_getElem?, arrV_read _ _ (by rw [m1]; omega)]
        rfl
      rw [e]
      exact ⟨rfl, trivial⟩)
    (g := F0 (fI f) pc ls (.int (nI c) :: .int (nI dp) :: .ref (zA (gz g) b) :: .int (nI sp) :: .ref (zA (gz g) a) :: st)) rfl (by rw [C.ml]; exact hl.1) (rest := st) rfl (by rw [C.code]; exact d) (by rw [C.room]; exact Nat.le_of_ble_eq_true hfr) (by rw [C.room]; show 2 * 0 + _ + _ ≤ 36 * fr; omega)
  have e1 : copied (vp_cell (gC g 0) (A.length, .inl (la A))) (vp_cell (gC g 0) (B.length, .inl (la B))) (nI sp) (nI dp) (nI c) = vp_cell (gC g 0) (B.length, .inl (va_cpy (la A) (la B) sp dp c)) := by
    have q := va_copied (fun z => Value.int z) (gC g 0) (gC g 0) (n0 := A.length) (n1 := B.length) (sp := (nI sp).toNatClampNeg) (dp := (nI dp).toNatClampNeg) (n := (nI c).toNatClampNeg) (la A) (la B) (by rw [m1, m3]; exact h4)
    refine Eq.trans q ?_
    rw [m1, m2, m3]
    rfl
  rw [e1] at X' step
  have hlt : zA (gz g) b < H.size := (Array.getElem?_eq_some_iff.mp hc1).1
  have hheap : ((T.setVm vm').setCell (zA (gz g) b) (vp_cell (gC g 0) (B.length, .inl (va_cpy (la A) (la B) sp dp c)))).heap = H.setIfInBounds (zA (gz g) b) (vp_cell (gC g 0) (B.length, .inl (va_cpy (la A) (la B) sp dp c))) := by rw [← hT]; rfl
  have oq : ∀ q : Nat, q ≠ zA (gz g) b → (H.setIfInBounds (zA (gz g) b) (vp_cell (gC g 0) (B.length, .inl (va_cpy (la A) (la B) sp dp c))))[q]? = H[q]? := fun q hq => by simp [Array.getElem?_setIfInBounds, Ne.symm hq]
  obtain ⟨t, a1, b1⟩ := k _ _ ls (hR.put hb (e := ia g (cpy A B sp dp c)) (by
      show (H.setIfInBounds (zA (gz g) b) _)[zA (gz g) b]? = some (vp_cell (gC g 0) ((cpy A B sp dp c).length, .inl (la (cpy A B sp dp c))))
      rw [cpy_length h4 h5, ← la_cpy h4 h5]
      simp [Array.getElem?_setIfInBounds, hlt]) (by simp) oq) ⟨by simp; exact hS.1, fun q g1 g2 => by
      rw [oq q (fun e => g2 (by rw [e]; exact zA_zle g b))]
      exact hS.2.1 q g1 g2, fun q hq => by
      rcases List.mem_append.mp hq with h | h
      · exact hS.2.2 q h
      · obtain ⟨z, -, hz⟩ := List.mem_map.mp h
        rw [← hz]
        exact zA_zle g b⟩ hl _ hheap X'
  exact ⟨t, step t a1, b1⟩
end XR
end
