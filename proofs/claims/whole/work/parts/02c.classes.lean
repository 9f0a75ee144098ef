theorem p_se_Tables_enter : Cond.selects R_Tables y_Tables_enter y_Tables_enter ∈ tb := tb_p (y := y_Tables_enter) (n := 2) 0 (by decide +kernel)
theorem p_se_Cipher_expandFrom : Cond.selects R_Cipher y_Cipher_expandFrom y_Cipher_expandFrom ∈ tb := tb_p (y := y_Cipher_expandFrom) (n := 3) 1 (by decide +kernel)
theorem p_se_Cipher_addRoundKey : Cond.selects R_Cipher y_Cipher_addRoundKey y_Cipher_addRoundKey ∈ tb := tb_p (y := y_Cipher_addRoundKey) (n := 3) 2 (by decide +kernel)
theorem p_se_Cipher_substitute : Cond.selects R_Cipher y_Cipher_substitute y_Cipher_substitute ∈ tb := tb_p (y := y_Cipher_substitute) (n := 3) 3 (by decide +kernel)
theorem p_se_Cipher_substituteBack : Cond.selects R_Cipher y_Cipher_substituteBack y_Cipher_substituteBack ∈ tb := tb_p (y := y_Cipher_substituteBack) (n := 3) 5 (by decide +kernel)
theorem p_se_Marked_addStream : Cond.selects R_Marked y_Marked_addStream y_Marked_addStream ∈ tb := tb_p (y := y_Marked_addStream) (n := 6) 6 (by decide +kernel)
theorem p_se_Marked_nextBlock : Cond.selects R_Marked y_Marked_nextBlock y_Marked_nextBlock ∈ tb := tb_p (y := y_Marked_nextBlock) (n := 6) 7 (by decide +kernel)
theorem p_se_Wrapping_lift : Cond.selects R_Wrapping y_Wrapping_lift y_Wrapping_lift ∈ tb := tb_p (y := y_Wrapping_lift) (n := 2) 8 (by decide +kernel)
theorem p_se_Wrapping_addNumber : Cond.selects R_Wrapping y_Wrapping_addNumber y_Wrapping_addNumber ∈ tb := tb_p (y := y_Wrapping_addNumber) (n := 2) 9 (by decide +kernel)
theorem p_se_Wrapping_lay : Cond.selects R_Wrapping y_Wrapping_lay y_Wrapping_lay ∈ tb := tb_p (y := y_Wrapping_lay) (n := 2) 10 (by decide +kernel)
theorem p_se_Model_expand : Cond.selects R_Model y_Model_expand y_Model_expand ∈ tb := tb_p (y := y_Model_expand) (n := 20) 11 (by decide +kernel)
theorem p_se_Model_changed : Cond.selects R_Model y_Model_changed y_Model_changed ∈ tb := tb_p (y := y_Model_changed) (n := 20) 12 (by decide +kernel)
theorem p_se_Model_begin : Cond.selects R_Model y_Model_begin y_Model_begin ∈ tb := tb_p (y := y_Model_begin) (n := 20) 13 (by decide +kernel)
theorem p_se_Model_single : Cond.selects R_Model y_Model_single y_Model_single ∈ tb := tb_p (y := y_Model_single) (n := 20) 14 (by decide +kernel)
theorem p_se_Model_decipher : Cond.selects R_Model y_Model_decipher y_Model_decipher ∈ tb := tb_p (y := y_Model_decipher) (n := 20) 15 (by decide +kernel)
theorem p_se_Model_addKey : Cond.selects R_Model y_Model_addKey y_Model_addKey ∈ tb := tb_p (y := y_Model_addKey) (n := 20) 16 (by decide +kernel)
theorem p_se_Model_encipher : Cond.selects R_Model y_Model_encipher y_Model_encipher ∈ tb := tb_p (y := y_Model_encipher) (n := 20) 17 (by decide +kernel)
theorem p_se_Model_show : Cond.selects R_Model y_Model_show y_Model_show ∈ tb := tb_p (y := y_Model_show) (n := 20) 18 (by decide +kernel)
theorem p_se_Model_markJointly : Cond.selects R_Model y_Model_markJointly y_Model_markJointly ∈ tb := tb_p (y := y_Model_markJointly) (n := 20) 19 (by decide +kernel)
theorem p_se_Model_markText : Cond.selects R_Model y_Model_markText y_Model_markText ∈ tb := tb_p (y := y_Model_markText) (n := 20) 20 (by decide +kernel)
theorem p_se_Model_doubleBlock : Cond.selects R_Model y_Model_doubleBlock y_Model_doubleBlock ∈ tb := tb_p (y := y_Model_doubleBlock) (n := 20) 21 (by decide +kernel)
theorem p_se_Model_doubleSum : Cond.selects R_Model y_Model_doubleSum y_Model_doubleSum ∈ tb := tb_p (y := y_Model_doubleSum) (n := 20) 22 (by decide +kernel)
theorem p_se_Model_sealMarked : Cond.selects R_Model y_Model_sealMarked y_Model_sealMarked ∈ tb := tb_p (y := y_Model_sealMarked) (n := 20) 23 (by decide +kernel)
theorem p_se_Model_cross : Cond.selects R_Model y_Model_cross y_Model_cross ∈ tb := tb_p (y := y_Model_cross) (n := 20) 24 (by decide +kernel)
theorem p_se_Model_front : Cond.selects R_Model y_Model_front y_Model_front ∈ tb := tb_p (y := y_Model_front) (n := 20) 25 (by decide +kernel)
theorem p_se_Model_wrap : Cond.selects R_Model y_Model_wrap y_Model_wrap ∈ tb := tb_p (y := y_Model_wrap) (n := 20) 26 (by decide +kernel)
theorem p_se_Model_number : Cond.selects R_Model y_Model_number y_Model_number ∈ tb := tb_p (y := y_Model_number) (n := 20) 27 (by decide +kernel)
theorem p_se_Model_sealPadded : Cond.selects R_Model y_Model_sealPadded y_Model_sealPadded ∈ tb := tb_p (y := y_Model_sealPadded) (n := 20) 28 (by decide +kernel)
theorem p_se_Model_openMarked : Cond.selects R_Model y_Model_openMarked y_Model_openMarked ∈ tb := tb_p (y := y_Model_openMarked) (n := 20) 29 (by decide +kernel)
theorem p_se_Model_openWrapped : Cond.selects R_Model y_Model_openWrapped y_Model_openWrapped ∈ tb := tb_p (y := y_Model_openWrapped) (n := 20) 30 (by decide +kernel)
theorem p_se_Model_unwrap : Cond.selects R_Model y_Model_unwrap y_Model_unwrap ∈ tb := tb_p (y := y_Model_unwrap) (n := 20) 31 (by decide +kernel)
theorem p_se_Model_dropFront : Cond.selects R_Model y_Model_dropFront y_Model_dropFront ∈ tb := tb_p (y := y_Model_dropFront) (n := 20) 32 (by decide +kernel)
theorem p_se_Model_openPadded : Cond.selects R_Model y_Model_openPadded y_Model_openPadded ∈ tb := tb_p (y := y_Model_openPadded) (n := 20) 33 (by decide +kernel)
/-- a class by its number: name, fields, how many -/
def Tc (ci : Nat) : vw_C := Cls.getD ci ("", fun _ => ("", "", "", false), 0)
theorem Tc_at {ci : Nat} (h : Nat.blt ci Cls.length = true) : Cls[ci]? = some ((Tc ci).1, (Tc ci).2.1, (Tc ci).2.2) := by
  have h1 : ci < Cls.length := Nat.le_of_ble_eq_true h
  unfold Tc
  rw [List.getD_eq_getElem?_getD, List.getElem?_eq_getElem h1]
  rfl
def Tc_ty (ci : Nat) : Nat → FieldType := match ci with
  | 0 => t_Desk
  | 1 => t_Model
  | 2 => t_Cipher
  | 3 => t_Items
  | 4 => t_Marked
  | 5 => t_Marker
  | 6 => t_Padded
  | 7 => t_Row
  | 8 => t_Tables
  | 9 => t_Wrapped
  | _ => t_Wrapping
theorem in_Desk : ∀ w ∈ u_ws R_Desk F_Desk 7, w ∈ tb := by
  intro w hw
  obtain ⟨k, hk, rfl⟩ := List.mem_map.mp hw
  have hk := List.mem_range.mp hk
  rcases (show k = 0 ∨ k = 1 ∨ k = 2 ∨ k = 3 ∨ k = 4 ∨ k = 5 ∨ k = 6 by omega) with rfl | rfl | rfl | rfl | rfl | rfl | rfl
  · exact k_ly_Desk_ciphers
  · exact k_ly_Desk_marker
  · exact k_ly_Desk_ways
  · exact k_ly_Desk_items
  · exact k_ly_Desk_input
  · exact k_ly_Desk_output
  · exact k_ly_Desk_opened
theorem in_Model : ∀ w ∈ u_ws R_Model F_Model 20, w ∈ tb := by
  intro w hw
  obtain ⟨k, hk, rfl⟩ := List.mem_map.mp hw
  have hk := List.mem_range.mp hk
  rcases (show k = 0 ∨ k = 1 ∨ k = 2 ∨ k = 3 ∨ k = 4 ∨ k = 5 ∨ k = 6 ∨ k = 7 ∨ k = 8 ∨ k = 9 ∨ k = 10 ∨ k = 11 ∨ k = 12 ∨ k = 13 ∨ k = 14 ∨ k = 15 ∨ k = 16 ∨ k = 17 ∨ k = 18 ∨ k = 19 by omega) with rfl | rfl | rfl | rfl | rfl | rfl | rfl | rfl | rfl | rfl | rfl | rfl | rfl | rfl | rfl | rfl | rfl | rfl | rfl | rfl
  · exact k_ly_Model_code
  · exact k_ly_Model_words
  · exact k_ly_Model_table
  · exact k_ly_Model_untable
  · exact k_ly_Model_inputs
  · exact k_ly_Model_input
  · exact k_ly_Model_outputs
  · exact k_ly_Model_output
  · exact k_ly_Model_items
  · exact k_ly_Model_itemSize
  · exact k_ly_Model_itemBytes
  · exact k_ly_Model_block
  · exact k_ly_Model_moved
  · exact k_ly_Model_rows
  · exact k_ly_Model_row
  · exact k_ly_Model_longs
  · exact k_ly_Model_text
  · exact k_ly_Model_made
  · exact k_ly_Model_sum
  · exact k_ly_Model_kept
theorem in_Cipher : ∀ w ∈ u_ws R_Cipher F_Cipher 3, w ∈ tb := by
  intro w hw
  obtain ⟨k, hk, rfl⟩ := List.mem_map.mp hw
  have hk := List.mem_range.mp hk
  rcases (show k = 0 ∨ k = 1 ∨ k = 2 by omega) with rfl | rfl | rfl
  · exact k_ly_Cipher_tables
  · exact k_ly_Cipher_roundKeys
  · exact k_ly_Cipher_before
theorem in_Items : ∀ w ∈ u_ws R_Items F_Items 2, w ∈ tb := by
  intro w hw
  obtain ⟨k, hk, rfl⟩ := List.mem_map.mp hw
  have hk := List.mem_range.mp hk
  rcases (show k = 0 ∨ k = 1 by omega) with rfl | rfl
  · exact k_ly_Items_rows
  · exact k_ly_Items_count
theorem in_Marked : ∀ w ∈ u_ws R_Marked F_Marked 6, w ∈ tb := by
  intro w hw
  obtain ⟨k, hk, rfl⟩ := List.mem_map.mp hw
  have hk := List.mem_range.mp hk
  rcases (show k = 0 ∨ k = 1 ∨ k = 2 ∨ k = 3 ∨ k = 4 ∨ k = 5 by omega) with rfl | rfl | rfl | rfl | rfl | rfl
  · exact k_ly_Marked_marker
  · exact k_ly_Marked_items
  · exact k_ly_Marked_cipher
  · exact k_ly_Marked_sign
  · exact k_ly_Marked_counter
  · exact k_ly_Marked_block
theorem in_Marker : ∀ w ∈ u_ws R_Marker F_Marker 4, w ∈ tb := by
  intro w hw
  obtain ⟨k, hk, rfl⟩ := List.mem_map.mp hw
  have hk := List.mem_range.mp hk
  rcases (show k = 0 ∨ k = 1 ∨ k = 2 ∨ k = 3 by omega) with rfl | rfl | rfl | rfl
  · exact k_ly_Marker_cipher
  · exact k_ly_Marker_twist
  · exact k_ly_Marker_sum
  · exact k_ly_Marker_joined
theorem in_Padded : ∀ w ∈ u_ws R_Padded F_Padded 2, w ∈ tb := by
  intro w hw
  obtain ⟨k, hk, rfl⟩ := List.mem_map.mp hw
  have hk := List.mem_range.mp hk
  rcases (show k = 0 ∨ k = 1 by omega) with rfl | rfl
  · exact k_ly_Padded_wrapping
  · exact k_ly_Padded_cipher
theorem in_Row : ∀ w ∈ u_ws R_Row F_Row 2, w ∈ tb := by
  intro w hw
  obtain ⟨k, hk, rfl⟩ := List.mem_map.mp hw
  have hk := List.mem_range.mp hk
  rcases (show k = 0 ∨ k = 1 by omega) with rfl | rfl
  · exact k_ly_Row_bytes
  · exact k_ly_Row_length
theorem in_Tables : ∀ w ∈ u_ws R_Tables F_Tables 2, w ∈ tb := by
  intro w hw
  obtain ⟨k, hk, rfl⟩ := List.mem_map.mp hw
  have hk := List.mem_range.mp hk
  rcases (show k = 0 ∨ k = 1 by omega) with rfl | rfl
  · exact k_ly_Tables_forth
  · exact k_ly_Tables_back
theorem in_Wrapped : ∀ w ∈ u_ws R_Wrapped F_Wrapped 1, w ∈ tb := by
  intro w hw
  obtain ⟨k, hk, rfl⟩ := List.mem_map.mp hw
  have hk := List.mem_range.mp hk
  rcases (show k = 0 by omega) with rfl
  · exact k_ly_Wrapped_wrapping
theorem in_Wrapping : ∀ w ∈ u_ws R_Wrapping F_Wrapping 2, w ∈ tb := by
  intro w hw
  obtain ⟨k, hk, rfl⟩ := List.mem_map.mp hw
  have hk := List.mem_range.mp hk
  rcases (show k = 0 ∨ k = 1 by omega) with rfl | rfl
  · exact k_ly_Wrapping_cipher
  · exact k_ly_Wrapping_block
theorem Tc_in {ci : Nat} (h : Nat.blt ci Cls.length = true) : ∀ w ∈ u_ws (Tc ci).1 (Tc ci).2.1 (Tc ci).2.2, w ∈ tb := by
  have h1 : ci < 11 := Nat.le_of_ble_eq_true h
  match ci, h1 with
  | 0, _ => exact in_Desk
  | 1, _ => exact in_Model
  | 2, _ => exact in_Cipher
  | 3, _ => exact in_Items
  | 4, _ => exact in_Marked
  | 5, _ => exact in_Marker
  | 6, _ => exact in_Padded
  | 7, _ => exact in_Row
  | 8, _ => exact in_Tables
  | 9, _ => exact in_Wrapped
  | 10, _ => exact in_Wrapping
theorem Tc_tyok {ci : Nat} (h : Nat.blt ci Cls.length = true) : ∀ k, k < (Tc ci).2.2 → parseFieldDescriptor ((Tc ci).2.1 k).2.2.1 = some (Tc_ty ci k) := by
  have h1 : ci < 11 := Nat.le_of_ble_eq_true h
  match ci, h1 with
  | 0, _ => exact t_Desk_ok
  | 1, _ => exact t_Model_ok
  | 2, _ => exact t_Cipher_ok
  | 3, _ => exact t_Items_ok
  | 4, _ => exact t_Marked_ok
  | 5, _ => exact t_Marker_ok
  | 6, _ => exact t_Padded_ok
  | 7, _ => exact t_Row_ok
  | 8, _ => exact t_Tables_ok
  | 9, _ => exact t_Wrapped_ok
  | 10, _ => exact t_Wrapping_ok
theorem Tc_nm {ci : Nat} (h : Nat.blt ci Cls.length = true) : ∀ a, a < (Tc ci).2.2 → ∀ b, b < (Tc ci).2.2 → a ≠ b → ((Tc ci).2.1 a).2.1 ≠ ((Tc ci).2.1 b).2.1 := by
  have h1 : ci < 11 := Nat.le_of_ble_eq_true h
  match ci, h1 with
  | 0, _ => exact n_Desk
  | 1, _ => exact n_Model
  | 2, _ => exact n_Cipher
  | 3, _ => exact n_Items
  | 4, _ => exact n_Marked
  | 5, _ => exact n_Marker
  | 6, _ => exact n_Padded
  | 7, _ => exact n_Row
  | 8, _ => exact n_Tables
  | 9, _ => exact n_Wrapped
  | 10, _ => exact n_Wrapping
