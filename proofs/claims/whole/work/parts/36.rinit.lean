/-! THE REFERENCE IS MADE -/
abbrev e_Mo (b : Nat) : ac_H := [.inr (8, [.int 0, .int 0, .int 0, .ref (b + 1), .ref (b + 2), .ref (b + 3), .ref (b + 4), .ref (b + 5), .ref (b + 6), .ref (b + 7), .ref (b + 8), .ref (b + 9), .ref (b + 10), .ref (b + 11), .ref (b + 12), .ref (b + 13), .ref (b + 14), .ref (b + 15), .ref (b + 16), .ref (b + 17), .int 0, .ref (b + 18), .ref (b + 19), .ref (b + 20), .ref (b + 21), .ref (b + 22), .int 0, .ref (b + 23), .ref (b + 24), .int 0, .ref (b + 25)]), z_arr 2, z_arr 2, z_arr 2, z_arr 2, z_arr 2, z_arr 2, z_arr 2, z_arr 10, z_arr 2, z_arr 10, z_arr 10, z_arr 10, z_arr 10, z_arr 10, z_arr 10, z_arr 10, z_arr 10, z_arr 5, z_arr 5, z_arr 4, z_arr 24, z_arr 24, z_arr 600, z_arr 600, z_arr 600]
theorem c_Mo_init {l : Launch} (htr : l.stackTraces = false) {d : Nat} (hd : 1 ≤ d) (h0 : ac_H) : ac_Mt l d m_Mo_init (.ref h0.length :: []) (h0 ++ [.inr (8, [.int 0, .int 0, .int 0, .null, .null, .null, .null, .null, .null, .null, .null, .null, .null, .null, .null, .null, .null, .null, .null, .null, .int 0, .null, .null, .null, .null, .null, .int 0, .null, .null, .int 0, .null])]) 25 1968 (fun r h' => r = .inl none ∧ h' = h0 ++ e_Mo h0.length) := by
  refine ac_enter (by decide) rfl htr (fun _ => Nat.le_of_ble_eq_true rfl) ?_
  refine r_aload_n d_Mo_init_0 rfl ?_
  refine r_objInit d_Mo_init_1 oi_Mo_1 oi_1 oi_2 (by omega) (Nat.le_of_ble_eq_true rfl) ?_
  refine r_aload_n d_Mo_init_4 rfl ?_
  refine r_iconst 2 d_Mo_init_5 (by decide) ?_
  refine r_ri (show (2 : Int32) = nI 2 by decide) ?_
  refine r_newarrayIA (h0 := h0) d_Mo_init_6 ar_I (by decide) (Nat.le_of_ble_eq_true rfl) (Nat.le_of_ble_eq_true rfl) ?_
  refine r_putfieldFA (h0 := h0) 0 d_Mo_init_8 f_Mo_7 rfl (Nat.le_of_ble_eq_true rfl) (fun _ => rfl) (fun _ => rfl) rfl (fun _ _ _ e9 => by cases e9; rfl) ?_
  refine r_hp (h' := h0 ++ [.inr (8, [.int 0, .int 0, .int 0, .ref (h0.length + 1), .null, .null, .null, .null, .null, .null, .null, .null, .null, .null, .null, .null, .null, .null, .null, .null, .int 0, .null, .null, .null, .null, .null, .int 0, .null, .null, .int 0, .null]), z_arr 2]) rfl ?_
  refine r_pc 11 rfl ?_
  refine r_aload_n d_Mo_init_11 rfl ?_
  refine r_iconst 2 d_Mo_init_12 (by decide) ?_
  refine r_ri (show (2 : Int32) = nI 2 by decide) ?_
  refine r_newarrayIA (h0 := h0) d_Mo_init_13 ar_I (by decide) (Nat.le_of_ble_eq_true rfl) (Nat.le_of_ble_eq_true rfl) ?_
  refine r_putfieldFA (h0 := h0) 0 d_Mo_init_15 f_Mo_13 rfl (Nat.le_of_ble_eq_true rfl) (fun _ => rfl) (fun _ => rfl) rfl (fun _ _ _ e9 => by cases e9; rfl) ?_
  refine r_hp (h' := h0 ++ [.inr (8, [.int 0, .int 0, .int 0, .ref (h0.length + 1), .ref (h0.length + 2), .null, .null, .null, .null, .null, .null, .null, .null, .null, .null, .null, .null, .null, .null, .null, .int 0, .null, .null, .null, .null, .null, .int 0, .null, .null, .int 0, .null]), z_arr 2, z_arr 2]) rfl ?_
  refine r_pc 18 rfl ?_
  refine r_aload_n d_Mo_init_18 rfl ?_
  refine r_iconst 2 d_Mo_init_19 (by decide) ?_
  refine r_ri (show (2 : Int32) = nI 2 by decide) ?_
  refine r_newarrayIA (h0 := h0) d_Mo_init_20 ar_I (by decide) (Nat.le_of_ble_eq_true rfl) (Nat.le_of_ble_eq_true rfl) ?_
  refine r_putfieldFA (h0 := h0) 0 d_Mo_init_22 f_Mo_16 rfl (Nat.le_of_ble_eq_true rfl) (fun _ => rfl) (fun _ => rfl) rfl (fun _ _ _ e9 => by cases e9; rfl) ?_
  refine r_hp (h' := h0 ++ [.inr (8, [.int 0, .int 0, .int 0, .ref (h0.length + 1), .ref (h0.length + 2), .ref (h0.length + 3), .null, .null, .null, .null, .null, .null, .null, .null, .null, .null, .null, .null, .null, .null, .int 0, .null, .null, .null, .null, .null, .int 0, .null, .null, .int 0, .null]), z_arr 2, z_arr 2, z_arr 2]) rfl ?_
  refine r_pc 25 rfl ?_
  refine r_aload_n d_Mo_init_25 rfl ?_
  refine r_iconst 2 d_Mo_init_26 (by decide) ?_
  refine r_ri (show (2 : Int32) = nI 2 by decide) ?_
  refine r_newarrayIA (h0 := h0) d_Mo_init_27 ar_I (by decide) (Nat.le_of_ble_eq_true rfl) (Nat.le_of_ble_eq_true rfl) ?_
  refine r_putfieldFA (h0 := h0) 0 d_Mo_init_29 f_Mo_19 rfl (Nat.le_of_ble_eq_true rfl) (fun _ => rfl) (fun _ => rfl) rfl (fun _ _ _ e9 => by cases e9; rfl) ?_
  refine r_hp (h' := h0 ++ [.inr (8, [.int 0, .int 0, .int 0, .ref (h0.length + 1), .ref (h0.length + 2), .ref (h0.length + 3), .ref (h0.length + 4), .null, .null, .null, .null, .null, .null, .null, .null, .null, .null, .null, .null, .null, .int 0, .null, .null, .null, .null, .null, .int 0, .null, .null, .int 0, .null]), z_arr 2, z_arr 2, z_arr 2, z_arr 2]) rfl ?_
  refine r_pc 32 rfl ?_
  refine r_aload_n d_Mo_init_32 rfl ?_
  refine r_iconst 2 d_Mo_init_33 (by decide) ?_
  refine r_ri (show (2 : Int32) = nI 2 by decide) ?_
  refine r_newarrayIA (h0 := h0) d_Mo_init_34 ar_I (by decide) (Nat.le_of_ble_eq_true rfl) (Nat.le_of_ble_eq_true rfl) ?_
  refine r_putfieldFA (h0 := h0) 0 d_Mo_init_36 f_Mo_22 rfl (Nat.le_of_ble_eq_true rfl) (fun _ => rfl) (fun _ => rfl) rfl (fun _ _ _ e9 => by cases e9; rfl) ?_
  refine r_hp (h' := h0 ++ [.inr (8, [.int 0, .int 0, .int 0, .ref (h0.length + 1), .ref (h0.length + 2), .ref (h0.length + 3), .ref (h0.length + 4), .ref (h0.length + 5), .null, .null, .null, .null, .null, .null, .null, .null, .null, .null, .null, .null, .int 0, .null, .null, .null, .null, .null, .int 0, .null, .null, .int 0, .null]), z_arr 2, z_arr 2, z_arr 2, z_arr 2, z_arr 2]) rfl ?_
  refine r_pc 39 rfl ?_
  refine r_aload_n d_Mo_init_39 rfl ?_
  refine r_iconst 2 d_Mo_init_40 (by decide) ?_
  refine r_ri (show (2 : Int32) = nI 2 by decide) ?_
  refine r_newarrayIA (h0 := h0) d_Mo_init_41 ar_I (by decide) (Nat.le_of_ble_eq_true rfl) (Nat.le_of_ble_eq_true rfl) ?_
  refine r_putfieldFA (h0 := h0) 0 d_Mo_init_43 f_Mo_25 rfl (Nat.le_of_ble_eq_true rfl) (fun _ => rfl) (fun _ => rfl) rfl (fun _ _ _ e9 => by cases e9; rfl) ?_
  refine r_hp (h' := h0 ++ [.inr (8, [.int 0, .int 0, .int 0, .ref (h0.length + 1), .ref (h0.length + 2), .ref (h0.length + 3), .ref (h0.length + 4), .ref (h0.length + 5), .ref (h0.length + 6), .null, .null, .null, .null, .null, .null, .null, .null, .null, .null, .null, .int 0, .null, .null, .null, .null, .null, .int 0, .null, .null, .int 0, .null]), z_arr 2, z_arr 2, z_arr 2, z_arr 2, z_arr 2, z_arr 2]) rfl ?_
  refine r_pc 46 rfl ?_
  refine r_aload_n d_Mo_init_46 rfl ?_
  refine r_iconst 2 d_Mo_init_47 (by decide) ?_
  refine r_ri (show (2 : Int32) = nI 2 by decide) ?_
  refine r_newarrayIA (h0 := h0) d_Mo_init_48 ar_I (by decide) (Nat.le_of_ble_eq_true rfl) (Nat.le_of_ble_eq_true rfl) ?_
  refine r_putfieldFA (h0 := h0) 0 d_Mo_init_50 f_Mo_28 rfl (Nat.le_of_ble_eq_true rfl) (fun _ => rfl) (fun _ => rfl) rfl (fun _ _ _ e9 => by cases e9; rfl) ?_
  refine r_hp (h' := h0 ++ [.inr (8, [.int 0, .int 0, .int 0, .ref (h0.length + 1), .ref (h0.length + 2), .ref (h0.length + 3), .ref (h0.length + 4), .ref (h0.length + 5), .ref (h0.length + 6), .ref (h0.length + 7), .null, .null, .null, .null, .null, .null, .null, .null, .null, .null, .int 0, .null, .null, .null, .null, .null, .int 0, .null, .null, .int 0, .null]), z_arr 2, z_arr 2, z_arr 2, z_arr 2, z_arr 2, z_arr 2, z_arr 2]) rfl ?_
  refine r_pc 53 rfl ?_
  refine r_aload_n d_Mo_init_53 rfl ?_
  refine r_bipush 10 d_Mo_init_54 (by decide) ?_
  refine r_ri (show (10 : Int32) = nI 10 by decide) ?_
  refine r_newarrayIA (h0 := h0) d_Mo_init_56 ar_I (by decide) (Nat.le_of_ble_eq_true rfl) (Nat.le_of_ble_eq_true rfl) ?_
  refine r_putfieldFA (h0 := h0) 0 d_Mo_init_58 f_Mo_31 rfl (Nat.le_of_ble_eq_true rfl) (fun _ => rfl) (fun _ => rfl) rfl (fun _ _ _ e9 => by cases e9; rfl) ?_
  refine r_hp (h' := h0 ++ [.inr (8, [.int 0, .int 0, .int 0, .ref (h0.length + 1), .ref (h0.length + 2), .ref (h0.length + 3), .ref (h0.length + 4), .ref (h0.length + 5), .ref (h0.length + 6), .ref (h0.length + 7), .ref (h0.length + 8), .null, .null, .null, .null, .null, .null, .null, .null, .null, .int 0, .null, .null, .null, .null, .null, .int 0, .null, .null, .int 0, .null]), z_arr 2, z_arr 2, z_arr 2, z_arr 2, z_arr 2, z_arr 2, z_arr 2, z_arr 10]) rfl ?_
  refine r_pc 61 rfl ?_
  refine r_aload_n d_Mo_init_61 rfl ?_
  refine r_iconst 2 d_Mo_init_62 (by decide) ?_
  refine r_ri (show (2 : Int32) = nI 2 by decide) ?_
  refine r_newarrayIA (h0 := h0) d_Mo_init_63 ar_I (by decide) (Nat.le_of_ble_eq_true rfl) (Nat.le_of_ble_eq_true rfl) ?_
  refine r_putfieldFA (h0 := h0) 0 d_Mo_init_65 f_Mo_34 rfl (Nat.le_of_ble_eq_true rfl) (fun _ => rfl) (fun _ => rfl) rfl (fun _ _ _ e9 => by cases e9; rfl) ?_
  refine r_hp (h' := h0 ++ [.inr (8, [.int 0, .int 0, .int 0, .ref (h0.length + 1), .ref (h0.length + 2), .ref (h0.length + 3), .ref (h0.length + 4), .ref (h0.length + 5), .ref (h0.length + 6), .ref (h0.length + 7), .ref (h0.length + 8), .ref (h0.length + 9), .null, .null, .null, .null, .null, .null, .null, .null, .int 0, .null, .null, .null, .null, .null, .int 0, .null, .null, .int 0, .null]), z_arr 2, z_arr 2, z_arr 2, z_arr 2, z_arr 2, z_arr 2, z_arr 2, z_arr 10, z_arr 2]) rfl ?_
  refine r_pc 68 rfl ?_
  refine r_aload_n d_Mo_init_68 rfl ?_
  refine r_bipush 10 d_Mo_init_69 (by decide) ?_
  refine r_ri (show (10 : Int32) = nI 10 by decide) ?_
  refine r_newarrayIA (h0 := h0) d_Mo_init_71 ar_I (by decide) (Nat.le_of_ble_eq_true rfl) (Nat.le_of_ble_eq_true rfl) ?_
  refine r_putfieldFA (h0 := h0) 0 d_Mo_init_73 f_Mo_37 rfl (Nat.le_of_ble_eq_true rfl) (fun _ => rfl) (fun _ => rfl) rfl (fun _ _ _ e9 => by cases e9; rfl) ?_
  refine r_hp (h' := h0 ++ [.inr (8, [.int 0, .int 0, .int 0, .ref (h0.length + 1), .ref (h0.length + 2), .ref (h0.length + 3), .ref (h0.length + 4), .ref (h0.length + 5), .ref (h0.length + 6), .ref (h0.length + 7), .ref (h0.length + 8), .ref (h0.length + 9), .ref (h0.length + 10), .null, .null, .null, .null, .null, .null, .null, .int 0, .null, .null, .null, .null, .null, .int 0, .null, .null, .int 0, .null]), z_arr 2, z_arr 2, z_arr 2, z_arr 2, z_arr 2, z_arr 2, z_arr 2, z_arr 10, z_arr 2, z_arr 10]) rfl ?_
  refine r_pc 76 rfl ?_
  refine r_aload_n d_Mo_init_76 rfl ?_
  refine r_bipush 10 d_Mo_init_77 (by decide) ?_
  refine r_ri (show (10 : Int32) = nI 10 by decide) ?_
  refine r_newarrayIA (h0 := h0) d_Mo_init_79 ar_I (by decide) (Nat.le_of_ble_eq_true rfl) (Nat.le_of_ble_eq_true rfl) ?_
  refine r_putfieldFA (h0 := h0) 0 d_Mo_init_81 f_Mo_40 rfl (Nat.le_of_ble_eq_true rfl) (fun _ => rfl) (fun _ => rfl) rfl (fun _ _ _ e9 => by cases e9; rfl) ?_
  refine r_hp (h' := h0 ++ [.inr (8, [.int 0, .int 0, .int 0, .ref (h0.length + 1), .ref (h0.length + 2), .ref (h0.length + 3), .ref (h0.length + 4), .ref (h0.length + 5), .ref (h0.length + 6), .ref (h0.length + 7), .ref (h0.length + 8), .ref (h0.length + 9), .ref (h0.length + 10), .ref (h0.length + 11), .null, .null, .null, .null, .null, .null, .int 0, .null, .null, .null, .null, .null, .int 0, .null, .null, .int 0, .null]), z_arr 2, z_arr 2, z_arr 2, z_arr 2, z_arr 2, z_arr 2, z_arr 2, z_arr 10, z_arr 2, z_arr 10, z_arr 10]) rfl ?_
  refine r_pc 84 rfl ?_
  refine r_aload_n d_Mo_init_84 rfl ?_
  refine r_bipush 10 d_Mo_init_85 (by decide) ?_
  refine r_ri (show (10 : Int32) = nI 10 by decide) ?_
  refine r_newarrayIA (h0 := h0) d_Mo_init_87 ar_I (by decide) (Nat.le_of_ble_eq_true rfl) (Nat.le_of_ble_eq_true rfl) ?_
  refine r_putfieldFA (h0 := h0) 0 d_Mo_init_89 f_Mo_43 rfl (Nat.le_of_ble_eq_true rfl) (fun _ => rfl) (fun _ => rfl) rfl (fun _ _ _ e9 => by cases e9; rfl) ?_
  refine r_hp (h' := h0 ++ [.inr (8, [.int 0, .int 0, .int 0, .ref (h0.length + 1), .ref (h0.length + 2), .ref (h0.length + 3), .ref (h0.length + 4), .ref (h0.length + 5), .ref (h0.length + 6), .ref (h0.length + 7), .ref (h0.length + 8), .ref (h0.length + 9), .ref (h0.length + 10), .ref (h0.length + 11), .ref (h0.length + 12), .null, .null, .null, .null, .null, .int 0, .null, .null, .null, .null, .null, .int 0, .null, .null, .int 0, .null]), z_arr 2, z_arr 2, z_arr 2, z_arr 2, z_arr 2, z_arr 2, z_arr 2, z_arr 10, z_arr 2, z_arr 10, z_arr 10, z_arr 10]) rfl ?_
  refine r_pc 92 rfl ?_
  refine r_aload_n d_Mo_init_92 rfl ?_
  refine r_bipush 10 d_Mo_init_93 (by decide) ?_
  refine r_ri (show (10 : Int32) = nI 10 by decide) ?_
  refine r_newarrayIA (h0 := h0) d_Mo_init_95 ar_I (by decide) (Nat.le_of_ble_eq_true rfl) (Nat.le_of_ble_eq_true rfl) ?_
  refine r_putfieldFA (h0 := h0) 0 d_Mo_init_97 f_Mo_46 rfl (Nat.le_of_ble_eq_true rfl) (fun _ => rfl) (fun _ => rfl) rfl (fun _ _ _ e9 => by cases e9; rfl) ?_
  refine r_hp (h' := h0 ++ [.inr (8, [.int 0, .int 0, .int 0, .ref (h0.length + 1), .ref (h0.length + 2), .ref (h0.length + 3), .ref (h0.length + 4), .ref (h0.length + 5), .ref (h0.length + 6), .ref (h0.length + 7), .ref (h0.length + 8), .ref (h0.length + 9), .ref (h0.length + 10), .ref (h0.length + 11), .ref (h0.length + 12), .ref (h0.length + 13), .null, .null, .null, .null, .int 0, .null, .null, .null, .null, .null, .int 0, .null, .null, .int 0, .null]), z_arr 2, z_arr 2, z_arr 2, z_arr 2, z_arr 2, z_arr 2, z_arr 2, z_arr 10, z_arr 2, z_arr 10, z_arr 10, z_arr 10, z_arr 10]) rfl ?_
  refine r_pc 100 rfl ?_
  refine r_aload_n d_Mo_init_100 rfl ?_
  refine r_bipush 10 d_Mo_init_101 (by decide) ?_
  refine r_ri (show (10 : Int32) = nI 10 by decide) ?_
  refine r_newarrayIA (h0 := h0) d_Mo_init_103 ar_I (by decide) (Nat.le_of_ble_eq_true rfl) (Nat.le_of_ble_eq_true rfl) ?_
  refine r_putfieldFA (h0 := h0) 0 d_Mo_init_105 f_Mo_49 rfl (Nat.le_of_ble_eq_true rfl) (fun _ => rfl) (fun _ => rfl) rfl (fun _ _ _ e9 => by cases e9; rfl) ?_
  refine r_hp (h' := h0 ++ [.inr (8, [.int 0, .int 0, .int 0, .ref (h0.length + 1), .ref (h0.length + 2), .ref (h0.length + 3), .ref (h0.length + 4), .ref (h0.length + 5), .ref (h0.length + 6), .ref (h0.length + 7), .ref (h0.length + 8), .ref (h0.length + 9), .ref (h0.length + 10), .ref (h0.length + 11), .ref (h0.length + 12), .ref (h0.length + 13), .ref (h0.length + 14), .null, .null, .null, .int 0, .null, .null, .null, .null, .null, .int 0, .null, .null, .int 0, .null]), z_arr 2, z_arr 2, z_arr 2, z_arr 2, z_arr 2, z_arr 2, z_arr 2, z_arr 10, z_arr 2, z_arr 10, z_arr 10, z_arr 10, z_arr 10, z_arr 10]) rfl ?_
  refine r_pc 108 rfl ?_
  refine r_aload_n d_Mo_init_108 rfl ?_
  refine r_bipush 10 d_Mo_init_109 (by decide) ?_
  refine r_ri (show (10 : Int32) = nI 10 by decide) ?_
  refine r_newarrayIA (h0 := h0) d_Mo_init_111 ar_I (by decide) (Nat.le_of_ble_eq_true rfl) (Nat.le_of_ble_eq_true rfl) ?_
  refine r_putfieldFA (h0 := h0) 0 d_Mo_init_113 f_Mo_52 rfl (Nat.le_of_ble_eq_true rfl) (fun _ => rfl) (fun _ => rfl) rfl (fun _ _ _ e9 => by cases e9; rfl) ?_
  refine r_hp (h' := h0 ++ [.inr (8, [.int 0, .int 0, .int 0, .ref (h0.length + 1), .ref (h0.length + 2), .ref (h0.length + 3), .ref (h0.length + 4), .ref (h0.length + 5), .ref (h0.length + 6), .ref (h0.length + 7), .ref (h0.length + 8), .ref (h0.length + 9), .ref (h0.length + 10), .ref (h0.length + 11), .ref (h0.length + 12), .ref (h0.length + 13), .ref (h0.length + 14), .ref (h0.length + 15), .null, .null, .int 0, .null, .null, .null, .null, .null, .int 0, .null, .null, .int 0, .null]), z_arr 2, z_arr 2, z_arr 2, z_arr 2, z_arr 2, z_arr 2, z_arr 2, z_arr 10, z_arr 2, z_arr 10, z_arr 10, z_arr 10, z_arr 10, z_arr 10, z_arr 10]) rfl ?_
  refine r_pc 116 rfl ?_
  refine r_aload_n d_Mo_init_116 rfl ?_
  refine r_bipush 10 d_Mo_init_117 (by decide) ?_
  refine r_ri (show (10 : Int32) = nI 10 by decide) ?_
  refine r_newarrayIA (h0 := h0) d_Mo_init_119 ar_I (by decide) (Nat.le_of_ble_eq_true rfl) (Nat.le_of_ble_eq_true rfl) ?_
  refine r_putfieldFA (h0 := h0) 0 d_Mo_init_121 f_Mo_55 rfl (Nat.le_of_ble_eq_true rfl) (fun _ => rfl) (fun _ => rfl) rfl (fun _ _ _ e9 => by cases e9; rfl) ?_
  refine r_hp (h' := h0 ++ [.inr (8, [.int 0, .int 0, .int 0, .ref (h0.length + 1), .ref (h0.length + 2), .ref (h0.length + 3), .ref (h0.length + 4), .ref (h0.length + 5), .ref (h0.length + 6), .ref (h0.length + 7), .ref (h0.length + 8), .ref (h0.length + 9), .ref (h0.length + 10), .ref (h0.length + 11), .ref (h0.length + 12), .ref (h0.length + 13), .ref (h0.length + 14), .ref (h0.length + 15), .ref (h0.length + 16), .null, .int 0, .null, .null, .null, .null, .null, .int 0, .null, .null, .int 0, .null]), z_arr 2, z_arr 2, z_arr 2, z_arr 2, z_arr 2, z_arr 2, z_arr 2, z_arr 10, z_arr 2, z_arr 10, z_arr 10, z_arr 10, z_arr 10, z_arr 10, z_arr 10, z_arr 10]) rfl ?_
  refine r_pc 124 rfl ?_
  refine r_aload_n d_Mo_init_124 rfl ?_
  refine r_bipush 10 d_Mo_init_125 (by decide) ?_
  refine r_ri (show (10 : Int32) = nI 10 by decide) ?_
  refine r_newarrayIA (h0 := h0) d_Mo_init_127 ar_I (by decide) (Nat.le_of_ble_eq_true rfl) (Nat.le_of_ble_eq_true rfl) ?_
  refine r_putfieldFA (h0 := h0) 0 d_Mo_init_129 f_Mo_58 rfl (Nat.le_of_ble_eq_true rfl) (fun _ => rfl) (fun _ => rfl) rfl (fun _ _ _ e9 => by cases e9; rfl) ?_
  refine r_hp (h' := h0 ++ [.inr (8, [.int 0, .int 0, .int 0, .ref (h0.length + 1), .ref (h0.length + 2), .ref (h0.length + 3), .ref (h0.length + 4), .ref (h0.length + 5), .ref (h0.length + 6), .ref (h0.length + 7), .ref (h0.length + 8), .ref (h0.length + 9), .ref (h0.length + 10), .ref (h0.length + 11), .ref (h0.length + 12), .ref (h0.length + 13), .ref (h0.length + 14), .ref (h0.length + 15), .ref (h0.length + 16), .ref (h0.length + 17), .int 0, .null, .null, .null, .null, .null, .int 0, .null, .null, .int 0, .null]), z_arr 2, z_arr 2, z_arr 2, z_arr 2, z_arr 2, z_arr 2, z_arr 2, z_arr 10, z_arr 2, z_arr 10, z_arr 10, z_arr 10, z_arr 10, z_arr 10, z_arr 10, z_arr 10, z_arr 10]) rfl ?_
  refine r_pc 132 rfl ?_
  refine r_aload_n d_Mo_init_132 rfl ?_
  refine r_iconst 5 d_Mo_init_133 (by decide) ?_
  refine r_ri (show (5 : Int32) = nI 5 by decide) ?_
  refine r_newarrayIA (h0 := h0) d_Mo_init_134 ar_I (by decide) (Nat.le_of_ble_eq_true rfl) (Nat.le_of_ble_eq_true rfl) ?_
  refine r_putfieldFA (h0 := h0) 0 d_Mo_init_136 f_Mo_61 rfl (Nat.le_of_ble_eq_true rfl) (fun _ => rfl) (fun _ => rfl) rfl (fun _ _ _ e9 => by cases e9; rfl) ?_
  refine r_hp (h' := h0 ++ [.inr (8, [.int 0, .int 0, .int 0, .ref (h0.length + 1), .ref (h0.length + 2), .ref (h0.length + 3), .ref (h0.length + 4), .ref (h0.length + 5), .ref (h0.length + 6), .ref (h0.length + 7), .ref (h0.length + 8), .ref (h0.length + 9), .ref (h0.length + 10), .ref (h0.length + 11), .ref (h0.length + 12), .ref (h0.length + 13), .ref (h0.length + 14), .ref (h0.length + 15), .ref (h0.length + 16), .ref (h0.length + 17), .int 0, .ref (h0.length + 18), .null, .null, .null, .null, .int 0, .null, .null, .int 0, .null]), z_arr 2, z_arr 2, z_arr 2, z_arr 2, z_arr 2, z_arr 2, z_arr 2, z_arr 10, z_arr 2, z_arr 10, z_arr 10, z_arr 10, z_arr 10, z_arr 10, z_arr 10, z_arr 10, z_arr 10, z_arr 5]) rfl ?_
  refine r_pc 139 rfl ?_
  refine r_aload_n d_Mo_init_139 rfl ?_
  refine r_iconst 5 d_Mo_init_140 (by decide) ?_
  refine r_ri (show (5 : Int32) = nI 5 by decide) ?_
  refine r_newarrayIA (h0 := h0) d_Mo_init_141 ar_I (by decide) (Nat.le_of_ble_eq_true rfl) (Nat.le_of_ble_eq_true rfl) ?_
  refine r_putfieldFA (h0 := h0) 0 d_Mo_init_143 f_Mo_64 rfl (Nat.le_of_ble_eq_true rfl) (fun _ => rfl) (fun _ => rfl) rfl (fun _ _ _ e9 => by cases e9; rfl) ?_
  refine r_hp (h' := h0 ++ [.inr (8, [.int 0, .int 0, .int 0, .ref (h0.length + 1), .ref (h0.length + 2), .ref (h0.length + 3), .ref (h0.length + 4), .ref (h0.length + 5), .ref (h0.length + 6), .ref (h0.length + 7), .ref (h0.length + 8), .ref (h0.length + 9), .ref (h0.length + 10), .ref (h0.length + 11), .ref (h0.length + 12), .ref (h0.length + 13), .ref (h0.length + 14), .ref (h0.length + 15), .ref (h0.length + 16), .ref (h0.length + 17), .int 0, .ref (h0.length + 18), .ref (h0.length + 19), .null, .null, .null, .int 0, .null, .null, .int 0, .null]), z_arr 2, z_arr 2, z_arr 2, z_arr 2, z_arr 2, z_arr 2, z_arr 2, z_arr 10, z_arr 2, z_arr 10, z_arr 10, z_arr 10, z_arr 10, z_arr 10, z_arr 10, z_arr 10, z_arr 10, z_arr 5, z_arr 5]) rfl ?_
  refine r_pc 146 rfl ?_
  refine r_aload_n d_Mo_init_146 rfl ?_
  refine r_iconst 4 d_Mo_init_147 (by decide) ?_
  refine r_ri (show (4 : Int32) = nI 4 by decide) ?_
  refine r_newarrayIA (h0 := h0) d_Mo_init_148 ar_I (by decide) (Nat.le_of_ble_eq_true rfl) (Nat.le_of_ble_eq_true rfl) ?_
  refine r_putfieldFA (h0 := h0) 0 d_Mo_init_150 f_Mo_67 rfl (Nat.le_of_ble_eq_true rfl) (fun _ => rfl) (fun _ => rfl) rfl (fun _ _ _ e9 => by cases e9; rfl) ?_
  refine r_hp (h' := h0 ++ [.inr (8, [.int 0, .int 0, .int 0, .ref (h0.length + 1), .ref (h0.length + 2), .ref (h0.length + 3), .ref (h0.length + 4), .ref (h0.length + 5), .ref (h0.length + 6), .ref (h0.length + 7), .ref (h0.length + 8), .ref (h0.length + 9), .ref (h0.length + 10), .ref (h0.length + 11), .ref (h0.length + 12), .ref (h0.length + 13), .ref (h0.length + 14), .ref (h0.length + 15), .ref (h0.length + 16), .ref (h0.length + 17), .int 0, .ref (h0.length + 18), .ref (h0.length + 19), .ref (h0.length + 20), .null, .null, .int 0, .null, .null, .int 0, .null]), z_arr 2, z_arr 2, z_arr 2, z_arr 2, z_arr 2, z_arr 2, z_arr 2, z_arr 10, z_arr 2, z_arr 10, z_arr 10, z_arr 10, z_arr 10, z_arr 10, z_arr 10, z_arr 10, z_arr 10, z_arr 5, z_arr 5, z_arr 4]) rfl ?_
  refine r_pc 153 rfl ?_
  refine r_aload_n d_Mo_init_153 rfl ?_
  refine r_bipush 24 d_Mo_init_154 (by decide) ?_
  refine r_ri (show (24 : Int32) = nI 24 by decide) ?_
  refine r_newarrayIA (h0 := h0) d_Mo_init_156 ar_I (by decide) (Nat.le_of_ble_eq_true rfl) (Nat.le_of_ble_eq_true rfl) ?_
  refine r_putfieldFA (h0 := h0) 0 d_Mo_init_158 f_Mo_70 rfl (Nat.le_of_ble_eq_true rfl) (fun _ => rfl) (fun _ => rfl) rfl (fun _ _ _ e9 => by cases e9; rfl) ?_
  refine r_hp (h' := h0 ++ [.inr (8, [.int 0, .int 0, .int 0, .ref (h0.length + 1), .ref (h0.length + 2), .ref (h0.length + 3), .ref (h0.length + 4), .ref (h0.length + 5), .ref (h0.length + 6), .ref (h0.length + 7), .ref (h0.length + 8), .ref (h0.length + 9), .ref (h0.length + 10), .ref (h0.length + 11), .ref (h0.length + 12), .ref (h0.length + 13), .ref (h0.length + 14), .ref (h0.length + 15), .ref (h0.length + 16), .ref (h0.length + 17), .int 0, .ref (h0.length + 18), .ref (h0.length + 19), .ref (h0.length + 20), .ref (h0.length + 21), .null, .int 0, .null, .null, .int 0, .null]), z_arr 2, z_arr 2, z_arr 2, z_arr 2, z_arr 2, z_arr 2, z_arr 2, z_arr 10, z_arr 2, z_arr 10, z_arr 10, z_arr 10, z_arr 10, z_arr 10, z_arr 10, z_arr 10, z_arr 10, z_arr 5, z_arr 5, z_arr 4, z_arr 24]) rfl ?_
  refine r_pc 161 rfl ?_
  refine r_aload_n d_Mo_init_161 rfl ?_
  refine r_bipush 24 d_Mo_init_162 (by decide) ?_
  refine r_ri (show (24 : Int32) = nI 24 by decide) ?_
  refine r_newarrayIA (h0 := h0) d_Mo_init_164 ar_I (by decide) (Nat.le_of_ble_eq_true rfl) (Nat.le_of_ble_eq_true rfl) ?_
  refine r_putfieldFA (h0 := h0) 0 d_Mo_init_166 f_Mo_73 rfl (Nat.le_of_ble_eq_true rfl) (fun _ => rfl) (fun _ => rfl) rfl (fun _ _ _ e9 => by cases e9; rfl) ?_
  refine r_hp (h' := h0 ++ [.inr (8, [.int 0, .int 0, .int 0, .ref (h0.length + 1), .ref (h0.length + 2), .ref (h0.length + 3), .ref (h0.length + 4), .ref (h0.length + 5), .ref (h0.length + 6), .ref (h0.length + 7), .ref (h0.length + 8), .ref (h0.length + 9), .ref (h0.length + 10), .ref (h0.length + 11), .ref (h0.length + 12), .ref (h0.length + 13), .ref (h0.length + 14), .ref (h0.length + 15), .ref (h0.length + 16), .ref (h0.length + 17), .int 0, .ref (h0.length + 18), .ref (h0.length + 19), .ref (h0.length + 20), .ref (h0.length + 21), .ref (h0.length + 22), .int 0, .null, .null, .int 0, .null]), z_arr 2, z_arr 2, z_arr 2, z_arr 2, z_arr 2, z_arr 2, z_arr 2, z_arr 10, z_arr 2, z_arr 10, z_arr 10, z_arr 10, z_arr 10, z_arr 10, z_arr 10, z_arr 10, z_arr 10, z_arr 5, z_arr 5, z_arr 4, z_arr 24, z_arr 24]) rfl ?_
  refine r_pc 169 rfl ?_
  refine r_aload_n d_Mo_init_169 rfl ?_
  refine r_sipush 600 d_Mo_init_170 (by decide) ?_
  refine r_ri (show (600 : Int32) = nI 600 by decide) ?_
  refine r_newarrayIA (h0 := h0) d_Mo_init_173 ar_I (by decide) (Nat.le_of_ble_eq_true rfl) (Nat.le_of_ble_eq_true rfl) ?_
  refine r_putfieldFA (h0 := h0) 0 d_Mo_init_175 f_Mo_76 rfl (Nat.le_of_ble_eq_true rfl) (fun _ => rfl) (fun _ => rfl) rfl (fun _ _ _ e9 => by cases e9; rfl) ?_
  refine r_hp (h' := h0 ++ [.inr (8, [.int 0, .int 0, .int 0, .ref (h0.length + 1), .ref (h0.length + 2), .ref (h0.length + 3), .ref (h0.length + 4), .ref (h0.length + 5), .ref (h0.length + 6), .ref (h0.length + 7), .ref (h0.length + 8), .ref (h0.length + 9), .ref (h0.length + 10), .ref (h0.length + 11), .ref (h0.length + 12), .ref (h0.length + 13), .ref (h0.length + 14), .ref (h0.length + 15), .ref (h0.length + 16), .ref (h0.length + 17), .int 0, .ref (h0.length + 18), .ref (h0.length + 19), .ref (h0.length + 20), .ref (h0.length + 21), .ref (h0.length + 22), .int 0, .ref (h0.length + 23), .null, .int 0, .null]), z_arr 2, z_arr 2, z_arr 2, z_arr 2, z_arr 2, z_arr 2, z_arr 2, z_arr 10, z_arr 2, z_arr 10, z_arr 10, z_arr 10, z_arr 10, z_arr 10, z_arr 10, z_arr 10, z_arr 10, z_arr 5, z_arr 5, z_arr 4, z_arr 24, z_arr 24, z_arr 600]) rfl ?_
  refine r_pc 178 rfl ?_
  refine r_aload_n d_Mo_init_178 rfl ?_
  refine r_sipush 600 d_Mo_init_179 (by decide) ?_
  refine r_ri (show (600 : Int32) = nI 600 by decide) ?_
  refine r_newarrayIA (h0 := h0) d_Mo_init_182 ar_I (by decide) (Nat.le_of_ble_eq_true rfl) (Nat.le_of_ble_eq_true rfl) ?_
  refine r_putfieldFA (h0 := h0) 0 d_Mo_init_184 f_Mo_79 rfl (Nat.le_of_ble_eq_true rfl) (fun _ => rfl) (fun _ => rfl) rfl (fun _ _ _ e9 => by cases e9; rfl) ?_
  refine r_hp (h' := h0 ++ [.inr (8, [.int 0, .int 0, .int 0, .ref (h0.length + 1), .ref (h0.length + 2), .ref (h0.length + 3), .ref (h0.length + 4), .ref (h0.length + 5), .ref (h0.length + 6), .ref (h0.length + 7), .ref (h0.length + 8), .ref (h0.length + 9), .ref (h0.length + 10), .ref (h0.length + 11), .ref (h0.length + 12), .ref (h0.length + 13), .ref (h0.length + 14), .ref (h0.length + 15), .ref (h0.length + 16), .ref (h0.length + 17), .int 0, .ref (h0.length + 18), .ref (h0.length + 19), .ref (h0.length + 20), .ref (h0.length + 21), .ref (h0.length + 22), .int 0, .ref (h0.length + 23), .ref (h0.length + 24), .int 0, .null]), z_arr 2, z_arr 2, z_arr 2, z_arr 2, z_arr 2, z_arr 2, z_arr 2, z_arr 10, z_arr 2, z_arr 10, z_arr 10, z_arr 10, z_arr 10, z_arr 10, z_arr 10, z_arr 10, z_arr 10, z_arr 5, z_arr 5, z_arr 4, z_arr 24, z_arr 24, z_arr 600, z_arr 600]) rfl ?_
  refine r_pc 187 rfl ?_
  refine r_aload_n d_Mo_init_187 rfl ?_
  refine r_sipush 600 d_Mo_init_188 (by decide) ?_
  refine r_ri (show (600 : Int32) = nI 600 by decide) ?_
  refine r_newarrayIA (h0 := h0) d_Mo_init_191 ar_I (by decide) (Nat.le_of_ble_eq_true rfl) (Nat.le_of_ble_eq_true rfl) ?_
  refine r_putfieldFA (h0 := h0) 0 d_Mo_init_193 f_Mo_82 rfl (Nat.le_of_ble_eq_true rfl) (fun _ => rfl) (fun _ => rfl) rfl (fun _ _ _ e9 => by cases e9; rfl) ?_
  refine r_hp (h' := h0 ++ [.inr (8, [.int 0, .int 0, .int 0, .ref (h0.length + 1), .ref (h0.length + 2), .ref (h0.length + 3), .ref (h0.length + 4), .ref (h0.length + 5), .ref (h0.length + 6), .ref (h0.length + 7), .ref (h0.length + 8), .ref (h0.length + 9), .ref (h0.length + 10), .ref (h0.length + 11), .ref (h0.length + 12), .ref (h0.length + 13), .ref (h0.length + 14), .ref (h0.length + 15), .ref (h0.length + 16), .ref (h0.length + 17), .int 0, .ref (h0.length + 18), .ref (h0.length + 19), .ref (h0.length + 20), .ref (h0.length + 21), .ref (h0.length + 22), .int 0, .ref (h0.length + 23), .ref (h0.length + 24), .int 0, .ref (h0.length + 25)]), z_arr 2, z_arr 2, z_arr 2, z_arr 2, z_arr 2, z_arr 2, z_arr 2, z_arr 10, z_arr 2, z_arr 10, z_arr 10, z_arr 10, z_arr 10, z_arr 10, z_arr 10, z_arr 10, z_arr 10, z_arr 5, z_arr 5, z_arr 4, z_arr 24, z_arr 24, z_arr 600, z_arr 600, z_arr 600]) rfl ?_
  refine r_pc 196 rfl ?_
  exact r_vret d_Mo_init_196 rfl ⟨rfl, rfl⟩ (Nat.le_of_ble_eq_true rfl) (Nat.le_of_ble_eq_true rfl)
theorem MD_new {h h0 : ac_H} (h57 : h0.length = 57) (hp : ∀ x, 57 ≤ x → x < 83 → h[x]? = (h0 ++ e_Mo h0.length)[x]?) : MD h (fun _ _ => 0) (fun _ => 0) := by
  have gt : ∀ j e, j < 26 → (e_Mo h0.length)[j]? = some e → h[57 + j]? = some e := fun j e hj he => by
    rw [hp (57 + j) (by omega) (by omega), ← h57, ap_get, he]
  refine ⟨?_, fun j hj => ?_⟩
  · have := gt 0 _ (by omega) rfl
    rw [h57] at this
    exact this
  · have e : 58 + j = 57 + (j + 1) := by omega
    rw [e]
    refine gt (j + 1) _ (by omega) ?_
    have : ∀ j, j < 25 → (e_Mo h0.length)[j + 1]? = some (z_arr (mlen j)) := by
      intro j hj
      rcases (show j = 0 ∨ j = 1 ∨ j = 2 ∨ j = 3 ∨ j = 4 ∨ j = 5 ∨ j = 6 ∨ j = 7 ∨ j = 8 ∨ j = 9 ∨ j = 10 ∨ j = 11 ∨ j = 12 ∨ j = 13 ∨ j = 14 ∨ j = 15 ∨ j = 16 ∨ j = 17 ∨ j = 18 ∨ j = 19 ∨ j = 20 ∨ j = 21 ∨ j = 22 ∨ j = 23 ∨ j = 24 by omega) with q | q | q | q | q | q | q | q | q | q | q | q | q | q | q | q | q | q | q | q | q | q | q | q | q <;> subst q <;> rfl
    exact this j hj
theorem MDs_new {h h0 : ac_H} (h57 : h0.length = 57) (hp : ∀ x, 57 ≤ x → x < 83 → h[x]? = (h0 ++ e_Mo h0.length)[x]?) : MDs h S0 0 := by
  refine ⟨_, _, MD_new h57 hp, ?_, rfl⟩
  have hl : ∀ ln, MLn (fun _ _ => 0) ln L0 := fun ln => ⟨⟨rfl, rfl, rfl, rfl⟩, ⟨rfl, rfl⟩, ⟨⟨rfl, Nat.zero_le _, fun i x hx => by (cases hx)⟩, ⟨rfl, Nat.zero_le _, fun i x hx => by (cases hx)⟩⟩, ⟨fun x hx => by (cases hx), fun x hx => by (cases hx)⟩, fun k hk => rfl, ⟨rfl, Nat.zero_le _⟩, ⟨rfl, Nat.zero_le _, fun b hb => by (cases hb), fun i b hb => by (cases hb)⟩, List.Pairwise.nil⟩
  exact ⟨hl 0, hl 1, ⟨rfl, Nat.zero_le _, fun i x hx => by (cases hx)⟩, ⟨rfl, Nat.zero_le _, fun i x hx => by (cases hx)⟩, rfl, rfl⟩
