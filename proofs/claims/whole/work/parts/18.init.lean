/-! CONSTRUCTORS: heaps written as h0 ++ cs, what is made goes to the end -/
section APP
variable {g : ac_P} {pc : Nat} {L : List (Nat × Value)} {S : List Value} {h0 cs : ac_H} {k z : Nat}
theorem ap_get {j : Nat} : (h0 ++ cs)[h0.length + j]? = cs[j]? := by
  rw [List.getElem?_append_right (by omega), Nat.add_sub_cancel_left]
theorem ap_set {j : Nat} {e : ac_E} : (h0 ++ cs).set (h0.length + j) e = h0 ++ cs.set j e := by
  rw [List.set_append_right _ _ (by omega), Nat.add_sub_cancel_left]
theorem r_newA {idx ci N : Nat} {fs : List Value} (hd : decode (ac_cc g) pc = .ok (.new idx, 3)) (hf : ac_N (ac_y g).cls idx ci N fs) (h1 : k + 1 ≤ ac_mc g) (h2 : z + N ≤ ac_ms g) (kk : ac_G g (pc + 3) L (.ref (h0.length + cs.length) :: S) (h0 ++ (cs ++ [.inr (ci, fs)])) (k + 1) (z + N)) : ac_G g pc L S (h0 ++ cs) k z := by
  refine r_new hd hf h1 h2 ?_
  rw [List.length_append, List.append_assoc]; exact kk
theorem r_newarrayIA {n : Nat} (hd : decode (ac_cc g) pc = .ok (.newarray .int, 2)) (hw9 : Cond.arrayClass .int ∈ ac_U) (hn : n < 1000000) (h1 : k + 1 ≤ ac_mc g) (h2 : z + n ≤ ac_ms g) (kk : ac_G g (pc + 2) L (.ref (h0.length + cs.length) :: S) (h0 ++ (cs ++ [.inl (.inl (n, fun _ => 0))])) (k + 1) (z + n)) : ac_G g pc L (.int (nI n) :: S) (h0 ++ cs) k z := by
  refine r_newarrayI hd hw9 hn h1 h2 ?_
  rw [List.length_append, List.append_assoc]; exact kk
theorem r_anewarrayA {n kd idx : Nat} {C9 : String} (hd : decode (ac_cc g) pc = .ok (.anewarray idx, 3)) (hk9 : ac_kn[kd]? = some C9) (hw9 : Cond.classLink (ac_y g).cls idx C9 ∈ ac_U) (hn : n < 1000000) (h1 : k + 1 ≤ ac_mc g) (h2 : z + n ≤ ac_ms g) (kk : ac_G g (pc + 3) L (.ref (h0.length + cs.length) :: S) (h0 ++ (cs ++ [.inl (.inr (.inr (kd, n, fun _ => none)))])) (k + 1) (z + n)) : ac_G g pc L (.int (nI n) :: S) (h0 ++ cs) k z := by
  refine r_anewarray hd hk9 hw9 hn h1 h2 ?_
  rw [List.length_append, List.append_assoc]; exact kk
theorem r_putfieldA {idx ci j : Nat} {ty : FieldType} {fs : List Value} {v : Value} (o : Nat) (hd : decode (ac_cc g) pc = .ok (.putfield idx, 3)) (hf : ac_F (ac_y g).cls idx ci j ty false) (hh : cs[o]? = some (.inr (ci, fs))) (hj : j < fs.length) (hn : ∀ σ, narrow ty (ac_v σ v) = ac_v σ v) (hfit : ∀ σ, fits ty (ac_v σ v) = true) (kk : ac_G g (pc + 3) L S (h0 ++ cs.set o (.inr (ci, fs.set j v))) k z) : ac_G g pc L (v :: .ref (h0.length + o) :: S) (h0 ++ cs) k z := by
  refine r_putfield hd hf (ap_get.trans hh) hj hn hfit ?_
  rw [ap_set]; exact kk
theorem r_putfieldFA {idx ci j : Nat} {ty : FieldType} {fs : List Value} {v : Value} (o : Nat) (hd : decode (ac_cc g) pc = .ok (.putfield idx, 3)) (hf : ac_F (ac_y g).cls idx ci j ty true) (hh : cs[o]? = some (.inr (ci, fs))) (hj : j < fs.length) (hn : ∀ σ, narrow ty (ac_v σ v) = ac_v σ v) (hfit : ∀ σ, fits ty (ac_v σ v) = true) (hin9 : (ac_y g).name = "<init>") (hdc : ∀ (C : String) (T : u_T) (N : Nat), ac_cl[ci]? = some (C, T, N) → (T j).1 = (ac_y g).cls) (kk : ac_G g (pc + 3) L S (h0 ++ cs.set o (.inr (ci, fs.set j v))) k z) : ac_G g pc L (v :: .ref (h0.length + o) :: S) (h0 ++ cs) k z := by
  refine r_putfieldF hd hf (ap_get.trans hh) hj hn hfit hin9 hdc ?_
  rw [ap_set]; exact kk
theorem r_aastoreA {n kd ci : Nat} {r9 : vw_C} {f : Nat → Option Nat} {i : Int32} {fs : List Value} (a b : Nat) (hd : decode (ac_cc g) pc = .ok (.aastore, 1)) (hh : cs[a]? = some (.inl (.inr (.inr (kd, n, f))))) (hb9 : cs[b]? = some (.inr (ci, fs))) (hc9 : ac_cl[ci]? = some r9) (hk9 : ac_kn[kd]? = some r9.1) (hin : vp_in i n) (kk : ac_G g (pc + 1) L S (h0 ++ cs.set a (.inl (.inr (.inr (kd, n, va_up f i.toNatClampNeg (some (h0.length + b))))))) k z) : ac_G g pc L (.ref (h0.length + b) :: .int i :: .ref (h0.length + a) :: S) (h0 ++ cs) k z := by
  refine r_aastore hd (ap_get.trans hh) (ap_get.trans hb9) hc9 hk9 hin ?_
  rw [ap_set]; exact kk
/-- a constructor of what was just made -/
theorem r_initNA {mi : ac_I} {n idx : Nat} (host : String) (as : List Value) (e0 : ac_E) (es : Nat → ac_H) (d' mc ms : Nat) (hd : decode (ac_cc g) pc = .ok (.invokespecial idx, 3)) (hk9 : ac_KIN (ac_y g).cls idx mi n host) (hn : as.length = n) (hM : ∀ h1 : ac_H, ac_Mt (ac_l g) d' mi (.ref h1.length :: as) (h1 ++ [e0]) mc ms (fun r h' => r = .inl none ∧ h' = h1 ++ es h1.length)) (hdd : d' + 1 ≤ ac_d g) (h1 : k + mc ≤ ac_mc g) (h2 : z + ms ≤ ac_ms g) (hs : (S.map fun v => v.category).sum ≤ 8) (kk : ac_G g (pc + 3) L S (h0 ++ (cs ++ es (h0.length + cs.length))) (k + mc) (z + ms)) : ac_G g pc L (as.reverse ++ .ref (h0.length + cs.length) :: S) (h0 ++ (cs ++ [e0])) k z := by
  have := hM (h0 ++ cs)
  rw [List.length_append, List.append_assoc] at this
  refine r_callIN host as _ d' mc ms hd hk9 hn this (fun E h' hp => nomatch hp.1) hdd h1 h2 hs (fun r h' hp _ => ?_)
  obtain ⟨e1, e2⟩ := hp
  cases e1
  rw [e2, List.append_assoc]
  exact kk
theorem r_initA {mi : ac_I} {n idx : Nat} (as : List Value) (e0 : ac_E) (es : Nat → ac_H) (d' mc ms : Nat) (hd : decode (ac_cc g) pc = .ok (.invokespecial idx, 3)) (hk9 : ac_KI (ac_y g).cls idx mi n) (hn : as.length = n) (hM : ∀ h1 : ac_H, ac_Mt (ac_l g) d' mi (.ref h1.length :: as) (h1 ++ [e0]) mc ms (fun r h' => r = .inl none ∧ h' = h1 ++ es h1.length)) (hdd : d' + 1 ≤ ac_d g) (h1 : k + mc ≤ ac_mc g) (h2 : z + ms ≤ ac_ms g) (hs : (S.map fun v => v.category).sum ≤ 8) (kk : ac_G g (pc + 3) L S (h0 ++ (cs ++ es (h0.length + cs.length))) (k + mc) (z + ms)) : ac_G g pc L (as.reverse ++ .ref (h0.length + cs.length) :: S) (h0 ++ (cs ++ [e0])) k z := by
  have := hM (h0 ++ cs)
  rw [List.length_append, List.append_assoc] at this
  refine r_callI as _ d' mc ms hd hk9 hn this (fun E h' hp => nomatch hp.1) hdd h1 h2 hs (fun r h' hp _ => ?_)
  obtain ⟨e1, e2⟩ := hp
  cases e1
  rw [e2, List.append_assoc]
  exact kk
theorem r_hp {h h' : ac_H} (he : h = h') (kk : ac_G g pc L S h' k z) : ac_G g pc L S h k z := by rw [he]; exact kk
end APP
abbrev z_arr (n : Nat) : ac_E := .inl (.inl (n, fun _ => 0))
abbrev e_Eye (_ : Nat) : ac_H := [.inr (2, [.int 0, .int 0, .int 0, .int 0])]
theorem c_Eye_init {l : Launch} (htr : l.stackTraces = false) {d : Nat} (hd : 1 ≤ d) (h0 : ac_H) : ac_Mt l d m_Eye_init (.ref h0.length :: []) (h0 ++ [.inr (2, [.int 0, .int 0, .int 0, .int 0])]) 0 0 (fun r h' => r = .inl none ∧ h' = h0 ++ e_Eye h0.length) := by
  refine ac_enter (by decide) rfl htr (fun _ => Nat.le_of_ble_eq_true rfl) ?_
  refine r_aload_n d_Eye_init_0 rfl ?_
  refine r_objInit d_Eye_init_1 oi_Eye_3 oi_1 oi_2 (by omega) (Nat.le_of_ble_eq_true rfl) ?_
  refine r_aload_n d_Eye_init_4 rfl ?_
  refine r_iconst 0 d_Eye_init_5 (by decide) ?_
  refine r_putfieldA (h0 := h0) 0 d_Eye_init_6 f_Eye_9 rfl (Nat.le_of_ble_eq_true rfl) (fun _ => rfl) (fun _ => rfl) ?_
  refine r_aload_n d_Eye_init_9 rfl ?_
  refine r_iconst 0 d_Eye_init_10 (by decide) ?_
  refine r_putfieldA (h0 := h0) 0 d_Eye_init_11 f_Eye_15 rfl (Nat.le_of_ble_eq_true rfl) (fun _ => rfl) (fun _ => rfl) ?_
  refine r_aload_n d_Eye_init_14 rfl ?_
  refine r_iconst 0 d_Eye_init_15 (by decide) ?_
  refine r_putfieldA (h0 := h0) 0 d_Eye_init_16 f_Eye_18 rfl (Nat.le_of_ble_eq_true rfl) (fun _ => rfl) (fun _ => rfl) ?_
  refine r_aload_n d_Eye_init_19 rfl ?_
  refine r_iconst 0 d_Eye_init_20 (by decide) ?_
  refine r_putfieldA (h0 := h0) 0 d_Eye_init_21 f_Eye_21 rfl (Nat.le_of_ble_eq_true rfl) (fun _ => rfl) (fun _ => rfl) ?_
  exact r_vret d_Eye_init_24 rfl ⟨rfl, rfl⟩ (Nat.le_refl _) (Nat.le_refl _)
abbrev e_Pad (_ : Nat) : ac_H := [.inr (4, [.int 0, .int 0])]
theorem c_Pad_init {l : Launch} (htr : l.stackTraces = false) {d : Nat} (hd : 1 ≤ d) (h0 : ac_H) : ac_Mt l d m_Pad_init (.ref h0.length :: []) (h0 ++ [.inr (4, [.int 0, .int 0])]) 0 0 (fun r h' => r = .inl none ∧ h' = h0 ++ e_Pad h0.length) := by
  refine ac_enter (by decide) rfl htr (fun _ => Nat.le_of_ble_eq_true rfl) ?_
  refine r_aload_n d_Pad_init_0 rfl ?_
  refine r_objInit d_Pad_init_1 oi_Pad_3 oi_1 oi_2 (by omega) (Nat.le_of_ble_eq_true rfl) ?_
  refine r_aload_n d_Pad_init_4 rfl ?_
  refine r_iconst 0 d_Pad_init_5 (by decide) ?_
  refine r_putfieldA (h0 := h0) 0 d_Pad_init_6 f_Pad_9 rfl (Nat.le_of_ble_eq_true rfl) (fun _ => rfl) (fun _ => rfl) ?_
  refine r_aload_n d_Pad_init_9 rfl ?_
  refine r_iconst 0 d_Pad_init_10 (by decide) ?_
  refine r_putfieldA (h0 := h0) 0 d_Pad_init_11 f_Pad_15 rfl (Nat.le_of_ble_eq_true rfl) (fun _ => rfl) (fun _ => rfl) ?_
  exact r_vret d_Pad_init_14 rfl ⟨rfl, rfl⟩ (Nat.le_refl _) (Nat.le_refl _)
abbrev e_Body (_ : Nat) : ac_H := [.inr (1, [.int 0, .int 0, .int 0, .int (-1), .int 0])]
theorem c_Body_init {l : Launch} (htr : l.stackTraces = false) {d : Nat} (hd : 1 ≤ d) (h0 : ac_H) : ac_Mt l d m_Body_init (.ref h0.length :: []) (h0 ++ [.inr (1, [.int 0, .int 0, .int 0, .int 0, .int 0])]) 0 0 (fun r h' => r = .inl none ∧ h' = h0 ++ e_Body h0.length) := by
  refine ac_enter (by decide) rfl htr (fun _ => Nat.le_of_ble_eq_true rfl) ?_
  refine r_aload_n d_Body_init_0 rfl ?_
  refine r_objInit d_Body_init_1 oi_Body_3 oi_1 oi_2 (by omega) (Nat.le_of_ble_eq_true rfl) ?_
  refine r_aload_n d_Body_init_4 rfl ?_
  refine r_iconst 0 d_Body_init_5 (by decide) ?_
  refine r_putfieldA (h0 := h0) 0 d_Body_init_6 f_Body_9 rfl (Nat.le_of_ble_eq_true rfl) (fun _ => rfl) (fun _ => rfl) ?_
  refine r_aload_n d_Body_init_9 rfl ?_
  refine r_iconst 0 d_Body_init_10 (by decide) ?_
  refine r_putfieldA (h0 := h0) 0 d_Body_init_11 f_Body_15 rfl (Nat.le_of_ble_eq_true rfl) (fun _ => rfl) (fun _ => rfl) ?_
  refine r_aload_n d_Body_init_14 rfl ?_
  refine r_iconst 0 d_Body_init_15 (by decide) ?_
  refine r_putfieldA (h0 := h0) 0 d_Body_init_16 f_Body_18 rfl (Nat.le_of_ble_eq_true rfl) (fun _ => rfl) (fun _ => rfl) ?_
  refine r_aload_n d_Body_init_19 rfl ?_
  refine r_iconst (-1) d_Body_init_20 (by decide) ?_
  refine r_putfieldA (h0 := h0) 0 d_Body_init_21 f_Body_21 rfl (Nat.le_of_ble_eq_true rfl) (fun _ => rfl) (fun _ => rfl) ?_
  refine r_aload_n d_Body_init_24 rfl ?_
  refine r_iconst 0 d_Body_init_25 (by decide) ?_
  refine r_putfieldA (h0 := h0) 0 d_Body_init_26 f_Body_24 rfl (Nat.le_of_ble_eq_true rfl) (fun _ => rfl) (fun _ => rfl) ?_
  exact r_vret d_Body_init_29 rfl ⟨rfl, rfl⟩ (Nat.le_refl _) (Nat.le_refl _)
abbrev e_Blobs (b : Nat) : ac_H := [.inr (0, [.ref (b + 1), .ref (b + 2), .int 0]), z_arr 4, z_arr 4]
theorem c_Blobs_init {l : Launch} (htr : l.stackTraces = false) {d : Nat} (hd : 1 ≤ d) (h0 : ac_H) : ac_Mt l d m_Blobs_init (.ref h0.length :: []) (h0 ++ [.inr (0, [.null, .null, .int 0])]) 2 8 (fun r h' => r = .inl none ∧ h' = h0 ++ e_Blobs h0.length) := by
  refine ac_enter (by decide) rfl htr (fun _ => Nat.le_of_ble_eq_true rfl) ?_
  refine r_aload_n d_Blobs_init_0 rfl ?_
  refine r_objInit d_Blobs_init_1 oi_Blobs_3 oi_1 oi_2 (by omega) (Nat.le_of_ble_eq_true rfl) ?_
  refine r_aload_n d_Blobs_init_4 rfl ?_
  refine r_iconst 4 d_Blobs_init_5 (by decide) ?_
  refine r_ri (show (4 : Int32) = nI 4 by decide) ?_
  refine r_newarrayIA (h0 := h0) d_Blobs_init_6 ar_I (by decide) (Nat.le_of_ble_eq_true rfl) (Nat.le_of_ble_eq_true rfl) ?_
  refine r_putfieldFA (h0 := h0) 0 d_Blobs_init_8 f_Blobs_9 rfl (Nat.le_of_ble_eq_true rfl) (fun _ => rfl) (fun _ => rfl) rfl (fun _ _ _ e9 => by cases e9; rfl) ?_
  refine r_aload_n d_Blobs_init_11 rfl ?_
  refine r_iconst 4 d_Blobs_init_12 (by decide) ?_
  refine r_ri (show (4 : Int32) = nI 4 by decide) ?_
  refine r_newarrayIA (h0 := h0) d_Blobs_init_13 ar_I (by decide) (Nat.le_of_ble_eq_true rfl) (Nat.le_of_ble_eq_true rfl) ?_
  refine r_putfieldFA (h0 := h0) 0 d_Blobs_init_15 f_Blobs_15 rfl (Nat.le_of_ble_eq_true rfl) (fun _ => rfl) (fun _ => rfl) rfl (fun _ _ _ e9 => by cases e9; rfl) ?_
  refine r_aload_n d_Blobs_init_18 rfl ?_
  refine r_iconst 0 d_Blobs_init_19 (by decide) ?_
  refine r_putfieldA (h0 := h0) 0 d_Blobs_init_20 f_Blobs_18 rfl (Nat.le_of_ble_eq_true rfl) (fun _ => rfl) (fun _ => rfl) ?_
  exact r_vret d_Blobs_init_23 rfl ⟨rfl, rfl⟩ (Nat.le_refl _) (Nat.le_refl _)
abbrev e_Rf (b : Nat) : ac_H := [.inr (5, [.ref (b + 1), .int 0]), z_arr 512]
theorem c_Rf_init {l : Launch} (htr : l.stackTraces = false) {d : Nat} (hd : 1 ≤ d) (h0 : ac_H) : ac_Mt l d m_Rf_init (.ref h0.length :: []) (h0 ++ [.inr (5, [.null, .int 0])]) 1 512 (fun r h' => r = .inl none ∧ h' = h0 ++ e_Rf h0.length) := by
  refine ac_enter (by decide) rfl htr (fun _ => Nat.le_of_ble_eq_true rfl) ?_
  refine r_aload_n d_Rf_init_0 rfl ?_
  refine r_objInit d_Rf_init_1 oi_Rf_3 oi_1 oi_2 (by omega) (Nat.le_of_ble_eq_true rfl) ?_
  refine r_aload_n d_Rf_init_4 rfl ?_
  refine r_sipush 512 d_Rf_init_5 (by decide) ?_
  refine r_ri (show (512 : Int32) = nI 512 by decide) ?_
  refine r_newarrayIA (h0 := h0) d_Rf_init_8 ar_I (by decide) (Nat.le_of_ble_eq_true rfl) (Nat.le_of_ble_eq_true rfl) ?_
  refine r_putfieldFA (h0 := h0) 0 d_Rf_init_10 f_Rf_9 rfl (Nat.le_of_ble_eq_true rfl) (fun _ => rfl) (fun _ => rfl) rfl (fun _ _ _ e9 => by cases e9; rfl) ?_
  refine r_aload_n d_Rf_init_13 rfl ?_
  refine r_iconst 0 d_Rf_init_14 (by decide) ?_
  refine r_putfieldA (h0 := h0) 0 d_Rf_init_15 f_Rf_15 rfl (Nat.le_of_ble_eq_true rfl) (fun _ => rfl) (fun _ => rfl) ?_
  exact r_vret d_Rf_init_18 rfl ⟨rfl, rfl⟩ (Nat.le_refl _) (Nat.le_refl _)
abbrev e_TL (n b : Nat) : ac_H := [.inr (6, [.ref (b + 1), .ref (b + 2), .int 0]), z_arr n, z_arr n]
theorem c_TL_init {l : Launch} (htr : l.stackTraces = false) {d : Nat} (hd : 1 ≤ d) {n : Nat} (hn : n < 1000) (h0 : ac_H) : ac_Mt l d m_TL_init (.ref h0.length :: [.int (nI n)]) (h0 ++ [.inr (6, [.null, .null, .int 0])]) 2 (n + n) (fun r h' => r = .inl none ∧ h' = h0 ++ e_TL n h0.length) := by
  refine ac_enter (by decide) rfl htr (fun _ => Nat.le_of_ble_eq_true rfl) ?_
  refine r_aload_n d_TL_init_0 rfl ?_
  refine r_objInit d_TL_init_1 oi_TL_3 oi_1 oi_2 (by omega) (Nat.le_of_ble_eq_true rfl) ?_
  refine r_aload_n d_TL_init_4 rfl ?_
  refine r_iconst 0 d_TL_init_5 (by decide) ?_
  refine r_putfieldA (h0 := h0) 0 d_TL_init_6 f_TL_9 rfl (Nat.le_of_ble_eq_true rfl) (fun _ => rfl) (fun _ => rfl) ?_
  refine r_iload_n d_TL_init_9 rfl ?_
  refine r_iconst 0 d_TL_init_10 (by decide) ?_
  refine r_max d_TL_init_11 mx_TL_15 mx_1 mx_2 mx_3 (by omega) (Nat.le_of_ble_eq_true rfl) (Nat.le_of_ble_eq_true rfl) (Nat.le_of_ble_eq_true rfl) ?_
  refine r_ri (y := nI n) (if_neg (fun z => nI_pos (by omega) z)) ?_
  refine r_istore_n d_TL_init_14 (Nat.le_of_ble_eq_true rfl) ?_
  refine r_aload_n d_TL_init_15 rfl ?_
  refine r_iload_n d_TL_init_16 rfl ?_
  refine r_newarrayIA (h0 := h0) d_TL_init_17 ar_I (by omega) (Nat.le_of_ble_eq_true rfl) (by show 0 + n ≤ n + n; omega) ?_
  refine r_putfieldFA (h0 := h0) 0 d_TL_init_19 f_TL_21 rfl (Nat.le_of_ble_eq_true rfl) (fun _ => rfl) (fun _ => rfl) rfl (fun _ _ _ e9 => by cases e9; rfl) ?_
  refine r_aload_n d_TL_init_22 rfl ?_
  refine r_iload_n d_TL_init_23 rfl ?_
  refine r_newarrayIA (h0 := h0) d_TL_init_24 ar_I (by omega) (Nat.le_of_ble_eq_true rfl) (by show 0 + n + n ≤ n + n; omega) ?_
  refine r_putfieldFA (h0 := h0) 0 d_TL_init_26 f_TL_25 rfl (Nat.le_of_ble_eq_true rfl) (fun _ => rfl) (fun _ => rfl) rfl (fun _ _ _ e9 => by cases e9; rfl) ?_
  exact r_vret d_TL_init_29 rfl ⟨rfl, rfl⟩ (Nat.le_of_ble_eq_true rfl) (by show 0 + n + n ≤ n + n; omega)
abbrev g_row (b : Nat) : Nat → Option Nat := va_up (va_up (va_up (va_up (fun _ => none) 0 (some (b + 1))) 1 (some (b + 2))) 2 (some (b + 3))) 3 (some (b + 4))
abbrev e_row (b : Nat) : ac_H := [.inl (.inr (.inr (2, 4, g_row b))), .inr (1, [.int 0, .int 0, .int 0, .int (-1), .int 0]), .inr (1, [.int 0, .int 0, .int 0, .int (-1), .int 0]), .inr (1, [.int 0, .int 0, .int 0, .int (-1), .int 0]), .inr (1, [.int 0, .int 0, .int 0, .int (-1), .int 0])]
theorem c_Lane_newRow {l : Launch} (htr : l.stackTraces = false) {d : Nat} (hd : 2 ≤ d) (h0 : ac_H) : ac_Mt l d m_Lane_newRow [] h0 5 24 (fun r h' => r = .inl (some (.ref h0.length)) ∧ h' = h0 ++ e_row h0.length) := by
  refine ac_enter (by decide) rfl htr (fun _ => Nat.le_of_ble_eq_true rfl) ?_
  have key : ac_G (l, d, m_Lane_newRow, 5, 24, (fun r h' => r = .inl (some (.ref h0.length)) ∧ h' = h0 ++ e_row h0.length), h0.length, none) 0 (lv_args 0 []) [] (h0 ++ []) 0 0 := by
    refine r_iconst 4 d_Lane_newRow_0 (by decide) ?_
    refine r_ri (show (4 : Int32) = nI 4 by decide) ?_
    refine r_anewarrayA (h0 := h0) (kd := 2) d_Lane_newRow_1 rfl an_Lane_66 (by decide) (Nat.le_of_ble_eq_true rfl) (Nat.le_of_ble_eq_true rfl) ?_
    refine r_astore_n d_Lane_newRow_4 (Nat.le_of_ble_eq_true rfl) ?_
    refine r_iconst 0 d_Lane_newRow_5 (by decide) ?_
    refine r_istore_n d_Lane_newRow_6 (Nat.le_of_ble_eq_true rfl) ?_
    refine r_iload_n d_Lane_newRow_7 rfl ?_
    refine r_aload_n d_Lane_newRow_8 rfl ?_
    refine r_alenR d_Lane_newRow_9 (ap_get (h0 := h0) (j := 0)) rfl ?_
    refine r_icmp_ge 29 d_Lane_newRow_10 (by decide) (fun c => absurd c (by decide)) (fun _ => ?_)
    refine r_aload_n d_Lane_newRow_13 rfl ?_
    refine r_iload_n d_Lane_newRow_14 rfl ?_
    refine r_newA (h0 := h0) d_Lane_newRow_15 nw_Lane_66 (Nat.le_of_ble_eq_true rfl) (Nat.le_of_ble_eq_true rfl) ?_
    refine r_dup d_Lane_newRow_18 rfl ?_
    refine r_initNA "PairedGates" [] (.inr (1, [.int 0, .int 0, .int 0, .int 0, .int 0])) e_Body (d - 1) 0 0 d_Lane_newRow_19 q_Lane_68 rfl (fun h1 => c_Body_init htr (by omega) h1) (by show d - 1 + 1 ≤ d; omega) (Nat.le_of_ble_eq_true rfl) (Nat.le_of_ble_eq_true rfl) (Nat.le_of_ble_eq_true rfl) ?_
    refine r_aastoreA (h0 := h0) 0 1 d_Lane_newRow_22 rfl rfl rfl rfl (by unfold vp_in; decide) ?_
    refine r_iincP d_Lane_newRow_23 rfl (Nat.le_of_ble_eq_true rfl) ?_
    refine r_goto 7 d_Lane_newRow_26 (by decide) ?_
    refine r_iload_n d_Lane_newRow_7 rfl ?_
    refine r_aload_n d_Lane_newRow_8 rfl ?_
    refine r_alenR d_Lane_newRow_9 (ap_get (h0 := h0) (j := 0)) rfl ?_
    refine r_icmp_ge 29 d_Lane_newRow_10 (by decide) (fun c => absurd c (by decide)) (fun _ => ?_)
    refine r_aload_n d_Lane_newRow_13 rfl ?_
    refine r_iload_n d_Lane_newRow_14 rfl ?_
    refine r_newA (h0 := h0) d_Lane_newRow_15 nw_Lane_66 (Nat.le_of_ble_eq_true rfl) (Nat.le_of_ble_eq_true rfl) ?_
    refine r_dup d_Lane_newRow_18 rfl ?_
    refine r_initNA "PairedGates" [] (.inr (1, [.int 0, .int 0, .int 0, .int 0, .int 0])) e_Body (d - 1) 0 0 d_Lane_newRow_19 q_Lane_68 rfl (fun h1 => c_Body_init htr (by omega) h1) (by show d - 1 + 1 ≤ d; omega) (Nat.le_of_ble_eq_true rfl) (Nat.le_of_ble_eq_true rfl) (Nat.le_of_ble_eq_true rfl) ?_
    refine r_aastoreA (h0 := h0) 0 2 d_Lane_newRow_22 rfl rfl rfl rfl (by unfold vp_in; decide) ?_
    refine r_iincP d_Lane_newRow_23 rfl (Nat.le_of_ble_eq_true rfl) ?_
    refine r_goto 7 d_Lane_newRow_26 (by decide) ?_
    refine r_iload_n d_Lane_newRow_7 rfl ?_
    refine r_aload_n d_Lane_newRow_8 rfl ?_
    refine r_alenR d_Lane_newRow_9 (ap_get (h0 := h0) (j := 0)) rfl ?_
    refine r_icmp_ge 29 d_Lane_newRow_10 (by decide) (fun c => absurd c (by decide)) (fun _ => ?_)
    refine r_aload_n d_Lane_newRow_13 rfl ?_
    refine r_iload_n d_Lane_newRow_14 rfl ?_
    refine r_newA (h0 := h0) d_Lane_newRow_15 nw_Lane_66 (Nat.le_of_ble_eq_true rfl) (Nat.le_of_ble_eq_true rfl) ?_
    refine r_dup d_Lane_newRow_18 rfl ?_
    refine r_initNA "PairedGates" [] (.inr (1, [.int 0, .int 0, .int 0, .int 0, .int 0])) e_Body (d - 1) 0 0 d_Lane_newRow_19 q_Lane_68 rfl (fun h1 => c_Body_init htr (by omega) h1) (by show d - 1 + 1 ≤ d; omega) (Nat.le_of_ble_eq_true rfl) (Nat.le_of_ble_eq_true rfl) (Nat.le_of_ble_eq_true rfl) ?_
    refine r_aastoreA (h0 := h0) 0 3 d_Lane_newRow_22 rfl rfl rfl rfl (by unfold vp_in; decide) ?_
    refine r_iincP d_Lane_newRow_23 rfl (Nat.le_of_ble_eq_true rfl) ?_
    refine r_goto 7 d_Lane_newRow_26 (by decide) ?_
    refine r_iload_n d_Lane_newRow_7 rfl ?_
    refine r_aload_n d_Lane_newRow_8 rfl ?_
    refine r_alenR d_Lane_newRow_9 (ap_get (h0 := h0) (j := 0)) rfl ?_
    refine r_icmp_ge 29 d_Lane_newRow_10 (by decide) (fun c => absurd c (by decide)) (fun _ => ?_)
    refine r_aload_n d_Lane_newRow_13 rfl ?_
    refine r_iload_n d_Lane_newRow_14 rfl ?_
    refine r_newA (h0 := h0) d_Lane_newRow_15 nw_Lane_66 (Nat.le_of_ble_eq_true rfl) (Nat.le_of_ble_eq_true rfl) ?_
    refine r_dup d_Lane_newRow_18 rfl ?_
    refine r_initNA "PairedGates" [] (.inr (1, [.int 0, .int 0, .int 0, .int 0, .int 0])) e_Body (d - 1) 0 0 d_Lane_newRow_19 q_Lane_68 rfl (fun h1 => c_Body_init htr (by omega) h1) (by show d - 1 + 1 ≤ d; omega) (Nat.le_of_ble_eq_true rfl) (Nat.le_of_ble_eq_true rfl) (Nat.le_of_ble_eq_true rfl) ?_
    refine r_aastoreA (h0 := h0) 0 4 d_Lane_newRow_22 rfl rfl rfl rfl (by unfold vp_in; decide) ?_
    refine r_iincP d_Lane_newRow_23 rfl (Nat.le_of_ble_eq_true rfl) ?_
    refine r_goto 7 d_Lane_newRow_26 (by decide) ?_
    refine r_iload_n d_Lane_newRow_7 rfl ?_
    refine r_aload_n d_Lane_newRow_8 rfl ?_
    refine r_alenR d_Lane_newRow_9 (ap_get (h0 := h0) (j := 0)) rfl ?_
    refine r_icmp_ge 29 d_Lane_newRow_10 (by decide) (fun _ => ?_) (fun c => absurd (by decide) c)
    refine r_aload_n d_Lane_newRow_29 rfl ?_
    exact r_aretA d_Lane_newRow_30 rfl ⟨rfl, rfl⟩ (Nat.le_of_ble_eq_true rfl) (Nat.le_of_ble_eq_true rfl)
  rw [List.append_nil] at key
  exact key
theorem r_newRowA {g : ac_P} {pc : Nat} {L : List (Nat × Value)} {S : List Value} {h0 cs : ac_H} {k z : Nat} (htr : (ac_l g).stackTraces = false) (hcl : (ac_y g).cls = "PairedGates$Lane") (hd : decode (ac_cc g) pc = .ok (.invokestatic 55, 3)) (hdd : 3 ≤ ac_d g) (h1 : k + 5 ≤ ac_mc g) (h2 : z + 24 ≤ ac_ms g) (hs : (S.map fun v => v.category).sum ≤ 8) (n : Nat) (hn : cs.length = n) (kk : ac_G g (pc + 3) L (.ref (h0.length + n) :: S) (h0 ++ (cs ++ e_row (h0.length + n))) (k + 5) (z + 24)) : ac_G g pc L S (h0 ++ cs) k z := by
  subst hn
  refine r_callS [] (ac_d g - 1) 5 24 hd (by rw [hcl]; exact q_Lane_55) rfl (c_Lane_newRow htr (by omega) (h0 ++ cs)) (by omega) h1 h2 hs (fun r h' hp _ => ?_) (fun E h' hp _ => nomatch hp.1)
  obtain ⟨e1, e2⟩ := hp
  cases e1
  rw [e2, List.append_assoc, List.length_append]
  exact kk
abbrev g_qs (b : Nat) : Nat → Option Nat := va_up (va_up (fun _ => none) 0 (some (b + 7))) 1 (some (b + 10))
abbrev e_La1 (b : Nat) (o : ac_E) : ac_H := [o, .inr (2, [.int 0, .int 0, .int 0, .int 0]), .inr (0, [.ref (b + 3), .ref (b + 4), .int 0]), z_arr 4, z_arr 4, .inr (4, [.int 0, .int 0]), .inl (.inr (.inr (1, 2, g_qs b))), .inr (6, [.ref (b + 8), .ref (b + 9), .int 0]), z_arr 6, z_arr 6, .inr (6, [.ref (b + 11), .ref (b + 12), .int 0]), z_arr 6, z_arr 6]
abbrev e_La2 (b : Nat) (o : ac_E) : ac_H := [o, .inr (2, [.int 0, .int 0, .int 0, .int 0]), .inr (0, [.ref (b + 3), .ref (b + 4), .int 0]), z_arr 4, z_arr 4, .inr (4, [.int 0, .int 0]), .inl (.inr (.inr (1, 2, g_qs b))), .inr (6, [.ref (b + 8), .ref (b + 9), .int 0]), z_arr 6, z_arr 6, .inr (6, [.ref (b + 11), .ref (b + 12), .int 0]), z_arr 6, z_arr 6, z_arr 5, z_arr 4]
abbrev e_La3 (b : Nat) (o : ac_E) : ac_H := [o, .inr (2, [.int 0, .int 0, .int 0, .int 0]), .inr (0, [.ref (b + 3), .ref (b + 4), .int 0]), z_arr 4, z_arr 4, .inr (4, [.int 0, .int 0]), .inl (.inr (.inr (1, 2, g_qs b))), .inr (6, [.ref (b + 8), .ref (b + 9), .int 0]), z_arr 6, z_arr 6, .inr (6, [.ref (b + 11), .ref (b + 12), .int 0]), z_arr 6, z_arr 6, z_arr 5, z_arr 4, .inl (.inr (.inr (2, 4, g_row (b + 15)))), .inr (1, [.int 0, .int 0, .int 0, .int (-1), .int 0]), .inr (1, [.int 0, .int 0, .int 0, .int (-1), .int 0]), .inr (1, [.int 0, .int 0, .int 0, .int (-1), .int 0]), .inr (1, [.int 0, .int 0, .int 0, .int (-1), .int 0])]
abbrev e_Lane (b : Nat) : ac_H := [.inr (3, [.ref (b + 1), .ref (b + 2), .ref (b + 5), .ref (b + 6), .ref (b + 13), .ref (b + 14), .int 0, .int 0, .ref (b + 15), .ref (b + 20)]), .inr (2, [.int 0, .int 0, .int 0, .int 0]), .inr (0, [.ref (b + 3), .ref (b + 4), .int 0]), z_arr 4, z_arr 4, .inr (4, [.int 0, .int 0]), .inl (.inr (.inr (1, 2, g_qs b))), .inr (6, [.ref (b + 8), .ref (b + 9), .int 0]), z_arr 6, z_arr 6, .inr (6, [.ref (b + 11), .ref (b + 12), .int 0]), z_arr 6, z_arr 6, z_arr 5, z_arr 4, .inl (.inr (.inr (2, 4, g_row (b + 15)))), .inr (1, [.int 0, .int 0, .int 0, .int (-1), .int 0]), .inr (1, [.int 0, .int 0, .int 0, .int (-1), .int 0]), .inr (1, [.int 0, .int 0, .int 0, .int (-1), .int 0]), .inr (1, [.int 0, .int 0, .int 0, .int (-1), .int 0]), .inl (.inr (.inr (2, 4, g_row (b + 20)))), .inr (1, [.int 0, .int 0, .int 0, .int (-1), .int 0]), .inr (1, [.int 0, .int 0, .int 0, .int (-1), .int 0]), .inr (1, [.int 0, .int 0, .int 0, .int (-1), .int 0]), .inr (1, [.int 0, .int 0, .int 0, .int (-1), .int 0])]
theorem c_Lane_init {l : Launch} (htr : l.stackTraces = false) {d : Nat} (hd : 3 ≤ d) (h0 : ac_H) : ac_Mt l d m_Lane_init (.ref h0.length :: []) (h0 ++ [.inr (3, [.null, .null, .null, .null, .null, .null, .int 0, .int 0, .null, .null])]) 24 106 (fun r h' => r = .inl none ∧ h' = h0 ++ e_Lane h0.length) := by
  have hd1 : 1 ≤ d := by omega
  refine ac_enter (by decide) rfl htr (fun _ => Nat.le_of_ble_eq_true rfl) ?_
  refine r_aload_n d_Lane_init_0 rfl ?_
  refine r_objInit d_Lane_init_1 oi_Lane_3 oi_1 oi_2 (by omega) (Nat.le_of_ble_eq_true rfl) ?_
  refine r_aload_n d_Lane_init_4 rfl ?_
  refine r_newA (h0 := h0) d_Lane_init_5 nw_Lane_9 (Nat.le_of_ble_eq_true rfl) (Nat.le_of_ble_eq_true rfl) ?_
  refine r_dup d_Lane_init_8 rfl ?_
  refine r_initNA "PairedGates" [] (.inr (2, [.int 0, .int 0, .int 0, .int 0])) e_Eye (d - 1) 0 0 d_Lane_init_9 q_Lane_11 rfl (fun h1 => c_Eye_init htr (by omega) h1) (by show d - 1 + 1 ≤ d; omega) (Nat.le_of_ble_eq_true rfl) (Nat.le_of_ble_eq_true rfl) (Nat.le_of_ble_eq_true rfl) ?_
  refine r_putfieldFA (h0 := h0) 0 d_Lane_init_12 f_Lane_12 rfl (Nat.le_of_ble_eq_true rfl) (fun _ => rfl) (fun _ => rfl) rfl (fun _ _ _ e9 => by cases e9; rfl) ?_
  refine r_aload_n d_Lane_init_15 rfl ?_
  refine r_newA (h0 := h0) d_Lane_init_16 nw_Lane_18 (Nat.le_of_ble_eq_true rfl) (Nat.le_of_ble_eq_true rfl) ?_
  refine r_dup d_Lane_init_19 rfl ?_
  refine r_initNA "PairedGates" [] (.inr (0, [.null, .null, .int 0])) e_Blobs (d - 1) 2 8 d_Lane_init_20 q_Lane_20 rfl (fun h1 => c_Blobs_init htr (by omega) h1) (by show d - 1 + 1 ≤ d; omega) (Nat.le_of_ble_eq_true rfl) (Nat.le_of_ble_eq_true rfl) (Nat.le_of_ble_eq_true rfl) ?_
  refine r_putfieldFA (h0 := h0) 0 d_Lane_init_23 f_Lane_21 rfl (Nat.le_of_ble_eq_true rfl) (fun _ => rfl) (fun _ => rfl) rfl (fun _ _ _ e9 => by cases e9; rfl) ?_
  refine r_aload_n d_Lane_init_26 rfl ?_
  refine r_newA (h0 := h0) d_Lane_init_27 nw_Lane_25 (Nat.le_of_ble_eq_true rfl) (Nat.le_of_ble_eq_true rfl) ?_
  refine r_dup d_Lane_init_30 rfl ?_
  refine r_initNA "PairedGates" [] (.inr (4, [.int 0, .int 0])) e_Pad (d - 1) 0 0 d_Lane_init_31 q_Lane_27 rfl (fun h1 => c_Pad_init htr (by omega) h1) (by show d - 1 + 1 ≤ d; omega) (Nat.le_of_ble_eq_true rfl) (Nat.le_of_ble_eq_true rfl) (Nat.le_of_ble_eq_true rfl) ?_
  refine r_putfieldFA (h0 := h0) 0 d_Lane_init_34 f_Lane_28 rfl (Nat.le_of_ble_eq_true rfl) (fun _ => rfl) (fun _ => rfl) rfl (fun _ _ _ e9 => by cases e9; rfl) ?_
  refine r_aload_n d_Lane_init_37 rfl ?_
  refine r_iconst 2 d_Lane_init_38 (by decide) ?_
  refine r_ri (show (2 : Int32) = nI 2 by decide) ?_
  refine r_anewarrayA (h0 := h0) (kd := 1) d_Lane_init_39 rfl an_Lane_32 (by decide) (Nat.le_of_ble_eq_true rfl) (Nat.le_of_ble_eq_true rfl) ?_
  refine r_dup d_Lane_init_42 rfl ?_
  refine r_iconst 0 d_Lane_init_43 (by decide) ?_
  refine r_newA (h0 := h0) d_Lane_init_44 nw_Lane_32 (Nat.le_of_ble_eq_true rfl) (Nat.le_of_ble_eq_true rfl) ?_
  refine r_dup d_Lane_init_47 rfl ?_
  refine r_bipush 6 d_Lane_init_48 (by decide) ?_
  refine r_ri nI6 ?_
  refine r_initA [.int (nI 6)] (.inr (6, [.null, .null, .int 0])) (e_TL 6) (d - 1) 2 12 d_Lane_init_50 q_Lane_34 rfl (fun h1 => c_TL_init htr (by omega) (by omega) h1) (by show d - 1 + 1 ≤ d; omega) (Nat.le_of_ble_eq_true rfl) (Nat.le_of_ble_eq_true rfl) (Nat.le_of_ble_eq_true rfl) ?_
  refine r_aastoreA (h0 := h0) 6 7 d_Lane_init_53 rfl rfl rfl rfl (by unfold vp_in; decide) ?_
  refine r_dup d_Lane_init_54 rfl ?_
  refine r_iconst 1 d_Lane_init_55 (by decide) ?_
  refine r_newA (h0 := h0) d_Lane_init_56 nw_Lane_32 (Nat.le_of_ble_eq_true rfl) (Nat.le_of_ble_eq_true rfl) ?_
  refine r_dup d_Lane_init_59 rfl ?_
  refine r_bipush 6 d_Lane_init_60 (by decide) ?_
  refine r_ri nI6 ?_
  refine r_initA [.int (nI 6)] (.inr (6, [.null, .null, .int 0])) (e_TL 6) (d - 1) 2 12 d_Lane_init_62 q_Lane_34 rfl (fun h1 => c_TL_init htr (by omega) (by omega) h1) (by show d - 1 + 1 ≤ d; omega) (Nat.le_of_ble_eq_true rfl) (Nat.le_of_ble_eq_true rfl) (Nat.le_of_ble_eq_true rfl) ?_
  refine r_aastoreA (h0 := h0) 6 10 d_Lane_init_65 rfl rfl rfl rfl (by unfold vp_in; decide) ?_
  refine r_putfieldFA (h0 := h0) 0 d_Lane_init_66 f_Lane_37 rfl (Nat.le_of_ble_eq_true rfl) (fun _ => rfl) (fun _ => rfl) rfl (fun _ _ _ e9 => by cases e9; rfl) ?_
  refine r_hp (h' := h0 ++ e_La1 h0.length (.inr (3, [.ref (h0.length + 1), .ref (h0.length + 2), .ref (h0.length + 5), .ref (h0.length + 6), .null, .null, .int 0, .int 0, .null, .null]))) rfl ?_
  refine r_aload_n d_Lane_init_69 rfl ?_
  refine r_iconst 5 d_Lane_init_70 (by decide) ?_
  refine r_ri (show (5 : Int32) = nI 5 by decide) ?_
  refine r_newarrayIA (h0 := h0) d_Lane_init_71 ar_I (by decide) (Nat.le_of_ble_eq_true rfl) (Nat.le_of_ble_eq_true rfl) ?_
  refine r_putfieldFA (h0 := h0) 0 d_Lane_init_73 f_Lane_41 rfl (Nat.le_of_ble_eq_true rfl) (fun _ => rfl) (fun _ => rfl) rfl (fun _ _ _ e9 => by cases e9; rfl) ?_
  refine r_aload_n d_Lane_init_76 rfl ?_
  refine r_iconst 4 d_Lane_init_77 (by decide) ?_
  refine r_ri (show (4 : Int32) = nI 4 by decide) ?_
  refine r_newarrayIA (h0 := h0) d_Lane_init_78 ar_I (by decide) (Nat.le_of_ble_eq_true rfl) (Nat.le_of_ble_eq_true rfl) ?_
  refine r_putfieldFA (h0 := h0) 0 d_Lane_init_80 f_Lane_45 rfl (Nat.le_of_ble_eq_true rfl) (fun _ => rfl) (fun _ => rfl) rfl (fun _ _ _ e9 => by cases e9; rfl) ?_
  refine r_aload_n d_Lane_init_83 rfl ?_
  refine r_iconst 0 d_Lane_init_84 (by decide) ?_
  refine r_putfieldA (h0 := h0) 0 d_Lane_init_85 f_Lane_48 rfl (Nat.le_of_ble_eq_true rfl) (fun _ => rfl) (fun _ => rfl) ?_
  refine r_aload_n d_Lane_init_88 rfl ?_
  refine r_iconst 0 d_Lane_init_89 (by decide) ?_
  refine r_putfieldA (h0 := h0) 0 d_Lane_init_90 f_Lane_52 rfl (Nat.le_of_ble_eq_true rfl) (fun _ => rfl) (fun _ => rfl) ?_
  refine r_aload_n d_Lane_init_93 rfl ?_
  refine r_hp (h' := h0 ++ e_La2 h0.length (.inr (3, [.ref (h0.length + 1), .ref (h0.length + 2), .ref (h0.length + 5), .ref (h0.length + 6), .ref (h0.length + 13), .ref (h0.length + 14), .int 0, .int 0, .null, .null]))) rfl ?_
  refine r_newRowA (h0 := h0) htr rfl d_Lane_init_94 (by show 3 ≤ d; omega) (Nat.le_of_ble_eq_true rfl) (Nat.le_of_ble_eq_true rfl) (Nat.le_of_ble_eq_true rfl) 15 rfl ?_
  refine r_hp (h' := h0 ++ e_La3 h0.length (.inr (3, [.ref (h0.length + 1), .ref (h0.length + 2), .ref (h0.length + 5), .ref (h0.length + 6), .ref (h0.length + 13), .ref (h0.length + 14), .int 0, .int 0, .null, .null]))) rfl ?_
  refine r_putfieldA (h0 := h0) 0 d_Lane_init_97 f_Lane_59 rfl (Nat.le_of_ble_eq_true rfl) (fun _ => rfl) (fun _ => rfl) ?_
  refine r_aload_n d_Lane_init_100 rfl ?_
  refine r_hp (h' := h0 ++ e_La3 h0.length (.inr (3, [.ref (h0.length + 1), .ref (h0.length + 2), .ref (h0.length + 5), .ref (h0.length + 6), .ref (h0.length + 13), .ref (h0.length + 14), .int 0, .int 0, .ref (h0.length + 15), .null]))) rfl ?_
  refine r_newRowA (h0 := h0) htr rfl d_Lane_init_101 (by show 3 ≤ d; omega) (Nat.le_of_ble_eq_true rfl) (Nat.le_of_ble_eq_true rfl) (Nat.le_of_ble_eq_true rfl) 20 rfl ?_
  refine r_putfieldA (h0 := h0) 0 d_Lane_init_104 f_Lane_63 rfl (Nat.le_of_ble_eq_true rfl) (fun _ => rfl) (fun _ => rfl) ?_
  exact r_vret d_Lane_init_107 rfl ⟨rfl, rfl⟩ (Nat.le_of_ble_eq_true rfl) (Nat.le_of_ble_eq_true rfl)
def L0 : sp_L := ((0, 0, 0, 0), (0, 0), ([], []), (fun _ => 0), 0, [])
theorem TLs_new {h : ac_H} {t N : Nat} (hN : N < 1000) (h1 : h[t]? = some (.inr (6, [.ref (t + 1), .ref (t + 2), .int 0]))) (h2 : h[t + 1]? = some (z_arr N)) (h3 : h[t + 2]? = some (z_arr N)) : TLs h t N [] := ⟨h1, Nat.zero_le _, hN, _, _, h2, h3, fun i x hx => by cases hx⟩
theorem Rws_new {h0 : ac_H} {cs : ac_H} {r : Nat} (h1 : cs[r]? = some (.inl (.inr (.inr (2, 4, g_row (h0.length + r)))))) (hb : ∀ j, j < 4 → cs[r + 1 + j]? = some (bo (0, 0, 0, -1, 0))) : Rws (h0 ++ cs) (h0.length + r) (fun _ => (0, 0, 0, -1, 0)) := by
  refine ⟨⟨_, ap_get.trans h1, fun j hj => ?_⟩, fun i hi => ?_⟩
  · rcases (show j = 0 ∨ j = 1 ∨ j = 2 ∨ j = 3 by omega) with q | q | q | q <;> subst q <;> rfl
  · have e : h0.length + r + 1 + i = h0.length + (r + 1 + i) := by omega
    rw [e, ap_get]; exact hb i hi
theorem Lns_new (h0 : ac_H) : Lns (h0 ++ e_Lane h0.length) h0.length L0 := by
  have gt : ∀ j e, (e_Lane h0.length)[j]? = some e → (h0 ++ e_Lane h0.length)[h0.length + j]? = some e := fun j e he => ap_get.trans he
  refine ⟨Nat.zero_le 3, fun x hx => (by cases hx), fun x hx => (by cases hx), h0.length + 15, h0.length + 20, (fun _ => (0, 0, 0, -1, 0)), (fun _ => (0, 0, 0, -1, 0)), [], (fun _ => 0), g_qs h0.length, Or.inl ⟨rfl, rfl⟩, gt 0 _ rfl, gt 1 _ rfl, ⟨gt 2 _ rfl, Nat.zero_le 4, fun x hx => (by cases hx), _, _, gt 3 _ rfl, gt 4 _ rfl, fun i x hx => (by cases hx)⟩, gt 5 _ rfl, ⟨gt 6 _ rfl, rfl, rfl⟩, TLs_new (by omega) (gt 7 _ rfl) (gt 8 _ rfl) (gt 9 _ rfl), TLs_new (by omega) (gt 10 _ rfl) (gt 11 _ rfl) (gt 12 _ rfl), gt 13 _ rfl, gt 14 _ rfl, Rws_new rfl (fun j hj => ?_), ⟨Nat.zero_le 4, fun i x hx => (by cases hx)⟩, Rws_new rfl (fun j hj => ?_)⟩
  · rcases (show j = 0 ∨ j = 1 ∨ j = 2 ∨ j = 3 by omega) with q | q | q | q <;> subst q <;> rfl
  · rcases (show j = 0 ∨ j = 1 ∨ j = 2 ∨ j = 3 by omega) with q | q | q | q <;> subst q <;> rfl
/-- the state: two lanes, the acceptances, the refunds, the alarm, the time -/
abbrev sp_S : Type := (sp_L × sp_L) × sp_Q × List Int32 × Int32 × Nat
def PGs (h : ac_H) (s : sp_S) : Prop := (∃ gl, h[1]? = some (.inl (.inr (.inr (0, 2, gl)))) ∧ gl 0 = some 2 ∧ gl 1 = some 27) ∧ h[0]? = some (.inr (7, [.ref 1, .ref 52, .ref 55, .int s.2.2.2.1, .int (nI s.2.2.2.2)])) ∧ Lns h 2 s.1.1 ∧ Lns h 27 s.1.2 ∧ TLs h 52 512 s.2.1 ∧ Rfs h 55 s.2.2.1 ∧ (s.2.2.2.1 = 0 ∨ s.2.2.2.1 = 1)
theorem PGs.pt {h h' : ac_H} {s : sp_S} (H : PGs h s) (hp : ∀ j, j < 57 → h'[j]? = h[j]?) : PGs h' s := by
  obtain ⟨⟨gl, a1, a2, a3⟩, a4, a5, a6, a7, a8, a9⟩ := H
  exact ⟨⟨gl, (hp 1 (by omega)).trans a1, a2, a3⟩, (hp 0 (by omega)).trans a4, a5.pt (fun j hj => hp _ (by omega)), a6.pt (fun j hj => hp _ (by omega)), a7.pt (fun j hj => hp _ (by omega)), a8.pt (fun j hj => hp _ (by omega)), a9⟩
def S0 : sp_S := ((L0, L0), [], [], 0, 0)
abbrev g_lanes : Nat → Option Nat := va_up (va_up (fun _ => none) 0 (some 2)) 1 (some 27)
abbrev e_PG : ac_H := .inr (7, [.ref 1, .ref 52, .ref 55, .int 0, .int 0]) :: .inl (.inr (.inr (0, 2, g_lanes))) :: (e_Lane 2 ++ e_Lane 27 ++ e_TL 512 52 ++ e_Rf 55)
abbrev e_PG1 (o a : ac_E) : ac_H := o :: a :: e_Lane 2
abbrev e_PG2 (o a : ac_E) : ac_H := o :: a :: (e_Lane 2 ++ e_Lane 27)
theorem r_newB {g : ac_P} {pc : Nat} {L : List (Nat × Value)} {S : List Value} {h : ac_H} {k z : Nat} {idx ci N : Nat} {fs : List Value} (n : Nat) (hn : h.length = n) (hd : decode (ac_cc g) pc = .ok (.new idx, 3)) (hf : ac_N (ac_y g).cls idx ci N fs) (h1 : k + 1 ≤ ac_mc g) (h2 : z + N ≤ ac_ms g) (kk : ac_G g (pc + 3) L (.ref n :: S) (h ++ [.inr (ci, fs)]) (k + 1) (z + N)) : ac_G g pc L S h k z := by
  subst hn
  exact r_new hd hf h1 h2 kk
theorem r_initNB {g : ac_P} {pc : Nat} {L : List (Nat × Value)} {S : List Value} {h : ac_H} {k z : Nat} {mi : ac_I} {n idx : Nat} (host : String) (as : List Value) (e0 : ac_E) (es : Nat → ac_H) (d' mc ms b : Nat) (hb : h.length = b) (hd : decode (ac_cc g) pc = .ok (.invokespecial idx, 3)) (hk9 : ac_KIN (ac_y g).cls idx mi n host) (hn : as.length = n) (hM : ∀ h1 : ac_H, ac_Mt (ac_l g) d' mi (.ref h1.length :: as) (h1 ++ [e0]) mc ms (fun r h' => r = .inl none ∧ h' = h1 ++ es h1.length)) (hdd : d' + 1 ≤ ac_d g) (h1 : k + mc ≤ ac_mc g) (h2 : z + ms ≤ ac_ms g) (hs : (S.map fun v => v.category).sum ≤ 8) (kk : ac_G g (pc + 3) L S (h ++ es b) (k + mc) (z + ms)) : ac_G g pc L (as.reverse ++ .ref b :: S) (h ++ [e0]) k z := by
  subst hb
  refine r_callIN host as _ d' mc ms hd hk9 hn (hM h) (fun E h' hp => nomatch hp.1) hdd h1 h2 hs (fun r h' hp _ => ?_)
  obtain ⟨e1, e2⟩ := hp
  cases e1
  rw [e2]
  exact kk
theorem r_initB {g : ac_P} {pc : Nat} {L : List (Nat × Value)} {S : List Value} {h : ac_H} {k z : Nat} {mi : ac_I} {n idx : Nat} (as : List Value) (e0 : ac_E) (es : Nat → ac_H) (d' mc ms b : Nat) (hb : h.length = b) (hd : decode (ac_cc g) pc = .ok (.invokespecial idx, 3)) (hk9 : ac_KI (ac_y g).cls idx mi n) (hn : as.length = n) (hM : ∀ h1 : ac_H, ac_Mt (ac_l g) d' mi (.ref h1.length :: as) (h1 ++ [e0]) mc ms (fun r h' => r = .inl none ∧ h' = h1 ++ es h1.length)) (hdd : d' + 1 ≤ ac_d g) (h1 : k + mc ≤ ac_mc g) (h2 : z + ms ≤ ac_ms g) (hs : (S.map fun v => v.category).sum ≤ 8) (kk : ac_G g (pc + 3) L S (h ++ es b) (k + mc) (z + ms)) : ac_G g pc L (as.reverse ++ .ref b :: S) (h ++ [e0]) k z := by
  subst hb
  refine r_callI as _ d' mc ms hd hk9 hn (hM h) (fun E h' hp => nomatch hp.1) hdd h1 h2 hs (fun r h' hp _ => ?_)
  obtain ⟨e1, e2⟩ := hp
  cases e1
  rw [e2]
  exact kk
theorem c_PG_init {l : Launch} (htr : l.stackTraces = false) {d : Nat} (hd : 4 ≤ d) : ac_Mt l d m_PG_init (.ref 0 :: []) [.inr (7, [.null, .null, .null, .int 0, .int 0])] 56 1775 (fun r h' => r = .inl none ∧ h' = e_PG) := by
  have hd1 : 1 ≤ d := by omega
  refine ac_enter (by decide) rfl htr (fun _ => Nat.le_of_ble_eq_true rfl) ?_
  refine r_aload_n d_PG_init_0 rfl ?_
  refine r_objInit d_PG_init_1 oi_PG_1 oi_1 oi_2 (by omega) (Nat.le_of_ble_eq_true rfl) ?_
  refine r_aload_n d_PG_init_4 rfl ?_
  refine r_iconst 2 d_PG_init_5 (by decide) ?_
  refine r_ri nI2 ?_
  refine r_anewarray (kd := 0) d_PG_init_6 rfl an_PG_7 (by decide) (Nat.le_of_ble_eq_true rfl) (Nat.le_of_ble_eq_true rfl) ?_
  refine r_dup d_PG_init_9 rfl ?_
  refine r_iconst 0 d_PG_init_10 (by decide) ?_
  refine r_newB 2 rfl d_PG_init_11 nw_PG_7 (Nat.le_of_ble_eq_true rfl) (Nat.le_of_ble_eq_true rfl) ?_
  refine r_dup d_PG_init_14 rfl ?_
  refine r_initNB "PairedGates" [] (.inr (3, [.null, .null, .null, .null, .null, .null, .int 0, .int 0, .null, .null])) e_Lane (d - 1) 24 106 2 rfl d_PG_init_15 q_PG_9 rfl (fun h1 => c_Lane_init htr (by omega) h1) (by show d - 1 + 1 ≤ d; omega) (Nat.le_of_ble_eq_true rfl) (Nat.le_of_ble_eq_true rfl) (Nat.le_of_ble_eq_true rfl) ?_
  refine r_aastore (a := 1) (b := 2) d_PG_init_18 rfl rfl rfl rfl (by unfold vp_in; decide) ?_
  refine r_hp (h' := e_PG1 (.inr (7, [.null, .null, .null, .int 0, .int 0])) (.inl (.inr (.inr (0, 2, va_up (fun _ => none) 0 (some 2)))))) rfl ?_
  refine r_dup d_PG_init_19 rfl ?_
  refine r_iconst 1 d_PG_init_20 (by decide) ?_
  refine r_newB 27 rfl d_PG_init_21 nw_PG_7 (Nat.le_of_ble_eq_true rfl) (Nat.le_of_ble_eq_true rfl) ?_
  refine r_dup d_PG_init_24 rfl ?_
  refine r_initNB "PairedGates" [] (.inr (3, [.null, .null, .null, .null, .null, .null, .int 0, .int 0, .null, .null])) e_Lane (d - 1) 24 106 27 rfl d_PG_init_25 q_PG_9 rfl (fun h1 => c_Lane_init htr (by omega) h1) (by show d - 1 + 1 ≤ d; omega) (Nat.le_of_ble_eq_true rfl) (Nat.le_of_ble_eq_true rfl) (Nat.le_of_ble_eq_true rfl) ?_
  refine r_aastore (a := 1) (b := 27) d_PG_init_28 rfl rfl rfl rfl (by unfold vp_in; decide) ?_
  refine r_hp (h' := e_PG2 (.inr (7, [.null, .null, .null, .int 0, .int 0])) (.inl (.inr (.inr (0, 2, g_lanes))))) rfl ?_
  refine r_putfieldF d_PG_init_29 f_PG_10 rfl (Nat.le_of_ble_eq_true rfl) (fun _ => rfl) (fun _ => rfl) rfl (fun _ _ _ e9 => by cases e9; rfl) ?_
  refine r_aload_n d_PG_init_32 rfl ?_
  refine r_hp (h' := e_PG2 (.inr (7, [.ref 1, .null, .null, .int 0, .int 0])) (.inl (.inr (.inr (0, 2, g_lanes))))) rfl ?_
  refine r_newB 52 rfl d_PG_init_33 nw_PG_16 (Nat.le_of_ble_eq_true rfl) (Nat.le_of_ble_eq_true rfl) ?_
  refine r_dup d_PG_init_36 rfl ?_
  refine r_sipush 512 d_PG_init_37 (by decide) ?_
  refine r_ri (show (512 : Int32) = nI 512 by decide) ?_
  refine r_initB [.int (nI 512)] (.inr (6, [.null, .null, .int 0])) (e_TL 512) (d - 1) 2 1024 52 rfl d_PG_init_40 q_PG_18 rfl (fun h1 => c_TL_init htr (by omega) (by omega) h1) (by show d - 1 + 1 ≤ d; omega) (Nat.le_of_ble_eq_true rfl) (Nat.le_of_ble_eq_true rfl) (Nat.le_of_ble_eq_true rfl) ?_
  refine r_putfieldF d_PG_init_43 f_PG_21 rfl (Nat.le_of_ble_eq_true rfl) (fun _ => rfl) (fun _ => rfl) rfl (fun _ _ _ e9 => by cases e9; rfl) ?_
  refine r_aload_n d_PG_init_46 rfl ?_
  refine r_hp (h' := e_PG2 (.inr (7, [.ref 1, .ref 52, .null, .int 0, .int 0])) (.inl (.inr (.inr (0, 2, g_lanes)))) ++ e_TL 512 52) rfl ?_
  refine r_newB 55 rfl d_PG_init_47 nw_PG_25 (Nat.le_of_ble_eq_true rfl) (Nat.le_of_ble_eq_true rfl) ?_
  refine r_dup d_PG_init_50 rfl ?_
  refine r_initNB "PairedGates" [] (.inr (5, [.null, .int 0])) e_Rf (d - 1) 1 512 55 rfl d_PG_init_51 q_PG_27 rfl (fun h1 => c_Rf_init htr (by omega) h1) (by show d - 1 + 1 ≤ d; omega) (Nat.le_of_ble_eq_true rfl) (Nat.le_of_ble_eq_true rfl) (Nat.le_of_ble_eq_true rfl) ?_
  refine r_putfieldF d_PG_init_54 f_PG_28 rfl (Nat.le_of_ble_eq_true rfl) (fun _ => rfl) (fun _ => rfl) rfl (fun _ _ _ e9 => by cases e9; rfl) ?_
  refine r_hp (h' := e_PG) rfl ?_
  refine r_aload_n d_PG_init_57 rfl ?_
  refine r_iconst 0 d_PG_init_58 (by decide) ?_
  refine r_putfield d_PG_init_59 f_PG_32 rfl (Nat.le_of_ble_eq_true rfl) (fun _ => rfl) (fun _ => rfl) ?_
  refine r_aload_n d_PG_init_62 rfl ?_
  refine r_iconst 0 d_PG_init_63 (by decide) ?_
  refine r_putfield d_PG_init_64 f_PG_36 rfl (Nat.le_of_ble_eq_true rfl) (fun _ => rfl) (fun _ => rfl) ?_
  exact r_vret d_PG_init_67 rfl ⟨rfl, rfl⟩ (Nat.le_of_ble_eq_true rfl) (Nat.le_of_ble_eq_true rfl)
theorem PGs_new {h : ac_H} (hp : ∀ j, j < 57 → h[j]? = e_PG[j]?) : PGs h S0 := by
  have gt : ∀ j e, j < 57 → e_PG[j]? = some e → h[j]? = some e := fun j e hj he => (hp j hj).trans he
  have l2 : Lns ([z_arr 0, z_arr 0] ++ e_Lane 2) 2 L0 := Lns_new [z_arr 0, z_arr 0]
  have l27 : Lns (List.replicate 27 (z_arr 0) ++ e_Lane 27) 27 L0 := Lns_new (List.replicate 27 (z_arr 0))
  refine ⟨⟨g_lanes, gt 1 _ (by omega) rfl, rfl, rfl⟩, gt 0 _ (by omega) rfl, l2.pt (fun j hj => (hp (2 + j) (by omega)).trans ?_), l27.pt (fun j hj => (hp (27 + j) (by omega)).trans ?_), TLs_new (by omega) (gt 52 _ (by omega) rfl) (gt 53 _ (by omega) rfl) (gt 54 _ (by omega) rfl), ⟨gt 55 _ (by omega) rfl, Nat.zero_le _, _, gt 56 _ (by omega) rfl, fun i x hx => (by cases hx)⟩, Or.inl rfl⟩
  · show e_PG[2 + j]? = ([z_arr 0, z_arr 0] ++ e_Lane 2)[2 + j]?
    rcases (show j = 0 ∨ j = 1 ∨ j = 2 ∨ j = 3 ∨ j = 4 ∨ j = 5 ∨ j = 6 ∨ j = 7 ∨ j = 8 ∨ j = 9 ∨ j = 10 ∨ j = 11 ∨ j = 12 ∨ j = 13 ∨ j = 14 ∨ j = 15 ∨ j = 16 ∨ j = 17 ∨ j = 18 ∨ j = 19 ∨ j = 20 ∨ j = 21 ∨ j = 22 ∨ j = 23 ∨ j = 24 by omega) with q | q | q | q | q | q | q | q | q | q | q | q | q | q | q | q | q | q | q | q | q | q | q | q | q <;> subst q <;> rfl
  · show e_PG[27 + j]? = (List.replicate 27 (z_arr 0) ++ e_Lane 27)[27 + j]?
    rcases (show j = 0 ∨ j = 1 ∨ j = 2 ∨ j = 3 ∨ j = 4 ∨ j = 5 ∨ j = 6 ∨ j = 7 ∨ j = 8 ∨ j = 9 ∨ j = 10 ∨ j = 11 ∨ j = 12 ∨ j = 13 ∨ j = 14 ∨ j = 15 ∨ j = 16 ∨ j = 17 ∨ j = 18 ∨ j = 19 ∨ j = 20 ∨ j = 21 ∨ j = 22 ∨ j = 23 ∨ j = 24 by omega) with q | q | q | q | q | q | q | q | q | q | q | q | q | q | q | q | q | q | q | q | q | q | q | q | q <;> subst q <;> rfl
