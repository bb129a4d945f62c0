/-! EYE: the word told, the two taken last, what is seen -/
theorem c_Eye_tell {l : Launch} (htr : l.stackTraces = false) {d : Nat} {h : ac_H} {Φ : ac_R → ac_H → Prop} {a : Nat} {w x1 x2 x3 x4 : Int32} (hh : h[a]? = some (.inr (2, [.int x1, .int x2, .int x3, .int x4]))) (hΦ : ∀ h', fr h h' [a] → h'[a]? = some (.inr (2, [.int (w &&& 1023), .int x2, .int x3, .int x4])) → Φ (.inl none) h') : ac_Mt l d m_Eye_tell [.ref a, .int w] h 0 0 Φ := by
  refine ac_enter (by decide) rfl htr (fun _ => Nat.le_of_ble_eq_true rfl) ?_
  refine r_aload_n d_Eye_tell_0 rfl ?_
  refine r_iload_n d_Eye_tell_1 rfl ?_
  refine r_sipush 1023 d_Eye_tell_2 (by decide) ?_
  refine r_iand d_Eye_tell_5 ?_
  refine r_putfieldN d_Eye_tell_6 f_Eye_9 hh (Nat.le_of_ble_eq_true rfl) (fun _ => rfl) (fun _ => rfl) (fun h6_ fr6 g6 => ?_)
  exact r_vret d_Eye_tell_9 rfl (hΦ _ fr6 g6) (Nat.le_refl _) (Nat.le_refl _)
theorem c_Eye_take {l : Launch} (htr : l.stackTraces = false) {d : Nat} {h : ac_H} {Φ : ac_R → ac_H → Prop} {a : Nat} {x1 x2 x3 x4 : Int32} (hh : h[a]? = some (.inr (2, [.int x1, .int x2, .int x3, .int x4]))) (hΦ : ∀ h', fr h h' [a] → h'[a]? = some (.inr (2, [.int x1, .int x1, .int x2, .int (x1 &&& x2 ||| x1 &&& x3 ||| x2 &&& x3)])) → Φ (.inl none) h') : ac_Mt l d m_Eye_take [.ref a] h 0 0 Φ := by
  refine ac_enter (by decide) rfl htr (fun _ => Nat.le_of_ble_eq_true rfl) ?_
  refine r_aload_n d_Eye_take_0 rfl ?_
  refine r_aload_n d_Eye_take_1 rfl ?_
  refine r_getfield d_Eye_take_2 f_Eye_9 hh rfl ?_
  refine r_aload_n d_Eye_take_5 rfl ?_
  refine r_getfield d_Eye_take_6 f_Eye_15 hh rfl ?_
  refine r_iand d_Eye_take_9 ?_
  refine r_aload_n d_Eye_take_10 rfl ?_
  refine r_getfield d_Eye_take_11 f_Eye_9 hh rfl ?_
  refine r_aload_n d_Eye_take_14 rfl ?_
  refine r_getfield d_Eye_take_15 f_Eye_18 hh rfl ?_
  refine r_iand d_Eye_take_18 ?_
  refine r_ior d_Eye_take_19 ?_
  refine r_aload_n d_Eye_take_20 rfl ?_
  refine r_getfield d_Eye_take_21 f_Eye_15 hh rfl ?_
  refine r_aload_n d_Eye_take_24 rfl ?_
  refine r_getfield d_Eye_take_25 f_Eye_18 hh rfl ?_
  refine r_iand d_Eye_take_28 ?_
  refine r_ior d_Eye_take_29 ?_
  refine r_putfieldN d_Eye_take_30 f_Eye_21 hh (Nat.le_of_ble_eq_true rfl) (fun _ => rfl) (fun _ => rfl) (fun h30_ fr30 g30 => ?_)
  refine r_aload_n d_Eye_take_33 rfl ?_
  refine r_aload_n d_Eye_take_34 rfl ?_
  refine r_getfield d_Eye_take_35 f_Eye_15 g30 rfl ?_
  refine r_putfieldN d_Eye_take_38 f_Eye_18 g30 (Nat.le_of_ble_eq_true rfl) (fun _ => rfl) (fun _ => rfl) (fun h38_ fr38 g38 => ?_)
  refine r_aload_n d_Eye_take_41 rfl ?_
  refine r_aload_n d_Eye_take_42 rfl ?_
  refine r_getfield d_Eye_take_43 f_Eye_9 g38 rfl ?_
  refine r_putfieldN d_Eye_take_46 f_Eye_15 g38 (Nat.le_of_ble_eq_true rfl) (fun _ => rfl) (fun _ => rfl) (fun h46_ fr46 g46 => ?_)
  exact r_vret d_Eye_take_49 rfl (hΦ _ (fr_tr (fr_tr fr30 fr38 (fun _ q => q) (fun _ q => q)) fr46 (fun _ q => q) (fun _ q => q)) g46) (Nat.le_refl _) (Nat.le_refl _)
/-! REFUNDS -/
theorem c_Rf_add {l : Launch} (htr : l.stackTraces = false) {d : Nat} {h : ac_H} {Φ : ac_R → ac_H → Prop} {r : Nat} {x : Int32} {q : List Int32} (H : Rfs h r q) (hΦ : q.length < 512 → ∀ h', fr h h' [r, r + 1] → Rfs h' r (q ++ [x]) → Φ (.inl none) h') (hΨ : q.length = 512 → Φ (.inl none) h) : ac_Mt l d m_Rf_add [.ref r, .int x] h 0 0 Φ := by
  obtain ⟨a1, a2, f, a4, a6⟩ := H
  refine ac_enter (by decide) rfl htr (fun _ => Nat.le_of_ble_eq_true rfl) ?_
  refine r_aload_n d_Rf_add_0 rfl ?_
  refine r_getfield d_Rf_add_1 f_Rf_15 a1 rfl ?_
  refine r_aload_n d_Rf_add_4 rfl ?_
  refine r_getfield d_Rf_add_5 f_Rf_9 a1 rfl ?_
  refine r_alenI d_Rf_add_8 a4 ?_
  refine r_icmp_ge 32 d_Rf_add_9 (by decide) (fun c1 => ?_) (fun c1 => ?_)
  · exact r_vret d_Rf_add_32 rfl (hΨ (by have := (nI_leI (by omega) (by omega)).mp c1; omega)) (Nat.le_refl _) (Nat.le_refl _)
  · have hlt : q.length < 512 := by
      rcases Nat.lt_or_ge q.length 512 with z | z
      · exact z
      · exact absurd ((nI_leI (by omega) (by omega)).mpr z) c1
    refine r_aload_n d_Rf_add_12 rfl ?_
    refine r_getfield d_Rf_add_13 f_Rf_9 a1 rfl ?_
    refine r_aload_n d_Rf_add_16 rfl ?_
    refine r_getfield d_Rf_add_17 f_Rf_15 a1 rfl ?_
    refine r_iload_n d_Rf_add_20 rfl ?_
    refine r_iastoreN d_Rf_add_21 a4 hlt (by omega) (fun h21_ fr21 g21 => ?_)
    have b1 := fr_at fr21 (b := r) (by simp) a1
    refine r_aload_n d_Rf_add_22 rfl ?_
    refine r_dup d_Rf_add_23 rfl ?_
    refine r_getfield d_Rf_add_24 f_Rf_15 b1 rfl ?_
    refine r_iconst 1 d_Rf_add_27 (by decide) ?_
    refine r_iadd d_Rf_add_28 ?_
    refine r_ri (nI_1 _) ?_
    refine r_putfieldN d_Rf_add_29 f_Rf_15 b1 (Nat.le_of_ble_eq_true rfl) (fun _ => rfl) (fun _ => rfl) (fun h29_ fr29 g29 => ?_)
    refine r_vret d_Rf_add_32 rfl (hΦ hlt _ (fr_tr fr21 fr29 (by simp) (by simp)) ⟨?_, ?_, _, fr_at fr29 (by simp) g21, in1_add a6⟩) (Nat.le_refl _) (Nat.le_refl _)
    · rw [List.length_append]; exact g29
    · rw [List.length_append]; exact hlt
theorem c_Rf_accountAt {l : Launch} (htr : l.stackTraces = false) {d : Nat} {h : ac_H} {Φ : ac_R → ac_H → Prop} {r : Nat} {i : Int32} {q : List Int32} (H : Rfs h r q) (hΦ : Φ (.inl (some (.int (if 0 ≤ i.toInt then (q[i.toInt.toNat]?).getD (-1) else -1)))) h) : ac_Mt l d m_Rf_accountAt [.ref r, .int i] h 0 0 Φ := by
  obtain ⟨a1, a2, f, a4, a6⟩ := H
  refine ac_enter (by decide) rfl htr (fun _ => Nat.le_of_ble_eq_true rfl) ?_
  refine r_iload_n d_Rf_accountAt_0 rfl ?_
  refine r_if_lt 21 d_Rf_accountAt_1 (by decide) (fun c1 => ?_) (fun c1 => ?_)
  · refine r_iconst (-1) d_Rf_accountAt_21 (by decide) ?_
    have h9 : ¬ 0 ≤ i.toInt := by have := Int32.lt_iff_toInt_lt.mp c1; rw [Int32.toInt_zero] at this; omega
    rw [if_neg h9] at hΦ
    exact r_iret d_Rf_accountAt_22 rfl hΦ (Nat.le_refl _) (Nat.le_refl _)
  · obtain ⟨j, hj, rfl⟩ := nI_of c1
    rw [nI_toInt hj, if_pos (by omega), Int.toNat_natCast] at hΦ
    refine r_iload_n d_Rf_accountAt_4 rfl ?_
    refine r_aload_n d_Rf_accountAt_5 rfl ?_
    refine r_getfield d_Rf_accountAt_6 f_Rf_15 a1 rfl ?_
    refine r_icmp_ge 21 d_Rf_accountAt_9 (by decide) (fun c2 => ?_) (fun c2 => ?_)
    · refine r_iconst (-1) d_Rf_accountAt_21 (by decide) ?_
      rw [List.getElem?_eq_none ((nI_leI (by omega) (by omega)).mp c2)] at hΦ
      exact r_iret d_Rf_accountAt_22 rfl hΦ (Nat.le_refl _) (Nat.le_refl _)
    · have hlt : j < q.length := by
        rcases Nat.lt_or_ge j q.length with z | z
        · exact z
        · exact absurd ((nI_leI (by omega) (by omega)).mpr z) c2
      refine r_aload_n d_Rf_accountAt_12 rfl ?_
      refine r_getfield d_Rf_accountAt_13 f_Rf_9 a1 rfl ?_
      refine r_iload_n d_Rf_accountAt_16 rfl ?_
      refine r_ialoadN d_Rf_accountAt_17 a4 (by omega) (by omega) ?_
      refine r_goto 22 d_Rf_accountAt_18 (by decide) ?_
      rw [List.getElem?_eq_getElem hlt] at hΦ
      refine r_iret d_Rf_accountAt_22 rfl ?_ (Nat.le_refl _) (Nat.le_refl _)
      rw [a6 j _ (List.getElem?_eq_getElem hlt)]; exact hΦ
/-! PADDLES -/
def sp_order (open9 : Prop) [Decidable open9] (ang : Int32) (blocked : Prop) [Decidable blocked] : Int32 := if open9 then (if ang < 90 then 2 else 0) else if 0 < ang ∧ ¬ blocked then -2 else 0
theorem c_Pad_move {l : Launch} (htr : l.stackTraces = false) {d : Nat} {h : ac_H} {Φ : ac_R → ac_H → Prop} {a : Nat} {x y ang o : Int32} (hh : h[a]? = some (.inr (4, [.int ang, .int o]))) (hΦ : ∀ h', fr h h' [a] → h'[a]? = some (.inr (4, [.int (ang + sp_order (¬ x = 0) ang (¬ y = 0)), .int (sp_order (¬ x = 0) ang (¬ y = 0))])) → Φ (.inl none) h') : ac_Mt l d m_Pad_move [.ref a, .int x, .int y] h 0 0 Φ := by
  refine ac_enter (by decide) rfl htr (fun _ => Nat.le_of_ble_eq_true rfl) ?_
  refine r_aload_n d_Pad_move_0 rfl ?_
  refine r_iconst 0 d_Pad_move_1 (by decide) ?_
  refine r_putfieldN d_Pad_move_2 f_Pad_15 hh (Nat.le_of_ble_eq_true rfl) (fun _ => rfl) (fun _ => rfl) (fun h2_ fr2 g2 => ?_)
  have fin : ∀ (h2 : ac_H) (w : Int32), fr h h2 [a] → h2[a]? = some (.inr (4, [.int ang, .int w])) → w = sp_order (¬ x = 0) ang (¬ y = 0) → ac_G (l, d, m_Pad_move, 0, 0, Φ, h.length, none) 43 [(0, .ref a), (1, .int x), (2, .int y)] [] h2 0 0 := by
    intro h2 w f2 g2 ew
    refine r_aload_n d_Pad_move_43 rfl ?_
    refine r_dup d_Pad_move_44 rfl ?_
    refine r_getfield d_Pad_move_45 f_Pad_9 g2 rfl ?_
    refine r_aload_n d_Pad_move_48 rfl ?_
    refine r_getfield d_Pad_move_49 f_Pad_15 g2 rfl ?_
    refine r_iadd d_Pad_move_52 ?_
    refine r_putfieldN d_Pad_move_53 f_Pad_9 g2 (Nat.le_of_ble_eq_true rfl) (fun _ => rfl) (fun _ => rfl) (fun h53_ fr53 g53 => ?_)
    refine r_vret d_Pad_move_56 rfl (hΦ _ (fr_tr f2 fr53 (fun _ q => q) (fun _ q => q)) ?_) (Nat.le_refl _) (Nat.le_refl _)
    rw [← ew]; exact g53
  refine r_iload_n d_Pad_move_5 rfl ?_
  refine r_if_eq 26 d_Pad_move_6 (by decide) (fun c1 => ?_) (fun c1 => ?_)
  · refine r_aload_n d_Pad_move_26 rfl ?_
    refine r_getfield d_Pad_move_27 f_Pad_9 g2 rfl ?_
    refine r_if_le 43 d_Pad_move_30 (by decide) (fun c2 => ?_) (fun c2 => ?_)
    · exact fin _ _ fr2 g2 (by unfold sp_order; rw [if_neg (by simp [c1]), if_neg (by rw [Int32.lt_iff_toInt_lt]; rw [Int32.le_iff_toInt_le] at c2; omega)])
    · refine r_iload_n d_Pad_move_33 rfl ?_
      refine r_if_ne 43 d_Pad_move_34 (by decide) (fun c3 => ?_) (fun c3 => ?_)
      · exact fin _ _ fr2 g2 (by unfold sp_order; rw [if_neg (by simp [c1]), if_neg (fun z => z.2 c3)])
      · refine r_aload_n d_Pad_move_37 rfl ?_
        refine r_bipush (-2) d_Pad_move_38 (by decide) ?_
        refine r_putfieldN d_Pad_move_40 f_Pad_15 g2 (Nat.le_of_ble_eq_true rfl) (fun _ => rfl) (fun _ => rfl) (fun h40_ fr40 g40 => ?_)
        exact fin _ _ (fr_tr fr2 fr40 (fun _ q => q) (fun _ q => q)) g40 (by unfold sp_order; rw [if_neg (by simp [c1]), if_pos ⟨by rw [Int32.lt_iff_toInt_lt]; rw [Int32.le_iff_toInt_le] at c2; omega, fun z => z c3⟩])
  · refine r_aload_n d_Pad_move_9 rfl ?_
    refine r_getfield d_Pad_move_10 f_Pad_9 g2 rfl ?_
    refine r_bipush 90 d_Pad_move_13 (by decide) ?_
    refine r_icmp_ge 43 d_Pad_move_15 (by decide) (fun c2 => ?_) (fun c2 => ?_)
    · exact fin _ _ fr2 g2 (by unfold sp_order; rw [if_pos c1, if_neg (by rw [Int32.lt_iff_toInt_lt]; rw [Int32.le_iff_toInt_le] at c2; omega)])
    · refine r_aload_n d_Pad_move_18 rfl ?_
      refine r_iconst 2 d_Pad_move_19 (by decide) ?_
      refine r_putfieldN d_Pad_move_20 f_Pad_15 g2 (Nat.le_of_ble_eq_true rfl) (fun _ => rfl) (fun _ => rfl) (fun h20_ fr20 g20 => ?_)
      refine r_goto 43 d_Pad_move_23 (by decide) ?_
      exact fin _ _ (fr_tr fr2 fr20 (fun _ q => q) (fun _ q => q)) g20 (by unfold sp_order; rw [if_pos c1, if_pos (by rw [Int32.lt_iff_toInt_lt]; rw [Int32.le_iff_toInt_le] at c2; omega)])
