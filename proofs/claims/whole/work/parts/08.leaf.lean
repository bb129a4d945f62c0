section LEAF
variable {l : Launch} (htr : l.stackTraces = false) {d : Nat} {h : ac_H} {Φ : ac_R → ac_H → Prop}
/-! EYE: the word told, the two taken last, what is seen -/
theorem c_Eye_tell {a : Nat} {w x1 x2 x3 x4 : Int32} (hh : h[a]? = some (.inr (2, [.int x1, .int x2, .int x3, .int x4]))) (hΦ : ∀ h', fr h h' [a] → h'[a]? = some (.inr (2, [.int (w &&& 1023), .int x2, .int x3, .int x4])) → Φ (.inl none) h') : ac_Mt l d m_Eye_tell [.ref a, .int w] h 0 0 Φ := by
  refine ac_enter (by decide) rfl htr (fun _ => Nat.le_of_ble_eq_true rfl) ?_
  refine r_aload_n d_Eye_tell_0 rfl ?_
  refine r_iload_n d_Eye_tell_1 rfl ?_
  refine r_sipush 1023 d_Eye_tell_2 (by decide) ?_
  refine r_iand d_Eye_tell_5 ?_
  refine r_putfieldN d_Eye_tell_6 f_Eye_9 hh (Nat.le_of_ble_eq_true rfl) (fun _ => rfl) (fun _ => rfl) (fun h6_ fr6 g6 => ?_)
  exact r_vret d_Eye_tell_9 rfl (hΦ _ fr6 g6) (Nat.le_refl _) (Nat.le_refl _)
theorem c_Eye_take {a : Nat} {x1 x2 x3 x4 : Int32} (hh : h[a]? = some (.inr (2, [.int x1, .int x2, .int x3, .int x4]))) (hΦ : ∀ h', fr h h' [a] → h'[a]? = some (.inr (2, [.int x1, .int x1, .int x2, .int (x1 &&& x2 ||| x1 &&& x3 ||| x2 &&& x3)])) → Φ (.inl none) h') : ac_Mt l d m_Eye_take [.ref a] h 0 0 Φ := by
  refine ac_enter (by decide) rfl htr (fun _ => Nat.le_of_ble_eq_true rfl) ?_
  refine r_aload_n d_Eye_take_0 rfl ?_
  refine r_aload_n d_Eye_take_1 rfl ?_
  refine r_getfield d_Eye_take_2 f_Eye_9 hh rfl ?_
  refine r_aload_n d_Eye_take_5 rfl ?_
  refine r_getfield d_Eye_take_6 f_Eye_15 hh rfl ?_
  refine r_iand d_Eye_take_9 ?_
  refine r_aload_n d_Eye_take_10 rfl ?_
  refine r_getfield d_Eye_take_11 f_Eye_9 hh rfl ?_
  refine r_aload_n d_Eye_take_14 rfl ?_
  refine r_getfield d_Eye_take_15 f_Eye_18 hh rfl ?_
  refine r_iand d_Eye_take_18 ?_
  refine r_ior d_Eye_take_19 ?_
  refine r_aload_n d_Eye_take_20 rfl ?_
  refine r_getfield d_Eye_take_21 f_Eye_15 hh rfl ?_
  refine r_aload_n d_Eye_take_24 rfl ?_
  refine r_getfield d_Eye_take_25 f_Eye_18 hh rfl ?_
  refine r_iand d_Eye_take_28 ?_
  refine r_ior d_Eye_take_29 ?_
  refine r_putfieldN d_Eye_take_30 f_Eye_21 hh (Nat.le_of_ble_eq_true rfl) (fun _ => rfl) (fun _ => rfl) (fun h30_ fr30 g30 => ?_)
  refine r_aload_n d_Eye_take_33 rfl ?_
  refine r_aload_n d_Eye_take_34 rfl ?_
  refine r_getfield d_Eye_take_35 f_Eye_15 g30 rfl ?_
  refine r_putfieldN d_Eye_take_38 f_Eye_18 g30 (Nat.le_of_ble_eq_true rfl) (fun _ => rfl) (fun _ => rfl) (fun h38_ fr38 g38 => ?_)
  refine r_aload_n d_Eye_take_41 rfl ?_
  refine r_aload_n d_Eye_take_42 rfl ?_
  refine r_getfield d_Eye_take_43 f_Eye_9 g38 rfl ?_
  refine r_putfieldN d_Eye_take_46 f_Eye_15 g38 (Nat.le_of_ble_eq_true rfl) (fun _ => rfl) (fun _ => rfl) (fun h46_ fr46 g46 => ?_)
  exact r_vret d_Eye_take_49 rfl (hΦ _ (fr_tr (fr_tr fr30 fr38 (fun _ q => q) (fun _ q => q)) fr46 (fun _ q => q) (fun _ q => q)) g46) (Nat.le_refl _) (Nat.le_refl _)
/-! REFUNDS -/
theorem c_Rf_add {r : Nat} {x : Int32} {q : List Int32} (H : Rfs h r q) (hΦ : q.length < 512 → ∀ h', fr h h' [r, r + 1] → Rfs h' r (q ++ [x]) → Φ (.inl none) h') (hΨ : q.length = 512 → Φ (.inl none) h) : ac_Mt l d m_Rf_add [.ref r, .int x] h 0 0 Φ := by
  obtain ⟨a1, a2, f, a4, a6⟩ := H
  refine ac_enter (by decide) rfl htr (fun _ => Nat.le_of_ble_eq_true rfl) ?_
  refine r_aload_n d_Rf_add_0 rfl ?_
  refine r_getfield d_Rf_add_1 f_Rf_15 a1 rfl ?_
  refine r_aload_n d_Rf_add_4 rfl ?_
  refine r_getfield d_Rf_add_5 f_Rf_9 a1 rfl ?_
  refine r_alenI d_Rf_add_8 a4 ?_
  refine r_icmp_ge 32 d_Rf_add_9 (by decide) (fun c1 => ?_) (fun c1 => ?_)
  · exact r_vret d_Rf_add_32 rfl (hΨ (by have := (nI_leI (by omega) (by omega)).mp c1; omega)) (Nat.le_refl _) (Nat.le_refl _)
  · have hlt : q.length < 512 := by
      rcases Nat.lt_or_ge q.length 512 with z | z
      · exact z
      · exact absurd ((nI_leI (by omega) (by omega)).mpr z) c1
    refine r_aload_n d_Rf_add_12 rfl ?_
    refine r_getfield d_Rf_add_13 f_Rf_9 a1 rfl ?_
    refine r_aload_n d_Rf_add_16 rfl ?_
    refine r_getfield d_Rf_add_17 f_Rf_15 a1 rfl ?_
    refine r_iload_n d_Rf_add_20 rfl ?_
    refine r_iastoreN d_Rf_add_21 a4 hlt (by omega) (fun h21_ fr21 g21 => ?_)
    have b1 := fr_at fr21 (b := r) (by simp) a1
    refine r_aload_n d_Rf_add_22 rfl ?_
    refine r_dup d_Rf_add_23 rfl ?_
    refine r_getfield d_Rf_add_24 f_Rf_15 b1 rfl ?_
    refine r_iconst 1 d_Rf_add_27 (by decide) ?_
    refine r_iadd d_Rf_add_28 ?_
    refine r_ri (nI_1 _) ?_
    refine r_putfieldN d_Rf_add_29 f_Rf_15 b1 (Nat.le_of_ble_eq_true rfl) (fun _ => rfl) (fun _ => rfl) (fun h29_ fr29 g29 => ?_)
    refine r_vret d_Rf_add_32 rfl (hΦ hlt _ (fr_tr fr21 fr29 (by simp) (by simp)) ⟨?_, ?_, _, fr_at fr29 (by simp) g21, in1_add a6⟩) (Nat.le_refl _) (Nat.le_refl _)
    · rw [List.length_append]; exact g29
    · rw [List.length_append]; exact hlt
end LEAF
