/-! A BODY: first, last, side, account, length -/
abbrev sp_B : Type := Nat × Nat × Nat × Int32 × Nat
def bo (b : sp_B) : ac_E := .inr (1, [.int (nI b.1), .int (nI b.2.1), .int (nI b.2.2.1), .int b.2.2.2.1, .int (nI b.2.2.2.2)])
def okB (b : sp_B) : Prop := b.1 ≤ b.2.1 ∧ b.2.1 ≤ 9 ∧ b.2.2.1 ≤ 1 ∧ b.2.2.2.2 ≤ 10 ∧ (b.2.2.2.1 = -1 ∨ 0 ≤ b.2.2.2.1.toInt)
theorem nI1 : (1 : Int32) = nI 1 := by decide
theorem nI2 : (2 : Int32) = nI 2 := by decide
theorem nI3 : (3 : Int32) = nI 3 := by decide
theorem nI4 : (4 : Int32) = nI 4 := by decide
theorem nI5 : (5 : Int32) = nI 5 := by decide
theorem nI6 : (6 : Int32) = nI 6 := by decide
theorem nI7 : (7 : Int32) = nI 7 := by decide
theorem nI9 : (9 : Int32) = nI 9 := by decide
theorem nI10 : (10 : Int32) = nI 10 := by decide
theorem c_Body_startsLow {l : Launch} (htr : l.stackTraces = false) {d : Nat} {h : ac_H} {Φ : ac_R → ac_H → Prop} {a : Nat} {b : sp_B} (hh : h[a]? = some (bo b)) (ok : okB b) (hΦ : Φ (.inl (some (.int (if b.1 ≤ 2 then 1 else 0)))) h) : ac_Mt l d m_Body_startsLow [.ref a] h 0 0 Φ := by
  obtain ⟨o1, o2, o3, o4, -⟩ := ok
  refine ac_enter (by decide) rfl htr (fun _ => Nat.le_of_ble_eq_true rfl) ?_
  refine r_aload_n d_Body_startsLow_0 rfl ?_
  refine r_getfield d_Body_startsLow_1 f_Body_9 hh rfl ?_
  refine r_iconst 2 d_Body_startsLow_4 (by decide) ?_
  refine r_ri nI2 ?_
  refine r_icmp_gt 12 d_Body_startsLow_5 (by decide) (fun c1 => ?_) (fun c1 => ?_)
  · refine r_iconst 0 d_Body_startsLow_12 (by decide) ?_
    have := (nI_ltI (by omega) (by omega)).mp c1
    rw [if_neg (by omega)] at hΦ
    exact r_zret d_Body_startsLow_13 rfl (Or.inl rfl) hΦ (Nat.le_refl _) (Nat.le_refl _)
  · refine r_iconst 1 d_Body_startsLow_8 (by decide) ?_
    refine r_goto 13 d_Body_startsLow_9 (by decide) ?_
    have h9 : ¬ 2 < b.1 := fun z => c1 ((nI_ltI (by omega) (by omega)).mpr z)
    rw [if_pos (by omega)] at hΦ
    exact r_zret d_Body_startsLow_13 rfl (Or.inr rfl) hΦ (Nat.le_refl _) (Nat.le_refl _)
theorem c_Body_endsHigh {l : Launch} (htr : l.stackTraces = false) {d : Nat} {h : ac_H} {Φ : ac_R → ac_H → Prop} {a : Nat} {b : sp_B} (hh : h[a]? = some (bo b)) (ok : okB b) (hΦ : Φ (.inl (some (.int (if 7 ≤ b.2.1 then 1 else 0)))) h) : ac_Mt l d m_Body_endsHigh [.ref a] h 0 0 Φ := by
  obtain ⟨o1, o2, o3, o4, -⟩ := ok
  refine ac_enter (by decide) rfl htr (fun _ => Nat.le_of_ble_eq_true rfl) ?_
  refine r_aload_n d_Body_endsHigh_0 rfl ?_
  refine r_getfield d_Body_endsHigh_1 f_Body_15 hh rfl ?_
  refine r_bipush 7 d_Body_endsHigh_4 (by decide) ?_
  refine r_ri nI7 ?_
  refine r_icmp_lt 13 d_Body_endsHigh_6 (by decide) (fun c1 => ?_) (fun c1 => ?_)
  · refine r_iconst 0 d_Body_endsHigh_13 (by decide) ?_
    have := (nI_ltI (by omega) (by omega)).mp c1
    rw [if_neg (by omega)] at hΦ
    exact r_zret d_Body_endsHigh_14 rfl (Or.inl rfl) hΦ (Nat.le_refl _) (Nat.le_refl _)
  · refine r_iconst 1 d_Body_endsHigh_9 (by decide) ?_
    refine r_goto 14 d_Body_endsHigh_10 (by decide) ?_
    have h9 : ¬ b.2.1 < 7 := fun z => c1 ((nI_ltI (by omega) (by omega)).mpr z)
    rw [if_pos (by omega)] at hΦ
    exact r_zret d_Body_endsHigh_14 rfl (Or.inr rfl) hΦ (Nat.le_refl _) (Nat.le_refl _)
/-- gone through; turned back; at the paddles -/
def thru (b : sp_B) : Prop := if b.2.2.1 = 0 then 7 ≤ b.2.1 else b.1 ≤ 2
def turnd (b : sp_B) : Prop := if b.2.2.1 = 0 then b.1 ≤ 2 else 7 ≤ b.2.1
def rched (b : sp_B) : Prop := if b.2.2.1 = 0 then 4 ≤ b.2.1 else b.1 ≤ 5
noncomputable def b01 (P : Prop) : Int32 := @ite _ P (Classical.propDecidable P) 1 0
theorem b01_t {P : Prop} (h : P) : b01 P = 1 := if_pos h
theorem b01_f {P : Prop} (h : ¬ P) : b01 P = 0 := if_neg h
theorem b01_or (P : Prop) : b01 P = 0 ∨ b01 P = 1 := by
  by_cases h : P
  · exact Or.inr (b01_t h)
  · exact Or.inl (b01_f h)
theorem b01_0 {P : Prop} : b01 P = 0 ↔ ¬ P := by
  by_cases h : P
  · rw [b01_t h]; exact ⟨fun z => absurd z (by decide), fun z => absurd h z⟩
  · rw [b01_f h]; exact ⟨fun _ => h, fun _ => rfl⟩
theorem b01_if {P : Prop} [Decidable P] : (if P then (1 : Int32) else 0) = b01 P := by
  by_cases h : P
  · rw [b01_t h, if_pos h]
  · rw [b01_f h, if_neg h]
theorem b01_iff {P Q : Prop} (h : P ↔ Q) : b01 P = b01 Q := by rw [propext h]
theorem c_Body_isThrough {l : Launch} (htr : l.stackTraces = false) {d : Nat} {h : ac_H} {Φ : ac_R → ac_H → Prop} {a : Nat} {b : sp_B} (hd : 1 ≤ d) (hh : h[a]? = some (bo b)) (ok : okB b) (hΦ : Φ (.inl (some (.int (b01 (thru b))))) h) : ac_Mt l d m_Body_isThrough [.ref a] h 0 0 Φ := by
  have o3 := ok.2.2.1
  refine ac_enter (by decide) rfl htr (fun _ => Nat.le_of_ble_eq_true rfl) ?_
  refine r_aload_n d_Body_isThrough_0 rfl ?_
  refine r_getfield d_Body_isThrough_1 f_Body_18 hh rfl ?_
  refine r_if_ne 14 d_Body_isThrough_4 (by decide) (fun c1 => ?_) (fun c1 => ?_)
  · have hs : ¬ b.2.2.1 = 0 := fun z => c1 (by rw [z]; decide)
    refine r_aload_n d_Body_isThrough_14 rfl ?_
    refine r_cVi [] a (d - 1) 0 0 (if b.1 ≤ 2 then 1 else 0) (fun h' => h' = h) d_Body_isThrough_15 q_Body_37 hh rfl rfl (c_Body_startsLow htr hh ok ⟨rfl, rfl⟩) (by show d - 1 + 1 ≤ d; omega) (Nat.le_refl _) (Nat.le_refl _) (Nat.le_of_ble_eq_true rfl) (fun h' e => ?_)
    subst e
    refine r_zret d_Body_isThrough_18 rfl (by split <;> simp) ?_ (Nat.le_refl _) (Nat.le_refl _)
    have e9 : (thru b) = (b.1 ≤ 2) := by unfold thru; rw [if_neg hs]
    rw [b01_if]; rw [e9] at hΦ; exact hΦ
  · have hs : b.2.2.1 = 0 := (nI_eq (by omega) (by omega)).mp (by rw [c1]; decide)
    refine r_aload_n d_Body_isThrough_7 rfl ?_
    refine r_cVi [] a (d - 1) 0 0 (if 7 ≤ b.2.1 then 1 else 0) (fun h' => h' = h) d_Body_isThrough_8 q_Body_33 hh rfl rfl (c_Body_endsHigh htr hh ok ⟨rfl, rfl⟩) (by show d - 1 + 1 ≤ d; omega) (Nat.le_refl _) (Nat.le_refl _) (Nat.le_of_ble_eq_true rfl) (fun h' e => ?_)
    subst e
    refine r_goto 18 d_Body_isThrough_11 (by decide) ?_
    refine r_zret d_Body_isThrough_18 rfl (by split <;> simp) ?_ (Nat.le_refl _) (Nat.le_refl _)
    have e9 : (thru b) = (7 ≤ b.2.1) := by unfold thru; rw [if_pos hs]
    rw [b01_if]; rw [e9] at hΦ; exact hΦ
theorem c_Body_isTurned {l : Launch} (htr : l.stackTraces = false) {d : Nat} {h : ac_H} {Φ : ac_R → ac_H → Prop} {a : Nat} {b : sp_B} (hd : 1 ≤ d) (hh : h[a]? = some (bo b)) (ok : okB b) (hΦ : Φ (.inl (some (.int (b01 (turnd b))))) h) : ac_Mt l d m_Body_isTurned [.ref a] h 0 0 Φ := by
  have o3 := ok.2.2.1
  refine ac_enter (by decide) rfl htr (fun _ => Nat.le_of_ble_eq_true rfl) ?_
  refine r_aload_n d_Body_isTurned_0 rfl ?_
  refine r_getfield d_Body_isTurned_1 f_Body_18 hh rfl ?_
  refine r_if_ne 14 d_Body_isTurned_4 (by decide) (fun c1 => ?_) (fun c1 => ?_)
  · have hs : ¬ b.2.2.1 = 0 := fun z => c1 (by rw [z]; decide)
    refine r_aload_n d_Body_isTurned_14 rfl ?_
    refine r_cVi [] a (d - 1) 0 0 (if 7 ≤ b.2.1 then 1 else 0) (fun h' => h' = h) d_Body_isTurned_15 q_Body_33 hh rfl rfl (c_Body_endsHigh htr hh ok ⟨rfl, rfl⟩) (by show d - 1 + 1 ≤ d; omega) (Nat.le_refl _) (Nat.le_refl _) (Nat.le_of_ble_eq_true rfl) (fun h' e => ?_)
    subst e
    refine r_zret d_Body_isTurned_18 rfl (by split <;> simp) ?_ (Nat.le_refl _) (Nat.le_refl _)
    have e9 : (turnd b) = (7 ≤ b.2.1) := by unfold turnd; rw [if_neg hs]
    rw [b01_if]; rw [e9] at hΦ; exact hΦ
  · have hs : b.2.2.1 = 0 := (nI_eq (by omega) (by omega)).mp (by rw [c1]; decide)
    refine r_aload_n d_Body_isTurned_7 rfl ?_
    refine r_cVi [] a (d - 1) 0 0 (if b.1 ≤ 2 then 1 else 0) (fun h' => h' = h) d_Body_isTurned_8 q_Body_37 hh rfl rfl (c_Body_startsLow htr hh ok ⟨rfl, rfl⟩) (by show d - 1 + 1 ≤ d; omega) (Nat.le_refl _) (Nat.le_refl _) (Nat.le_of_ble_eq_true rfl) (fun h' e => ?_)
    subst e
    refine r_goto 18 d_Body_isTurned_11 (by decide) ?_
    refine r_zret d_Body_isTurned_18 rfl (by split <;> simp) ?_ (Nat.le_refl _) (Nat.le_refl _)
    have e9 : (turnd b) = (b.1 ≤ 2) := by unfold turnd; rw [if_pos hs]
    rw [b01_if]; rw [e9] at hΦ; exact hΦ
theorem c_Body_reached {l : Launch} (htr : l.stackTraces = false) {d : Nat} {h : ac_H} {Φ : ac_R → ac_H → Prop} {a : Nat} {b : sp_B} (hh : h[a]? = some (bo b)) (ok : okB b) (hΦ : Φ (.inl (some (.int (b01 (rched b))))) h) : ac_Mt l d m_Body_hasReachedPaddles [.ref a] h 0 0 Φ := by
  obtain ⟨o1, o2, o3, o4, -⟩ := ok
  refine ac_enter (by decide) rfl htr (fun _ => Nat.le_of_ble_eq_true rfl) ?_
  refine r_aload_n d_Body_hasReachedPaddles_0 rfl ?_
  refine r_getfield d_Body_hasReachedPaddles_1 f_Body_18 hh rfl ?_
  refine r_if_ne 23 d_Body_hasReachedPaddles_4 (by decide) (fun c1 => ?_) (fun c1 => ?_)
  · have hs : ¬ b.2.2.1 = 0 := fun z => c1 (by rw [z]; decide)
    refine r_aload_n d_Body_hasReachedPaddles_23 rfl ?_
    refine r_getfield d_Body_hasReachedPaddles_24 f_Body_9 hh rfl ?_
    refine r_iconst 5 d_Body_hasReachedPaddles_27 (by decide) ?_
    refine r_ri nI5 ?_
    have e9 : (rched b) = (b.1 ≤ 5) := by unfold rched; rw [if_neg hs]
    rw [e9] at hΦ
    refine r_icmp_gt 35 d_Body_hasReachedPaddles_28 (by decide) (fun c2 => ?_) (fun c2 => ?_)
    · refine r_iconst 0 d_Body_hasReachedPaddles_35 (by decide) ?_
      rw [b01_f (by have := (nI_ltI (by omega) (by omega)).mp c2; omega)] at hΦ
      exact r_zret d_Body_hasReachedPaddles_36 rfl (Or.inl rfl) hΦ (Nat.le_refl _) (Nat.le_refl _)
    · refine r_iconst 1 d_Body_hasReachedPaddles_31 (by decide) ?_
      refine r_goto 36 d_Body_hasReachedPaddles_32 (by decide) ?_
      rw [b01_t (by rcases Nat.lt_or_ge 5 b.1 with z | z; exact absurd ((nI_ltI (by omega) (by omega)).mpr z) c2; exact z)] at hΦ
      exact r_zret d_Body_hasReachedPaddles_36 rfl (Or.inr rfl) hΦ (Nat.le_refl _) (Nat.le_refl _)
  · have hs : b.2.2.1 = 0 := (nI_eq (by omega) (by omega)).mp (by rw [c1]; decide)
    refine r_aload_n d_Body_hasReachedPaddles_7 rfl ?_
    refine r_getfield d_Body_hasReachedPaddles_8 f_Body_15 hh rfl ?_
    refine r_iconst 4 d_Body_hasReachedPaddles_11 (by decide) ?_
    refine r_ri nI4 ?_
    have e9 : (rched b) = (4 ≤ b.2.1) := by unfold rched; rw [if_pos hs]
    rw [e9] at hΦ
    refine r_icmp_lt 19 d_Body_hasReachedPaddles_12 (by decide) (fun c2 => ?_) (fun c2 => ?_)
    · refine r_iconst 0 d_Body_hasReachedPaddles_19 (by decide) ?_
      refine r_goto 36 d_Body_hasReachedPaddles_20 (by decide) ?_
      rw [b01_f (by have := (nI_ltI (by omega) (by omega)).mp c2; omega)] at hΦ
      exact r_zret d_Body_hasReachedPaddles_36 rfl (Or.inl rfl) hΦ (Nat.le_refl _) (Nat.le_refl _)
    · refine r_iconst 1 d_Body_hasReachedPaddles_15 (by decide) ?_
      refine r_goto 36 d_Body_hasReachedPaddles_16 (by decide) ?_
      rw [b01_t (by rcases Nat.lt_or_ge b.2.1 4 with z | z; exact absurd ((nI_ltI (by omega) (by omega)).mpr z) c2; exact z)] at hΦ
      exact r_zret d_Body_hasReachedPaddles_36 rfl (Or.inr rfl) hΦ (Nat.le_refl _) (Nat.le_refl _)
theorem nI_len {a b : Nat} (h : a ≤ b) : nI b - nI a + 1 = nI (b - a + 1) := by rw [pk_sub h, nI_1]
theorem nI_max {a b : Nat} (ha : a < 2 ^ 31) (hb : b < 2 ^ 31) : (if nI a < nI b then nI b else nI a) = nI (max a b) := by
  by_cases h : a < b
  · rw [if_pos ((nI_ltI ha hb).mpr h), Nat.max_eq_right (by omega)]
  · rw [if_neg (fun z => h ((nI_ltI ha hb).mp z)), Nat.max_eq_left (by omega)]
theorem c_Body_enter {l : Launch} (htr : l.stackTraces = false) {d : Nat} {h : ac_H} {Φ : ac_R → ac_H → Prop} {a f e s : Nat} {fs : sp_B} (hh : h[a]? = some (bo fs)) (hfe : f ≤ e) (hΦ : ∀ h', fr h h' [a] → h'[a]? = some (bo (f, e, s, -1, e - f + 1)) → Φ (.inl none) h') : ac_Mt l d m_Body_enter [.ref a, .int (nI f), .int (nI e), .int (nI s)] h 0 0 Φ := by
  refine ac_enter (by decide) rfl htr (fun _ => Nat.le_of_ble_eq_true rfl) ?_
  refine r_aload_n d_Body_enter_0 rfl ?_
  refine r_iload_n d_Body_enter_1 rfl ?_
  refine r_putfieldN d_Body_enter_2 f_Body_9 hh (Nat.le_of_ble_eq_true rfl) (fun _ => rfl) (fun _ => rfl) (fun h2_ fr2 g2 => ?_)
  refine r_aload_n d_Body_enter_5 rfl ?_
  refine r_iload_n d_Body_enter_6 rfl ?_
  refine r_putfieldN d_Body_enter_7 f_Body_15 g2 (Nat.le_of_ble_eq_true rfl) (fun _ => rfl) (fun _ => rfl) (fun h7_ fr7 g7 => ?_)
  refine r_aload_n d_Body_enter_10 rfl ?_
  refine r_iload_n d_Body_enter_11 rfl ?_
  refine r_putfieldN d_Body_enter_12 f_Body_18 g7 (Nat.le_of_ble_eq_true rfl) (fun _ => rfl) (fun _ => rfl) (fun h12_ fr12 g12 => ?_)
  refine r_aload_n d_Body_enter_15 rfl ?_
  refine r_iconst (-1) d_Body_enter_16 (by decide) ?_
  refine r_putfieldN d_Body_enter_17 f_Body_21 g12 (Nat.le_of_ble_eq_true rfl) (fun _ => rfl) (fun _ => rfl) (fun h17_ fr17 g17 => ?_)
  refine r_aload_n d_Body_enter_20 rfl ?_
  refine r_iload_n d_Body_enter_21 rfl ?_
  refine r_iload_n d_Body_enter_22 rfl ?_
  refine r_isub d_Body_enter_23 ?_
  refine r_iconst 1 d_Body_enter_24 (by decide) ?_
  refine r_iadd d_Body_enter_25 ?_
  refine r_ri (nI_len hfe) ?_
  refine r_putfieldN d_Body_enter_26 f_Body_24 g17 (Nat.le_of_ble_eq_true rfl) (fun _ => rfl) (fun _ => rfl) (fun h26_ fr26 g26 => ?_)
  exact r_vret d_Body_enter_29 rfl (hΦ _ (fr_tr (fr_tr (fr_tr (fr_tr fr2 fr7 (fun _ q => q) (fun _ q => q)) fr12 (fun _ q => q) (fun _ q => q)) fr17 (fun _ q => q) (fun _ q => q)) fr26 (fun _ q => q) (fun _ q => q)) g26) (Nat.le_refl _) (Nat.le_refl _)
theorem c_Body_follow {l : Launch} (htr : l.stackTraces = false) {d : Nat} {h : ac_H} {Φ : ac_R → ac_H → Prop} {a o f e : Nat} {fs b : sp_B} (hd : 1 ≤ d) (hh : h[a]? = some (bo fs)) (ho : h[o]? = some (bo b)) (hao : o ≠ a) (ok : okB b) (hfe : f ≤ e) (he : e ≤ 9) (hΦ : ∀ h', fr h h' [a] → h'[a]? = some (bo (f, e, b.2.2.1, b.2.2.2.1, max b.2.2.2.2 (e - f + 1))) → Φ (.inl none) h') : ac_Mt l d m_Body_follow [.ref a, .ref o, .int (nI f), .int (nI e)] h 0 0 Φ := by
  have o4 := ok.2.2.2.1
  have hno : o ∉ [a] := by simp [hao]
  refine ac_enter (by decide) rfl htr (fun _ => Nat.le_of_ble_eq_true rfl) ?_
  refine r_aload_n d_Body_follow_0 rfl ?_
  refine r_iload_n d_Body_follow_1 rfl ?_
  refine r_putfieldN d_Body_follow_2 f_Body_9 hh (Nat.le_of_ble_eq_true rfl) (fun _ => rfl) (fun _ => rfl) (fun h2_ fr2 g2 => ?_)
  refine r_aload_n d_Body_follow_5 rfl ?_
  refine r_iload_n d_Body_follow_6 rfl ?_
  refine r_putfieldN d_Body_follow_7 f_Body_15 g2 (Nat.le_of_ble_eq_true rfl) (fun _ => rfl) (fun _ => rfl) (fun h7_ fr7 g7 => ?_)
  have p7 := fr_at fr7 hno (fr_at fr2 hno ho)
  refine r_aload_n d_Body_follow_10 rfl ?_
  refine r_aload_n d_Body_follow_11 rfl ?_
  refine r_getfield d_Body_follow_12 f_Body_18 p7 rfl ?_
  refine r_putfieldN d_Body_follow_15 f_Body_18 g7 (Nat.le_of_ble_eq_true rfl) (fun _ => rfl) (fun _ => rfl) (fun h15_ fr15 g15 => ?_)
  have p15 := fr_at fr15 hno p7
  refine r_aload_n d_Body_follow_18 rfl ?_
  refine r_aload_n d_Body_follow_19 rfl ?_
  refine r_getfield d_Body_follow_20 f_Body_21 p15 rfl ?_
  refine r_putfieldN d_Body_follow_23 f_Body_21 g15 (Nat.le_of_ble_eq_true rfl) (fun _ => rfl) (fun _ => rfl) (fun h23_ fr23 g23 => ?_)
  have p23 := fr_at fr23 hno p15
  refine r_aload_n d_Body_follow_26 rfl ?_
  refine r_aload_n d_Body_follow_27 rfl ?_
  refine r_getfield d_Body_follow_28 f_Body_24 p23 rfl ?_
  refine r_iload_n d_Body_follow_31 rfl ?_
  refine r_iload_n d_Body_follow_32 rfl ?_
  refine r_isub d_Body_follow_33 ?_
  refine r_iconst 1 d_Body_follow_34 (by decide) ?_
  refine r_iadd d_Body_follow_35 ?_
  refine r_ri (nI_len hfe) ?_
  have hd1 : 1 ≤ ac_d (l, d, m_Body_follow, 0, 0, Φ, h.length, none) := hd
  refine r_max d_Body_follow_36 mx_Body_27 mx_1 mx_2 mx_3 (by omega) (Nat.le_of_ble_eq_true rfl) (Nat.le_of_ble_eq_true rfl) (Nat.le_of_ble_eq_true rfl) ?_
  refine r_ri (nI_max (by omega) (by omega)) ?_
  refine r_putfieldN d_Body_follow_39 f_Body_24 g23 (Nat.le_of_ble_eq_true rfl) (fun _ => rfl) (fun _ => rfl) (fun h39_ fr39 g39 => ?_)
  exact r_vret d_Body_follow_42 rfl (hΦ _ (fr_tr (fr_tr (fr_tr (fr_tr fr2 fr7 (fun _ q => q) (fun _ q => q)) fr15 (fun _ q => q) (fun _ q => q)) fr23 (fun _ q => q) (fun _ q => q)) fr39 (fun _ q => q) (fun _ q => q)) g39) (Nat.le_refl _) (Nat.le_refl _)
