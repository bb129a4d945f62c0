/-! tokens that are given back -/
def sp_exp (now : Int32) : List (Int32 × Int32) → List Int32 → List (Int32 × Int32) × List Int32
  | [], R => ([], R)
  | x :: q, R => if now - x.2 < 200 then (x :: q, R) else sp_exp now q (R ++ [x.1])
theorem c_TL_refundExpired {l : Launch} (htr : l.stackTraces = false) {d : Nat} {h : ac_H} {Φ : ac_R → ac_H → Prop} {t N r : Nat} {now : Int32} {q : List (Int32 × Int32)} {R : List Int32} (hd : 1 ≤ d) (H : TLs h t N q) (HR : Rfs h r R) (hN : 0 < N) (htr9 : t + 2 < r) (hcap : R.length + q.length ≤ 512) (hΦ : ∀ h', fr h h' [t, t + 1, t + 2, r, r + 1] → TLs h' t N (sp_exp now q R).1 → Rfs h' r (sp_exp now q R).2 → Φ (.inl none) h') : ac_Mt l d m_TL_refundExpired [.ref t, .int now, .ref r] h 0 0 Φ := by
  have hN2 := H.2.2.1
  have hqN := H.2.1
  refine ac_enter (by decide) rfl htr (fun _ => Nat.le_of_ble_eq_true rfl) ?_
  have key : ∀ (n i : Nat) (q2 : List (Int32 × Int32)) (R2 : List Int32) (h2 : ac_H), q2.length = n → i + n = q.length → fr h h2 [t, t + 1, t + 2, r, r + 1] → TLs h2 t N q2 → Rfs h2 r R2 → R2.length + q2.length ≤ 512 → sp_exp now q2 R2 = sp_exp now q R → ac_G (l, d, m_TL_refundExpired, 0, 0, Φ, h.length, none) 8 [(4, .int (nI i)), (3, .int (nI q.length)), (0, .ref t), (1, .int now), (2, .ref r)] [] h2 0 0 := by
    intro n
    induction n with
    | zero =>
      intro i q2 R2 h2 hq hi F H2 HR2 hc he
      have hq0 : q2 = [] := List.length_eq_zero_iff.mp hq
      subst hq0
      refine r_iload d_TL_refundExpired_8 rfl ?_
      refine r_iload_n d_TL_refundExpired_10 rfl ?_
      refine r_icmp_ge 42 d_TL_refundExpired_11 (by decide) (fun c1 => ?_) (fun c1 => absurd (nI_le (by omega) (by omega)) c1)
      rw [← he] at hΦ
      exact r_vret d_TL_refundExpired_42 rfl (hΦ _ F H2 HR2) (Nat.le_refl _) (Nat.le_refl _)
    | succ n ih =>
      intro i q2 R2 h2 hq hi F H2 HR2 hc he
      obtain ⟨x, q3, rfl⟩ : ∃ x q3, q2 = x :: q3 := by
        cases q2 with
        | nil => cases hq
        | cons x q3 => exact ⟨x, q3, rfl⟩
      rw [List.length_cons] at hq hc
      obtain ⟨b1, b2, b3, f, g, b4, b5, b6⟩ := id H2
      refine r_iload d_TL_refundExpired_8 rfl ?_
      refine r_iload_n d_TL_refundExpired_10 rfl ?_
      refine r_icmp_ge 42 d_TL_refundExpired_11 (by decide) (fun c1 => absurd ((nI_leI (by omega) (by omega)).mp c1) (by omega)) (fun c1 => ?_)
      refine r_iload_n d_TL_refundExpired_14 rfl ?_
      refine r_aload_n d_TL_refundExpired_15 rfl ?_
      refine r_getfield d_TL_refundExpired_16 f_TL_25 b1 rfl ?_
      refine r_iconst 0 d_TL_refundExpired_19 (by decide) ?_
      refine r_ri nI_0.symm ?_
      refine r_ialoadN d_TL_refundExpired_20 b5 hN (by omega) ?_
      refine r_isub d_TL_refundExpired_21 ?_
      refine r_sipush 200 d_TL_refundExpired_22 (by decide) ?_
      rw [(b6 0 x rfl).2]
      refine r_icmp_lt 42 d_TL_refundExpired_25 (by decide) (fun c2 => ?_) (fun c2 => ?_)
      · have e9 : sp_exp now (x :: q3) R2 = (x :: q3, R2) := by rw [sp_exp, if_pos c2]
        rw [← he, e9] at hΦ
        exact r_vret d_TL_refundExpired_42 rfl (hΦ _ F H2 HR2) (Nat.le_refl _) (Nat.le_refl _)
      · have e9 : sp_exp now (x :: q3) R2 = sp_exp now q3 (R2 ++ [x.1]) := by rw [sp_exp, if_neg c2]
        refine r_aload_n d_TL_refundExpired_28 rfl ?_
        refine r_aload_n d_TL_refundExpired_29 rfl ?_
        refine r_cVi [] t (d - 1) 0 0 x.1 (fun h' => fr h2 h' [t, t + 1, t + 2] ∧ TLs h' t N q3) d_TL_refundExpired_30 q_TL_28 b1 rfl rfl (c_TL_removeOldest htr H2 (fun e => by cases e) (fun x9 r9 h' e f' H' => by cases e; exact ⟨rfl, f', H'⟩)) (by show d - 1 + 1 ≤ d; omega) (Nat.le_refl _) (Nat.le_refl _) (Nat.le_of_ble_eq_true rfl) (fun h3 e3 => ?_)
        have HR3 : Rfs h3 r R2 := HR2.fr e3.1 (by simp only [List.mem_cons, List.not_mem_nil, or_false, not_or]; omega) (by simp only [List.mem_cons, List.not_mem_nil, or_false, not_or]; omega)
        refine r_cVv [.int x.1] r (d - 1) 0 0 (fun h' => fr h3 h' [r, r + 1] ∧ Rfs h' r (R2 ++ [x.1])) d_TL_refundExpired_33 q_TL_32 HR3.1 rfl rfl (c_Rf_add htr HR3 (fun _ h' f' H' => ⟨rfl, f', H'⟩) (fun e => absurd e (by omega))) (by show d - 1 + 1 ≤ d; omega) (Nat.le_refl _) (Nat.le_refl _) (Nat.le_of_ble_eq_true rfl) (fun h4 e4 => ?_)
        refine r_iincP d_TL_refundExpired_36 rfl (Nat.le_of_ble_eq_true rfl) ?_
        refine r_goto 8 d_TL_refundExpired_39 (by decide) ?_
        rw [nI_1]
        exact ih (i + 1) q3 (R2 ++ [x.1]) h4 (by omega) (by omega) (fr_tr (fr_tr F e3.1 (cs := [t, t + 1, t + 2, r, r + 1]) (by simp) (by simp)) e4.1 (by simp) (by simp)) (e3.2.fr e4.1 (by simp only [List.mem_cons, List.not_mem_nil, or_false, not_or]; omega) (by simp only [List.mem_cons, List.not_mem_nil, or_false, not_or]; omega) (by simp only [List.mem_cons, List.not_mem_nil, or_false, not_or]; omega)) e4.2 (by rw [List.length_append]; show R2.length + 1 + q3.length ≤ 512; omega) (e9.symm.trans he)
  refine r_aload_n d_TL_refundExpired_0 rfl ?_
  refine r_getfield d_TL_refundExpired_1 f_TL_9 H.1 rfl ?_
  refine r_istore_n d_TL_refundExpired_4 (Nat.le_of_ble_eq_true rfl) ?_
  refine r_iconst 0 d_TL_refundExpired_5 (by decide) ?_
  refine r_ri nI_0.symm ?_
  refine r_istore d_TL_refundExpired_6 (Nat.le_of_ble_eq_true rfl) ?_
  exact key q.length 0 q R h rfl (by omega) fr_rf H HR hcap rfl
theorem c_TL_refundAll {l : Launch} (htr : l.stackTraces = false) {d : Nat} {h : ac_H} {Φ : ac_R → ac_H → Prop} {t N r : Nat} {q : List (Int32 × Int32)} {R : List Int32} (hd : 1 ≤ d) (H : TLs h t N q) (HR : Rfs h r R) (htr9 : t + 2 < r) (hcap : R.length + q.length ≤ 512) (hΦ : ∀ h', fr h h' [t, t + 1, t + 2, r, r + 1] → TLs h' t N [] → Rfs h' r (R ++ q.map (·.1)) → Φ (.inl (some (.int (nI q.length)))) h') : ac_Mt l d m_TL_refundAll [.ref t, .ref r] h 0 0 Φ := by
  have hN2 := H.2.2.1
  have hqN := H.2.1
  refine ac_enter (by decide) rfl htr (fun _ => Nat.le_of_ble_eq_true rfl) ?_
  have key : ∀ (n i : Nat) (q2 : List (Int32 × Int32)) (R2 : List Int32) (h2 : ac_H), q2.length = n → i + n = q.length → fr h h2 [t, t + 1, t + 2, r, r + 1] → TLs h2 t N q2 → Rfs h2 r R2 → R2.length + q2.length ≤ 512 → R2 ++ q2.map (·.1) = R ++ q.map (·.1) → ac_G (l, d, m_TL_refundAll, 0, 0, Φ, h.length, none) 7 [(3, .int (nI i)), (2, .int (nI q.length)), (0, .ref t), (1, .ref r)] [] h2 0 0 := by
    intro n
    induction n with
    | zero =>
      intro i q2 R2 h2 hq hi F H2 HR2 hc he
      have hq0 : q2 = [] := List.length_eq_zero_iff.mp hq
      subst hq0
      refine r_iload_n d_TL_refundAll_7 rfl ?_
      refine r_iload_n d_TL_refundAll_8 rfl ?_
      refine r_icmp_ge 26 d_TL_refundAll_9 (by decide) (fun c1 => ?_) (fun c1 => absurd (nI_le (by omega) (by omega)) c1)
      refine r_iload_n d_TL_refundAll_26 rfl ?_
      rw [← he] at hΦ
      exact r_iret d_TL_refundAll_27 rfl (hΦ _ F H2 (by simpa using HR2)) (Nat.le_refl _) (Nat.le_refl _)
    | succ n ih =>
      intro i q2 R2 h2 hq hi F H2 HR2 hc he
      obtain ⟨x, q3, rfl⟩ : ∃ x q3, q2 = x :: q3 := by
        cases q2 with
        | nil => cases hq
        | cons x q3 => exact ⟨x, q3, rfl⟩
      rw [List.length_cons] at hq hc
      refine r_iload_n d_TL_refundAll_7 rfl ?_
      refine r_iload_n d_TL_refundAll_8 rfl ?_
      refine r_icmp_ge 26 d_TL_refundAll_9 (by decide) (fun c1 => absurd ((nI_leI (by omega) (by omega)).mp c1) (by omega)) (fun c1 => ?_)
      refine r_aload_n d_TL_refundAll_12 rfl ?_
      refine r_aload_n d_TL_refundAll_13 rfl ?_
      refine r_cVi [] t (d - 1) 0 0 x.1 (fun h' => fr h2 h' [t, t + 1, t + 2] ∧ TLs h' t N q3) d_TL_refundAll_14 q_TL_28 H2.1 rfl rfl (c_TL_removeOldest htr H2 (fun e => by cases e) (fun x9 r9 h' e f' H' => by cases e; exact ⟨rfl, f', H'⟩)) (by show d - 1 + 1 ≤ d; omega) (Nat.le_refl _) (Nat.le_refl _) (Nat.le_of_ble_eq_true rfl) (fun h3 e3 => ?_)
      have HR3 : Rfs h3 r R2 := HR2.fr e3.1 (by simp only [List.mem_cons, List.not_mem_nil, or_false, not_or]; omega) (by simp only [List.mem_cons, List.not_mem_nil, or_false, not_or]; omega)
      refine r_cVv [.int x.1] r (d - 1) 0 0 (fun h' => fr h3 h' [r, r + 1] ∧ Rfs h' r (R2 ++ [x.1])) d_TL_refundAll_17 q_TL_32 HR3.1 rfl rfl (c_Rf_add htr HR3 (fun _ h' f' H' => ⟨rfl, f', H'⟩) (fun e => absurd e (by omega))) (by show d - 1 + 1 ≤ d; omega) (Nat.le_refl _) (Nat.le_refl _) (Nat.le_of_ble_eq_true rfl) (fun h4 e4 => ?_)
      refine r_iincP d_TL_refundAll_20 rfl (Nat.le_of_ble_eq_true rfl) ?_
      refine r_goto 7 d_TL_refundAll_23 (by decide) ?_
      rw [nI_1]
      exact ih (i + 1) q3 (R2 ++ [x.1]) h4 (by omega) (by omega) (fr_tr (fr_tr F e3.1 (cs := [t, t + 1, t + 2, r, r + 1]) (by simp) (by simp)) e4.1 (by simp) (by simp)) (e3.2.fr e4.1 (by simp only [List.mem_cons, List.not_mem_nil, or_false, not_or]; omega) (by simp only [List.mem_cons, List.not_mem_nil, or_false, not_or]; omega) (by simp only [List.mem_cons, List.not_mem_nil, or_false, not_or]; omega)) e4.2 (by rw [List.length_append]; show R2.length + 1 + q3.length ≤ 512; omega) (by rw [← he]; simp)
  refine r_aload_n d_TL_refundAll_0 rfl ?_
  refine r_getfield d_TL_refundAll_1 f_TL_9 H.1 rfl ?_
  refine r_istore_n d_TL_refundAll_4 (Nat.le_of_ble_eq_true rfl) ?_
  refine r_iconst 0 d_TL_refundAll_5 (by decide) ?_
  refine r_ri nI_0.symm ?_
  refine r_istore_n d_TL_refundAll_6 (Nat.le_of_ble_eq_true rfl) ?_
  exact key q.length 0 q R h rfl (by omega) fr_rf H HR hcap rfl
