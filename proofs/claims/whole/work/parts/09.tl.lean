/-! LISTS OF TOKENS -/
theorem c_TL_isFull {l : Launch} (htr : l.stackTraces = false) {d : Nat} {h : ac_H} {Φ : ac_R → ac_H → Prop} {t N : Nat} {q : List (Int32 × Int32)} (H : TLs h t N q) (hΦ : Φ (.inl (some (.int (if N ≤ q.length then 1 else 0)))) h) : ac_Mt l d m_TL_isFull [.ref t] h 0 0 Φ := by
  obtain ⟨a1, a2, a3, f, g, a4, a5, a6⟩ := H
  refine ac_enter (by decide) rfl htr (fun _ => Nat.le_of_ble_eq_true rfl) ?_
  refine r_aload_n d_TL_isFull_0 rfl ?_
  refine r_getfield d_TL_isFull_1 f_TL_9 a1 rfl ?_
  refine r_aload_n d_TL_isFull_4 rfl ?_
  refine r_getfield d_TL_isFull_5 f_TL_21 a1 rfl ?_
  refine r_alenI d_TL_isFull_8 a4 ?_
  refine r_icmp_lt 16 d_TL_isFull_9 (by decide) (fun c1 => ?_) (fun c1 => ?_)
  · refine r_iconst 0 d_TL_isFull_16 (by decide) ?_
    have h9 : q.length < N := (nI_ltI (by omega) (by omega)).mp c1
    rw [if_neg (by omega)] at hΦ
    exact r_zret d_TL_isFull_17 rfl (Or.inl rfl) hΦ (Nat.le_refl _) (Nat.le_refl _)
  · refine r_iconst 1 d_TL_isFull_12 (by decide) ?_
    refine r_goto 17 d_TL_isFull_13 (by decide) ?_
    have h9 : ¬ q.length < N := fun z => c1 ((nI_ltI (by omega) (by omega)).mpr z)
    rw [if_pos (by omega)] at hΦ
    exact r_zret d_TL_isFull_17 rfl (Or.inr rfl) hΦ (Nat.le_refl _) (Nat.le_refl _)
theorem c_TL_add {l : Launch} (htr : l.stackTraces = false) {d : Nat} {h : ac_H} {Φ : ac_R → ac_H → Prop} {t N : Nat} {q : List (Int32 × Int32)} {x now : Int32} (H : TLs h t N q) (hlt : q.length < N) (hΦ : ∀ h', fr h h' [t, t + 1, t + 2] → TLs h' t N (q ++ [(x, now)]) → Φ (.inl none) h') : ac_Mt l d m_TL_add [.ref t, .int x, .int now] h 0 0 Φ := by
  obtain ⟨a1, a2, a3, f, g, a4, a5, a6⟩ := H
  refine ac_enter (by decide) rfl htr (fun _ => Nat.le_of_ble_eq_true rfl) ?_
  refine r_aload_n d_TL_add_0 rfl ?_
  refine r_getfield d_TL_add_1 f_TL_9 a1 rfl ?_
  refine r_aload_n d_TL_add_4 rfl ?_
  refine r_getfield d_TL_add_5 f_TL_21 a1 rfl ?_
  refine r_alenI d_TL_add_8 a4 ?_
  refine r_icmp_ge 42 d_TL_add_9 (by decide) (fun c1 => ?_) (fun c1 => ?_)
  · exact absurd ((nI_leI (by omega) (by omega)).mp c1) (by omega)
  · refine r_aload_n d_TL_add_12 rfl ?_
    refine r_getfield d_TL_add_13 f_TL_21 a1 rfl ?_
    refine r_aload_n d_TL_add_16 rfl ?_
    refine r_getfield d_TL_add_17 f_TL_9 a1 rfl ?_
    refine r_iload_n d_TL_add_20 rfl ?_
    refine r_iastoreN d_TL_add_21 a4 hlt (by omega) (fun h21_ fr21 g21 => ?_)
    have b1 := fr_at fr21 (b := t) (by simp) a1
    have b5 := fr_at fr21 (b := t + 2) (by simp) a5
    refine r_aload_n d_TL_add_22 rfl ?_
    refine r_getfield d_TL_add_23 f_TL_25 b1 rfl ?_
    refine r_aload_n d_TL_add_26 rfl ?_
    refine r_getfield d_TL_add_27 f_TL_9 b1 rfl ?_
    refine r_iload_n d_TL_add_30 rfl ?_
    refine r_iastoreN d_TL_add_31 b5 hlt (by omega) (fun h31_ fr31 g31 => ?_)
    have e1 := fr_at fr31 (b := t) (by simp) b1
    have e4 := fr_at fr31 (b := t + 1) (by simp) g21
    refine r_aload_n d_TL_add_32 rfl ?_
    refine r_dup d_TL_add_33 rfl ?_
    refine r_getfield d_TL_add_34 f_TL_9 e1 rfl ?_
    refine r_iconst 1 d_TL_add_37 (by decide) ?_
    refine r_iadd d_TL_add_38 ?_
    refine r_ri (nI_1 _) ?_
    refine r_putfieldN d_TL_add_39 f_TL_9 e1 (Nat.le_of_ble_eq_true rfl) (fun _ => rfl) (fun _ => rfl) (fun h39_ fr39 g39 => ?_)
    refine r_vret d_TL_add_42 rfl (hΦ _ (fr_tr (fr_tr fr21 fr31 (cs := [t, t + 1, t + 2]) (by simp) (by simp)) fr39 (by simp) (by simp)) ⟨?_, ?_, a3, _, _, fr_at fr39 (by simp) e4, fr_at fr39 (by simp) g31, in2_add a6⟩) (Nat.le_refl _) (Nat.le_refl _)
    · rw [List.length_append]; exact g39
    · rw [List.length_append]; exact hlt
theorem c_TL_accountAt {l : Launch} (htr : l.stackTraces = false) {d : Nat} {h : ac_H} {Φ : ac_R → ac_H → Prop} {t N : Nat} {i : Int32} {q : List (Int32 × Int32)} (H : TLs h t N q) (hΦ : Φ (.inl (some (.int (if 0 ≤ i.toInt then ((q[i.toInt.toNat]?).map (·.1)).getD (-1) else -1)))) h) : ac_Mt l d m_TL_accountAt [.ref t, .int i] h 0 0 Φ := by
  obtain ⟨a1, a2, a3, f, g, a4, a5, a6⟩ := H
  refine ac_enter (by decide) rfl htr (fun _ => Nat.le_of_ble_eq_true rfl) ?_
  refine r_iload_n d_TL_accountAt_0 rfl ?_
  refine r_if_lt 21 d_TL_accountAt_1 (by decide) (fun c1 => ?_) (fun c1 => ?_)
  · refine r_iconst (-1) d_TL_accountAt_21 (by decide) ?_
    have h9 : ¬ 0 ≤ i.toInt := by have := Int32.lt_iff_toInt_lt.mp c1; rw [Int32.toInt_zero] at this; omega
    rw [if_neg h9] at hΦ
    exact r_iret d_TL_accountAt_22 rfl hΦ (Nat.le_refl _) (Nat.le_refl _)
  · obtain ⟨j, hj, rfl⟩ := nI_of c1
    rw [nI_toInt hj, if_pos (by omega), Int.toNat_natCast] at hΦ
    refine r_iload_n d_TL_accountAt_4 rfl ?_
    refine r_aload_n d_TL_accountAt_5 rfl ?_
    refine r_getfield d_TL_accountAt_6 f_TL_9 a1 rfl ?_
    refine r_icmp_ge 21 d_TL_accountAt_9 (by decide) (fun c2 => ?_) (fun c2 => ?_)
    · refine r_iconst (-1) d_TL_accountAt_21 (by decide) ?_
      rw [List.getElem?_eq_none ((nI_leI (by omega) (by omega)).mp c2)] at hΦ
      exact r_iret d_TL_accountAt_22 rfl hΦ (Nat.le_refl _) (Nat.le_refl _)
    · have hlt : j < q.length := lt_of_nle (by omega) c2 hj
      refine r_aload_n d_TL_accountAt_12 rfl ?_
      refine r_getfield d_TL_accountAt_13 f_TL_21 a1 rfl ?_
      refine r_iload_n d_TL_accountAt_16 rfl ?_
      refine r_ialoadN d_TL_accountAt_17 a4 (by omega) (by omega) ?_
      refine r_goto 22 d_TL_accountAt_18 (by decide) ?_
      rw [List.getElem?_eq_getElem hlt] at hΦ
      refine r_iret d_TL_accountAt_22 rfl ?_ (Nat.le_refl _) (Nat.le_refl _)
      rw [(a6 j _ (List.getElem?_eq_getElem hlt)).1]; exact hΦ
/-- is account a among those of the last n that are younger than 300, from the youngest on until one is too old -/
def sp_rec (q : List (Int32 × Int32)) (a now : Int32) : Nat → Bool
  | 0 => false
  | n + 1 => match q[n]? with
    | some x => if now - x.2 < 300 then (if x.1 = a then true else sp_rec q a now n) else false
    | none => false
theorem c_TL_hasRecent {l : Launch} (htr : l.stackTraces = false) {d : Nat} {h : ac_H} {Φ : ac_R → ac_H → Prop} {t N : Nat} {a now : Int32} {q : List (Int32 × Int32)} (H : TLs h t N q) (hΦ : Φ (.inl (some (.int (if sp_rec q a now q.length = true then 1 else 0)))) h) : ac_Mt l d m_TL_hasRecent [.ref t, .int a, .int now] h 0 0 Φ := by
  obtain ⟨a1, a2, a3, f, g, a4, a5, a6⟩ := H
  refine ac_enter (by decide) rfl htr (fun _ => Nat.le_of_ble_eq_true rfl) ?_
  have key : ∀ n, n ≤ q.length → sp_rec q a now n = sp_rec q a now q.length → ac_G (l, d, m_TL_hasRecent, 0, 0, Φ, h.length, none) 7 [(3, .int (nI n - 1)), (0, .ref t), (1, .int a), (2, .int now)] [] h 0 0 := by
    intro n
    induction n with
    | zero =>
      intro _ he
      refine r_iload_n d_TL_hasRecent_7 rfl ?_
      refine r_if_lt 43 d_TL_hasRecent_8 (by decide) (fun c1 => ?_) (fun c1 => absurd (by decide) c1)
      refine r_iconst 0 d_TL_hasRecent_43 (by decide) ?_
      rw [← he] at hΦ
      exact r_zret d_TL_hasRecent_44 rfl (Or.inl rfl) hΦ (Nat.le_refl _) (Nat.le_refl _)
    | succ n ih =>
      intro hn he
      rw [nI_pred]
      have hx := List.getElem?_eq_getElem (show n < q.length by omega)
      have hu : sp_rec q a now (n + 1) = if now - (q[n]).2 < 300 then (if (q[n]).1 = a then true else sp_rec q a now n) else false := by
        rw [sp_rec, hx]
      obtain ⟨b1, b2⟩ := a6 n _ hx
      refine r_iload_n d_TL_hasRecent_7 rfl ?_
      refine r_if_lt 43 d_TL_hasRecent_8 (by decide) (fun c1 => absurd c1 (nI_pos (by omega))) (fun c1 => ?_)
      refine r_iload_n d_TL_hasRecent_11 rfl ?_
      refine r_aload_n d_TL_hasRecent_12 rfl ?_
      refine r_getfield d_TL_hasRecent_13 f_TL_25 a1 rfl ?_
      refine r_iload_n d_TL_hasRecent_16 rfl ?_
      refine r_ialoadN d_TL_hasRecent_17 a5 (by omega) (by omega) ?_
      refine r_isub d_TL_hasRecent_18 ?_
      refine r_sipush 300 d_TL_hasRecent_19 (by decide) ?_
      rw [b2]
      refine r_icmp_ge 43 d_TL_hasRecent_22 (by decide) (fun c2 => ?_) (fun c2 => ?_)
      · refine r_iconst 0 d_TL_hasRecent_43 (by decide) ?_
        rw [if_neg (by rw [Int32.lt_iff_toInt_lt]; rw [Int32.le_iff_toInt_le] at c2; omega)] at hu
        rw [← he, hu] at hΦ
        exact r_zret d_TL_hasRecent_44 rfl (Or.inl rfl) hΦ (Nat.le_refl _) (Nat.le_refl _)
      · rw [if_pos (by rw [Int32.lt_iff_toInt_lt]; rw [Int32.le_iff_toInt_le] at c2; omega)] at hu
        refine r_aload_n d_TL_hasRecent_25 rfl ?_
        refine r_getfield d_TL_hasRecent_26 f_TL_21 a1 rfl ?_
        refine r_iload_n d_TL_hasRecent_29 rfl ?_
        refine r_ialoadN d_TL_hasRecent_30 a4 (by omega) (by omega) ?_
        refine r_iload_n d_TL_hasRecent_31 rfl ?_
        rw [b1]
        refine r_icmp_ne 37 d_TL_hasRecent_32 (by decide) (fun c3 => ?_) (fun c3 => ?_)
        · refine r_iincM d_TL_hasRecent_37 rfl (Nat.le_of_ble_eq_true rfl) ?_
          refine r_goto 7 d_TL_hasRecent_40 (by decide) ?_
          rw [if_neg c3] at hu
          exact ih (by omega) (hu.symm.trans he)
        · refine r_iconst 1 d_TL_hasRecent_35 (by decide) ?_
          rw [if_pos c3] at hu
          rw [← he, hu] at hΦ
          exact r_zret d_TL_hasRecent_36 rfl (Or.inr rfl) hΦ (Nat.le_refl _) (Nat.le_refl _)
  refine r_aload_n d_TL_hasRecent_0 rfl ?_
  refine r_getfield d_TL_hasRecent_1 f_TL_9 a1 rfl ?_
  refine r_iconst 1 d_TL_hasRecent_4 (by decide) ?_
  refine r_isub d_TL_hasRecent_5 ?_
  refine r_istore_n d_TL_hasRecent_6 (Nat.le_of_ble_eq_true rfl) ?_
  exact key q.length (Nat.le_refl _) rfl
theorem in2_tail {x : Int32 × Int32} {r : List (Int32 × Int32)} {f g f2 g2 : Nat → Int32} (h : in2 (x :: r) f g) (h1 : ∀ j, j < r.length → f2 j = f (j + 1)) (h2 : ∀ j, j < r.length → g2 j = g (j + 1)) : in2 r f2 g2 := by
  intro i y hy
  have hi : i < r.length := (List.getElem?_eq_some_iff.mp hy).1
  rw [h1 i hi, h2 i hi]
  exact h (i + 1) y (by rw [List.getElem?_cons_succ]; exact hy)
theorem c_TL_removeOldest {l : Launch} (htr : l.stackTraces = false) {d : Nat} {h : ac_H} {Φ : ac_R → ac_H → Prop} {t N : Nat} {q : List (Int32 × Int32)} (H : TLs h t N q) (h0 : q = [] → Φ (.inl (some (.int (-1)))) h) (h1 : ∀ x r h', q = x :: r → fr h h' [t, t + 1, t + 2] → TLs h' t N r → Φ (.inl (some (.int x.1))) h') : ac_Mt l d m_TL_removeOldest [.ref t] h 0 0 Φ := by
  obtain ⟨a1, a2, a3, f, g, a4, a5, a6⟩ := H
  refine ac_enter (by decide) rfl htr (fun _ => Nat.le_of_ble_eq_true rfl) ?_
  refine r_aload_n d_TL_removeOldest_0 rfl ?_
  refine r_getfield d_TL_removeOldest_1 f_TL_9 a1 rfl ?_
  cases q with
  | nil =>
    refine r_if_ne 9 d_TL_removeOldest_4 (by decide) (fun c1 => absurd (by decide) c1) (fun c1 => ?_)
    refine r_iconst (-1) d_TL_removeOldest_7 (by decide) ?_
    exact r_iret d_TL_removeOldest_8 rfl (h0 rfl) (Nat.le_refl _) (Nat.le_refl _)
  | cons x r =>
    rw [List.length_cons] at a1 a2 ⊢
    refine r_if_ne 9 d_TL_removeOldest_4 (by decide) (fun c1 => ?_) (fun c1 => absurd c1 (nI_ne0 (by omega) (by omega)))
    refine r_aload_n d_TL_removeOldest_9 rfl ?_
    refine r_getfield d_TL_removeOldest_10 f_TL_21 a1 rfl ?_
    refine r_iconst 0 d_TL_removeOldest_13 (by decide) ?_
    refine r_ri nI_0.symm ?_
    refine r_ialoadN d_TL_removeOldest_14 a4 (by omega) (by omega) ?_
    refine r_istore_n d_TL_removeOldest_15 (Nat.le_of_ble_eq_true rfl) ?_
    refine r_aload_n d_TL_removeOldest_16 rfl ?_
    refine r_dup d_TL_removeOldest_17 rfl ?_
    refine r_getfield d_TL_removeOldest_18 f_TL_9 a1 rfl ?_
    refine r_iconst 1 d_TL_removeOldest_21 (by decide) ?_
    refine r_isub d_TL_removeOldest_22 ?_
    refine r_ri (nI_pred _) ?_
    refine r_putfieldN d_TL_removeOldest_23 f_TL_9 a1 (Nat.le_of_ble_eq_true rfl) (fun _ => rfl) (fun _ => rfl) (fun h23_ fr23 g23 => ?_)
    have ex : f 0 = x.1 := (a6 0 x rfl).1
    rw [ex]
    have key : ∀ (n i : Nat) (h2 : ac_H) (f2 g2 : Nat → Int32), i + n = r.length → fr h h2 [t, t + 1, t + 2] → h2[t]? = some (.inr (6, [.ref (t + 1), .ref (t + 2), .int (nI r.length)])) → h2[t + 1]? = some (.inl (.inl (N, f2))) → h2[t + 2]? = some (.inl (.inl (N, g2))) → (∀ j, j < i → f2 j = f (j + 1)) → (∀ j, j < i → g2 j = g (j + 1)) → (∀ j, i ≤ j → f2 j = f j) → (∀ j, i ≤ j → g2 j = g j) → ac_G (l, d, m_TL_removeOldest, 0, 0, Φ, h.length, none) 28 [(2, .int (nI i)), (1, .int x.1), (0, .ref t)] [] h2 0 0 := by
      intro n
      induction n with
      | zero =>
        intro i h2 f2 g2 hi F e1 e2 e3 u1 u2 u3 u4
        refine r_iload_n d_TL_removeOldest_28 rfl ?_
        refine r_aload_n d_TL_removeOldest_29 rfl ?_
        refine r_getfield d_TL_removeOldest_30 f_TL_9 e1 rfl ?_
        refine r_icmp_ge 70 d_TL_removeOldest_33 (by decide) (fun c2 => ?_) (fun c2 => absurd (nI_le (by omega) (by omega)) c2)
        refine r_iload_n d_TL_removeOldest_70 rfl ?_
        exact r_iret d_TL_removeOldest_71 rfl (h1 x r h2 rfl F ⟨e1, by omega, a3, f2, g2, e2, e3, in2_tail a6 (fun j hj => u1 j (by omega)) (fun j hj => u2 j (by omega))⟩) (Nat.le_refl _) (Nat.le_refl _)
      | succ n ih =>
        intro i h2 f2 g2 hi F e1 e2 e3 u1 u2 u3 u4
        refine r_iload_n d_TL_removeOldest_28 rfl ?_
        refine r_aload_n d_TL_removeOldest_29 rfl ?_
        refine r_getfield d_TL_removeOldest_30 f_TL_9 e1 rfl ?_
        refine r_icmp_ge 70 d_TL_removeOldest_33 (by decide) (fun c2 => absurd ((nI_leI (by omega) (by omega)).mp c2) (by omega)) (fun c2 => ?_)
        refine r_aload_n d_TL_removeOldest_36 rfl ?_
        refine r_getfield d_TL_removeOldest_37 f_TL_21 e1 rfl ?_
        refine r_iload_n d_TL_removeOldest_40 rfl ?_
        refine r_aload_n d_TL_removeOldest_41 rfl ?_
        refine r_getfield d_TL_removeOldest_42 f_TL_21 e1 rfl ?_
        refine r_iload_n d_TL_removeOldest_45 rfl ?_
        refine r_iconst 1 d_TL_removeOldest_46 (by decide) ?_
        refine r_iadd d_TL_removeOldest_47 ?_
        refine r_ri (nI_1 _) ?_
        refine r_ialoadN d_TL_removeOldest_48 e2 (by omega) (by omega) ?_
        refine r_iastoreN d_TL_removeOldest_49 e2 (by omega) (by omega) (fun h49_ fr49 g49 => ?_)
        have p1 := fr_at fr49 (b := t) (by simp) e1
        have p3 := fr_at fr49 (b := t + 2) (by simp) e3
        refine r_aload_n d_TL_removeOldest_50 rfl ?_
        refine r_getfield d_TL_removeOldest_51 f_TL_25 p1 rfl ?_
        refine r_iload_n d_TL_removeOldest_54 rfl ?_
        refine r_aload_n d_TL_removeOldest_55 rfl ?_
        refine r_getfield d_TL_removeOldest_56 f_TL_25 p1 rfl ?_
        refine r_iload_n d_TL_removeOldest_59 rfl ?_
        refine r_iconst 1 d_TL_removeOldest_60 (by decide) ?_
        refine r_iadd d_TL_removeOldest_61 ?_
        refine r_ri (nI_1 _) ?_
        refine r_ialoadN d_TL_removeOldest_62 p3 (by omega) (by omega) ?_
        refine r_iastoreN d_TL_removeOldest_63 p3 (by omega) (by omega) (fun h63_ fr63 g63 => ?_)
        refine r_iincP d_TL_removeOldest_64 rfl (Nat.le_of_ble_eq_true rfl) ?_
        refine r_goto 28 d_TL_removeOldest_67 (by decide) ?_
        rw [nI_1]
        refine ih (i + 1) _ _ _ (by omega) (fr_tr (fr_tr F fr49 (cs := [t, t + 1, t + 2]) (by simp) (by simp)) fr63 (by simp) (by simp)) (fr_at fr63 (by simp) p1) (fr_at fr63 (by simp) g49) g63 ?_ ?_ ?_ ?_
        · intro j hj
          unfold upd
          by_cases z : j = i
          · rw [if_pos z, z, u3 (i + 1) (by omega)]
          · rw [if_neg z]; exact u1 j (by omega)
        · intro j hj
          unfold upd
          by_cases z : j = i
          · rw [if_pos z, z, u4 (i + 1) (by omega)]
          · rw [if_neg z]; exact u2 j (by omega)
        · intro j hj
          unfold upd
          rw [if_neg (by omega)]; exact u3 j (by omega)
        · intro j hj
          unfold upd
          rw [if_neg (by omega)]; exact u4 j (by omega)
    refine r_iconst 0 d_TL_removeOldest_26 (by decide) ?_
    refine r_ri nI_0.symm ?_
    refine r_istore_n d_TL_removeOldest_27 (Nat.le_of_ble_eq_true rfl) ?_
    exact key r.length 0 _ f g (by omega) (fr_mo fr23 (by simp)) g23 (fr_at fr23 (by simp) a4) (fr_at fr23 (by simp) a5) (fun j hj => absurd hj (by omega)) (fun j hj => absurd hj (by omega)) (fun _ _ => rfl) (fun _ _ => rfl)
