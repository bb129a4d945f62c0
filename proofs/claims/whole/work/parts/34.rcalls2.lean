/-! THE REFERENCE'S CALLS: token, mode, body, ticks -/
theorem c_Mo_isRepeated {l : Launch} (htr : l.stackTraces = false) {d : Nat} {h : ac_H} {Φ : ac_R → ac_H → Prop} {a : Int32} {A : sp_Q} {F : Nat → Nat → Int32} {V : Nat → Int32} (M : MD h F V) (HA : MA F V A) (hΦ : Φ (.inl (some (.int (b01 (∃ x ∈ A, x.1 = a ∧ V 1 - x.2 < 300))))) h) : ac_Mt l d m_Mo_isRepeated [.ref 57, .int a] h 0 0 Φ := by
  obtain ⟨a1, a2, a3⟩ := HA
  refine ac_enter (by decide) rfl htr (fun _ => Nat.le_of_ble_eq_true rfl) ?_
  have key : ∀ (rest pre : List (Int32 × Int32)) (ov : Int32), A = pre ++ rest → (ov = 0 ∨ ov = 1) → (¬ ov = 0 ↔ ∃ x ∈ pre, x.1 = a ∧ V 1 - x.2 < 300) → ac_G (l, d, m_Mo_isRepeated, 0, 0, Φ, h.length, none) 4 [(3, .int (nI pre.length)), (2, .int ov), (0, .ref 57), (1, .int a)] [] h 0 0 := by
    intro rest
    induction rest with
    | nil =>
      intro pre ov e h01 ho
      rw [List.append_nil] at e
      subst e
      refine r_iload_n d_Mo_isRepeated_4 rfl ?_
      refine r_aload_n d_Mo_isRepeated_5 rfl ?_
      refine r_getfield d_Mo_isRepeated_6 f_Mo_149 M.1 rfl ?_
      refine r_ri a1 ?_
      refine r_icmp_ge 55 d_Mo_isRepeated_9 (by decide) (fun c1 => ?_) (fun c1 => absurd (nI_le (Nat.le_refl _) (by omega)) c1)
      refine r_iload_n d_Mo_isRepeated_55 rfl ?_
      refine r_zret d_Mo_isRepeated_56 rfl h01 ?_ (Nat.le_refl _) (Nat.le_refl _)
      by_cases c : ∃ x ∈ A, x.1 = a ∧ V 1 - x.2 < 300
      · rw [b01_t c] at hΦ
        rcases h01 with z | z
        · exact absurd z (ho.mpr c)
        · rw [z]; exact hΦ
      · rw [b01_f c] at hΦ
        rcases h01 with z | z
        · rw [z]; exact hΦ
        · exact absurd (ho.mp (by rw [z]; decide)) c
    | cons x rest ih =>
      intro pre ov e h01 ho
      have hlen : A.length = pre.length + (rest.length + 1) := by rw [e, List.length_append, List.length_cons]
      have hx : A[pre.length]? = some x := by rw [e, List.getElem?_append_right (Nat.le_refl _), Nat.sub_self]; rfl
      obtain ⟨f1, f2⟩ := a3 _ x hx
      have lenp : (pre ++ [x]).length = pre.length + 1 := by rw [List.length_append]; rfl
      have ex : (∃ y ∈ pre ++ [x], y.1 = a ∧ V 1 - y.2 < 300) ↔ ((∃ y ∈ pre, y.1 = a ∧ V 1 - y.2 < 300) ∨ (x.1 = a ∧ V 1 - x.2 < 300)) := by
        constructor
        · intro ⟨y, hy, hz⟩
          rcases List.mem_append.mp hy with q | q
          · exact Or.inl ⟨y, q, hz⟩
          · simp at q; subst q; exact Or.inr hz
        · intro hz
          rcases hz with ⟨y, hy, hz⟩ | hz
          · exact ⟨y, List.mem_append_left _ hy, hz⟩
          · exact ⟨x, by simp, hz⟩
      have go : ∀ v : Int32, (v = 0 ∨ v = 1) → (¬ v = 0 ↔ ∃ y ∈ pre ++ [x], y.1 = a ∧ V 1 - y.2 < 300) → ac_G (l, d, m_Mo_isRepeated, 0, 0, Φ, h.length, none) 48 [(3, .int (nI pre.length)), (2, .int ov), (0, .ref 57), (1, .int a)] [.int v] h 0 0 := by
        intro v h0 hv
        refine r_istore_n d_Mo_isRepeated_48 (Nat.le_of_ble_eq_true rfl) ?_
        refine r_iincP d_Mo_isRepeated_49 rfl (Nat.le_of_ble_eq_true rfl) ?_
        refine r_goto 4 d_Mo_isRepeated_52 (by decide) ?_
        rw [nI_1]
        have := ih (pre ++ [x]) v (by rw [e]; simp) h0 hv
        rw [lenp] at this
        exact r_loc _ (fun q hq => by simp at hq; rcases hq with q | q | q | q <;> subst q <;> rfl) this
      have yes : (∃ y ∈ pre ++ [x], y.1 = a ∧ V 1 - y.2 < 300) → ac_G (l, d, m_Mo_isRepeated, 0, 0, Φ, h.length, none) 43 [(3, .int (nI pre.length)), (2, .int ov), (0, .ref 57), (1, .int a)] [] h 0 0 := by
        intro z
        refine r_iconst 1 d_Mo_isRepeated_43 (by decide) ?_
        refine r_goto 48 d_Mo_isRepeated_44 (by decide) ?_
        exact go 1 (Or.inr rfl) ⟨fun _ => z, fun _ => by decide⟩
      have no : ov = 0 → ¬ (x.1 = a ∧ V 1 - x.2 < 300) → ac_G (l, d, m_Mo_isRepeated, 0, 0, Φ, h.length, none) 47 [(3, .int (nI pre.length)), (2, .int ov), (0, .ref 57), (1, .int a)] [] h 0 0 := by
        intro z1 z2
        refine r_iconst 0 d_Mo_isRepeated_47 (by decide) ?_
        exact go 0 (Or.inl rfl) ⟨fun z => absurd rfl z, fun z => (ex.mp z).elim (fun y => absurd z1 (ho.mpr y)) (fun y => absurd y z2)⟩
      refine r_iload_n d_Mo_isRepeated_4 rfl ?_
      refine r_aload_n d_Mo_isRepeated_5 rfl ?_
      refine r_getfield d_Mo_isRepeated_6 f_Mo_149 M.1 rfl ?_
      refine r_ri a1 ?_
      refine r_icmp_ge 55 d_Mo_isRepeated_9 (by decide) (fun c1 => absurd ((nI_leI (by omega) (by omega)).mp c1) (by omega)) (fun c1 => ?_)
      refine r_iload_n d_Mo_isRepeated_12 rfl ?_
      refine r_if_ne 43 d_Mo_isRepeated_13 (by decide) (fun c2 => yes (ex.mpr (Or.inl (ho.mp c2)))) (fun c2 => ?_)
      refine r_aload_n d_Mo_isRepeated_16 rfl ?_
      refine r_getfield d_Mo_isRepeated_17 f_Mo_76 M.1 rfl ?_
      refine r_iload_n d_Mo_isRepeated_20 rfl ?_
      refine r_ialoadN d_Mo_isRepeated_21 (md_takenOf M) (show pre.length < 600 by omega) (by omega) ?_
      refine r_ri f1 ?_
      refine r_iload_n d_Mo_isRepeated_22 rfl ?_
      refine r_icmp_ne 47 d_Mo_isRepeated_23 (by decide) (fun c3 => no c2 (fun z => c3 z.1)) (fun c3 => ?_)
      refine r_aload_n d_Mo_isRepeated_26 rfl ?_
      refine r_getfield d_Mo_isRepeated_27 f_Mo_121 M.1 rfl ?_
      refine r_aload_n d_Mo_isRepeated_30 rfl ?_
      refine r_getfield d_Mo_isRepeated_31 f_Mo_79 M.1 rfl ?_
      refine r_iload_n d_Mo_isRepeated_34 rfl ?_
      refine r_ialoadN d_Mo_isRepeated_35 (md_takenAt M) (show pre.length < 600 by omega) (by omega) ?_
      refine r_ri f2 ?_
      refine r_isub d_Mo_isRepeated_36 ?_
      refine r_sipush 300 d_Mo_isRepeated_37 (by decide) ?_
      refine r_icmp_ge 47 d_Mo_isRepeated_40 (by decide) (fun c4 => no c2 (fun z => ?_)) (fun c4 => yes (ex.mpr (Or.inr ⟨c3, ?_⟩)))
      · rw [Int32.le_iff_toInt_le] at c4
        have := Int32.lt_iff_toInt_lt.mp z.2
        omega
      · rw [Int32.le_iff_toInt_le] at c4
        rw [Int32.lt_iff_toInt_lt]
        omega
  refine r_iconst 0 d_Mo_isRepeated_0 (by decide) ?_
  refine r_ri (show (0 : Int32) = nI 0 by decide) ?_
  refine r_istore_n d_Mo_isRepeated_1 (Nat.le_of_ble_eq_true rfl) ?_
  refine r_iconst 0 d_Mo_isRepeated_2 (by decide) ?_
  refine r_ri (show (0 : Int32) = nI 0 by decide) ?_
  refine r_istore_n d_Mo_isRepeated_3 (Nat.le_of_ble_eq_true rfl) ?_
  exact r_loc _ (fun q hq => by simp at hq; rcases hq with q | q | q | q <;> subst q <;> rfl) (key A [] 0 rfl (Or.inl rfl) ⟨fun z => absurd rfl z, fun ⟨x, hx, _⟩ => by cases hx⟩)
/-- the times of acceptance never fall and none is later than n -/
def tOK (A : sp_Q) (n : Nat) : Prop := ∃ T : Nat → Nat, (∀ i x, A[i]? = some x → x.2 = nI (T i) ∧ T i ≤ n) ∧ ∀ i k, i ≤ k → k < A.length → T i ≤ T k
theorem tOK_mo {A : sp_Q} {n m : Nat} (h : tOK A n) (hm : n ≤ m) : tOK A m := by
  obtain ⟨T, h1, h2⟩ := h
  exact ⟨T, fun i x hx => ⟨(h1 i x hx).1, Nat.le_trans (h1 i x hx).2 hm⟩, h2⟩
theorem tOK_add {A : sp_Q} {n : Nat} {a : Int32} (h : tOK A n) : tOK (A ++ [(a, nI n)]) n := by
  obtain ⟨T, h1, h2⟩ := h
  refine ⟨fun i => if i < A.length then T i else n, fun i x hx => ?_, fun i k hik hk => ?_⟩
  · show x.2 = nI (if i < A.length then T i else n) ∧ (if i < A.length then T i else n) ≤ n
    by_cases c : i < A.length
    · rw [if_pos c]
      rw [List.getElem?_append_left c] at hx
      exact h1 i x hx
    · rw [if_neg c]
      rw [List.getElem?_append_right (by omega)] at hx
      have h9 : i - A.length < 1 := (List.getElem?_eq_some_iff.mp hx).1
      have e9 : i - A.length = 0 := by omega
      rw [e9] at hx
      cases hx
      exact ⟨rfl, Nat.le_refl _⟩
  · show (if i < A.length then T i else n) ≤ (if k < A.length then T k else n)
    by_cases c : k < A.length
    · rw [if_pos c, if_pos (by omega)]; exact h2 i k hik c
    · rw [if_neg c]
      by_cases c2 : i < A.length
      · rw [if_pos c2]; exact (h1 i _ (List.getElem?_eq_getElem c2)).2
      · rw [if_neg c2]; exact Nat.le_refl _
theorem rec_iff {A : sp_Q} {n : Nat} {a : Int32} (h : tOK A n) (hn : n < 2 ^ 30) : ∀ m, m ≤ A.length → (sp_rec A a (nI n) m = true ↔ ∃ k x, k < m ∧ A[k]? = some x ∧ x.1 = a ∧ nI n - x.2 < 300)
  | 0, _ => ⟨fun z => by (cases z), fun ⟨k, x, hk, _⟩ => by omega⟩
  | m + 1, hm => by
    have ih := rec_iff (a := a) h hn m (by omega)
    obtain ⟨T, h1, h2⟩ := h
    have hx := List.getElem?_eq_getElem (show m < A.length by omega)
    generalize A[m] = x at hx
    have t3 : ∀ k y, A[k]? = some y → (nI n - y.2 < 300 ↔ n - T k < 300) := fun k y hy => by
      obtain ⟨e1, e2⟩ := h1 k y hy
      rw [e1, pk_sub e2, show (300 : Int32) = nI 300 by decide]
      exact nI_ltI (by omega) (by omega)
    rw [sp_rec, hx]
    show (if nI n - x.2 < 300 then (if x.1 = a then true else sp_rec A a (nI n) m) else false) = true ↔ _
    by_cases c1 : nI n - x.2 < 300
    · rw [if_pos c1]
      by_cases c2 : x.1 = a
      · rw [if_pos c2]; exact ⟨fun _ => ⟨m, x, by omega, hx, c2, c1⟩, fun _ => rfl⟩
      · rw [if_neg c2, ih]
        constructor
        · intro ⟨k, y, hk, hy⟩; exact ⟨k, y, by omega, hy⟩
        · intro ⟨k, y, hk, hy, h3⟩
          by_cases e : k = m
          · subst e; rw [hx] at hy; cases hy; exact absurd h3.1 c2
          · exact ⟨k, y, by omega, hy, h3⟩
    · rw [if_neg c1]
      refine ⟨fun z => by (cases z), fun ⟨k, y, hk, hy, h3, h4⟩ => ?_⟩
      have c1' : ¬ n - T m < 300 := fun z => c1 ((t3 m x hx).mpr z)
      have h4' := (t3 k y hy).mp h4
      have := h2 k m (by omega) (by omega)
      omega
theorem rec_mem {A : sp_Q} {n : Nat} {a : Int32} (h : tOK A n) (hn : n < 2 ^ 30) : sp_rec A a (nI n) A.length = true ↔ ∃ x ∈ A, x.1 = a ∧ nI n - x.2 < 300 := by
  rw [rec_iff h hn A.length (Nat.le_refl _)]
  constructor
  · intro ⟨k, x, _, hx, h3⟩; exact ⟨x, List.mem_of_getElem? hx, h3⟩
  · intro ⟨x, hx, h3⟩
    obtain ⟨k, hk⟩ := List.getElem?_of_mem hx
    exact ⟨k, x, (List.getElem?_eq_some_iff.mp hk).1, hk, h3⟩
theorem Mqu_add {F : Nat → Nat → Int32} {q : Nat} {Q : sp_Q} {a t : Int32} (H : Mqu F q Q) (h6 : Q.length < 6) : Mqu (up2 (up2 (up2 F 20 (6 * q + Q.length) a) 21 (6 * q + Q.length) t) 19 q (nI (Q.length + 1))) q (Q ++ [(a, t)]) := by
  obtain ⟨a1, a2, a3⟩ := H
  refine ⟨by rw [List.length_append]; exact up2_eq, by rw [List.length_append]; exact h6, fun i x hx => ?_⟩
  by_cases c : i < Q.length
  · rw [List.getElem?_append_left c] at hx
    obtain ⟨b1, b2⟩ := a3 i x hx
    exact ⟨(up2_ne (by omega)).trans ((up2_ne (by omega)).trans ((up2_ne (by omega)).trans b1)), (up2_ne (by omega)).trans ((up2_ne (by omega)).trans ((up2_ne (by omega)).trans b2))⟩
  · rw [List.getElem?_append_right (by omega)] at hx
    have h9 : i - Q.length < 1 := (List.getElem?_eq_some_iff.mp hx).1
    have e9 : i = Q.length := by omega
    subst e9
    rw [Nat.sub_self] at hx
    cases hx
    exact ⟨(up2_ne (by omega)).trans ((up2_ne (by omega)).trans up2_eq), (up2_ne (by omega)).trans up2_eq⟩
theorem c_Mo_token {l : Launch} (htr : l.stackTraces = false) {d : Nat} {h : ac_H} {Φ : ac_R → ac_H → Prop} {lane x a : Int32} {s : sp_S} {f : Nat} (hd : 1 ≤ d) (H : MDs h s f) (hcap : s.2.1.length < 512) (ht : tOK s.2.1 s.2.2.2.2) (hn : s.2.2.2.2 < 2 ^ 30) (hx : ∀ h', (out9 lane 2 ∨ out9 x 2) → frP h h' mod9 → MDs h' s 1 → Φ (.inl (some (.int 0))) h') (hy : ∀ j i h', j < 2 → lane = nI j → i < 2 → x = nI i → a < 0 → frP h h' mod9 → MDs h' s 2 → Φ (.inl (some (.int 0))) h') (ha : ∀ j i h', j < 2 → lane = nI j → i < 2 → x = nI i → ¬ a < 0 → ¬ sp_tokV s j i a = 0 → frP h h' mod9 → MDs h' s 0 → Φ (.inl (some (.int (nI (sp_tokV s j i a))))) h')
    (hb : ∀ j i h', j < 2 → lane = nI j → i < 2 → x = nI i → ¬ a < 0 → sp_tokV s j i a = 0 → frP h h' mod9 → MDs h' (sp_tokS s j i a) 0 → Φ (.inl (some (.int (nI (sp_tokV s j i a))))) h') : ac_Mt l d m_Mo_token [.ref 57, .int lane, .int x, .int a] h 0 0 Φ := by
  obtain ⟨F, V, M, H1, H2⟩ := H
  refine ac_enter (by decide) rfl htr (fun _ => Nat.le_of_ble_eq_true rfl) ?_
  have refu : ∀ (w : Nat) (tv : Int32), w < 10 → (w = 0 → ∀ h2, frP h h2 mod9 → MD h2 F (upd V 0 (nI w)) → ac_G (l, d, m_Mo_token, 0, 0, Φ, h.length, none) 48 [(4, .int tv), (0, .ref 57), (1, .int lane), (2, .int x), (3, .int a)] [] h2 0 0) → (¬ w = 0 → ∀ h2, frP h h2 mod9 → MDs h2 s w → Φ (.inl (some (.int 0))) h2) → ac_G (l, d, m_Mo_token, 0, 0, Φ, h.length, none) 40 [(4, .int tv), (0, .ref 57), (1, .int lane), (2, .int x), (3, .int a)] [.int (nI w), .ref 57] h 0 0 := by
    intro w tv hw k0 k1
    refine r_refu htr rfl d_Mo_token_40 hd hw M (Nat.le_of_ble_eq_true rfl) (Nat.le_of_ble_eq_true rfl) (Nat.le_of_ble_eq_true rfl) (fun h2 Fr2 M2 => ?_)
    by_cases c : w = 0
    · rw [if_pos c]
      refine r_if_eq 48 d_Mo_token_43 (by decide) (fun _ => k0 c h2 Fr2 M2) (fun z => absurd rfl z)
    · rw [if_neg c]
      refine r_if_eq 48 d_Mo_token_43 (by decide) (fun z => absurd z (by decide)) (fun _ => ?_)
      refine r_iconst 0 d_Mo_token_46 (by decide) ?_
      exact r_iret d_Mo_token_47 rfl (k1 c h2 Fr2 ⟨F, _, M2, H1.f, rfl⟩) (Nat.le_of_ble_eq_true rfl) (Nat.le_of_ble_eq_true rfl)
  have bad : (out9 lane 2 ∨ out9 x 2) → ac_G (l, d, m_Mo_token, 0, 0, Φ, h.length, none) 18 [(0, .ref 57), (1, .int lane), (2, .int x), (3, .int a)] [] h 0 0 := by
    intro ho
    refine r_iconst 0 d_Mo_token_18 (by decide) ?_
    refine r_istore d_Mo_token_19 (Nat.le_of_ble_eq_true rfl) ?_
    refine r_aload_n d_Mo_token_21 rfl ?_
    refine r_iload d_Mo_token_22 rfl ?_
    refine r_if_ne 31 d_Mo_token_24 (by decide) (fun z => absurd rfl z) (fun _ => ?_)
    refine r_iconst 1 d_Mo_token_27 (by decide) ?_
    refine r_ri nI1 ?_
    refine r_goto 40 d_Mo_token_28 (by decide) ?_
    exact r_loc _ (fun q hq => by simp at hq; rcases hq with q | q | q | q | q <;> subst q <;> rfl) (refu 1 0 (by omega) (fun z => by omega) (fun _ h2 f2 g2 => hx h2 ho f2 g2))
  refine r_iload_n d_Mo_token_0 rfl ?_
  refine r_two htr rfl d_Mo_token_1 hd (Nat.le_of_ble_eq_true rfl) (Nat.le_of_ble_eq_true rfl) (Nat.le_of_ble_eq_true rfl) (fun j hj e => ?_) (fun ho => r_if_eq 18 d_Mo_token_4 (by decide) (fun _ => bad (Or.inl ho)) (fun c => absurd rfl c))
  refine r_if_eq 18 d_Mo_token_4 (by decide) (fun c => absurd c (by decide)) (fun _ => ?_)
  refine r_iload_n d_Mo_token_7 rfl ?_
  refine r_two htr rfl d_Mo_token_8 hd (Nat.le_of_ble_eq_true rfl) (Nat.le_of_ble_eq_true rfl) (Nat.le_of_ble_eq_true rfl) (fun i hi e2 => ?_) (fun ho => r_if_eq 18 d_Mo_token_11 (by decide) (fun _ => bad (Or.inr ho)) (fun c => absurd rfl c))
  refine r_if_eq 18 d_Mo_token_11 (by decide) (fun c => absurd c (by decide)) (fun _ => ?_)
  refine r_iconst 1 d_Mo_token_14 (by decide) ?_
  refine r_goto 19 d_Mo_token_15 (by decide) ?_
  refine r_istore d_Mo_token_19 (Nat.le_of_ble_eq_true rfl) ?_
  refine r_aload_n d_Mo_token_21 rfl ?_
  refine r_iload d_Mo_token_22 rfl ?_
  refine r_if_ne 31 d_Mo_token_24 (by decide) (fun _ => ?_) (fun z => absurd z (by decide))
  refine r_iload_n d_Mo_token_31 rfl ?_
  refine r_if_ge 39 d_Mo_token_32 (by decide) (fun c1 => ?_) (fun c1 => ?_)
  · have hna : ¬ a < 0 := by rw [Int32.lt_iff_toInt_lt]; rw [Int32.le_iff_toInt_le] at c1; omega
    refine r_iconst 0 d_Mo_token_39 (by decide) ?_
    refine r_ri nI_0.symm ?_
    refine r_loc _ (fun q hq => by simp at hq; rcases hq with q | q | q | q | q <;> subst q <;> rfl) (refu 0 1 (by omega) (fun _ h2 Fr2 M2 => ?_) (fun z => absurd rfl z))
    subst e
    subst e2
    have ha := fun h' => ha j i h' hj rfl hi rfl hna
    have hb := fun h' => hb j i h' hj rfl hi rfl hna
    have hv : ∀ n, sp_tokV s j i a = n → ¬ n = 0 → Φ (.inl (some (.int (nI n)))) h2 := fun n hn h0 => by subst hn; exact ha h2 h0 Fr2 ⟨F, _, M2, H1.f, rfl⟩
    have HL := H1.ln hj
    obtain ⟨TQ, okq⟩ := HL.q hi
    have q6 := TQ.2.1
    obtain ⟨v1, v2, v3⟩ := H1.2.2.1
    have e1 : upd V 0 (nI 0) 1 = nI s.2.2.2.2 := H1.2.2.2.2.2
    refine r_iconst 2 d_Mo_token_48 (by decide) ?_
    refine r_iload_n d_Mo_token_49 rfl ?_
    refine r_ri2 (show (2 : Int32) = nI 2 by decide) ?_
    refine r_imul d_Mo_token_50 ?_
    refine r_ri (pk_mul _ _) ?_
    refine r_iload_n d_Mo_token_51 rfl ?_
    refine r_iadd d_Mo_token_52 ?_
    refine r_ri (nI_add _ _) ?_
    refine r_istore d_Mo_token_53 (Nat.le_of_ble_eq_true rfl) ?_
    refine r_aload_n d_Mo_token_55 rfl ?_
    refine r_iload_n d_Mo_token_56 rfl ?_
    refine r_iload_n d_Mo_token_57 rfl ?_
    refine r_cVi [.int (nI j), .int (nI i)] 57 (d - 1) 0 0 (b01 (tk (lnOf s j).2.2.2.2.1 i)) (fun h' => h2 = h') d_Mo_token_58 q_Mo_152 M2.1 rfl rfl (c_Mo_hasSide htr hj hi HL.2.2.2.2.2.1.2 M2 HL.2.2.2.2.2.1.1 ⟨rfl, rfl⟩) (by show d - 1 + 1 ≤ d; omega) (Nat.le_of_ble_eq_true rfl) (Nat.le_of_ble_eq_true rfl) (Nat.le_of_ble_eq_true rfl) (fun h' e9 => ?_)
    subst e9
    refine r_if_ne 66 d_Mo_token_61 (by decide) (fun c2 => ?_) (fun c2 => ?_)
    · have htk : tk (lnOf s j).2.2.2.2.1 i := Classical.byContradiction fun z => c2 (b01_f z)
      have eV : sp_tokV s j i a = (if sp_rec s.2.1 a (nI s.2.2.2.2) s.2.1.length = true then 3 else if 6 ≤ (qOf (lnOf s j) i).length then 2 else 0) := if_pos htk
      have rm := rec_mem (a := a) ht hn
      refine r_aload_n d_Mo_token_66 rfl ?_
      refine r_iload_n d_Mo_token_67 rfl ?_
      refine r_cVi [.int a] 57 (d - 1) 0 0 (b01 (∃ x ∈ s.2.1, x.1 = a ∧ nI s.2.2.2.2 - x.2 < 300)) (fun h' => h2 = h') d_Mo_token_68 q_Mo_156 M2.1 rfl rfl (c_Mo_isRepeated htr M2 ⟨v1, v2, v3⟩ ⟨by rw [e1], rfl⟩) (by show d - 1 + 1 ≤ d; omega) (Nat.le_of_ble_eq_true rfl) (Nat.le_of_ble_eq_true rfl) (Nat.le_of_ble_eq_true rfl) (fun h' e9 => ?_)
      subst e9
      refine r_if_eq 76 d_Mo_token_71 (by decide) (fun c3 => ?_) (fun c3 => ?_)
      · rw [if_neg (fun z => b01_0.mp c3 (rm.mp z))] at eV
        refine r_aload_n d_Mo_token_76 rfl ?_
        refine r_getfield d_Mo_token_77 f_Mo_67 M2.1 rfl ?_
        refine r_iload d_Mo_token_80 rfl ?_
        refine r_ialoadN d_Mo_token_82 (md_waiting M2) (show 2*j+i < 4 by omega) (by omega) ?_
        refine r_ri TQ.1 ?_
        refine r_bipush 6 d_Mo_token_83 (by decide) ?_
        refine r_ri (show (6 : Int32) = nI 6 by decide) ?_
        refine r_icmp_ne 90 d_Mo_token_85 (by decide) (fun c4 => ?_) (fun c4 => ?_)
        · have hlt : (qOf (lnOf s j) i).length < 6 := by
            have : ¬ (qOf (lnOf s j) i).length = 6 := fun z => c4 (by rw [z])
            omega
          rw [if_neg (by omega)] at eV
          refine r_aload_n d_Mo_token_90 rfl ?_
          refine r_getfield d_Mo_token_91 f_Mo_70 M2.1 rfl ?_
          refine r_bipush 6 d_Mo_token_94 (by decide) ?_
          refine r_iload d_Mo_token_96 rfl ?_
          refine r_ri2 (show (6 : Int32) = nI 6 by decide) ?_
          refine r_imul d_Mo_token_98 ?_
          refine r_ri (pk_mul _ _) ?_
          refine r_aload_n d_Mo_token_99 rfl ?_
          refine r_getfield d_Mo_token_100 f_Mo_67 M2.1 rfl ?_
          refine r_iload d_Mo_token_103 rfl ?_
          refine r_ialoadN d_Mo_token_105 (md_waiting M2) (show (2*j+i) < 4 by omega) (by omega) ?_
          refine r_ri TQ.1 ?_
          refine r_iadd d_Mo_token_106 ?_
          refine r_ri (nI_add _ _) ?_
          refine r_pc 107 rfl ?_
          refine r_iload_n d_Mo_token_107 rfl ?_
          refine r_mst 20 d_Mo_token_108 (by omega) (show 6 * ((2*j+i)) + ((qOf (lnOf s j) i).length) < 24 by omega) M2 (fun h108_ fr108 M108 => ?_)
          refine r_aload_n d_Mo_token_109 rfl ?_
          refine r_getfield d_Mo_token_110 f_Mo_73 M108.1 rfl ?_
          refine r_bipush 6 d_Mo_token_113 (by decide) ?_
          refine r_iload d_Mo_token_115 rfl ?_
          refine r_ri2 (show (6 : Int32) = nI 6 by decide) ?_
          refine r_imul d_Mo_token_117 ?_
          refine r_ri (pk_mul _ _) ?_
          refine r_aload_n d_Mo_token_118 rfl ?_
          refine r_getfield d_Mo_token_119 f_Mo_67 M108.1 rfl ?_
          refine r_iload d_Mo_token_122 rfl ?_
          refine r_ialoadN d_Mo_token_124 (md_waiting M108) (show (2*j+i) < 4 by omega) (by omega) ?_
          refine r_ri ((up2_ne (by omega)).trans TQ.1) ?_
          refine r_iadd d_Mo_token_125 ?_
          refine r_ri (nI_add _ _) ?_
          refine r_pc 126 rfl ?_
          refine r_aload_n d_Mo_token_126 rfl ?_
          refine r_getfield d_Mo_token_127 f_Mo_121 M108.1 rfl ?_
          refine r_ri e1 ?_
          refine r_mst 21 d_Mo_token_130 (by omega) (show 6 * ((2*j+i)) + ((qOf (lnOf s j) i).length) < 24 by omega) M108 (fun h130_ fr130 M130 => ?_)
          refine r_aload_n d_Mo_token_131 rfl ?_
          refine r_getfield d_Mo_token_132 f_Mo_67 M130.1 rfl ?_
          refine r_iload d_Mo_token_135 rfl ?_
          refine r_dup2 d_Mo_token_137 rfl rfl ?_
          refine r_ialoadN d_Mo_token_138 (md_waiting M130) (show 2 * j + i < 4 by omega) (by omega) ?_
          refine r_ri ((up2_ne (by omega)).trans ((up2_ne (by omega)).trans TQ.1)) ?_
          refine r_iconst 1 d_Mo_token_139 (by decide) ?_
          refine r_iadd d_Mo_token_140 ?_
          refine r_ri (nI_1 _) ?_
          refine r_mst 19 d_Mo_token_141 (by omega) (show 2 * j + i < 4 by omega) M130 (fun h141_ fr141 M141 => ?_)
          have TQ4 := Mqu_add (a := a) (t := nI s.2.2.2.2) TQ hlt
          have C4 : ch (Dq (2 * j + i)) F (up2 (up2 (up2 F 20 (6 * (2 * j + i) + (qOf (lnOf s j) i).length) a) 21 (6 * (2 * j + i) + (qOf (lnOf s j) i).length) (nI s.2.2.2.2)) 19 (2 * j + i) (nI ((qOf (lnOf s j) i).length + 1))) := ch_tr (ch_tr (ch_up (Or.inr ⟨by omega, by omega, by omega⟩)) (ch_up (Or.inr ⟨by omega, by omega, by omega⟩))) (ch_up (Or.inl ⟨rfl, rfl⟩))
          generalize up2 (up2 (up2 F 20 (6 * (2 * j + i) + (qOf (lnOf s j) i).length) a) 21 (6 * (2 * j + i) + (qOf (lnOf s j) i).length) (nI s.2.2.2.2)) 19 (2 * j + i) (nI ((qOf (lnOf s j) i).length + 1)) = F4 at *
          have v1' : upd V 0 (nI 0) 4 = nI s.2.1.length := v1
          refine r_aload_n d_Mo_token_142 rfl ?_
          refine r_getfield d_Mo_token_143 f_Mo_76 M141.1 rfl ?_
          refine r_aload_n d_Mo_token_146 rfl ?_
          refine r_getfield d_Mo_token_147 f_Mo_149 M141.1 rfl ?_
          refine r_ri v1' ?_
          refine r_iload_n d_Mo_token_150 rfl ?_
          refine r_mst 22 d_Mo_token_151 (by omega) (show s.2.1.length < 600 by omega) M141 (fun h151_ fr151 M151 => ?_)
          refine r_aload_n d_Mo_token_152 rfl ?_
          refine r_getfield d_Mo_token_153 f_Mo_79 M151.1 rfl ?_
          refine r_aload_n d_Mo_token_156 rfl ?_
          refine r_getfield d_Mo_token_157 f_Mo_149 M151.1 rfl ?_
          refine r_ri v1' ?_
          refine r_aload_n d_Mo_token_160 rfl ?_
          refine r_getfield d_Mo_token_161 f_Mo_121 M151.1 rfl ?_
          refine r_ri e1 ?_
          refine r_mst 23 d_Mo_token_164 (by omega) (show s.2.1.length < 600 by omega) M151 (fun h164_ fr164 M164 => ?_)
          refine r_aload_n d_Mo_token_165 rfl ?_
          refine r_dup d_Mo_token_166 rfl ?_
          refine r_getfield d_Mo_token_167 f_Mo_149 M164.1 rfl ?_
          refine r_ri v1' ?_
          refine r_iconst 1 d_Mo_token_170 (by decide) ?_
          refine r_ri (show (1 : Int32) = nI 1 by decide) ?_
          refine r_iadd d_Mo_token_171 ?_
          refine r_ri (nI_add _ _) ?_
          refine r_mpf_accepted d_Mo_token_172 f_Mo_149 M164 (fun h172_ fr172 M172 => ?_)
          refine r_iconst 0 d_Mo_token_175 (by decide) ?_
          refine r_ri nI_0.symm ?_
          have C5 : ch (fun a b => a = 22 ∨ a = 23) F4 (up2 (up2 F4 22 s.2.1.length a) 23 s.2.1.length (nI s.2.2.2.2)) := ch_tr (ch_up (Or.inl rfl)) (ch_up (Or.inr rfl))
          have CC : ch (fun a b => Dq (2 * j + i) a b ∨ a = 22 ∨ a = 23 ∨ a = 24) F (up2 (up2 F4 22 s.2.1.length a) 23 s.2.1.length (nI s.2.2.2.2)) := ch_tr (ch_mo C4 (fun a b z => Or.inl z)) (ch_mo C5 (fun a b z => by
            rcases z with z | z
            · exact Or.inr (Or.inl z)
            · exact Or.inr (Or.inr (Or.inl z))))
          have okn : okQ (qOf (lnOf s j) i ++ [(a, nI s.2.2.2.2)]) := fun y hy => by
            rcases List.mem_append.mp hy with q | q
            · exact okq y q
            · simp at q; subst q; rw [Int32.le_iff_toInt_le] at c1; exact c1
          have HL5 := MLn_setq HL hi CC (TQ4.ch C5 (fun a b z1 z2 => by unfold Dq at z1; omega)) okn
          -- first as if the acceptances stood
          have S4 := H1.lane hj (L := stQ (lnOf s j) i (qOf (lnOf s j) i ++ [(a, nI s.2.2.2.2)])) (F' := F4) (V' := V) (ch_mo C4 (fun a b z => in_q hi z)) (MLn_setq HL hi (ch_mo C4 (fun a b z => Or.inl z)) TQ4 okn) (H1.2.2.2.1.ch C4 rfl (fun i => by unfold Dq; omega)) rfl rfl rfl
          obtain ⟨z1, z2, z3, z4, z5, z6⟩ := S4
          have fin := hb _ eV (frP_tr (frP_tr (frP_tr (frP_tr (frP_tr (frP_tr Fr2 fr108) fr130) fr141) fr151) fr164) fr172) ⟨_, _, M172, ⟨z1.ch C5 (fun a b y1 y2 => by unfold own9 Dbo Dq at y1; omega), z2.ch C5 (fun a b y1 y2 => by unfold own9 Dbo Dq at y1; omega), ⟨by rw [show (sp_tokS s j i a).2.1 = s.2.1 ++ [(a, nI s.2.2.2.2)] from rfl, List.length_append]; rfl, by rw [show (sp_tokS s j i a).2.1 = s.2.1 ++ [(a, nI s.2.2.2.2)] from rfl, List.length_append]; exact hcap, by
            rw [up2_rne (by omega), up2_row, up2_row, up2_rne (by omega)]
            refine in2_add (q := s.2.1) ?_
            intro k y hy
            obtain ⟨y1, y2⟩ := z3.2.2 k y hy
            exact ⟨y1, y2⟩⟩, z4.ch C5 rfl (fun i z => by omega), z5, z6⟩, rfl⟩
          rw [eV] at fin
          exact r_iret d_Mo_token_176 rfl fin (Nat.le_of_ble_eq_true rfl) (Nat.le_of_ble_eq_true rfl)
        · have hlen : (qOf (lnOf s j) i).length = 6 := (nI_eq (by omega) (by omega)).mp c4
          rw [if_pos (by omega)] at eV
          refine r_iconst 2 d_Mo_token_88 (by decide) ?_
          refine r_ri nI2 ?_
          exact r_iret d_Mo_token_89 rfl (hv 2 eV (by omega)) (Nat.le_of_ble_eq_true rfl) (Nat.le_of_ble_eq_true rfl)
      · rw [if_pos (rm.mpr (Classical.byContradiction fun z => c3 (b01_f z)))] at eV
        refine r_iconst 3 d_Mo_token_74 (by decide) ?_
        refine r_ri nI3 ?_
        exact r_iret d_Mo_token_75 rfl (hv 3 eV (by omega)) (Nat.le_of_ble_eq_true rfl) (Nat.le_of_ble_eq_true rfl)
    · refine r_iconst 1 d_Mo_token_64 (by decide) ?_
      refine r_ri nI1 ?_
      exact r_iret d_Mo_token_65 rfl (hv 1 (if_neg (b01_0.mp c2)) (by omega)) (Nat.le_of_ble_eq_true rfl) (Nat.le_of_ble_eq_true rfl)
  · refine r_iconst 2 d_Mo_token_35 (by decide) ?_
    refine r_ri nI2 ?_
    refine r_goto 40 d_Mo_token_36 (by decide) ?_
    exact r_loc _ (fun q hq => by simp at hq; rcases hq with q | q | q | q | q <;> subst q <;> rfl) (refu 2 1 (by omega) (fun z => by omega) (fun _ h2 f2 g2 => hy j i h2 hj e hi e2 (by rw [Int32.lt_iff_toInt_lt]; rw [Int32.le_iff_toInt_le] at c1; omega) f2 g2))
