/-! BLOBS -/
def in2N (q : List (Nat × Nat)) (f g : Nat → Int32) : Prop := ∀ (i : Nat) (x : Nat × Nat), q[i]? = some x → f i = nI x.1 ∧ g i = nI x.2
def okBl (B : List (Nat × Nat)) : Prop := ∀ x ∈ B, x.1 ≤ x.2 ∧ x.2 ≤ 9
def Bls (h : ac_H) (b : Nat) (B : List (Nat × Nat)) : Prop := h[b]? = some (.inr (0, [.ref (b + 1), .ref (b + 2), .int (nI B.length)])) ∧ B.length ≤ 4 ∧ okBl B ∧ ∃ f g, h[b + 1]? = some (.inl (.inl (4, f))) ∧ h[b + 2]? = some (.inl (.inl (4, g))) ∧ in2N B f g
theorem Bls.fr {h h' : ac_H} {b : Nat} {B : List (Nat × Nat)} {as : List Nat} (H : Bls h b B) (F : fr h h' as) (h0 : b ∉ as) (h1 : b + 1 ∉ as) (h2 : b + 2 ∉ as) : Bls h' b B := by
  obtain ⟨a1, a2, a3, f, g, a4, a5, a6⟩ := H
  exact ⟨fr_at F h0 a1, a2, a3, f, g, fr_at F h1 a4, fr_at F h2 a5, a6⟩
def meets (b : sp_B) (x : Nat × Nat) : Prop := b.1 ≤ x.2 + 1 ∧ x.1 ≤ b.2.1 + 1
theorem nI_m1_le {a b : Nat} (ha : a < 2 ^ 30) (hb : b < 2 ^ 30) : nI a - 1 ≤ nI b ↔ a ≤ b + 1 := by
  rw [nI1, Int32.le_iff_toInt_le, pk_sub_toInt ha (by decide), nI_toInt (by omega)]; omega
theorem c_Blobs_isMetBy {l : Launch} (htr : l.stackTraces = false) {d : Nat} {h : ac_H} {Φ : ac_R → ac_H → Prop} {a w i : Nat} {b : sp_B} {B : List (Nat × Nat)} {x : Nat × Nat} (H : Bls h a B) (hw : h[w]? = some (bo b)) (ok : okB b) (hx : B[i]? = some x) (hΦ : Φ (.inl (some (.int (b01 (meets b x))))) h) : ac_Mt l d m_Blobs_isMetBy [.ref a, .ref w, .int (nI i)] h 0 0 Φ := by
  obtain ⟨a1, a2, a3, f, g, a4, a5, a6⟩ := H
  obtain ⟨o1, o2, -, -, -⟩ := ok
  obtain ⟨x1, x2⟩ := a3 x (List.mem_of_getElem? hx)
  have hi : i < B.length := (List.getElem?_eq_some_iff.mp hx).1
  obtain ⟨e1, e2⟩ := a6 i x hx
  refine ac_enter (by decide) rfl htr (fun _ => Nat.le_of_ble_eq_true rfl) ?_
  refine r_aload_n d_Blobs_isMetBy_0 rfl ?_
  refine r_getfield d_Blobs_isMetBy_1 f_Blobs_30 hw rfl ?_
  refine r_iconst 1 d_Blobs_isMetBy_4 (by decide) ?_
  refine r_isub d_Blobs_isMetBy_5 ?_
  refine r_aload_n d_Blobs_isMetBy_6 rfl ?_
  refine r_getfield d_Blobs_isMetBy_7 f_Blobs_15 a1 rfl ?_
  refine r_iload_n d_Blobs_isMetBy_10 rfl ?_
  refine r_ialoadN d_Blobs_isMetBy_11 a5 (by omega) (by omega) ?_
  rw [e2]
  refine r_icmp_gt 34 d_Blobs_isMetBy_12 (by decide) (fun c1 => ?_) (fun c1 => ?_)
  · have h9 : ¬ b.1 ≤ x.2 + 1 := fun z => by
      have := (nI_m1_le (a := b.1) (b := x.2) (by omega) (by omega)).mpr z
      rw [Int32.le_iff_toInt_le] at this; rw [Int32.lt_iff_toInt_lt] at c1; omega
    refine r_iconst 0 d_Blobs_isMetBy_34 (by decide) ?_
    rw [b01_f (fun z => h9 z.1)] at hΦ
    exact r_zret d_Blobs_isMetBy_35 rfl (Or.inl rfl) hΦ (Nat.le_refl _) (Nat.le_refl _)
  · have h9 : b.1 ≤ x.2 + 1 := (nI_m1_le (a := b.1) (b := x.2) (by omega) (by omega)).mp (by rw [Int32.le_iff_toInt_le]; rw [Int32.lt_iff_toInt_lt] at c1; omega)
    refine r_aload_n d_Blobs_isMetBy_15 rfl ?_
    refine r_getfield d_Blobs_isMetBy_16 f_Blobs_34 hw rfl ?_
    refine r_iconst 1 d_Blobs_isMetBy_19 (by decide) ?_
    refine r_iadd d_Blobs_isMetBy_20 ?_
    refine r_ri (nI_1 _) ?_
    refine r_aload_n d_Blobs_isMetBy_21 rfl ?_
    refine r_getfield d_Blobs_isMetBy_22 f_Blobs_9 a1 rfl ?_
    refine r_iload_n d_Blobs_isMetBy_25 rfl ?_
    refine r_ialoadN d_Blobs_isMetBy_26 a4 (by omega) (by omega) ?_
    rw [e1]
    refine r_icmp_lt 34 d_Blobs_isMetBy_27 (by decide) (fun c2 => ?_) (fun c2 => ?_)
    · refine r_iconst 0 d_Blobs_isMetBy_34 (by decide) ?_
      rw [b01_f (fun z => by have := (nI_ltI (by omega) (by omega)).mp c2; have := z.2; omega)] at hΦ
      exact r_zret d_Blobs_isMetBy_35 rfl (Or.inl rfl) hΦ (Nat.le_refl _) (Nat.le_refl _)
    · refine r_iconst 1 d_Blobs_isMetBy_30 (by decide) ?_
      refine r_goto 35 d_Blobs_isMetBy_31 (by decide) ?_
      rw [b01_t ⟨h9, by rcases Nat.lt_or_ge (b.2.1 + 1) x.1 with z | z; exact absurd ((nI_ltI (by omega) (by omega)).mpr z) c2; exact z⟩] at hΦ
      exact r_zret d_Blobs_isMetBy_35 rfl (Or.inr rfl) hΦ (Nat.le_refl _) (Nat.le_refl _)
/-- k is the first blob that b meets -/
def goesTo (B : List (Nat × Nat)) (b : sp_B) (k : Nat) : Prop := (∃ x, B[k]? = some x ∧ meets b x) ∧ ∀ j, j < k → ∀ x, B[j]? = some x → ¬ meets b x
def lost9 (B : List (Nat × Nat)) (b : sp_B) : Prop := ∀ x ∈ B, ¬ meets b x
theorem c_Blobs_firstMetBy {l : Launch} (htr : l.stackTraces = false) {d : Nat} {h : ac_H} {Φ : ac_R → ac_H → Prop} {a w : Nat} {b : sp_B} {B : List (Nat × Nat)} (hd : 1 ≤ d) (H : Bls h a B) (hw : h[w]? = some (bo b)) (ok : okB b) (h0 : lost9 B b → Φ (.inl (some (.int (-1)))) h) (h1 : ∀ k, k < B.length → goesTo B b k → Φ (.inl (some (.int (nI k)))) h) : ac_Mt l d m_Blobs_firstMetBy [.ref a, .ref w] h 0 0 Φ := by
  have a1 := H.1
  have a2 := H.2.1
  refine ac_enter (by decide) rfl htr (fun _ => Nat.le_of_ble_eq_true rfl) ?_
  have key : ∀ n i, i + n = B.length → (∀ j, j < i → ∀ x, B[j]? = some x → ¬ meets b x) → ac_G (l, d, m_Blobs_firstMetBy, 0, 0, Φ, h.length, none) 2 [(2, .int (nI i)), (0, .ref a), (1, .ref w)] [] h 0 0 := by
    intro n
    induction n with
    | zero =>
      intro i hi hno
      refine r_iload_n d_Blobs_firstMetBy_2 rfl ?_
      refine r_aload_n d_Blobs_firstMetBy_3 rfl ?_
      refine r_getfield d_Blobs_firstMetBy_4 f_Blobs_18 a1 rfl ?_
      refine r_icmp_ge 27 d_Blobs_firstMetBy_7 (by decide) (fun c1 => ?_) (fun c1 => absurd (nI_le (by omega) (by omega)) c1)
      refine r_iconst (-1) d_Blobs_firstMetBy_27 (by decide) ?_
      refine r_iret d_Blobs_firstMetBy_28 rfl (h0 fun x hx => ?_) (Nat.le_refl _) (Nat.le_refl _)
      obtain ⟨j, hj⟩ := List.getElem?_of_mem hx
      exact hno j (by have := (List.getElem?_eq_some_iff.mp hj).1; omega) x hj
    | succ n ih =>
      intro i hi hno
      refine r_iload_n d_Blobs_firstMetBy_2 rfl ?_
      refine r_aload_n d_Blobs_firstMetBy_3 rfl ?_
      refine r_getfield d_Blobs_firstMetBy_4 f_Blobs_18 a1 rfl ?_
      refine r_icmp_ge 27 d_Blobs_firstMetBy_7 (by decide) (fun c1 => absurd ((nI_leI (by omega) (by omega)).mp c1) (by omega)) (fun c1 => ?_)
      have hx := List.getElem?_eq_getElem (show i < B.length by omega)
      refine r_aload_n d_Blobs_firstMetBy_10 rfl ?_
      refine r_aload_n d_Blobs_firstMetBy_11 rfl ?_
      refine r_iload_n d_Blobs_firstMetBy_12 rfl ?_
      refine r_cVi [.ref w, .int (nI i)] a (d - 1) 0 0 (b01 (meets b B[i])) (fun h' => h' = h) d_Blobs_firstMetBy_13 q_Blobs_26 a1 rfl rfl (c_Blobs_isMetBy htr H hw ok hx ⟨rfl, rfl⟩) (by show d - 1 + 1 ≤ d; omega) (Nat.le_refl _) (Nat.le_refl _) (Nat.le_of_ble_eq_true rfl) (fun h' e => ?_)
      subst e
      refine r_if_eq 21 d_Blobs_firstMetBy_16 (by decide) (fun c2 => ?_) (fun c2 => ?_)
      · have hm := b01_0.mp c2
        refine r_iincP d_Blobs_firstMetBy_21 rfl (Nat.le_of_ble_eq_true rfl) ?_
        refine r_goto 2 d_Blobs_firstMetBy_24 (by decide) ?_
        rw [nI_1]
        refine ih (i + 1) (by omega) (fun j hj x hx9 => ?_)
        rcases Nat.lt_or_ge j i with z | z
        · exact hno j z x hx9
        · have e : j = i := by omega
          subst e
          rw [hx] at hx9
          cases hx9
          exact hm
      · refine r_iload_n d_Blobs_firstMetBy_19 rfl ?_
        exact r_iret d_Blobs_firstMetBy_20 rfl (h1 i (by omega) ⟨⟨_, hx, Classical.byContradiction fun z => c2 (b01_f z)⟩, hno⟩) (Nat.le_refl _) (Nat.le_refl _)
  refine r_iconst 0 d_Blobs_firstMetBy_0 (by decide) ?_
  refine r_ri nI_0.symm ?_
  refine r_istore_n d_Blobs_firstMetBy_1 (Nat.le_of_ble_eq_true rfl) ?_
  exact key B.length 0 (by omega) (fun j hj => absurd hj (by omega))
/-- a seen beam more, from beam 0 on -/
def sp_add (B : List (Nat × Nat)) (i : Nat) : List (Nat × Nat) := match B.getLast? with
  | some x => if i ≤ x.2 + 2 then B.dropLast ++ [(x.1, i)] else B ++ [(i, i)]
  | none => [(i, i)]
/-- the blobs stand three beams apart -/
def apart3 (B : List (Nat × Nat)) (i : Nat) : Prop := (∀ x ∈ B, x.1 ≤ x.2 ∧ x.2 < i) ∧ ∀ x, B.getLast? = some x → 3 * (B.length - 1) ≤ x.1
theorem apart3_add {B : List (Nat × Nat)} {i : Nat} (h : apart3 B i) : apart3 (sp_add B i) (i + 1) := by
  unfold sp_add
  obtain ⟨h1, h2⟩ := h
  cases hl : B.getLast? with
  | none =>
    simp only
    exact ⟨fun x hx => by simp at hx; subst hx; exact ⟨Nat.le_refl _, Nat.lt_succ_self _⟩, fun x hx => by simp⟩
  | some x =>
    simp only
    have hB : B = B.dropLast ++ [x] := by
      have hne : B ≠ [] := fun z => by rw [z] at hl; cases hl
      rw [List.getLast?_eq_some_getLast hne] at hl
      cases hl
      exact (List.dropLast_concat_getLast hne).symm
    have hxm : x ∈ B := by rw [hB]; simp
    obtain ⟨y1, y2⟩ := h1 x hxm
    have hx3 := h2 x hl
    by_cases c : i ≤ x.2 + 2
    · rw [if_pos c]
      refine ⟨fun y hy => ?_, fun y hy => ?_⟩
      · rcases List.mem_append.mp hy with q | q
        · obtain ⟨z1, z2⟩ := h1 y ((List.dropLast_sublist B).subset q); exact ⟨z1, by omega⟩
        · simp at q; subst q; exact ⟨by show x.1 ≤ i; omega, Nat.lt_succ_self _⟩
      · simp at hy; subst hy
        show 3 * ((B.dropLast ++ [(x.1, i)]).length - 1) ≤ x.1
        have e : (B.dropLast ++ [(x.1, i)]).length = B.length := by rw [hB]; simp
        rw [e]; exact hx3
    · rw [if_neg c]
      refine ⟨fun y hy => ?_, fun y hy => ?_⟩
      · rcases List.mem_append.mp hy with q | q
        · obtain ⟨z1, z2⟩ := h1 y q; exact ⟨z1, by omega⟩
        · simp at q; subst q; exact ⟨Nat.le_refl _, Nat.lt_succ_self _⟩
      · simp at hy; subst hy
        show 3 * ((B ++ [(i, i)]).length - 1) ≤ i
        rw [List.length_append]
        have : 0 < B.length := by rw [hB]; simp
        show 3 * (B.length + 1 - 1) ≤ i
        omega
theorem apart3_len {B : List (Nat × Nat)} {i : Nat} (h : apart3 B i) (hi : i ≤ 10) : B.length ≤ 4 := by
  cases hl : B.getLast? with
  | none => rw [List.getLast?_eq_none_iff.mp hl]; simp
  | some x =>
    have h2 := h.2 x hl
    have h3 := h.1 x (List.mem_of_getLast? hl)
    omega
theorem apart3_ok {B : List (Nat × Nat)} {i : Nat} (h : apart3 B i) (hi : i ≤ 10) : okBl B := fun x hx => by
  obtain ⟨z1, z2⟩ := h.1 x hx
  exact ⟨z1, by omega⟩
theorem in2N_put {B : List (Nat × Nat)} {x : Nat × Nat} {f g : Nat → Int32} {i : Nat} (h : in2N (B ++ [x]) f g) : in2N (B ++ [(x.1, i)]) f (upd g B.length (nI i)) := by
  intro j y hy
  by_cases hj : j < B.length
  · rw [List.getElem?_append_left hj] at hy
    have := h j y (by rw [List.getElem?_append_left hj]; exact hy)
    exact ⟨this.1, by unfold upd; rw [if_neg (by omega)]; exact this.2⟩
  · rw [List.getElem?_append_right (by omega)] at hy
    have h1 : j - B.length < 1 := (List.getElem?_eq_some_iff.mp hy).1
    have e : j = B.length := by omega
    subst e
    rw [Nat.sub_self] at hy
    cases hy
    have := h B.length x (by rw [List.getElem?_append_right (Nat.le_refl _), Nat.sub_self]; rfl)
    exact ⟨this.1, by unfold upd; rw [if_pos rfl]⟩
theorem in2N_add {B : List (Nat × Nat)} {f g : Nat → Int32} {i : Nat} (h : in2N B f g) : in2N (B ++ [(i, i)]) (upd f B.length (nI i)) (upd g B.length (nI i)) := by
  intro j y hy
  unfold upd
  by_cases hj : j < B.length
  · rw [List.getElem?_append_left hj] at hy
    rw [if_neg (by omega), if_neg (by omega)]; exact h j y hy
  · rw [List.getElem?_append_right (by omega)] at hy
    have h1 : j - B.length < 1 := (List.getElem?_eq_some_iff.mp hy).1
    have e : j = B.length := by omega
    subst e
    rw [Nat.sub_self] at hy
    cases hy
    rw [if_pos rfl, if_pos rfl]; exact ⟨rfl, rfl⟩
theorem nI_gap {a b : Nat} (ha : a < 2 ^ 30) (hb : b < 2 ^ 30) (c : Nat) (hc : c < 2 ^ 30) : nI c < nI a - nI b ↔ b + c < a := by
  rw [Int32.lt_iff_toInt_lt, pk_sub_toInt ha hb, nI_toInt (by omega)]; omega
theorem c_Blobs_addBeam {l : Launch} (htr : l.stackTraces = false) {d : Nat} {h : ac_H} {Φ : ac_R → ac_H → Prop} {a i : Nat} {B : List (Nat × Nat)} (H : Bls h a B) (hB : apart3 B i) (hi : i ≤ 9) (hΦ : ∀ h', fr h h' [a, a + 1, a + 2] → Bls h' a (sp_add B i) → Φ (.inl none) h') : ac_Mt l d m_Blobs_addBeam [.ref a, .int (nI i)] h 0 0 Φ := by
  obtain ⟨a1, a2, a3, f, g, a4, a5, a6⟩ := H
  have hB2 := apart3_add hB
  have hlen2 := apart3_len hB2 (by omega)
  have hok2 := apart3_ok hB2 (by omega)
  refine ac_enter (by decide) rfl htr (fun _ => Nat.le_of_ble_eq_true rfl) ?_
  -- a blob more
  have more : sp_add B i = B ++ [(i, i)] → ac_G (l, d, m_Blobs_addBeam, 0, 0, Φ, h.length, none) 39 [(0, .ref a), (1, .int (nI i))] [] h 0 0 := by
    intro he
    rw [he] at hlen2 hok2 hΦ
    rw [List.length_append] at hlen2
    have hl4 : B.length < 4 := hlen2
    refine r_aload_n d_Blobs_addBeam_39 rfl ?_
    refine r_getfield d_Blobs_addBeam_40 f_Blobs_18 a1 rfl ?_
    refine r_aload_n d_Blobs_addBeam_43 rfl ?_
    refine r_getfield d_Blobs_addBeam_44 f_Blobs_9 a1 rfl ?_
    refine r_alenI d_Blobs_addBeam_47 a4 ?_
    refine r_icmp_ge 81 d_Blobs_addBeam_48 (by decide) (fun c2 => absurd ((nI_leI (by omega) (by omega)).mp c2) (by omega)) (fun c2 => ?_)
    refine r_aload_n d_Blobs_addBeam_51 rfl ?_
    refine r_getfield d_Blobs_addBeam_52 f_Blobs_9 a1 rfl ?_
    refine r_aload_n d_Blobs_addBeam_55 rfl ?_
    refine r_getfield d_Blobs_addBeam_56 f_Blobs_18 a1 rfl ?_
    refine r_iload_n d_Blobs_addBeam_59 rfl ?_
    refine r_iastoreN d_Blobs_addBeam_60 a4 hl4 (by omega) (fun h60_ fr60 g60 => ?_)
    have b1 := fr_at fr60 (b := a) (by simp) a1
    have b5 := fr_at fr60 (b := a + 2) (by simp) a5
    refine r_aload_n d_Blobs_addBeam_61 rfl ?_
    refine r_getfield d_Blobs_addBeam_62 f_Blobs_15 b1 rfl ?_
    refine r_aload_n d_Blobs_addBeam_65 rfl ?_
    refine r_getfield d_Blobs_addBeam_66 f_Blobs_18 b1 rfl ?_
    refine r_iload_n d_Blobs_addBeam_69 rfl ?_
    refine r_iastoreN d_Blobs_addBeam_70 b5 hl4 (by omega) (fun h70_ fr70 g70 => ?_)
    have e1 := fr_at fr70 (b := a) (by simp) b1
    have e4 := fr_at fr70 (b := a + 1) (by simp) g60
    refine r_aload_n d_Blobs_addBeam_71 rfl ?_
    refine r_dup d_Blobs_addBeam_72 rfl ?_
    refine r_getfield d_Blobs_addBeam_73 f_Blobs_18 e1 rfl ?_
    refine r_iconst 1 d_Blobs_addBeam_76 (by decide) ?_
    refine r_iadd d_Blobs_addBeam_77 ?_
    refine r_ri (nI_1 _) ?_
    refine r_putfieldN d_Blobs_addBeam_78 f_Blobs_18 e1 (Nat.le_of_ble_eq_true rfl) (fun _ => rfl) (fun _ => rfl) (fun h78_ fr78 g78 => ?_)
    refine r_vret d_Blobs_addBeam_81 rfl (hΦ _ (fr_tr (fr_tr fr60 fr70 (cs := [a, a + 1, a + 2]) (by simp) (by simp)) fr78 (by simp) (by simp)) ⟨?_, ?_, hok2, _, _, fr_at fr78 (by simp) e4, fr_at fr78 (by simp) g70, in2N_add a6⟩) (Nat.le_refl _) (Nat.le_refl _)
    · rw [List.length_append]; exact g78
    · rw [List.length_append]; exact hlen2
  refine r_aload_n d_Blobs_addBeam_0 rfl ?_
  refine r_getfield d_Blobs_addBeam_1 f_Blobs_18 a1 rfl ?_
  cases hl : B.getLast? with
  | none =>
    have hnil := List.getLast?_eq_none_iff.mp hl
    refine r_if_le 39 d_Blobs_addBeam_4 (by decide) (fun c1 => ?_) (fun c1 => absurd (by rw [hnil]; decide) c1)
    exact more (by unfold sp_add; rw [hl, hnil]; rfl)
  | some x =>
    obtain ⟨B0, hB0⟩ : ∃ B0, B = B0 ++ [x] := ⟨B.dropLast, by
      have hne : B ≠ [] := fun z => by rw [z] at hl; cases hl
      rw [List.getLast?_eq_some_getLast hne] at hl
      cases hl
      exact (List.dropLast_concat_getLast hne).symm⟩
    have hlB : B.length = B0.length + 1 := by rw [hB0, List.length_append]; rfl
    have hx0 : B[B0.length]? = some x := by rw [hB0, List.getElem?_append_right (Nat.le_refl _), Nat.sub_self]; rfl
    obtain ⟨y1, y2⟩ := hB.1 x (List.mem_of_getElem? hx0)
    have ex := (a6 B0.length x hx0).2
    refine r_if_le 39 d_Blobs_addBeam_4 (by decide) (fun c1 => absurd c1 (nI_nle (by omega) (by omega))) (fun c1 => ?_)
    refine r_iload_n d_Blobs_addBeam_7 rfl ?_
    refine r_aload_n d_Blobs_addBeam_8 rfl ?_
    refine r_getfield d_Blobs_addBeam_9 f_Blobs_15 a1 rfl ?_
    refine r_aload_n d_Blobs_addBeam_12 rfl ?_
    refine r_getfield d_Blobs_addBeam_13 f_Blobs_18 a1 rfl ?_
    refine r_iconst 1 d_Blobs_addBeam_16 (by decide) ?_
    refine r_isub d_Blobs_addBeam_17 ?_
    rw [hlB]
    refine r_ri (nI_pred _) ?_
    refine r_ialoadN d_Blobs_addBeam_18 a5 (by omega) (by omega) ?_
    refine r_isub d_Blobs_addBeam_19 ?_
    refine r_iconst 2 d_Blobs_addBeam_20 (by decide) ?_
    rw [ex]
    refine r_ri nI2 ?_
    refine r_icmp_gt 39 d_Blobs_addBeam_21 (by decide) (fun c2 => ?_) (fun c2 => ?_)
    · have h9 := (nI_gap (by omega) (by omega) 2 (by omega)).mp c2
      exact more (by unfold sp_add; rw [hl]; exact if_neg (by omega))
    · have h9 : i ≤ x.2 + 2 := by
        rcases Nat.lt_or_ge (x.2 + 2) i with z | z
        · exact absurd ((nI_gap (by omega) (by omega) 2 (by omega)).mpr z) c2
        · exact z
      have he : sp_add B i = B0 ++ [(x.1, i)] := by
        unfold sp_add; rw [hl]; show (if i ≤ x.2 + 2 then _ else _) = _
        rw [if_pos h9, hB0, List.dropLast_concat]
      refine r_aload_n d_Blobs_addBeam_24 rfl ?_
      refine r_getfield d_Blobs_addBeam_25 f_Blobs_15 a1 rfl ?_
      refine r_aload_n d_Blobs_addBeam_28 rfl ?_
      refine r_getfield d_Blobs_addBeam_29 f_Blobs_18 a1 rfl ?_
      refine r_iconst 1 d_Blobs_addBeam_32 (by decide) ?_
      refine r_isub d_Blobs_addBeam_33 ?_
      rw [hlB]
      refine r_ri (nI_pred _) ?_
      refine r_iload_n d_Blobs_addBeam_34 rfl ?_
      refine r_iastoreN d_Blobs_addBeam_35 a5 (by omega) (by omega) (fun h35_ fr35 g35 => ?_)
      refine r_goto 81 d_Blobs_addBeam_36 (by decide) ?_
      refine r_vret d_Blobs_addBeam_81 rfl (hΦ _ (fr_mo fr35 (by simp)) ?_) (Nat.le_refl _) (Nat.le_refl _)
      rw [he]
      refine ⟨?_, ?_, ?_, f, _, fr_at fr35 (by simp) a4, g35, ?_⟩
      · rw [List.length_append]; have := fr_at fr35 (b := a) (by simp) a1; rw [hlB] at this; exact this
      · rw [List.length_append]; show B0.length + 1 ≤ 4; omega
      · rw [← he]; exact hok2
      · rw [hB0] at a6; exact in2N_put a6
/-- is beam i seen -/
def sp_bit (w : Int32) (i : Nat) : Prop := ¬ (w >>> (nI i &&& 31)) &&& 1 = 0
noncomputable def sp_find (w : Int32) : Nat → List (Nat × Nat)
  | 0 => []
  | n + 1 => @ite _ (sp_bit w n) (Classical.propDecidable _) (sp_add (sp_find w n) n) (sp_find w n)
theorem sp_find_ok (w : Int32) : ∀ n, apart3 (sp_find w n) n
  | 0 => ⟨fun x hx => (by cases hx), fun x hx => (by cases hx)⟩
  | n + 1 => by
    have ih := sp_find_ok w n
    unfold sp_find
    by_cases c : sp_bit w n
    · rw [if_pos c]; exact apart3_add ih
    · rw [if_neg c]; exact ⟨fun x hx => ⟨(ih.1 x hx).1, by have := (ih.1 x hx).2; omega⟩, ih.2⟩
theorem c_Blobs_find {l : Launch} (htr : l.stackTraces = false) {d : Nat} {h : ac_H} {Φ : ac_R → ac_H → Prop} {a : Nat} {w : Int32} {B : List (Nat × Nat)} (hd : 1 ≤ d) (H : Bls h a B) (hΦ : ∀ h', fr h h' [a, a + 1, a + 2] → Bls h' a (sp_find w 10) → Φ (.inl none) h') : ac_Mt l d m_Blobs_find [.ref a, .int w] h 0 0 Φ := by
  obtain ⟨a1, a2, a3, f, g, a4, a5, a6⟩ := H
  refine ac_enter (by decide) rfl htr (fun _ => Nat.le_of_ble_eq_true rfl) ?_
  refine r_aload_n d_Blobs_find_0 rfl ?_
  refine r_iconst 0 d_Blobs_find_1 (by decide) ?_
  refine r_putfieldN d_Blobs_find_2 f_Blobs_18 a1 (Nat.le_of_ble_eq_true rfl) (fun _ => rfl) (fun _ => rfl) (fun h2_ fr2 g2 => ?_)
  have key : ∀ n i h2, i + n = 10 → fr h h2 [a, a + 1, a + 2] → Bls h2 a (sp_find w i) → ac_G (l, d, m_Blobs_find, 0, 0, Φ, h.length, none) 7 [(2, .int (nI i)), (0, .ref a), (1, .int w)] [] h2 0 0 := by
    intro n
    induction n with
    | zero =>
      intro i h2 hi F H2
      have e : i = 10 := by omega
      subst e
      refine r_iload_n d_Blobs_find_7 rfl ?_
      refine r_bipush 10 d_Blobs_find_8 (by decide) ?_
      refine r_icmp_ge 32 d_Blobs_find_10 (by decide) (fun c1 => ?_) (fun c1 => absurd (by decide) c1)
      exact r_vret d_Blobs_find_32 rfl (hΦ _ F H2) (Nat.le_refl _) (Nat.le_refl _)
    | succ n ih =>
      intro i h2 hi F H2
      refine r_iload_n d_Blobs_find_7 rfl ?_
      refine r_bipush 10 d_Blobs_find_8 (by decide) ?_
      refine r_ri nI10 ?_
      refine r_icmp_ge 32 d_Blobs_find_10 (by decide) (fun c1 => absurd ((nI_leI (by omega) (by omega)).mp c1) (by omega)) (fun c1 => ?_)
      refine r_iload_n d_Blobs_find_13 rfl ?_
      refine r_iload_n d_Blobs_find_14 rfl ?_
      refine r_ishr d_Blobs_find_15 ?_
      refine r_iconst 1 d_Blobs_find_16 (by decide) ?_
      refine r_iand d_Blobs_find_17 ?_
      refine r_if_eq 26 d_Blobs_find_18 (by decide) (fun c2 => ?_) (fun c2 => ?_)
      · refine r_iincP d_Blobs_find_26 rfl (Nat.le_of_ble_eq_true rfl) ?_
        refine r_goto 7 d_Blobs_find_29 (by decide) ?_
        rw [nI_1]
        refine ih (i + 1) h2 (by omega) F ?_
        unfold sp_find; rw [if_neg (fun z => z c2)]; exact H2
      · refine r_aload_n d_Blobs_find_21 rfl ?_
        refine r_iload_n d_Blobs_find_22 rfl ?_
        refine r_cVv [.int (nI i)] a (d - 1) 0 0 (fun h' => fr h h' [a, a + 1, a + 2] ∧ Bls h' a (sp_add (sp_find w i) i)) d_Blobs_find_23 q_Blobs_22 H2.1 rfl rfl (c_Blobs_addBeam htr H2 (sp_find_ok w i) (by omega) (fun h' f' H' => ⟨rfl, fr_tr F f' (fun _ q => q) (fun _ q => q), H'⟩)) (by show d - 1 + 1 ≤ d; omega) (Nat.le_refl _) (Nat.le_refl _) (Nat.le_of_ble_eq_true rfl) (fun h' e => ?_)
        refine r_iincP d_Blobs_find_26 rfl (Nat.le_of_ble_eq_true rfl) ?_
        refine r_goto 7 d_Blobs_find_29 (by decide) ?_
        rw [nI_1]
        refine ih (i + 1) h' (by omega) e.1 ?_
        unfold sp_find; rw [if_pos (show sp_bit w i from c2)]; exact e.2
  refine r_iconst 0 d_Blobs_find_5 (by decide) ?_
  refine r_ri nI_0.symm ?_
  refine r_istore_n d_Blobs_find_6 (Nat.le_of_ble_eq_true rfl) ?_
  exact key 10 0 _ (by omega) (fr_mo fr2 (by simp)) ⟨g2, Nat.zero_le 4, fun x hx => (by cases hx), f, g, fr_at fr2 (by simp) a4, fr_at fr2 (by simp) a5, fun i x hx => (by cases hx)⟩
