/-! TOKENS TO THOSE AT THE PADDLES -/
def setA (y : sp_B) (a : Int32) : sp_B := (y.1, y.2.1, y.2.2.1, a, y.2.2.2.2)
def okQ (q : sp_Q) : Prop := ∀ x ∈ q, 0 ≤ x.1.toInt
noncomputable def sp_pay1 (y : sp_B) (qs : sp_Q × sp_Q) : sp_B × (sp_Q × sp_Q) := @ite _ (y.2.2.2.1 = -1 ∧ rched y) (Classical.propDecidable _) (if y.2.2.1 = 0 then (match qs.1 with
  | [] => (y, qs)
  | x :: t => (setA y x.1, (t, qs.2))) else (match qs.2 with
  | [] => (y, qs)
  | x :: t => (setA y x.1, (qs.1, t)))) (y, qs)
noncomputable def sp_pay : List sp_B → sp_Q × sp_Q → List sp_B × (sp_Q × sp_Q)
  | [], qs => ([], qs)
  | y :: rest, qs => ((sp_pay1 y qs).1 :: (sp_pay rest (sp_pay1 y qs).2).1, (sp_pay rest (sp_pay1 y qs).2).2)
theorem isRow_put {pre rest : List sp_B} {y y' : sp_B} {RW : Nat → sp_B} (h : isRow (pre ++ y :: rest) RW) (ok : okB y') : isRow ((pre ++ [y']) ++ rest) (fun i => if i = pre.length then y' else RW i) := by
  obtain ⟨h1, h2⟩ := h
  refine ⟨by simpa using h1, fun i x hx => ?_⟩
  show (if i = pre.length then y' else RW i) = x ∧ okB x
  rw [List.append_assoc] at hx
  by_cases hi : i < pre.length
  · rw [List.getElem?_append_left hi] at hx
    rw [if_neg (by omega)]
    exact h2 i x (by rw [List.getElem?_append_left hi]; exact hx)
  · rw [List.getElem?_append_right (by omega)] at hx
    by_cases e : i = pre.length
    · subst e
      rw [Nat.sub_self] at hx
      cases hx
      rw [if_pos rfl]; exact ⟨rfl, ok⟩
    · rw [if_neg e]
      refine h2 i x ?_
      rw [List.getElem?_append_right (by omega)]
      obtain ⟨j, hj⟩ : ∃ j, i - pre.length = j + 1 := ⟨i - pre.length - 1, by omega⟩
      rw [hj] at hx ⊢
      exact hx
theorem c_Lane_handOut {l : Launch} (htr : l.stackTraces = false) {d : Nat} {h : ac_H} {Φ : ac_R → ac_H → Prop} {b r r' m : Nat} {row : List sp_B} {RW : Nat → sp_B} {qs : sp_Q × sp_Q} {gq : Nat → Option Nat} (hd : 1 ≤ d) (hb : h[b]? = some (lnO b r r' m row.length)) (HW : Rws h r RW) (hrow : isRow row RW) (hq : h[b + 6]? = some (.inl (.inr (.inr (1, 2, gq))))) (hq0 : gq 0 = some (b + 7)) (hq1 : gq 1 = some (b + 10)) (H0 : TLs h (b + 7) 6 qs.1) (H1 : TLs h (b + 10) 6 qs.2) (ok0 : okQ qs.1) (ok1 : okQ qs.2) (hr : r = b + 15 ∨ r = b + 20)
    (hΦ : ∀ h' RW', fr h h' [r + 1, r + 2, r + 3, r + 4, b + 7, b + 8, b + 9, b + 10, b + 11, b + 12] → Rws h' r RW' → isRow (sp_pay row qs).1 RW' → TLs h' (b + 7) 6 (sp_pay row qs).2.1 → TLs h' (b + 10) 6 (sp_pay row qs).2.2 → okQ (sp_pay row qs).2.1 → okQ (sp_pay row qs).2.2 → (sp_pay row qs).1.length = row.length → Φ (.inl none) h') : ac_Mt l d m_Lane_handOutTokens [.ref b] h 0 0 Φ := by
  refine ac_enter (by decide) rfl htr (fun _ => Nat.le_of_ble_eq_true rfl) ?_
  have hr4 := hrow.1
  have key : ∀ (rest pre : List sp_B) (qs2 : sp_Q × sp_Q) (h2 : ac_H) (RW2 : Nat → sp_B), pre.length + rest.length = row.length → isRow (pre ++ rest) RW2 → fr h h2 [r + 1, r + 2, r + 3, r + 4, b + 7, b + 8, b + 9, b + 10, b + 11, b + 12] → Rws h2 r RW2 → TLs h2 (b + 7) 6 qs2.1 → TLs h2 (b + 10) 6 qs2.2 → okQ qs2.1 → okQ qs2.2 → (pre ++ (sp_pay rest qs2).1, (sp_pay rest qs2).2) = sp_pay row qs → ac_G (l, d, m_Lane_handOutTokens, 0, 0, Φ, h.length, none) 2 [(1, .int (nI pre.length)), (0, .ref b)] [] h2 0 0 := by
    intro rest
    induction rest with
    | nil =>
      intro pre qs2 h2 RW2 hl hr2 F HW2 T0 T1 k0 k1 he
      rw [List.append_nil] at hr2
      have hb2 := fr_at F (b := b) (by simp only [List.mem_cons, List.not_mem_nil, or_false, not_or]; omega) hb
      have h4 := hr2.1
      rw [List.length_nil] at hl
      refine r_iload_n d_Lane_handOutTokens_2 rfl ?_
      refine r_aload_n d_Lane_handOutTokens_3 rfl ?_
      refine r_getfield d_Lane_handOutTokens_4 f_Lane_52 hb2 rfl ?_
      refine r_icmp_ge 62 d_Lane_handOutTokens_7 (by decide) (fun c1 => ?_) (fun c1 => absurd (nI_le (by omega) (by omega)) c1)
      rw [← he] at hΦ
      have e1 : pre ++ (sp_pay [] qs2).1 = pre := List.append_nil _
      refine r_vret d_Lane_handOutTokens_62 rfl (hΦ h2 RW2 F HW2 (by rw [e1]; exact hr2) T0 T1 k0 k1 (by show (pre ++ (sp_pay [] qs2).1).length = _; rw [e1]; omega)) (Nat.le_refl _) (Nat.le_refl _)
    | cons y rest ih =>
      intro pre qs2 h2 RW2 hl hr2 F HW2 T0 T1 k0 k1 he
      rw [List.length_cons] at hl
      have h4 : pre.length < 4 := by have := hr2.1; rw [List.length_append, List.length_cons] at this; omega
      have hy : (pre ++ y :: rest)[pre.length]? = some y := by rw [List.getElem?_append_right (Nat.le_refl _), Nat.sub_self]; rfl
      obtain ⟨ey, oky⟩ := hr2.2 _ _ hy
      obtain ⟨⟨gr, g1, g2⟩, g3⟩ := id HW2
      have hc := g3 pre.length h4
      rw [ey] at hc
      have hb2 := fr_at F (b := b) (by simp only [List.mem_cons, List.not_mem_nil, or_false, not_or]; omega) hb
      have hq2 := fr_at F (b := b + 6) (by simp only [List.mem_cons, List.not_mem_nil, or_false, not_or]; omega) hq
      have o3 := oky.2.2.1
      have lenp : ∀ y' : sp_B, (pre ++ [y']).length = pre.length + 1 := fun y' => by rw [List.length_append]; rfl
      -- nothing changes
      have same : sp_pay1 y qs2 = (y, qs2) → ac_G (l, d, m_Lane_handOutTokens, 0, 0, Φ, h.length, none) 56 [(2, .ref (r + 1 + pre.length)), (1, .int (nI pre.length)), (0, .ref b)] [] h2 0 0 := by
        intro e1
        refine r_iincP d_Lane_handOutTokens_56 rfl (Nat.le_of_ble_eq_true rfl) ?_
        refine r_goto 2 d_Lane_handOutTokens_59 (by decide) ?_
        rw [nI_1]
        have := ih (pre ++ [y]) qs2 h2 RW2 (by rw [lenp]; omega) (by rw [List.append_assoc]; exact hr2) F HW2 T0 T1 k0 k1 (by rw [← he, sp_pay, e1]; simp)
        rw [lenp] at this
        exact r_loc _ (fun q hq => by simp at hq; rcases hq with q | q <;> subst q <;> rfl) this
      refine r_iload_n d_Lane_handOutTokens_2 rfl ?_
      refine r_aload_n d_Lane_handOutTokens_3 rfl ?_
      refine r_getfield d_Lane_handOutTokens_4 f_Lane_52 hb2 rfl ?_
      refine r_icmp_ge 62 d_Lane_handOutTokens_7 (by decide) (fun c1 => absurd ((nI_leI (by omega) (by omega)).mp c1) (by omega)) (fun c1 => ?_)
      refine r_aload_n d_Lane_handOutTokens_10 rfl ?_
      refine r_getfield d_Lane_handOutTokens_11 f_Lane_59 hb2 rfl ?_
      refine r_iload_n d_Lane_handOutTokens_14 rfl ?_
      refine r_aaloadN d_Lane_handOutTokens_15 g1 rfl h4 (by omega) (g2 _ h4) ?_
      refine r_astore_n d_Lane_handOutTokens_16 (Nat.le_of_ble_eq_true rfl) ?_
      refine r_aload_n d_Lane_handOutTokens_17 rfl ?_
      refine r_getfield d_Lane_handOutTokens_18 f_Lane_115 hc rfl ?_
      refine r_iconst (-1) d_Lane_handOutTokens_21 (by decide) ?_
      refine r_icmp_ne 56 d_Lane_handOutTokens_22 (by decide) (fun c2 => ?_) (fun c2 => ?_)
      · exact same (if_neg (fun z => c2 z.1))
      · refine r_aload_n d_Lane_handOutTokens_25 rfl ?_
        refine r_cVi [] (r + 1 + pre.length) (d - 1) 0 0 (b01 (rched y)) (fun h' => h2 = h') d_Lane_handOutTokens_26 q_Lane_171 hc rfl rfl (c_Body_reached htr hc oky ⟨rfl, rfl⟩) (by show d - 1 + 1 ≤ d; omega) (Nat.le_refl _) (Nat.le_refl _) (Nat.le_of_ble_eq_true rfl) (fun h' e9 => ?_)
        subst e9
        refine r_if_eq 56 d_Lane_handOutTokens_29 (by decide) (fun c3 => ?_) (fun c3 => ?_)
        · exact same (if_neg (fun z => b01_0.mp c3 z.2))
        · have hre : rched y := Classical.byContradiction fun z => c3 (b01_f z)
          refine r_aload_n d_Lane_handOutTokens_32 rfl ?_
          refine r_aload_n d_Lane_handOutTokens_33 rfl ?_
          refine r_getfield d_Lane_handOutTokens_34 f_Lane_37 hb2 rfl ?_
          refine r_aload_n d_Lane_handOutTokens_37 rfl ?_
          refine r_getfield d_Lane_handOutTokens_38 f_Lane_168 hc rfl ?_
          -- the body gets a, the queues are qs3
          have fin : ∀ (a : Int32) (qs3 : sp_Q × sp_Q) (h3 : ac_H), sp_pay1 y qs2 = (setA y a, qs3) → okB (setA y a) → fr h2 h3 [b + 7, b + 8, b + 9, b + 10, b + 11, b + 12] → TLs h3 (b + 7) 6 qs3.1 → TLs h3 (b + 10) 6 qs3.2 → okQ qs3.1 → okQ qs3.2 → ac_G (l, d, m_Lane_handOutTokens, 0, 0, Φ, h.length, none) 53 [(2, .ref (r + 1 + pre.length)), (1, .int (nI pre.length)), (0, .ref b)] [.int a, .ref (r + 1 + pre.length)] h3 0 0 := by
            intro a qs3 h3 e1 oka F3 A0 A1 o0 o1
            have hc3 := fr_at F3 (b := r + 1 + pre.length) (by simp only [List.mem_cons, List.not_mem_nil, or_false, not_or]; omega) hc
            refine r_putfieldN d_Lane_handOutTokens_53 f_Lane_115 hc3 (Nat.le_of_ble_eq_true rfl) (fun _ => rfl) (fun _ => rfl) (fun h53_ fr53 g53 => ?_)
            refine r_iincP d_Lane_handOutTokens_56 rfl (Nat.le_of_ble_eq_true rfl) ?_
            refine r_goto 2 d_Lane_handOutTokens_59 (by decide) ?_
            rw [nI_1]
            have HW3 : Rws h3 r RW2 := HW2.fr F3 (fun j hj => by simp; omega)
            have := ih (pre ++ [setA y a]) qs3 h53_ _ (by rw [lenp]; omega) (isRow_put hr2 oka) (fr_tr (fr_tr F F3 (cs := [r + 1, r + 2, r + 3, r + 4, b + 7, b + 8, b + 9, b + 10, b + 11, b + 12]) (fun _ q => q) (by simp)) fr53 (fun _ q => q) (fun q hq => by simp at hq ⊢; omega)) (Rws_put HW3 h4 fr53 g53) (A0.fr fr53 (by simp only [List.mem_cons, List.not_mem_nil, or_false, not_or]; omega) (by simp only [List.mem_cons, List.not_mem_nil, or_false, not_or]; omega) (by simp only [List.mem_cons, List.not_mem_nil, or_false, not_or]; omega)) (A1.fr fr53 (by simp only [List.mem_cons, List.not_mem_nil, or_false, not_or]; omega) (by simp only [List.mem_cons, List.not_mem_nil, or_false, not_or]; omega) (by simp only [List.mem_cons, List.not_mem_nil, or_false, not_or]; omega)) o0 o1 (by rw [← he, sp_pay, e1]; simp)
            rw [lenp] at this
            exact r_loc _ (fun q hq => by simp at hq; rcases hq with q | q <;> subst q <;> rfl) this
          have eself : setA y (-1) = y := by unfold setA; rw [← c2]
          refine r_if_ne 48 d_Lane_handOutTokens_41 (by decide) (fun c4 => ?_) (fun c4 => ?_)
          · have hs : ¬ y.2.2.1 = 0 := fun z => c4 (by rw [z]; decide)
            refine r_iconst 1 d_Lane_handOutTokens_48 (by decide) ?_
            refine r_ri nI1 ?_
            refine r_aaloadN d_Lane_handOutTokens_49 hq2 rfl (by omega) (by omega) hq1 ?_
            rcases qs2 with ⟨p0, p1⟩
            cases p1 with
            | nil =>
              refine r_cVi [] (b + 10) (d - 1) 0 0 (-1) (fun h' => h2 = h') d_Lane_handOutTokens_50 q_Lane_174 T1.1 rfl rfl (c_TL_removeOldest htr T1 (fun _ => ⟨rfl, rfl⟩) (fun x9 r9 h' e _ _ => by cases e)) (by show d - 1 + 1 ≤ d; omega) (Nat.le_refl _) (Nat.le_refl _) (Nat.le_of_ble_eq_true rfl) (fun h' e9 => ?_)
              subst e9
              exact fin (-1) (p0, []) h2 (by unfold sp_pay1; rw [if_pos ⟨c2, hre⟩, if_neg hs, eself]) (by rw [eself]; exact oky) fr_rf T0 T1 k0 k1
            | cons x p1 =>
              refine r_cVi [] (b + 10) (d - 1) 0 0 x.1 (fun h' => fr h2 h' [b + 10, b + 10 + 1, b + 10 + 2] ∧ TLs h' (b + 10) 6 p1) d_Lane_handOutTokens_50 q_Lane_174 T1.1 rfl rfl (c_TL_removeOldest htr T1 (fun e => by cases e) (fun x9 r9 h' e f' H' => by cases e; exact ⟨rfl, f', H'⟩)) (by show d - 1 + 1 ≤ d; omega) (Nat.le_refl _) (Nat.le_refl _) (Nat.le_of_ble_eq_true rfl) (fun h3 e3 => ?_)
              exact fin x.1 (p0, p1) h3 (by unfold sp_pay1; rw [if_pos ⟨c2, hre⟩, if_neg hs]) ⟨oky.1, oky.2.1, oky.2.2.1, oky.2.2.2.1, Or.inr (k1 x List.mem_cons_self)⟩ (fr_mo e3.1 (by simp)) (T0.fr e3.1 (by simp only [List.mem_cons, List.not_mem_nil, or_false, not_or]; omega) (by simp only [List.mem_cons, List.not_mem_nil, or_false, not_or]; omega) (by simp only [List.mem_cons, List.not_mem_nil, or_false, not_or]; omega)) e3.2 k0 (fun z hz => k1 z (List.mem_cons_of_mem _ hz))
          · have hs : y.2.2.1 = 0 := (nI_eq (by omega) (by omega)).mp (by rw [c4]; decide)
            refine r_iconst 0 d_Lane_handOutTokens_44 (by decide) ?_
            refine r_goto 49 d_Lane_handOutTokens_45 (by decide) ?_
            refine r_ri nI_0.symm ?_
            refine r_aaloadN d_Lane_handOutTokens_49 hq2 rfl (by omega) (by omega) hq0 ?_
            rcases qs2 with ⟨p0, p1⟩
            cases p0 with
            | nil =>
              refine r_cVi [] (b + 7) (d - 1) 0 0 (-1) (fun h' => h2 = h') d_Lane_handOutTokens_50 q_Lane_174 T0.1 rfl rfl (c_TL_removeOldest htr T0 (fun _ => ⟨rfl, rfl⟩) (fun x9 r9 h' e _ _ => by cases e)) (by show d - 1 + 1 ≤ d; omega) (Nat.le_refl _) (Nat.le_refl _) (Nat.le_of_ble_eq_true rfl) (fun h' e9 => ?_)
              subst e9
              exact fin (-1) ([], p1) h2 (by unfold sp_pay1; rw [if_pos ⟨c2, hre⟩, if_pos hs, eself]) (by rw [eself]; exact oky) fr_rf T0 T1 k0 k1
            | cons x p0 =>
              refine r_cVi [] (b + 7) (d - 1) 0 0 x.1 (fun h' => fr h2 h' [b + 7, b + 7 + 1, b + 7 + 2] ∧ TLs h' (b + 7) 6 p0) d_Lane_handOutTokens_50 q_Lane_174 T0.1 rfl rfl (c_TL_removeOldest htr T0 (fun e => by cases e) (fun x9 r9 h' e f' H' => by cases e; exact ⟨rfl, f', H'⟩)) (by show d - 1 + 1 ≤ d; omega) (Nat.le_refl _) (Nat.le_refl _) (Nat.le_of_ble_eq_true rfl) (fun h3 e3 => ?_)
              exact fin x.1 (p0, p1) h3 (by unfold sp_pay1; rw [if_pos ⟨c2, hre⟩, if_pos hs]) ⟨oky.1, oky.2.1, oky.2.2.1, oky.2.2.2.1, Or.inr (k0 x List.mem_cons_self)⟩ (fr_mo e3.1 (by simp)) e3.2 (T1.fr e3.1 (by simp only [List.mem_cons, List.not_mem_nil, or_false, not_or]; omega) (by simp only [List.mem_cons, List.not_mem_nil, or_false, not_or]; omega) (by simp only [List.mem_cons, List.not_mem_nil, or_false, not_or]; omega)) (fun z hz => k0 z (List.mem_cons_of_mem _ hz)) k1
  refine r_iconst 0 d_Lane_handOutTokens_0 (by decide) ?_
  refine r_ri nI_0.symm ?_
  refine r_istore_n d_Lane_handOutTokens_1 (Nat.le_of_ble_eq_true rfl) ?_
  exact key row [] qs h RW (by simp) hrow fr_rf HW H0 H1 ok0 ok1 (by simp)
