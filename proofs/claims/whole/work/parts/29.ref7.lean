/-! THE REFERENCE: tokens to those at the paddles, the paddles -/
theorem MB.ch {F F' : Nat → Nat → Int32} {ln : Nat} {row : List sp_B} {D : Nat → Nat → Prop} (H : MB F ln row) (C : ch D F F') (h8 : ¬ D 8 ln) (hd : ∀ j i, 9 ≤ j → j ≤ 13 → 5 * ln ≤ i → i < 5 * ln + 4 → ¬ D j i) : MB F' ln row := by
  obtain ⟨a1, a2, a3, a4⟩ := H
  refine ⟨(C 8 ln h8).trans a1, a2, a3, fun i b hb => (a4 i b hb).ch C (fun j h1 h2 => hd j _ h1 h2 (by omega) ?_)⟩
  have := (List.getElem?_eq_some_iff.mp hb).1
  omega
theorem MB_put {F : Nat → Nat → Int32} {ln : Nat} {pre rest : List sp_B} {y : sp_B} {a : Int32} (H : MB F ln (pre ++ y :: rest)) (ok : okB (setA y a)) : MB (up2 F 12 (5 * ln + pre.length) a) ln ((pre ++ [setA y a]) ++ rest) := by
  obtain ⟨a1, a2, a3, a4⟩ := H
  have hl : ((pre ++ [setA y a]) ++ rest).length = (pre ++ y :: rest).length := by simp
  have C : ch (fun j i => j = 12 ∧ i = 5 * ln + pre.length) F (up2 F 12 (5 * ln + pre.length) a) := ch_up ⟨rfl, rfl⟩
  refine ⟨by rw [hl, up2_ne (by omega)]; exact a1, by rw [hl]; exact a2, fun b hb => ?_, fun i b hb => ?_⟩
  · rcases List.mem_append.mp hb with q | q
    · rcases List.mem_append.mp q with q | q
      · exact a3 b (List.mem_append_left _ q)
      · simp at q; subst q; exact ok
    · exact a3 b (List.mem_append_right _ (List.mem_cons_of_mem _ q))
  · rw [List.append_assoc] at hb
    by_cases c1 : i < pre.length
    · rw [List.getElem?_append_left c1] at hb
      exact (a4 i b (by rw [List.getElem?_append_left c1]; exact hb)).ch C (fun j h1 h2 z => by omega)
    · rw [List.getElem?_append_right (by omega)] at hb
      by_cases c2 : i = pre.length
      · subst c2
        rw [Nat.sub_self] at hb
        cases hb
        obtain ⟨b1, b2, b3, b4, b5⟩ := a4 pre.length y (by rw [List.getElem?_append_right (Nat.le_refl _), Nat.sub_self]; rfl)
        exact ⟨(up2_ne (by omega)).trans b1, (up2_ne (by omega)).trans b2, (up2_ne (by omega)).trans b3, up2_eq, (up2_ne (by omega)).trans b5⟩
      · refine (a4 i b ?_).ch C (fun j h1 h2 z => by omega)
        rw [List.getElem?_append_right (by omega)]
        obtain ⟨u, hu⟩ : ∃ u, i - pre.length = u + 1 := ⟨i - pre.length - 1, by omega⟩
        rw [hu] at hb ⊢
        exact hb
def Dpy (ln j i : Nat) : Prop := (j = 12 ∧ 5 * ln ≤ i ∧ i < 5 * ln + 5) ∨ Dq (2 * ln) j i ∨ Dq (2 * ln + 1) j i
theorem c_Mo_pay {l : Launch} (htr : l.stackTraces = false) {d : Nat} {h : ac_H} {Φ : ac_R → ac_H → Prop} {ln : Nat} {row : List sp_B} {qs : sp_Q × sp_Q} {F : Nat → Nat → Int32} {V : Nat → Int32} (hd : 1 ≤ d) (hl : ln < 2) (M : MD h F V) (HM : MB F ln row) (H0 : Mqu F (2 * ln) qs.1) (H1 : Mqu F (2 * ln + 1) qs.2) (ok0 : okQ qs.1) (ok1 : okQ qs.2)
    (hΦ : ∀ h' F', frP h h' mod9 → MD h' F' V → ch (Dpy ln) F F' → MB F' ln (sp_pay row qs).1 → Mqu F' (2 * ln) (sp_pay row qs).2.1 → Mqu F' (2 * ln + 1) (sp_pay row qs).2.2 → okQ (sp_pay row qs).2.1 → okQ (sp_pay row qs).2.2 → Φ (.inl none) h') : ac_Mt l d m_Mo_pay [.ref 57, .int (nI ln)] h 0 0 Φ := by
  have r4 := HM.2.1
  refine ac_enter (by decide) rfl htr (fun _ => Nat.le_of_ble_eq_true rfl) ?_
  have key : ∀ (rest pre : List sp_B) (qs2 : sp_Q × sp_Q) (h2 : ac_H) (F2 : Nat → Nat → Int32), pre.length + rest.length = row.length → frP h h2 mod9 → MD h2 F2 V → ch (Dpy ln) F F2 → MB F2 ln (pre ++ rest) → Mqu F2 (2 * ln) qs2.1 → Mqu F2 (2 * ln + 1) qs2.2 → okQ qs2.1 → okQ qs2.2 → (pre ++ (sp_pay rest qs2).1, (sp_pay rest qs2).2) = sp_pay row qs → ac_G (l, d, m_Mo_pay, 0, 0, Φ, h.length, none) 2 [(2, .int (nI pre.length)), (0, .ref 57), (1, .int (nI ln))] [] h2 0 0 := by
    intro rest
    induction rest with
    | nil =>
      intro pre qs2 h2 F2 hlen Fr2 M2 C2 HM2 T0 T1 k0 k1 he
      rw [List.append_nil] at HM2
      rw [List.length_nil] at hlen
      refine r_iload_n d_Mo_pay_2 rfl ?_
      refine r_aload_n d_Mo_pay_3 rfl ?_
      refine r_getfield d_Mo_pay_4 f_Mo_34 M2.1 rfl ?_
      refine r_iload_n d_Mo_pay_7 rfl ?_
      refine r_ialoadN d_Mo_pay_8 (md_bodies M2) (show ln < 2 by omega) (by omega) ?_
      refine r_ri HM2.1 ?_
      refine r_icmp_ge 116 d_Mo_pay_9 (by decide) (fun c1 => ?_) (fun c1 => absurd (nI_le (Nat.le_refl _) (by omega)) c1)
      rw [← he] at hΦ
      have e1 : pre ++ (sp_pay [] qs2).1 = pre := List.append_nil _
      refine r_vret d_Mo_pay_116 rfl (hΦ h2 F2 Fr2 M2 C2 ?_ T0 T1 k0 k1) (Nat.le_refl _) (Nat.le_refl _)
      show MB F2 ln (pre ++ (sp_pay [] qs2).1)
      rw [e1]; exact HM2
    | cons y rest ih =>
      intro pre qs2 h2 F2 hlen Fr2 M2 C2 HM2 T0 T1 k0 k1 he
      rw [List.length_cons] at hlen
      have hl2 : (pre ++ y :: rest).length = pre.length + (rest.length + 1) := by rw [List.length_append, List.length_cons]
      have hy : (pre ++ y :: rest)[pre.length]? = some y := by rw [List.getElem?_append_right (Nat.le_refl _), Nat.sub_self]; rfl
      have oky := HM2.2.2.1 y (List.mem_of_getElem? hy)
      obtain ⟨o1, o2, o3, o4, o5⟩ := id oky
      obtain ⟨b1, b2, b3, b4, b5⟩ := HM2.2.2.2 _ y hy
      have e8 : F2 8 ln = nI row.length := by rw [HM2.1, hl2, hlen]
      have lenp : ∀ y' : sp_B, (pre ++ [y']).length = pre.length + 1 := fun y' => by rw [List.length_append]; rfl
      have same : ∀ (v4 v5 : Int32), sp_pay1 y qs2 = (y, qs2) → ac_G (l, d, m_Mo_pay, 0, 0, Φ, h.length, none) 110 [(5, .int v5), (4, .int v4), (3, .int (nI (5 * ln + pre.length))), (2, .int (nI pre.length)), (0, .ref 57), (1, .int (nI ln))] [] h2 0 0 := by
        intro v4 v5 e1
        refine r_iincP d_Mo_pay_110 rfl (Nat.le_of_ble_eq_true rfl) ?_
        refine r_goto 2 d_Mo_pay_113 (by decide) ?_
        rw [nI_1]
        have := ih (pre ++ [y]) qs2 h2 F2 (by rw [lenp]; omega) Fr2 M2 C2 (by rw [List.append_assoc]; exact HM2) T0 T1 k0 k1 (by rw [← he, sp_pay, e1]; simp)
        rw [lenp] at this
        exact r_loc _ (fun q hq => by simp at hq; rcases hq with q | q | q <;> subst q <;> rfl) this
      have main : ∀ rv : Int32, (rv = 0 ↔ ¬ rched y) → ac_G (l, d, m_Mo_pay, 0, 0, Φ, h.length, none) 60 [(3, .int (nI (5 * ln + pre.length))), (2, .int (nI pre.length)), (0, .ref 57), (1, .int (nI ln))] [.int rv] h2 0 0 := by
        intro rv hrv
        refine r_istore d_Mo_pay_60 (Nat.le_of_ble_eq_true rfl) ?_
        refine r_iconst 2 d_Mo_pay_62 (by decide) ?_
        refine r_iload_n d_Mo_pay_63 rfl ?_
        refine r_ri2 (show (2 : Int32) = nI 2 by decide) ?_
        refine r_imul d_Mo_pay_64 ?_
        refine r_ri (pk_mul _ _) ?_
        refine r_aload_n d_Mo_pay_65 rfl ?_
        refine r_getfield d_Mo_pay_66 f_Mo_43 M2.1 rfl ?_
        refine r_iload_n d_Mo_pay_69 rfl ?_
        refine r_ialoadN d_Mo_pay_70 (md_side M2) (show 5*ln+pre.length < 10 by omega) (by omega) ?_
        refine r_ri b3 ?_
        refine r_iadd d_Mo_pay_71 ?_
        refine r_ri (nI_add _ _) ?_
        refine r_istore d_Mo_pay_72 (Nat.le_of_ble_eq_true rfl) ?_
        refine r_aload_n d_Mo_pay_74 rfl ?_
        refine r_getfield d_Mo_pay_75 f_Mo_46 M2.1 rfl ?_
        refine r_iload_n d_Mo_pay_78 rfl ?_
        refine r_ialoadN d_Mo_pay_79 (md_owns M2) (show 5*ln+pre.length < 10 by omega) (by omega) ?_
        refine r_ri b4 ?_
        refine r_loc [(5, .int (nI (2 * ln + y.2.2.1))), (4, .int rv), (3, .int (nI (5 * ln + pre.length))), (2, .int (nI pre.length)), (0, .ref 57), (1, .int (nI ln))] (fun q hq => by simp at hq; rcases hq with q | q | q | q | q | q <;> subst q <;> rfl) ?_
        refine r_if_ge 110 d_Mo_pay_80 (by decide) (fun c1 => same _ _ (if_neg (fun z => ?_))) (fun c1 => ?_)
        · rw [z.1] at c1; exact absurd c1 (by decide)
        · have ha : y.2.2.2.1 = -1 := (own_lt oky).mp (by rw [Int32.lt_iff_toInt_lt]; rw [Int32.le_iff_toInt_le] at c1; omega)
          refine r_iload d_Mo_pay_83 rfl ?_
          refine r_if_eq 110 d_Mo_pay_85 (by decide) (fun c2 => same _ _ (if_neg (fun z => hrv.mp c2 z.2))) (fun c2 => ?_)
          have hre : rched y := Classical.byContradiction fun z => c2 (hrv.mpr z)
          have TS : ∃ q : sp_Q, Mqu F2 (2 * ln + y.2.2.1) q ∧ okQ q ∧ (q = [] → sp_pay1 y qs2 = (y, qs2)) ∧ (∀ x t, q = x :: t → ∃ qs3, sp_pay1 y qs2 = (setA y x.1, qs3) ∧ okQ qs3.1 ∧ okQ qs3.2 ∧ ∀ F3, ch (Dq (2 * ln + y.2.2.1)) F2 F3 → Mqu F3 (2 * ln + y.2.2.1) t → Mqu F3 (2 * ln) qs3.1 ∧ Mqu F3 (2 * ln + 1) qs3.2) := by
            obtain ⟨p0, p1⟩ := qs2
            by_cases hs : y.2.2.1 = 0
            · refine ⟨p0, by rw [hs]; exact T0, k0, fun e => ?_, fun x t e => ⟨(t, p1), ?_, fun v hv => k0 v (by show v ∈ p0; rw [e]; exact List.mem_cons_of_mem _ hv), k1, fun F3 C3 T3 => ⟨by rw [hs] at T3; exact T3, T1.ch C3 (fun j i z1 z2 => by rw [hs] at z2; unfold Dq at z1 z2; omega)⟩⟩⟩
              · subst e; unfold sp_pay1; rw [if_pos ⟨ha, hre⟩, if_pos hs]
              · subst e; unfold sp_pay1; rw [if_pos ⟨ha, hre⟩, if_pos hs]
            · have h1 : y.2.2.1 = 1 := by omega
              refine ⟨p1, by rw [h1]; exact T1, k1, fun e => ?_, fun x t e => ⟨(p0, t), ?_, k0, fun v hv => k1 v (by show v ∈ p1; rw [e]; exact List.mem_cons_of_mem _ hv), fun F3 C3 T3 => ⟨T0.ch C3 (fun j i z1 z2 => by rw [h1] at z2; unfold Dq at z1 z2; omega), by rw [h1] at T3; exact T3⟩⟩⟩
              · subst e; unfold sp_pay1; rw [if_pos ⟨ha, hre⟩, if_neg hs]
              · subst e; unfold sp_pay1; rw [if_pos ⟨ha, hre⟩, if_neg hs]
          obtain ⟨q, TQ, kq, qn, qc⟩ := TS
          have hq6 := TQ.2.1
          refine r_aload_n d_Mo_pay_88 rfl ?_
          refine r_getfield d_Mo_pay_89 f_Mo_67 M2.1 rfl ?_
          refine r_iload d_Mo_pay_92 rfl ?_
          refine r_ialoadN d_Mo_pay_94 (md_waiting M2) (show 2*ln+y.2.2.1 < 4 by omega) (by omega) ?_
          refine r_ri TQ.1 ?_
          cases q with
          | nil =>
            refine r_if_le 110 d_Mo_pay_95 (by decide) (fun c3 => same _ _ (qn rfl)) (fun c3 => absurd (by decide) c3)
          | cons x t =>
            obtain ⟨qs3, e1, k30, k31, hT⟩ := qc x t rfl
            rw [List.length_cons] at hq6
            refine r_if_le 110 d_Mo_pay_95 (by decide) (fun c3 => absurd c3 (nI_nle (by rw [List.length_cons]; omega) (by rw [List.length_cons]; omega))) (fun c3 => ?_)
            refine r_aload_n d_Mo_pay_98 rfl ?_
            refine r_getfield d_Mo_pay_99 f_Mo_46 M2.1 rfl ?_
            refine r_iload_n d_Mo_pay_102 rfl ?_
            refine r_aload_n d_Mo_pay_103 rfl ?_
            refine r_iload d_Mo_pay_104 rfl ?_
            refine r_cVi [.int (nI (2 * ln + y.2.2.1))] 57 (d - 1) 0 0 x.1 (fun h' => ∃ F', frP h2 h' mod9 ∧ MD h' F' V ∧ ch (Dq (2 * ln + y.2.2.1)) F2 F' ∧ Mqu F' (2 * ln + y.2.2.1) t) d_Mo_pay_106 q_Mo_113 M2.1 rfl rfl (c_Mo_takeOldest htr (by omega) M2 TQ (fun h' F' f' G1 G2 G3 => ⟨rfl, F', f', G1, G2, G3⟩)) (by show d - 1 + 1 ≤ d; omega) (Nat.le_refl _) (Nat.le_refl _) (Nat.le_of_ble_eq_true rfl) (fun h3 e3 => ?_)
            obtain ⟨F3, Fr3, M3, C3, T3⟩ := e3
            obtain ⟨T30, T31⟩ := hT F3 C3 T3
            have HM3 : MB F3 ln (pre ++ y :: rest) := HM2.ch C3 (by unfold Dq; omega) (fun j i h1 h2 h3 h4 => by unfold Dq; omega)
            have okx : okB (setA y x.1) := ⟨o1, o2, o3, o4, Or.inr (kq x List.mem_cons_self)⟩
            refine r_mst 12 d_Mo_pay_109 (by omega) (show 5 * ln + pre.length < 10 by omega) M3 (fun h4 Fr4 M4 => ?_)
            have C4 : ch (fun j i => j = 12 ∧ i = 5 * ln + pre.length) F3 (up2 F3 12 (5 * ln + pre.length) x.1) := ch_up ⟨rfl, rfl⟩
            refine r_iincP d_Mo_pay_110 rfl (Nat.le_of_ble_eq_true rfl) ?_
            refine r_goto 2 d_Mo_pay_113 (by decide) ?_
            rw [nI_1]
            have := ih (pre ++ [setA y x.1]) qs3 h4 _ (by rw [lenp]; omega) (frP_tr (frP_tr Fr2 Fr3) Fr4) M4 (ch_tr (ch_tr C2 (ch_mo C3 (fun j i z => Or.inr (by
              rcases (show y.2.2.1 = 0 ∨ y.2.2.1 = 1 by omega) with q | q
              · rw [q] at z; exact Or.inl z
              · rw [q] at z; exact Or.inr z)))) (ch_mo C4 (fun j i z => Or.inl (by omega)))) (MB_put HM3 okx) (T30.ch C4 (fun j i z1 z2 => by unfold Dq at z1; omega)) (T31.ch C4 (fun j i z1 z2 => by unfold Dq at z1; omega)) k30 k31 (by rw [← he, sp_pay, e1]; simp)
            rw [lenp] at this
            exact r_loc _ (fun q hq => by simp at hq; rcases hq with q | q | q <;> subst q <;> rfl) this
      have s0 : y.2.2.1 = 0 → nI y.2.2.1 = 0 := fun z => by rw [z]; exact nI_0
      have s1 : nI y.2.2.1 = 0 → y.2.2.1 = 0 := fun z => (nI_eq (by omega) (by omega)).mp (z.trans nI_0.symm)
      refine r_iload_n d_Mo_pay_2 rfl ?_
      refine r_aload_n d_Mo_pay_3 rfl ?_
      refine r_getfield d_Mo_pay_4 f_Mo_34 M2.1 rfl ?_
      refine r_iload_n d_Mo_pay_7 rfl ?_
      refine r_ialoadN d_Mo_pay_8 (md_bodies M2) (show ln < 2 by omega) (by omega) ?_
      refine r_ri e8 ?_
      refine r_icmp_ge 116 d_Mo_pay_9 (by decide) (fun c1 => absurd ((nI_leI (by omega) (by omega)).mp c1) (by omega)) (fun c1 => ?_)
      refine r_iconst 5 d_Mo_pay_12 (by decide) ?_
      refine r_iload_n d_Mo_pay_13 rfl ?_
      refine r_ri2 (show (5 : Int32) = nI 5 by decide) ?_
      refine r_imul d_Mo_pay_14 ?_
      refine r_ri (pk_mul _ _) ?_
      refine r_iload_n d_Mo_pay_15 rfl ?_
      refine r_iadd d_Mo_pay_16 ?_
      refine r_ri (nI_add _ _) ?_
      refine r_istore_n d_Mo_pay_17 (Nat.le_of_ble_eq_true rfl) ?_
      refine r_aload_n d_Mo_pay_18 rfl ?_
      refine r_getfield d_Mo_pay_19 f_Mo_43 M2.1 rfl ?_
      refine r_iload_n d_Mo_pay_22 rfl ?_
      refine r_ialoadN d_Mo_pay_23 (md_side M2) (show 5 * ln + pre.length < 10 by omega) (by omega) ?_
      refine r_ri b3 ?_
      refine r_loc [(3, .int (nI (5 * ln + pre.length))), (2, .int (nI pre.length)), (0, .ref 57), (1, .int (nI ln))] (fun q hq => by simp at hq; rcases hq with q | q | q | q <;> subst q <;> rfl) ?_
      refine r_if_ne 45 d_Mo_pay_24 (by decide) (fun c2 => ?_) (fun c2 => ?_)
      · have hs : ¬ y.2.2.1 = 0 := fun z => c2 (s0 z)
        refine r_aload_n d_Mo_pay_45 rfl ?_
        refine r_getfield d_Mo_pay_46 f_Mo_37 M2.1 rfl ?_
        refine r_iload_n d_Mo_pay_49 rfl ?_
        refine r_ialoadN d_Mo_pay_50 (md_first M2) (show 5*ln+pre.length < 10 by omega) (by omega) ?_
        refine r_ri b1 ?_
        refine r_iconst 5 d_Mo_pay_51 (by decide) ?_
        refine r_ri (show (5 : Int32) = nI 5 by decide) ?_
        refine r_icmp_gt 59 d_Mo_pay_52 (by decide) (fun c3 => ?_) (fun c3 => ?_)
        · have := (nI_ltI (by omega) (by omega)).mp c3
          refine r_iconst 0 d_Mo_pay_59 (by decide) ?_
          exact main 0 ⟨fun _ z => by unfold rched at z; rw [if_neg hs] at z; omega, fun _ => rfl⟩
        · have : ¬ 5 < y.1 := fun z => c3 ((nI_ltI (by omega) (by omega)).mpr z)
          refine r_iconst 1 d_Mo_pay_55 (by decide) ?_
          refine r_goto 60 d_Mo_pay_56 (by decide) ?_
          exact main 1 ⟨fun z => absurd z (by decide), fun z => absurd (by unfold rched; rw [if_neg hs]; omega) z⟩
      · have hs := s1 c2
        refine r_aload_n d_Mo_pay_27 rfl ?_
        refine r_getfield d_Mo_pay_28 f_Mo_40 M2.1 rfl ?_
        refine r_iload_n d_Mo_pay_31 rfl ?_
        refine r_ialoadN d_Mo_pay_32 (md_last M2) (show 5*ln+pre.length < 10 by omega) (by omega) ?_
        refine r_ri b2 ?_
        refine r_iconst 4 d_Mo_pay_33 (by decide) ?_
        refine r_ri (show (4 : Int32) = nI 4 by decide) ?_
        refine r_icmp_lt 41 d_Mo_pay_34 (by decide) (fun c3 => ?_) (fun c3 => ?_)
        · have := (nI_ltI (by omega) (by omega)).mp c3
          refine r_iconst 0 d_Mo_pay_41 (by decide) ?_
          refine r_goto 60 d_Mo_pay_42 (by decide) ?_
          exact main 0 ⟨fun _ z => by unfold rched at z; rw [if_pos hs] at z; omega, fun _ => rfl⟩
        · have : ¬ y.2.1 < 4 := fun z => c3 ((nI_ltI (by omega) (by omega)).mpr z)
          refine r_iconst 1 d_Mo_pay_37 (by decide) ?_
          refine r_goto 60 d_Mo_pay_38 (by decide) ?_
          exact main 1 ⟨fun z => absurd z (by decide), fun z => absurd (by unfold rched; rw [if_pos hs]; omega) z⟩
  refine r_iconst 0 d_Mo_pay_0 (by decide) ?_
  refine r_ri (show (0 : Int32) = nI 0 by decide) ?_
  refine r_istore_n d_Mo_pay_1 (Nat.le_of_ble_eq_true rfl) ?_
  exact r_loc _ (fun q hq => by simp at hq; rcases hq with q | q | q <;> subst q <;> rfl) (key row [] qs h F (by simp) frP_rf M ch_rf HM H0 H1 ok0 ok1 rfl)
theorem bits_a (b : BitVec 32) : b &&& 120#32 = 0#32 ↔ (b.getLsbD 3 = false ∧ b.getLsbD 4 = false ∧ b.getLsbD 5 = false ∧ b.getLsbD 6 = false) := by
  constructor
  · intro h
    have k : ∀ i, (120#32).getLsbD i = true → b.getLsbD i = false := fun i hi => by
      have := congrArg (fun x => x.getLsbD i) h
      simp only [BitVec.getLsbD_and, hi, Bool.and_true] at this
      simpa using this
    exact ⟨k 3 (by decide), k 4 (by decide), k 5 (by decide), k 6 (by decide)⟩
  · intro ⟨h3, h4, h5, h6⟩
    apply BitVec.eq_of_getLsbD_eq
    intro i hi
    rw [BitVec.getLsbD_and]
    have k : ∀ i : Nat, i < 32 → i = 3 ∨ i = 4 ∨ i = 5 ∨ i = 6 ∨ (120#32).getLsbD i = false := by decide
    rcases k i hi with q | q | q | q | q
    · subst q; rw [h3]; simp
    · subst q; rw [h4]; simp
    · subst q; rw [h5]; simp
    · subst q; rw [h6]; simp
    · rw [q]; simp
theorem bits_b (b : BitVec 32) : b.sshiftRight 3 &&& 15#32 = 0#32 ↔ (b.getLsbD 3 = false ∧ b.getLsbD 4 = false ∧ b.getLsbD 5 = false ∧ b.getLsbD 6 = false) := by
  have e : ∀ i, i < 4 → (b.sshiftRight 3).getLsbD i = b.getLsbD (3 + i) := fun i hi => by
    rw [BitVec.getLsbD_sshiftRight]
    simp [show ¬ 32 ≤ i by omega, show 3 + i < 32 by omega]
  constructor
  · intro h
    have k : ∀ i, i < 4 → (15#32).getLsbD i = true → b.getLsbD (3 + i) = false := fun i h4 hi => by
      have := congrArg (fun x => x.getLsbD i) h
      simp only [BitVec.getLsbD_and, hi, Bool.and_true, e i h4] at this
      simpa using this
    exact ⟨k 0 (by omega) (by decide), k 1 (by omega) (by decide), k 2 (by omega) (by decide), k 3 (by omega) (by decide)⟩
  · intro ⟨h3, h4, h5, h6⟩
    apply BitVec.eq_of_getLsbD_eq
    intro i hi
    rw [BitVec.getLsbD_and]
    have k : ∀ i : Nat, i < 32 → i = 0 ∨ i = 1 ∨ i = 2 ∨ i = 3 ∨ (15#32).getLsbD i = false := by decide
    rcases k i hi with q | q | q | q | q
    · subst q; rw [e 0 (by omega), h3]; simp
    · subst q; rw [e 1 (by omega), h4]; simp
    · subst q; rw [e 2 (by omega), h5]; simp
    · subst q; rw [e 3 (by omega), h6]; simp
    · rw [q]; simp
theorem clear_iff (w : Int32) : w >>> (3 &&& 31) &&& 15 = 0 ↔ w &&& 120 = 0 := by
  have e : (w >>> (3 &&& 31)).toBitVec = w.toBitVec.sshiftRight 3 := by
    rw [Int32.toBitVec_shiftRight]
    have : ((3 &&& 31 : Int32).toBitVec.smod 32) = 3#32 := by decide
    rw [this]; rfl
  rw [← Int32.toBitVec_inj, ← Int32.toBitVec_inj, Int32.toBitVec_and, Int32.toBitVec_and, e]
  exact (bits_b w.toBitVec).trans (bits_a w.toBitVec).symm
