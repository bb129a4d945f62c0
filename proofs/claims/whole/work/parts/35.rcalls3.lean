/-! THE REFERENCE'S CALLS: mode, body, ticks; its constructor -/
theorem c_Mo_mode {l : Launch} (htr : l.stackTraces = false) {d : Nat} {h : ac_H} {Φ : ac_R → ac_H → Prop} {lane x : Int32} {s : sp_S} {f : Nat} (hd : 1 ≤ d) (H : MDs h s f) (hcap : ∀ j, j < 2 → s.2.2.1.length + (lnOf s j).2.2.1.1.length + (lnOf s j).2.2.1.2.length ≤ 512) (hx : ∀ h', out9 lane 2 → frP h h' mod9 → MDs h' s 1 → Φ (.inl (some (.int 0))) h') (hy : ∀ j h', j < 2 → lane = nI j → out9 x 4 → frP h h' mod9 → MDs h' s 2 → Φ (.inl (some (.int 0))) h') (hz : ∀ j m h', j < 2 → lane = nI j → m < 4 → x = nI m → ¬ (lnOf s j).2.2.2.2.2 = [] → frP h h' mod9 → MDs h' s 3 → Φ (.inl (some (.int 0))) h')
    (ha : ∀ j m h', j < 2 → lane = nI j → m < 4 → x = nI m → (lnOf s j).2.2.2.2.2 = [] → frP h h' mod9 → MDs h' (sp_modS s j m) 0 → Φ (.inl (some (.int (nI (sp_modN m (lnOf s j)))))) h') : ac_Mt l d m_Mo_mode [.ref 57, .int lane, .int x] h 0 0 Φ := by
  obtain ⟨F, V, M, H1, H2⟩ := H
  refine ac_enter (by decide) rfl htr (fun _ => Nat.le_of_ble_eq_true rfl) ?_
  have refu : ∀ (w : Nat), w < 10 → (w = 0 → ∀ h2, frP h h2 mod9 → MD h2 F (upd V 0 (nI w)) → ac_G (l, d, m_Mo_mode, 0, 0, Φ, h.length, none) 47 [(0, .ref 57), (1, .int lane), (2, .int x)] [] h2 0 0) → (¬ w = 0 → ∀ h2, frP h h2 mod9 → MDs h2 s w → Φ (.inl (some (.int 0))) h2) → ac_G (l, d, m_Mo_mode, 0, 0, Φ, h.length, none) 39 [(0, .ref 57), (1, .int lane), (2, .int x)] [.int (nI w), .ref 57] h 0 0 := by
    intro w hw k0 k1
    refine r_refu htr rfl d_Mo_mode_39 hd hw M (Nat.le_of_ble_eq_true rfl) (Nat.le_of_ble_eq_true rfl) (Nat.le_of_ble_eq_true rfl) (fun h2 Fr2 M2 => ?_)
    by_cases c : w = 0
    · rw [if_pos c]
      refine r_if_eq 47 d_Mo_mode_42 (by decide) (fun _ => k0 c h2 Fr2 M2) (fun z => absurd rfl z)
    · rw [if_neg c]
      refine r_if_eq 47 d_Mo_mode_42 (by decide) (fun z => absurd z (by decide)) (fun _ => ?_)
      refine r_iconst 0 d_Mo_mode_45 (by decide) ?_
      exact r_iret d_Mo_mode_46 rfl (k1 c h2 Fr2 ⟨F, _, M2, H1.f, rfl⟩) (Nat.le_of_ble_eq_true rfl) (Nat.le_of_ble_eq_true rfl)
  refine r_aload_n d_Mo_mode_0 rfl ?_
  refine r_iload_n d_Mo_mode_1 rfl ?_
  refine r_two htr rfl d_Mo_mode_2 hd (Nat.le_of_ble_eq_true rfl) (Nat.le_of_ble_eq_true rfl) (Nat.le_of_ble_eq_true rfl) (fun j hj e => ?_) (fun ho => ?_)
  · refine r_if_ne 12 d_Mo_mode_5 (by decide) (fun _ => ?_) (fun c => absurd c (by decide))
    have bad : out9 x 4 → ac_G (l, d, m_Mo_mode, 0, 0, Φ, h.length, none) 21 [(0, .ref 57), (1, .int lane), (2, .int x)] [.ref 57] h 0 0 := by
      intro z
      refine r_iconst 2 d_Mo_mode_21 (by decide) ?_
      refine r_ri nI2 ?_
      refine r_goto 39 d_Mo_mode_22 (by decide) ?_
      exact refu 2 (by omega) (fun z => by omega) (fun _ h2 f2 g2 => hy j h2 hj e z f2 g2)
    refine r_iload_n d_Mo_mode_12 rfl ?_
    refine r_if_lt 21 d_Mo_mode_13 (by decide) (fun c => bad (out_neg (by omega) c)) (fun c => ?_)
    obtain ⟨m, hm, rfl⟩ := nI_of c
    refine r_iload_n d_Mo_mode_16 rfl ?_
    refine r_iconst 3 d_Mo_mode_17 (by decide) ?_
    refine r_ri nI3 ?_
    refine r_icmp_le 25 d_Mo_mode_18 (by decide) (fun c2 => ?_) (fun c2 => bad (out_big (by omega) (nI_le (by
      rcases Nat.lt_or_ge m 4 with z | z
      · exact absurd ((nI_leI (by omega) (by omega)).mpr (by omega)) c2
      · exact z) hm)))
    have hm4 : m ≤ 3 := (nI_leI (by omega) (by omega)).mp c2
    have HL := H1.ln hj
    have r4 := HL.2.2.2.2.2.2.1.2.1
    have r8 := HL.2.2.2.2.2.2.1.1
    subst e
    refine r_aload_n d_Mo_mode_25 rfl ?_
    refine r_getfield d_Mo_mode_26 f_Mo_34 M.1 rfl ?_
    refine r_iload_n d_Mo_mode_29 rfl ?_
    refine r_ialoadN d_Mo_mode_30 (md_bodies M) (show j < 2 by omega) (by omega) ?_
    refine r_ri r8 ?_
    refine r_if_le 38 d_Mo_mode_31 (by decide) (fun c3 => ?_) (fun c3 => ?_)
    · have hno : (lnOf s j).2.2.2.2.2 = [] := by
        cases hq : (lnOf s j).2.2.2.2.2 with
        | nil => rfl
        | cons y t => rw [hq] at c3 r4; exact absurd c3 (nI_nle (by rw [List.length_cons]; omega) (by omega))
      refine r_iconst 0 d_Mo_mode_38 (by decide) ?_
      refine r_ri nI_0.symm ?_
      refine refu 0 (by omega) (fun _ h2 Fr2 M2 => ?_) (fun z => absurd rfl z)
      refine r_aload_n d_Mo_mode_47 rfl ?_
      refine r_getfield d_Mo_mode_48 f_Mo_22 M2.1 rfl ?_
      refine r_iload_n d_Mo_mode_51 rfl ?_
      refine r_iload_n d_Mo_mode_52 rfl ?_
      refine r_mst 4 d_Mo_mode_53 (by omega) (show j < 2 by omega) M2 (fun h53_ fr53 M53 => ?_)
      obtain ⟨a1, ⟨a2, a3⟩, ⟨a4, a5⟩, ⟨a6, a6'⟩, a7, ⟨a8, a9⟩, a10, a11⟩ := id HL
      have hc := hcap j hj
      have CM : ch (fun a b => a = 4 ∧ b = j) F (up2 F 4 j (nI m)) := ch_up ⟨rfl, rfl⟩
      -- one side
      have side : ∀ (i q : Nat), q = 2 * j + i → i < 2 → ∀ (Q : sp_Q) (n : Nat) (R3 : List Int32) (h3 : ac_H) (F3 : Nat → Nat → Int32) (V3 : Nat → Int32), F3 4 j = nI m → Mqu F3 q Q → MR F3 V3 R3 → R3.length + Q.length ≤ 512 → MD h3 F3 V3 → (∀ h4 F4 V4, frP h3 h4 mod9 → MD h4 F4 V4 → ch (fun a b => Dq q a b ∨ a = 24) F3 F4 → vk V3 V4 → Mqu F4 q (sp_mq m i Q) → MR F4 V4 (R3 ++ sp_mr m i Q) → ac_G (l, d, m_Mo_mode, 0, 0, Φ, h.length, none) 109 [(5, .int (nI q)), (4, .int (nI i)), (3, .int (nI (n + (sp_mr m i Q).length))), (0, .ref 57), (1, .int (nI j)), (2, .int (nI m))] [] h4 0 0) → ac_G (l, d, m_Mo_mode, 0, 0, Φ, h.length, none) 73 [(5, .int (nI q)), (4, .int (nI i)), (3, .int (nI n)), (0, .ref 57), (1, .int (nI j)), (2, .int (nI m))] [] h3 0 0 := by
        intro i q hq hi Q
        induction Q with
        | nil =>
          intro n R3 h3 F3 V3 e4 TQ HR3 hcc M3 kk
          refine r_aload_n d_Mo_mode_73 rfl ?_
          refine r_getfield d_Mo_mode_74 f_Mo_67 M3.1 rfl ?_
          refine r_iload d_Mo_mode_77 rfl ?_
          refine r_ialoadN d_Mo_mode_79 (md_waiting M3) (show q < 4 by omega) (by omega) ?_
          refine r_ri TQ.1 ?_
          have q1 : sp_mq m i [] = [] := by unfold sp_mq; split <;> rfl
          have q2 : sp_mr m i [] = [] := by unfold sp_mr; split <;> rfl
          rw [q1, q2, List.append_nil] at kk
          refine r_if_le 109 d_Mo_mode_80 (by decide) (fun _ => kk h3 F3 V3 frP_rf M3 ch_rf vk_rf TQ HR3) (fun c => absurd (by decide) c)
        | cons x Q ih =>
          intro n R3 h3 F3 V3 e4 TQ HR3 hcc M3 kk
          have h6 := TQ.2.1
          rw [List.length_cons] at h6 hcc
          refine r_aload_n d_Mo_mode_73 rfl ?_
          refine r_getfield d_Mo_mode_74 f_Mo_67 M3.1 rfl ?_
          refine r_iload d_Mo_mode_77 rfl ?_
          refine r_ialoadN d_Mo_mode_79 (md_waiting M3) (show q < 4 by omega) (by omega) ?_
          refine r_ri TQ.1 ?_
          refine r_if_le 109 d_Mo_mode_80 (by decide) (fun c => absurd c (nI_nle (by rw [List.length_cons]; omega) (by rw [List.length_cons]; omega))) (fun _ => ?_)
          refine r_aload_n d_Mo_mode_83 rfl ?_
          refine r_iload_n d_Mo_mode_84 rfl ?_
          refine r_iload d_Mo_mode_85 rfl ?_
          refine r_cVi [.int (nI j), .int (nI i)] 57 (d - 1) 0 0 (b01 (tk m i)) (fun h' => h3 = h') d_Mo_mode_87 q_Mo_152 M3.1 rfl rfl (c_Mo_hasSide htr hj hi hm4 M3 e4 ⟨rfl, rfl⟩) (by show d - 1 + 1 ≤ d; omega) (Nat.le_of_ble_eq_true rfl) (Nat.le_of_ble_eq_true rfl) (Nat.le_of_ble_eq_true rfl) (fun h' e9 => ?_)
          subst e9
          refine r_if_ne 109 d_Mo_mode_90 (by decide) (fun c4 => ?_) (fun c4 => ?_)
          · have htk : m = 0 ∨ m = i + 1 := Classical.byContradiction fun z => c4 (b01_f z)
            have q1 : sp_mq m i (x :: Q) = x :: Q := if_pos htk
            have q2 : sp_mr m i (x :: Q) = [] := if_pos htk
            rw [q1, q2, List.append_nil] at kk
            exact kk h3 F3 V3 frP_rf M3 ch_rf vk_rf TQ HR3
          · have htk : ¬ (m = 0 ∨ m = i + 1) := b01_0.mp c4
            refine r_aload_n d_Mo_mode_93 rfl ?_
            refine r_aload_n d_Mo_mode_94 rfl ?_
            refine r_iload d_Mo_mode_95 rfl ?_
            refine r_cVi [.int (nI q)] 57 (d - 1) 0 0 x.1 (fun h' => ∃ F', frP h3 h' mod9 ∧ MD h' F' V3 ∧ ch (Dq q) F3 F' ∧ Mqu F' q Q) d_Mo_mode_97 q_Mo_113 M3.1 rfl rfl (c_Mo_takeOldest htr (by omega) M3 TQ (fun h' F' f' G1 G2 G3 => ⟨rfl, F', f', G1, G2, G3⟩)) (by show d - 1 + 1 ≤ d; omega) (Nat.le_of_ble_eq_true rfl) (Nat.le_of_ble_eq_true rfl) (Nat.le_of_ble_eq_true rfl) (fun h4 e5 => ?_)
            obtain ⟨F4, Fr4, M4, C4, T4⟩ := e5
            have HR4 : MR F4 V3 R3 := HR3.ch C4 rfl (fun i => by unfold Dq; omega)
            refine r_cVv [.int x.1] 57 (d - 1) 0 0 (fun h' => ∃ F', frP h4 h' mod9 ∧ MD h' F' (upd V3 5 (nI (R3.length + 1))) ∧ ch Dr F4 F' ∧ MR F' (upd V3 5 (nI (R3.length + 1))) (R3 ++ [x.1])) d_Mo_mode_100 q_Mo_95 M4.1 rfl rfl (c_Mo_giveBack htr M4 HR4 (by omega) (fun h' F' f' G1 G2 G3 => ⟨rfl, F', f', G1, G2, G3⟩)) (by show d - 1 + 1 ≤ d; omega) (Nat.le_of_ble_eq_true rfl) (Nat.le_of_ble_eq_true rfl) (Nat.le_of_ble_eq_true rfl) (fun h5 e5 => ?_)
            obtain ⟨F5, Fr5, M5, C5, HR5⟩ := e5
            refine r_iincP d_Mo_mode_103 rfl (Nat.le_of_ble_eq_true rfl) ?_
            refine r_goto 73 d_Mo_mode_106 (by decide) ?_
            rw [nI_1]
            have q1 : sp_mq m i (x :: Q) = sp_mq m i Q := by unfold sp_mq; rw [if_neg htk, if_neg htk]
            have q2 : sp_mr m i (x :: Q) = x.1 :: sp_mr m i Q := by unfold sp_mr; rw [if_neg htk, if_neg htk]; rfl
            rw [q1, q2, List.length_cons] at kk
            refine r_loc _ (fun q hq => by simp at hq; rcases hq with q | q | q | q | q | q <;> subst q <;> rfl) (ih (n + 1) (R3 ++ [x.1]) h5 F5 _ ((C5 4 j (by unfold Dr; omega)).trans ((C4 4 j (by unfold Dq; omega)).trans e4)) (T4.ch C5 (fun a b z1 z2 => by unfold Dq at z1; unfold Dr at z2; omega)) HR5 (by rw [List.length_append]; show R3.length + 1 + Q.length ≤ 512; omega) M5 (fun h6 F6 V6 Fr6 M6 C6 K6 T6 HR6 => ?_))
            have := kk h6 F6 V6 (frP_tr (frP_tr Fr4 Fr5) Fr6) M6 (ch_tr (ch_tr (ch_mo C4 (fun a b z => Or.inl z)) (ch_mo C5 (fun a b z => Or.inr z))) C6) (vk_tr vk_up K6) T6 (by rw [List.append_assoc] at HR6; exact HR6)
            have e9 : n + ((sp_mr m i Q).length + 1) = n + 1 + (sp_mr m i Q).length := by omega
            rw [e9] at this
            exact this
      have hm0 : (sp_mr m 0 (lnOf s j).2.2.1.1).length ≤ (lnOf s j).2.2.1.1.length := by unfold sp_mr; split <;> simp
      refine r_iconst 0 d_Mo_mode_54 (by decide) ?_
      refine r_ri (show (0 : Int32) = nI 0 by decide) ?_
      refine r_istore_n d_Mo_mode_55 (Nat.le_of_ble_eq_true rfl) ?_
      refine r_iconst 0 d_Mo_mode_56 (by decide) ?_
      refine r_ri (show (0 : Int32) = nI 0 by decide) ?_
      refine r_istore d_Mo_mode_57 (Nat.le_of_ble_eq_true rfl) ?_
      refine r_iload d_Mo_mode_59 rfl ?_
      refine r_iconst 2 d_Mo_mode_61 (by decide) ?_
      refine r_ri (show (2 : Int32) = nI 2 by decide) ?_
      refine r_icmp_ge 115 d_Mo_mode_62 (by decide) (fun z => absurd z (by decide)) (fun _ => ?_)
      refine r_iconst 2 d_Mo_mode_65 (by decide) ?_
      refine r_iload_n d_Mo_mode_66 rfl ?_
      refine r_ri2 (show (2 : Int32) = nI 2 by decide) ?_
      refine r_imul d_Mo_mode_67 ?_
      refine r_ri (pk_mul _ _) ?_
      refine r_iload d_Mo_mode_68 rfl ?_
      refine r_iadd d_Mo_mode_70 ?_
      refine r_ri (nI_add _ _) ?_
      refine r_istore d_Mo_mode_71 (Nat.le_of_ble_eq_true rfl) ?_
      refine r_loc _ (fun q hq => by simp at hq; rcases hq with q | q | q | q | q | q <;> subst q <;> rfl) (side 0 (2 * j + 0) rfl (by omega) (lnOf s j).2.2.1.1 0 s.2.2.1 _ _ (upd V 0 (nI 0)) up2_eq (a4.ch CM (fun a b z1 z2 => by unfold Dq at z1; omega)) (H1.2.2.2.1.ch CM rfl (fun i z => by omega)) (by omega) M53 (fun h4 F4 V4 Fr4 M4 C4 K4 T4 HR4 => ?_))
      rw [Nat.zero_add]
      refine r_iincP d_Mo_mode_109 rfl (Nat.le_of_ble_eq_true rfl) ?_
      refine r_goto 59 d_Mo_mode_112 (by decide) ?_
      refine r_iload d_Mo_mode_59 rfl ?_
      refine r_loc [(4, .int (nI 1)), (3, .int (nI ((sp_mr m 0 (lnOf s j).2.2.1.1).length))), (0, .ref 57), (1, .int (nI j)), (2, .int (nI m))] (fun q hq => by simp at hq; rcases hq with q | q | q | q | q <;> subst q <;> rfl) ?_
      refine r_iconst 2 d_Mo_mode_61 (by decide) ?_
      refine r_icmp_ge 115 d_Mo_mode_62 (by decide) (fun z => absurd z (by decide)) (fun _ => ?_)
      refine r_iconst 2 d_Mo_mode_65 (by decide) ?_
      refine r_iload_n d_Mo_mode_66 rfl ?_
      refine r_ri2 (show (2 : Int32) = nI 2 by decide) ?_
      refine r_imul d_Mo_mode_67 ?_
      refine r_ri (pk_mul _ _) ?_
      refine r_iload d_Mo_mode_68 rfl ?_
      refine r_iadd d_Mo_mode_70 ?_
      refine r_ri (nI_add _ _) ?_
      refine r_istore d_Mo_mode_71 (Nat.le_of_ble_eq_true rfl) ?_
      refine r_loc _ (fun q hq => by simp at hq; rcases hq with q | q | q | q | q | q <;> subst q <;> rfl) (side 1 (2 * j + 1) rfl (by omega) (lnOf s j).2.2.1.2 _ _ h4 F4 V4 ((C4 4 j (by unfold Dq; omega)).trans up2_eq) ((a5.ch CM (fun a b z1 z2 => by unfold Dq at z1; omega)).ch C4 (fun a b z1 z2 => by unfold Dq at z1 z2; omega)) HR4 (by rw [List.length_append]; omega) M4 (fun h5 F5 V5 Fr5 M5 C5 K5 T5 HR5 => ?_))
      refine r_iincP d_Mo_mode_109 rfl (Nat.le_of_ble_eq_true rfl) ?_
      refine r_goto 59 d_Mo_mode_112 (by decide) ?_
      refine r_iload d_Mo_mode_59 rfl ?_
      refine r_loc [(4, .int (nI 2)), (3, .int (nI ((sp_mr m 0 (lnOf s j).2.2.1.1).length + (sp_mr m 1 (lnOf s j).2.2.1.2).length))), (0, .ref 57), (1, .int (nI j)), (2, .int (nI m))] (fun q hq => by simp at hq; rcases hq with q | q | q | q | q <;> subst q <;> rfl) ?_
      refine r_iconst 2 d_Mo_mode_61 (by decide) ?_
      refine r_icmp_ge 115 d_Mo_mode_62 (by decide) (fun _ => ?_) (fun z => absurd (by decide) z)
      refine r_iload_n d_Mo_mode_115 rfl ?_
      have KK : vk (upd V 0 (nI 0)) V5 := vk_tr K4 K5
      have CC : ch (fun a b => (a = 4 ∧ b = j) ∨ Dq (2 * j) a b ∨ Dq (2 * j + 1) a b ∨ a = 24) F F5 := ch_tr (ch_tr (ch_mo CM (fun a b z => Or.inl z)) (ch_mo C4 (fun a b z => by
        rcases z with z | z
        · exact Or.inr (Or.inl z)
        · exact Or.inr (Or.inr (Or.inr z))))) (ch_mo C5 (fun a b z => by
        rcases z with z | z
        · exact Or.inr (Or.inr (Or.inl z))
        · exact Or.inr (Or.inr (Or.inr z))))
      have HL5 : MLn F5 j (sp_mode m (lnOf s j)) := ⟨a1.ch CC (fun a ha => by unfold Dq; omega), ⟨(CC 5 j (by unfold Dq; omega)).trans a2, (CC 6 j (by unfold Dq; omega)).trans a3⟩, ⟨T4.ch C5 (fun a b z1 z2 => by unfold Dq at z1 z2; omega), T5⟩, ⟨sp_mq_ok a6, sp_mq_ok a6'⟩, a7.ch CC (fun i _ _ => by unfold Dq; omega), ⟨(C5 4 j (by unfold Dq; omega)).trans ((C4 4 j (by unfold Dq; omega)).trans up2_eq), hm4⟩, a10.ch CC (by unfold Dq; omega) (fun a b _ _ _ _ => by unfold Dq; omega), a11⟩
      have fin := ha j m h5 hj rfl (by omega) rfl hno (frP_tr (frP_tr (frP_tr Fr2 fr53) Fr4) Fr5) ⟨F5, V5, M5, H1.lane hj (ch_mo CC (fun a b z => by
        rcases z with z | z | z | z
        · exact Or.inl (Or.inl ⟨by omega, z.2⟩)
        · exact in_q0 z
        · exact in_q1 z
        · exact in_24 z)) HL5 HR5 (KK 1 (by omega)) (KK 2 (by omega)) (KK 4 (by omega)), KK 0 (by omega)⟩
      exact r_iret d_Mo_mode_116 rfl fin (Nat.le_of_ble_eq_true rfl) (Nat.le_of_ble_eq_true rfl)
    · have hno : ¬ (lnOf s j).2.2.2.2.2 = [] := fun z => c3 (by rw [z]; decide)
      refine r_iconst 3 d_Mo_mode_34 (by decide) ?_
      refine r_ri nI3 ?_
      refine r_goto 39 d_Mo_mode_35 (by decide) ?_
      exact refu 3 (by omega) (fun z => by omega) (fun _ h2 f2 g2 => hz j m h2 hj rfl (by omega) rfl hno f2 g2)
  · refine r_if_ne 12 d_Mo_mode_5 (by decide) (fun c => absurd rfl c) (fun _ => ?_)
    refine r_iconst 1 d_Mo_mode_8 (by decide) ?_
    refine r_ri nI1 ?_
    refine r_goto 39 d_Mo_mode_9 (by decide) ?_
    exact refu 1 (by omega) (fun z => by omega) (fun _ h2 f2 g2 => hx h2 ho f2 g2)
theorem c_Mo_body {l : Launch} (htr : l.stackTraces = false) {d : Nat} {h : ac_H} {Φ : ac_R → ac_H → Prop} {lane x w : Int32} {s : sp_S} {f : Nat} (hd : 1 ≤ d) (H : MDs h s f) (hx : ∀ h', (out9 lane 2 ∨ ∃ j, j < 2 ∧ lane = nI j ∧ out9 x (lnOf s j).2.2.2.2.2.length) → frP h h' mod9 → MDs h' s 1 → Φ (.inl (some (.int 0))) h') (hy : ∀ j i y h', j < 2 → lane = nI j → (lnOf s j).2.2.2.2.2[i]? = some y → x = nI i → out9 w 5 → frP h h' mod9 → MDs h' s 2 → Φ (.inl (some (.int 0))) h')
    (ha : ∀ j i y n v h', j < 2 → lane = nI j → (lnOf s j).2.2.2.2.2[i]? = some y → x = nI i → w = nI n → [nI y.1, nI y.2.1, nI y.2.2.1, y.2.2.2.1, nI y.2.2.2.2][n]? = some v → frP h h' mod9 → MDs h' s 0 → Φ (.inl (some (.int v))) h') : ac_Mt l d m_Mo_body [.ref 57, .int lane, .int x, .int w] h 0 0 Φ := by
  obtain ⟨F, V, M, H1, H2⟩ := H
  refine ac_enter (by decide) rfl htr (fun _ => Nat.le_of_ble_eq_true rfl) ?_
  have refu : ∀ (w9 : Nat) (tv : Int32), w9 < 10 → (w9 = 0 → ∀ h2, frP h h2 mod9 → MD h2 F (upd V 0 (nI w9)) → ac_G (l, d, m_Mo_body, 0, 0, Φ, h.length, none) 60 [(4, .int tv), (0, .ref 57), (1, .int lane), (2, .int x), (3, .int w)] [] h2 0 0) → (¬ w9 = 0 → ∀ h2, frP h h2 mod9 → MDs h2 s w9 → Φ (.inl (some (.int 0))) h2) → ac_G (l, d, m_Mo_body, 0, 0, Φ, h.length, none) 52 [(4, .int tv), (0, .ref 57), (1, .int lane), (2, .int x), (3, .int w)] [.int (nI w9), .ref 57] h 0 0 := by
    intro w9 tv hw k0 k1
    refine r_refu htr rfl d_Mo_body_52 hd hw M (Nat.le_of_ble_eq_true rfl) (Nat.le_of_ble_eq_true rfl) (Nat.le_of_ble_eq_true rfl) (fun h2 Fr2 M2 => ?_)
    by_cases c : w9 = 0
    · rw [if_pos c]
      refine r_if_eq 60 d_Mo_body_55 (by decide) (fun _ => k0 c h2 Fr2 M2) (fun z => absurd rfl z)
    · rw [if_neg c]
      refine r_if_eq 60 d_Mo_body_55 (by decide) (fun z => absurd z (by decide)) (fun _ => ?_)
      refine r_iconst 0 d_Mo_body_58 (by decide) ?_
      exact r_iret d_Mo_body_59 rfl (k1 c h2 Fr2 ⟨F, _, M2, H1.f, rfl⟩) (Nat.le_of_ble_eq_true rfl) (Nat.le_of_ble_eq_true rfl)
  have bad : (out9 lane 2 ∨ ∃ j, j < 2 ∧ lane = nI j ∧ out9 x (lnOf s j).2.2.2.2.2.length) → ac_G (l, d, m_Mo_body, 0, 0, Φ, h.length, none) 25 [(0, .ref 57), (1, .int lane), (2, .int x), (3, .int w)] [] h 0 0 := by
    intro ho
    refine r_iconst 0 d_Mo_body_25 (by decide) ?_
    refine r_istore d_Mo_body_26 (Nat.le_of_ble_eq_true rfl) ?_
    refine r_aload_n d_Mo_body_28 rfl ?_
    refine r_iload d_Mo_body_29 rfl ?_
    refine r_if_ne 38 d_Mo_body_31 (by decide) (fun z => absurd rfl z) (fun _ => ?_)
    refine r_iconst 1 d_Mo_body_34 (by decide) ?_
    refine r_ri nI1 ?_
    refine r_goto 52 d_Mo_body_35 (by decide) ?_
    exact r_loc _ (fun q hq => by simp at hq; rcases hq with q | q | q | q | q <;> subst q <;> rfl) (refu 1 0 (by omega) (fun z => by omega) (fun _ h2 f2 g2 => hx h2 ho f2 g2))
  refine r_iload_n d_Mo_body_0 rfl ?_
  refine r_two htr rfl d_Mo_body_1 hd (Nat.le_of_ble_eq_true rfl) (Nat.le_of_ble_eq_true rfl) (Nat.le_of_ble_eq_true rfl) (fun j hj e => ?_) (fun ho => r_if_eq 25 d_Mo_body_4 (by decide) (fun _ => bad (Or.inl ho)) (fun c => absurd rfl c))
  refine r_if_eq 25 d_Mo_body_4 (by decide) (fun c => absurd c (by decide)) (fun _ => ?_)
  have HL := H1.ln hj
  obtain ⟨r8, r4, rok, rc⟩ := HL.2.2.2.2.2.2.1
  refine r_iload_n d_Mo_body_7 rfl ?_
  refine r_if_lt 25 d_Mo_body_8 (by decide) (fun c => bad (Or.inr ⟨j, hj, e, out_neg (by omega) c⟩)) (fun c => ?_)
  obtain ⟨i, hi, rfl⟩ := nI_of c
  subst e
  refine r_iload_n d_Mo_body_11 rfl ?_
  refine r_aload_n d_Mo_body_12 rfl ?_
  refine r_getfield d_Mo_body_13 f_Mo_34 M.1 rfl ?_
  refine r_iload_n d_Mo_body_16 rfl ?_
  refine r_ialoadN d_Mo_body_17 (md_bodies M) (show j < 2 by omega) (by omega) ?_
  refine r_ri r8 ?_
  refine r_icmp_ge 25 d_Mo_body_18 (by decide) (fun c2 => bad (Or.inr ⟨j, hj, rfl, out_big (by omega) c2⟩)) (fun c2 => ?_)
  have hlt : i < (lnOf s j).2.2.2.2.2.length := lt_of_nle (by omega) c2 hi
  have hb := List.getElem?_eq_getElem hlt
  generalize (lnOf s j).2.2.2.2.2[i] = y at hb
  obtain ⟨b1, b2, b3, b4, b5⟩ := rc i y hb
  refine r_iconst 1 d_Mo_body_21 (by decide) ?_
  refine r_goto 26 d_Mo_body_22 (by decide) ?_
  refine r_istore d_Mo_body_26 (Nat.le_of_ble_eq_true rfl) ?_
  refine r_aload_n d_Mo_body_28 rfl ?_
  refine r_iload d_Mo_body_29 rfl ?_
  refine r_if_ne 38 d_Mo_body_31 (by decide) (fun _ => ?_) (fun z => absurd z (by decide))
  have bad2 : out9 w 5 → ac_G (l, d, m_Mo_body, 0, 0, Φ, h.length, none) 47 [(4, .int 1), (0, .ref 57), (1, .int (nI j)), (2, .int (nI i)), (3, .int w)] [.ref 57] h 0 0 := by
    intro z
    refine r_iconst 2 d_Mo_body_47 (by decide) ?_
    refine r_ri nI2 ?_
    refine r_goto 52 d_Mo_body_48 (by decide) ?_
    exact refu 2 1 (by omega) (fun z => by omega) (fun _ h2 f2 g2 => hy j i y h2 hj rfl hb rfl z f2 g2)
  refine r_loc [(4, .int 1), (0, .ref 57), (1, .int (nI j)), (2, .int (nI i)), (3, .int w)] (fun q hq => by simp at hq; rcases hq with q | q | q | q | q <;> subst q <;> rfl) ?_
  refine r_iload_n d_Mo_body_38 rfl ?_
  refine r_if_lt 47 d_Mo_body_39 (by decide) (fun c => bad2 (out_neg (by omega) c)) (fun c3 => ?_)
  obtain ⟨n, hn, rfl⟩ := nI_of c3
  refine r_iload_n d_Mo_body_42 rfl ?_
  refine r_iconst 4 d_Mo_body_43 (by decide) ?_
  refine r_ri nI4 ?_
  refine r_icmp_le 51 d_Mo_body_44 (by decide) (fun c4 => ?_) (fun c4 => bad2 (out_big (by omega) (nI_le (by
    rcases Nat.lt_or_ge n 5 with z | z
    · exact absurd ((nI_leI (by omega) (by omega)).mpr (by omega)) c4
    · exact z) hn)))
  have hn5 : n ≤ 4 := (nI_leI (by omega) (by omega)).mp c4
  refine r_iconst 0 d_Mo_body_51 (by decide) ?_
  refine r_ri nI_0.symm ?_
  refine refu 0 1 (by omega) (fun _ h2 Fr2 M2 => ?_) (fun z => absurd rfl z)
  have ho : ∀ v, [nI y.1, nI y.2.1, nI y.2.2.1, y.2.2.2.1, nI y.2.2.2.2][n]? = some v → Φ (.inl (some (.int v))) h2 := fun v hv => ha j i y n v h2 hj rfl hb rfl rfl hv Fr2 ⟨F, _, M2, H1.f, rfl⟩
  refine r_iconst 5 d_Mo_body_60 (by decide) ?_
  refine r_iload_n d_Mo_body_61 rfl ?_
  refine r_ri2 (show (5 : Int32) = nI 5 by decide) ?_
  refine r_imul d_Mo_body_62 ?_
  refine r_ri (pk_mul _ _) ?_
  refine r_iload_n d_Mo_body_63 rfl ?_
  refine r_iadd d_Mo_body_64 ?_
  refine r_ri (nI_add _ _) ?_
  refine r_istore d_Mo_body_65 (Nat.le_of_ble_eq_true rfl) ?_
  refine r_iload_n d_Mo_body_67 rfl ?_
  rcases (show n = 0 ∨ n = 1 ∨ n = 2 ∨ n = 3 ∨ n = 4 by omega) with q | q | q | q | q <;> subst q
  · refine r_if_ne 81 d_Mo_body_68 (by decide) (fun z => absurd (by decide) z) (fun _ => ?_)
    refine r_aload_n d_Mo_body_71 rfl ?_
    refine r_getfield d_Mo_body_72 f_Mo_37 M2.1 rfl ?_
    refine r_iload d_Mo_body_75 rfl ?_
    refine r_ialoadN d_Mo_body_77 (md_first M2) (show (5*j+i) < 10 by omega) (by omega) ?_
    refine r_ri b1 ?_
    refine r_goto 133 d_Mo_body_78 (by decide) ?_
    exact r_iret d_Mo_body_133 rfl (ho _ rfl) (Nat.le_of_ble_eq_true rfl) (Nat.le_of_ble_eq_true rfl)
  · refine r_if_ne 81 d_Mo_body_68 (by decide) (fun _ => ?_) (fun z => absurd z (by decide))
    refine r_iload_n d_Mo_body_81 rfl ?_
    refine r_iconst 1 d_Mo_body_82 (by decide) ?_
    refine r_icmp_ne 96 d_Mo_body_83 (by decide) (fun z => absurd (by decide) z) (fun _ => ?_)
    refine r_aload_n d_Mo_body_86 rfl ?_
    refine r_getfield d_Mo_body_87 f_Mo_40 M2.1 rfl ?_
    refine r_iload d_Mo_body_90 rfl ?_
    refine r_ialoadN d_Mo_body_92 (md_last M2) (show (5*j+i) < 10 by omega) (by omega) ?_
    refine r_ri b2 ?_
    refine r_goto 133 d_Mo_body_93 (by decide) ?_
    exact r_iret d_Mo_body_133 rfl (ho _ rfl) (Nat.le_of_ble_eq_true rfl) (Nat.le_of_ble_eq_true rfl)
  · refine r_if_ne 81 d_Mo_body_68 (by decide) (fun _ => ?_) (fun z => absurd z (by decide))
    refine r_iload_n d_Mo_body_81 rfl ?_
    refine r_iconst 1 d_Mo_body_82 (by decide) ?_
    refine r_icmp_ne 96 d_Mo_body_83 (by decide) (fun _ => ?_) (fun z => absurd z (by decide))
    refine r_iload_n d_Mo_body_96 rfl ?_
    refine r_iconst 2 d_Mo_body_97 (by decide) ?_
    refine r_icmp_ne 111 d_Mo_body_98 (by decide) (fun z => absurd (by decide) z) (fun _ => ?_)
    refine r_aload_n d_Mo_body_101 rfl ?_
    refine r_getfield d_Mo_body_102 f_Mo_43 M2.1 rfl ?_
    refine r_iload d_Mo_body_105 rfl ?_
    refine r_ialoadN d_Mo_body_107 (md_side M2) (show (5*j+i) < 10 by omega) (by omega) ?_
    refine r_ri b3 ?_
    refine r_goto 133 d_Mo_body_108 (by decide) ?_
    exact r_iret d_Mo_body_133 rfl (ho _ rfl) (Nat.le_of_ble_eq_true rfl) (Nat.le_of_ble_eq_true rfl)
  · refine r_if_ne 81 d_Mo_body_68 (by decide) (fun _ => ?_) (fun z => absurd z (by decide))
    refine r_iload_n d_Mo_body_81 rfl ?_
    refine r_iconst 1 d_Mo_body_82 (by decide) ?_
    refine r_icmp_ne 96 d_Mo_body_83 (by decide) (fun _ => ?_) (fun z => absurd z (by decide))
    refine r_iload_n d_Mo_body_96 rfl ?_
    refine r_iconst 2 d_Mo_body_97 (by decide) ?_
    refine r_icmp_ne 111 d_Mo_body_98 (by decide) (fun _ => ?_) (fun z => absurd z (by decide))
    refine r_iload_n d_Mo_body_111 rfl ?_
    refine r_iconst 3 d_Mo_body_112 (by decide) ?_
    refine r_icmp_ne 126 d_Mo_body_113 (by decide) (fun z => absurd (by decide) z) (fun _ => ?_)
    refine r_aload_n d_Mo_body_116 rfl ?_
    refine r_getfield d_Mo_body_117 f_Mo_46 M2.1 rfl ?_
    refine r_iload d_Mo_body_120 rfl ?_
    refine r_ialoadN d_Mo_body_122 (md_owns M2) (show (5*j+i) < 10 by omega) (by omega) ?_
    refine r_ri b4 ?_
    refine r_goto 133 d_Mo_body_123 (by decide) ?_
    exact r_iret d_Mo_body_133 rfl (ho _ rfl) (Nat.le_of_ble_eq_true rfl) (Nat.le_of_ble_eq_true rfl)
  · refine r_if_ne 81 d_Mo_body_68 (by decide) (fun _ => ?_) (fun z => absurd z (by decide))
    refine r_iload_n d_Mo_body_81 rfl ?_
    refine r_iconst 1 d_Mo_body_82 (by decide) ?_
    refine r_icmp_ne 96 d_Mo_body_83 (by decide) (fun _ => ?_) (fun z => absurd z (by decide))
    refine r_iload_n d_Mo_body_96 rfl ?_
    refine r_iconst 2 d_Mo_body_97 (by decide) ?_
    refine r_icmp_ne 111 d_Mo_body_98 (by decide) (fun _ => ?_) (fun z => absurd z (by decide))
    refine r_iload_n d_Mo_body_111 rfl ?_
    refine r_iconst 3 d_Mo_body_112 (by decide) ?_
    refine r_icmp_ne 126 d_Mo_body_113 (by decide) (fun _ => ?_) (fun z => absurd z (by decide))
    refine r_aload_n d_Mo_body_126 rfl ?_
    refine r_getfield d_Mo_body_127 f_Mo_49 M2.1 rfl ?_
    refine r_iload d_Mo_body_130 rfl ?_
    refine r_ialoadN d_Mo_body_132 (md_length M2) (show (5*j+i) < 10 by omega) (by omega) ?_
    refine r_ri b5 ?_
    exact r_iret d_Mo_body_133 rfl (ho _ rfl) (Nat.le_of_ble_eq_true rfl) (Nat.le_of_ble_eq_true rfl)
theorem ticks_v35 {V V' : Nat → Int32} (h : v35 V V') : V' 1 = V 1 ∧ V' 2 = V 2 ∧ V' 4 = V 4 ∧ V' 0 = V 0 := ⟨h 1 (by omega) (by omega), h 2 (by omega) (by omega), h 4 (by omega) (by omega), h 0 (by omega) (by omega)⟩
theorem c_Mo_ticks {l : Launch} (htr : l.stackTraces = false) {d : Nat} {h : ac_H} {Φ : ac_R → ac_H → Prop} {x : Int32} {s : sp_S} {f : Nat} (hd : 4 ≤ d) (H : MDs h s f) (hcap : cap s ≤ 512) (hx : ∀ h', (∀ n, 0 < n → n ≤ 300 → ¬ x = nI n) → frP h h' mod9 → MDs h' s 1 → Φ (.inl (some (.int 0))) h') (ha : ∀ n h', 0 < n → n ≤ 300 → x = nI n → frP h h' mod9 → MDs h' (sp_ticks n s 0).1 0 → Φ (.inl (some (.int (nI (sp_ticks n s 0).2)))) h') : ac_Mt l d m_Mo_ticks [.ref 57, .int x] h 0 0 Φ := by
  obtain ⟨F, V, M, H1, H2⟩ := H
  refine ac_enter (by decide) rfl htr (fun _ => Nat.le_of_ble_eq_true rfl) ?_
  have t1 : (1 : Int32).toInt = 1 := by decide
  have t3 : (300 : Int32).toInt = 300 := by decide
  have t0 : (0 : Int32).toInt = 0 := by decide
  have bad : (∀ n, 0 < n → n ≤ 300 → ¬ x = nI n) → ac_G (l, d, m_Mo_ticks, 0, 0, Φ, h.length, none) 13 [(0, .ref 57), (1, .int x)] [.ref 57] h 0 0 := by
    intro z
    refine r_iconst 1 d_Mo_ticks_13 (by decide) ?_
    refine r_ri nI1 ?_
    refine r_goto 18 d_Mo_ticks_14 (by decide) ?_
    refine r_refu htr rfl d_Mo_ticks_18 (by show 1 ≤ d; omega) (by omega) M (Nat.le_of_ble_eq_true rfl) (Nat.le_of_ble_eq_true rfl) (Nat.le_of_ble_eq_true rfl) (fun h2 Fr2 M2 => ?_)
    refine r_if_eq 26 d_Mo_ticks_21 (by decide) (fun c => absurd c (by decide)) (fun _ => ?_)
    refine r_iconst 0 d_Mo_ticks_24 (by decide) ?_
    exact r_iret d_Mo_ticks_25 rfl (hx h2 z Fr2 ⟨F, _, M2, H1.f, rfl⟩) (Nat.le_of_ble_eq_true rfl) (Nat.le_of_ble_eq_true rfl)
  refine r_aload_n d_Mo_ticks_0 rfl ?_
  refine r_iload_n d_Mo_ticks_1 rfl ?_
  refine r_iconst 1 d_Mo_ticks_2 (by decide) ?_
  refine r_icmp_lt 13 d_Mo_ticks_3 (by decide) (fun c => bad (fun n n0 n3 e => by subst e; rw [Int32.lt_iff_toInt_lt, nI_toInt (by omega)] at c; omega)) (fun c => ?_)
  refine r_iload_n d_Mo_ticks_6 rfl ?_
  refine r_sipush 300 d_Mo_ticks_7 (by decide) ?_
  refine r_icmp_le 17 d_Mo_ticks_10 (by decide) (fun c2 => ?_) (fun c2 => bad (fun n n0 n3 e => by subst e; rw [Int32.le_iff_toInt_le, nI_toInt (by omega)] at c2; omega))
  obtain ⟨n, hn, rfl⟩ : ∃ n : Nat, n < 2 ^ 31 ∧ x = nI n := nI_of (fun z => c (by rw [Int32.lt_iff_toInt_lt] at z ⊢; omega))
  have n0 : 0 < n := by
    rcases Nat.eq_zero_or_pos n with z | z
    · subst z; exact absurd (by decide) c
    · exact z
  have n3 : n ≤ 300 := by
    rw [Int32.le_iff_toInt_le, nI_toInt hn] at c2
    omega
  refine r_iconst 0 d_Mo_ticks_17 (by decide) ?_
  refine r_ri nI_0.symm ?_
  refine r_refu htr rfl d_Mo_ticks_18 (by show 1 ≤ d; omega) (by omega) M (Nat.le_of_ble_eq_true rfl) (Nat.le_of_ble_eq_true rfl) (Nat.le_of_ble_eq_true rfl) (fun h2 Fr2 M2 => ?_)
  refine r_if_eq 26 d_Mo_ticks_21 (by decide) (fun _ => ?_) (fun z => absurd rfl z)
  have key : ∀ (m i c : Nat) (s2 : sp_S) (h3 : ac_H) (F3 : Nat → Nat → Int32) (V3 : Nat → Int32), i + m = n → frP h h3 mod9 → MD h3 F3 V3 → MDS F3 V3 s2 → V3 0 = nI 0 → cap s2 ≤ 512 → sp_ticks m s2 c = sp_ticks n s 0 → ac_G (l, d, m_Mo_ticks, 0, 0, Φ, h.length, none) 30 [(3, .int (nI i)), (2, .int (nI c)), (0, .ref 57), (1, .int (nI n))] [] h3 0 0 := by
    intro m
    induction m with
    | zero =>
      intro i c s2 h3 F3 V3 hi Fr3 M3 S3 v0 hc3 he
      refine r_iload_n d_Mo_ticks_30 rfl ?_
      refine r_iload_n d_Mo_ticks_31 rfl ?_
      refine r_icmp_ge 67 d_Mo_ticks_32 (by decide) (fun c1 => ?_) (fun c1 => absurd (nI_le (by omega) (by omega)) c1)
      refine r_iload_n d_Mo_ticks_67 rfl ?_
      have := ha n h3 n0 n3 rfl Fr3
      rw [← he] at this
      exact r_iret d_Mo_ticks_68 rfl (this ⟨F3, V3, M3, S3, v0⟩) (Nat.le_of_ble_eq_true rfl) (Nat.le_of_ble_eq_true rfl)
    | succ m ih =>
      intro i c s2 h3 F3 V3 hi Fr3 M3 S3 v0 hc3 he
      have hsc := step_cap s2
      have hcu : cap s2 = s2.2.2.1.length + capL s2.1.1 + capL s2.1.2 := rfl
      have tc1 := tick_cap (nI (s2.2.2.2.2 + 1)) s2.2.2.2.1 s2.1.1 s2.2.2.1
      have e1 := S3.2.2.2.2.2
      refine r_iload_n d_Mo_ticks_30 rfl ?_
      refine r_iload_n d_Mo_ticks_31 rfl ?_
      refine r_icmp_ge 67 d_Mo_ticks_32 (by decide) (fun c1 => absurd ((nI_leI (by omega) (by omega)).mp c1) (by omega)) (fun c1 => ?_)
      refine r_aload_n d_Mo_ticks_35 rfl ?_
      refine r_dup d_Mo_ticks_36 rfl ?_
      refine r_getfield d_Mo_ticks_37 f_Mo_121 M3.1 rfl ?_
      refine r_ri e1 ?_
      refine r_iconst 1 d_Mo_ticks_40 (by decide) ?_
      refine r_ri (show (1 : Int32) = nI 1 by decide) ?_
      refine r_iadd d_Mo_ticks_41 ?_
      refine r_ri (nI_add _ _) ?_
      refine r_mpf_time d_Mo_ticks_42 f_Mo_121 M3 (fun h42_ fr42 M42 => ?_)
      refine r_iload_n d_Mo_ticks_45 rfl ?_
      refine r_aload_n d_Mo_ticks_46 rfl ?_
      refine r_iconst 0 d_Mo_ticks_47 (by decide) ?_
      refine r_ri nI_0.symm ?_
      have HR4 : MR F3 (upd V3 1 (nI (s2.2.2.2.2 + 1))) s2.2.2.1 := ⟨S3.2.2.2.1.1, S3.2.2.2.1.2⟩
      refine r_cVi [.int (nI 0)] 57 (d - 1) 0 0 (nI (sp_st1 s2).2.2) (fun h' => ∃ F' V', frP h42_ h' mod9 ∧ MD h' F' V' ∧ ch (Dl 0) F3 F' ∧ v35 (upd V3 1 (nI (s2.2.2.2.2 + 1))) V' ∧ MLn F' 0 (sp_st1 s2).1 ∧ MR F' V' (sp_st1 s2).2.1) d_Mo_ticks_48 q_Mo_146 M42.1 rfl rfl (c_Mo_tick (now := nI (s2.2.2.2.2 + 1)) (al := s2.2.2.2.1) htr (by omega) (by omega) M42 S3.1 HR4 (by omega) rfl S3.2.2.2.2.1 (fun h' F' V' f' G1 G2 G3 G4 G5 => ⟨rfl, F', V', f', G1, G2, G3, G4, G5⟩)) (by show d - 1 + 1 ≤ d; omega) (Nat.le_of_ble_eq_true rfl) (Nat.le_of_ble_eq_true rfl) (Nat.le_of_ble_eq_true rfl) (fun h5 e5 => ?_)
      obtain ⟨F5, V5, Fr5, M5, C5, K5, L5, HR5⟩ := e5
      have S5 := (S3.v (V' := upd V3 1 (nI (s2.2.2.2.2))) (by show nI _ = _; exact e1.symm) rfl rfl rfl).lane (j := 0) (by omega) (V' := upd V5 1 (nI s2.2.2.2.2)) C5 L5 ⟨HR5.1, HR5.2⟩ rfl (K5 2 (by omega) (by omega)) (K5 4 (by omega) (by omega))
      refine r_iadd d_Mo_ticks_51 ?_
      refine r_ri (nI_add _ _) ?_
      refine r_istore_n d_Mo_ticks_52 (Nat.le_of_ble_eq_true rfl) ?_
      refine r_iload_n d_Mo_ticks_53 rfl ?_
      refine r_aload_n d_Mo_ticks_54 rfl ?_
      refine r_iconst 1 d_Mo_ticks_55 (by decide) ?_
      refine r_ri nI1 ?_
      refine r_cVi [.int (nI 1)] 57 (d - 1) 0 0 (nI (sp_st2 s2).2.2) (fun h' => ∃ F' V', frP h5 h' mod9 ∧ MD h' F' V' ∧ ch (Dl 1) F5 F' ∧ v35 V5 V' ∧ MLn F' 1 (sp_st2 s2).1 ∧ MR F' V' (sp_st2 s2).2.1) d_Mo_ticks_56 q_Mo_146 M5.1 rfl rfl (c_Mo_tick (now := nI (s2.2.2.2.2 + 1)) (al := s2.2.2.2.1) htr (by omega) (by omega) M5 S5.2.1 HR5 (by show (sp_st1 s2).2.1.length + capL s2.1.2 ≤ 512; unfold sp_st1; omega) (K5 1 (by omega) (by omega)) ((K5 2 (by omega) (by omega)).trans S3.2.2.2.2.1) (fun h' F' V' f' G1 G2 G3 G4 G5 => ⟨rfl, F', V', f', G1, G2, G3, G4, G5⟩)) (by show d - 1 + 1 ≤ d; omega) (Nat.le_of_ble_eq_true rfl) (Nat.le_of_ble_eq_true rfl) (Nat.le_of_ble_eq_true rfl) (fun h6 e6 => ?_)
      obtain ⟨F6, V6, Fr6, M6, C6, K6, L6, HR6⟩ := e6
      have S6 := S5.lane (j := 1) (by omega) (V' := upd V6 1 (nI s2.2.2.2.2)) C6 L6 ⟨HR6.1, HR6.2⟩ rfl (K6 2 (by omega) (by omega)) (K6 4 (by omega) (by omega))
      refine r_iadd d_Mo_ticks_59 ?_
      refine r_ri (nI_add _ _) ?_
      refine r_istore_n d_Mo_ticks_60 (Nat.le_of_ble_eq_true rfl) ?_
      refine r_iincP d_Mo_ticks_61 rfl (Nat.le_of_ble_eq_true rfl) ?_
      refine r_goto 30 d_Mo_ticks_64 (by decide) ?_
      rw [nI_1]
      obtain ⟨z1, z2, z3, z4, z5, z6⟩ := S6
      have S7 : MDS F6 V6 (sp_step s2) := ⟨z1, z2, z3, z4, z5, (K6 1 (by omega) (by omega)).trans (K5 1 (by omega) (by omega))⟩
      have v06 : V6 0 = nI 0 := (K6 0 (by omega) (by omega)).trans ((K5 0 (by omega) (by omega)).trans v0)
      have := ih (i + 1) (c + sp_left s2) (sp_step s2) h6 F6 V6 (by omega) (frP_tr (frP_tr (frP_tr Fr3 fr42) Fr5) Fr6) M6 S7 v06 (by omega) he
      have e9 : c + (sp_st1 s2).2.2 + (sp_st2 s2).2.2 = c + sp_left s2 := by unfold sp_left; omega
      rw [e9]
      exact r_loc _ (fun q hq => by simp at hq; rcases hq with q | q | q | q <;> subst q <;> rfl) this
  refine r_iconst 0 d_Mo_ticks_26 (by decide) ?_
  refine r_ri (show (0 : Int32) = nI 0 by decide) ?_
  refine r_istore_n d_Mo_ticks_27 (Nat.le_of_ble_eq_true rfl) ?_
  refine r_iconst 0 d_Mo_ticks_28 (by decide) ?_
  refine r_ri (show (0 : Int32) = nI 0 by decide) ?_
  refine r_istore_n d_Mo_ticks_29 (Nat.le_of_ble_eq_true rfl) ?_
  exact r_loc _ (fun q hq => by simp at hq; rcases hq with q | q | q | q <;> subst q <;> rfl) (key n 0 0 s h2 F _ (by omega) Fr2 M2 H1.f rfl hcap rfl)
