/-! THE REFERENCE: the row is closed up -/
abbrev sp_W : Type := sp_B × Nat × Option (Nat × Nat)
def oF : Option (Nat × Nat) → Int32
  | some x => nI x.1
  | none => -5
def oL : Option (Nat × Nat) → Int32
  | some x => nI x.2
  | none => -5
def cellW (F : Nat → Nat → Int32) (p : Nat) (w : sp_W) : Prop := cellB F p w.1 ∧ F 14 p = nI w.2.1 ∧ F 15 p = oF w.2.2 ∧ F 16 p = oL w.2.2
theorem cellW.ch {F F' : Nat → Nat → Int32} {p : Nat} {w : sp_W} {D : Nat → Nat → Prop} (H : cellW F p w) (C : ch D F F') (hd : ∀ j, 9 ≤ j → j ≤ 16 → ¬ D j p) : cellW F' p w := by
  obtain ⟨a1, a2, a3, a4⟩ := H
  exact ⟨a1.ch C (fun j h1 h2 => hd j h1 (by omega)), (C 14 p (hd _ (by omega) (by omega))).trans a2, (C 15 p (hd _ (by omega) (by omega))).trans a3, (C 16 p (hd _ (by omega) (by omega))).trans a4⟩
theorem cellW.cpy {F : Nat → Nat → Int32} {t p : Nat} {w : sp_W} (H : cellW F p w) : cellW (cpy9 F t p) t w := by
  obtain ⟨⟨a1, a2, a3, a4, a5⟩, b1, b2, b3⟩ := H
  have e : ∀ j, 9 ≤ j → j ≤ 16 → cpy9 F t p j t = F j p := fun j h1 h2 => if_pos ⟨h1, h2, rfl⟩
  exact ⟨⟨(e _ (by omega) (by omega)).trans a1, (e _ (by omega) (by omega)).trans a2, (e _ (by omega) (by omega)).trans a3, (e _ (by omega) (by omega)).trans a4, (e _ (by omega) (by omega)).trans a5⟩, (e _ (by omega) (by omega)).trans b1, (e _ (by omega) (by omega)).trans b2, (e _ (by omega) (by omega)).trans b3⟩
theorem ch_cpy {F : Nat → Nat → Int32} {t p : Nat} : ch (fun j i => 9 ≤ j ∧ j ≤ 16 ∧ i = t) F (cpy9 F t p) := fun j i h => if_neg h
def tagK (B : List (Nat × Nat)) (b : sp_B) : Option sp_W := (sp_goal B b).map (fun k => (b, k, some (b.1, b.2.1)))
def keptW (B : List (Nat × Nat)) (row : List sp_B) : List sp_W := row.filterMap (tagK B)
/-- the row of a lane while a tick goes on -/
def MW (F : Nat → Nat → Int32) (ln : Nat) (W : List sp_W) : Prop := F 8 ln = nI W.length ∧ W.length ≤ 4 ∧ ∀ (i : Nat) (w : sp_W), W[i]? = some w → cellW F (5 * ln + i) w
/-- the row of a lane -/
def MB (F : Nat → Nat → Int32) (ln : Nat) (row : List sp_B) : Prop := F 8 ln = nI row.length ∧ row.length ≤ 4 ∧ (∀ b ∈ row, okB b) ∧ ∀ (i : Nat) (b : sp_B), row[i]? = some b → cellB F (5 * ln + i) b
def Dbo (ln j i : Nat) : Prop := 9 ≤ j ∧ j ≤ 16 ∧ 5 * ln ≤ i ∧ i < 5 * ln + 5
def Dgo (ln j i : Nat) : Prop := Dlv ln j i ∨ (j = 8 ∧ i = ln) ∨ Dbo ln j i
def fromP (B : List (Nat × Nat)) (y : sp_B) (m : Nat) (o : Option Nat) : Prop := (o = none ∧ ∀ j, m ≤ j → ∀ x, B[j]? = some x → ¬ meets y x) ∨ (∃ k, o = some k ∧ k < B.length ∧ m ≤ k ∧ (∃ x, B[k]? = some x ∧ meets y x) ∧ ∀ j, m ≤ j → j < k → ∀ x, B[j]? = some x → ¬ meets y x)
theorem fromP_0 {B : List (Nat × Nat)} {y : sp_B} {o : Option Nat} (h : fromP B y 0 o) : o = sp_goal B y := by
  rcases h with ⟨e, h⟩ | ⟨k, e, hk, _, h1, h2⟩
  · rw [e, goal_none (fun x hx => by obtain ⟨j, hj⟩ := List.getElem?_of_mem hx; exact h j (by omega) x hj)]
  · rw [e, goal_some hk ⟨h1, fun j hj => h2 j (by omega) hj⟩]
theorem c_Mo_goOn {l : Launch} (htr : l.stackTraces = false) {d : Nat} {h : ac_H} {Φ : ac_R → ac_H → Prop} {ln : Nat} {row : List sp_B} {B : List (Nat × Nat)} {c : Nat → Int32} {R : List Int32} {F : Nat → Nat → Int32} {V : Nat → Int32} (hd : 2 ≤ d) (hl : ln < 2) (M : MD h F V) (HM : MB F ln row) (HB : MBl F V B) (hB : okBl B) (hB4 : B.length ≤ 4) (HC : MCo F ln c) (HR : MR F V R) (hcap : R.length + ownN row ≤ 512)
    (hΦ : ∀ h' F' V', frP h h' mod9 → MD h' F' V' → ch (Dgo ln) F F' → vk V V' → MW F' ln (keptW B row) → MCo F' ln (sp_cnts (sp_gone B row) c) → MR F' V' (R ++ (sp_gone B row).flatMap sp_rf) → Φ (.inl (some (.int (nI (sp_gone B row).length)))) h') : ac_Mt l d m_Mo_goOn [.ref 57, .int (nI ln)] h 0 0 Φ := by
  obtain ⟨r0, r4, rok, rc⟩ := HM
  refine ac_enter (by decide) rfl htr (fun _ => Nat.le_of_ble_eq_true rfl) ?_
  have key : ∀ (rest pre : List sp_B) (h2 : ac_H) (F2 : Nat → Nat → Int32) (V2 : Nat → Int32), row = pre ++ rest → frP h h2 mod9 → MD h2 F2 V2 → ch (Dgo ln) F F2 → vk V V2 → F2 8 ln = nI row.length → (keptW B pre).length ≤ pre.length → (∀ (t : Nat) (w : sp_W), (keptW B pre)[t]? = some w → cellW F2 (5 * ln + t) w) → (∀ (t : Nat) (b : sp_B), rest[t]? = some b → cellB F2 (5 * ln + (pre.length + t)) b) → MCo F2 ln (sp_cnts (sp_gone B pre) c) → MR F2 V2 (R ++ (sp_gone B pre).flatMap sp_rf) → ac_G (l, d, m_Mo_goOn, 0, 0, Φ, h.length, none) 7 [(4, .int (nI pre.length)), (3, .int (nI (sp_gone B pre).length)), (2, .int (nI (keptW B pre).length)), (0, .ref 57), (1, .int (nI ln))] [] h2 0 0 := by
    intro rest
    induction rest with
    | nil =>
      intro pre h2 F2 V2 e Fr2 M2 C2 K2 e8 hk cw cb HC2 HR2
      rw [List.append_nil] at e
      subst e
      refine r_iload d_Mo_goOn_7 rfl ?_
      refine r_aload_n d_Mo_goOn_9 rfl ?_
      refine r_getfield d_Mo_goOn_10 f_Mo_34 M2.1 rfl ?_
      refine r_iload_n d_Mo_goOn_13 rfl ?_
      refine r_ialoadN d_Mo_goOn_14 (md_bodies M2) (show ln < 2 by omega) (by omega) ?_
      refine r_ri e8 ?_
      refine r_icmp_ge 155 d_Mo_goOn_15 (by decide) (fun c1 => ?_) (fun c1 => absurd (nI_le (Nat.le_refl _) (by omega)) c1)
      refine r_aload_n d_Mo_goOn_155 rfl ?_
      refine r_getfield d_Mo_goOn_156 f_Mo_34 M2.1 rfl ?_
      refine r_iload_n d_Mo_goOn_159 rfl ?_
      refine r_iload_n d_Mo_goOn_160 rfl ?_
      refine r_mst 8 d_Mo_goOn_161 (by omega) (show ln < 2 by omega) M2 (fun h161_ fr161 M161 => ?_)
      refine r_iload_n d_Mo_goOn_162 rfl ?_
      refine r_iret d_Mo_goOn_163 rfl (hΦ _ _ V2 (frP_tr Fr2 fr161) M161 (ch_tr C2 (ch_up (Or.inr (Or.inl ⟨rfl, rfl⟩)))) K2 ⟨up2_eq, by omega, fun t w hw => (cw t w hw).ch (ch_up (D := fun j i => j = 8 ∧ i = ln) ⟨rfl, rfl⟩) (fun j h1 h2 z => by omega)⟩ (HC2.ch (ch_up (D := fun j i => j = 8 ∧ i = ln) ⟨rfl, rfl⟩) (fun i _ _ z => by omega)) (HR2.ch (ch_up (D := fun j i => j = 8 ∧ i = ln) ⟨rfl, rfl⟩) rfl (fun i z => by omega))) (Nat.le_refl _) (Nat.le_refl _)
    | cons y rest ih =>
      intro pre h2 F2 V2 e Fr2 M2 C2 K2 e8 hk cw cb HC2 HR2
      have hlen : row.length = pre.length + (rest.length + 1) := by rw [e, List.length_append, List.length_cons]
      have hy : y ∈ row := by rw [e]; simp
      have oky := rok y hy
      obtain ⟨o1, o2, o3, o4, o5⟩ := id oky
      have cy := cb 0 y rfl
      rw [Nat.add_zero] at cy
      obtain ⟨b1, b2, b3, b4, b5⟩ := id cy
      have HB2 : MBl F2 V2 B := HB.ch C2 (K2 3 (by omega)) (fun i => ⟨by unfold Dgo Dlv Dbo; omega, by unfold Dgo Dlv Dbo; omega⟩)
      have lenp : (pre ++ [y]).length = pre.length + 1 := by rw [List.length_append]; rfl
      have ep : row = (pre ++ [y]) ++ rest := by rw [e]; simp
      refine r_iload d_Mo_goOn_7 rfl ?_
      refine r_aload_n d_Mo_goOn_9 rfl ?_
      refine r_getfield d_Mo_goOn_10 f_Mo_34 M2.1 rfl ?_
      refine r_iload_n d_Mo_goOn_13 rfl ?_
      refine r_ialoadN d_Mo_goOn_14 (md_bodies M2) (show ln < 2 by omega) (by omega) ?_
      refine r_ri e8 ?_
      refine r_icmp_ge 155 d_Mo_goOn_15 (by decide) (fun c1 => absurd ((nI_leI (by omega) (by omega)).mp c1) (by omega)) (fun c1 => ?_)
      refine r_iconst 5 d_Mo_goOn_18 (by decide) ?_
      refine r_iload_n d_Mo_goOn_19 rfl ?_
      refine r_ri2 (show (5 : Int32) = nI 5 by decide) ?_
      refine r_imul d_Mo_goOn_20 ?_
      refine r_ri (pk_mul _ _) ?_
      refine r_iload d_Mo_goOn_21 rfl ?_
      refine r_iadd d_Mo_goOn_23 ?_
      refine r_ri (nI_add _ _) ?_
      refine r_istore d_Mo_goOn_24 (Nat.le_of_ble_eq_true rfl) ?_
      -- the search ends with the goal
      have found : ac_G (l, d, m_Mo_goOn, 0, 0, Φ, h.length, none) 80 [(6, .int (gI (sp_goal B y))), (5, .int (nI (5 * ln + pre.length))), (4, .int (nI pre.length)), (3, .int (nI (sp_gone B pre).length)), (2, .int (nI (keptW B pre).length)), (0, .ref 57), (1, .int (nI ln))] [] h2 0 0 := by
        refine r_iload d_Mo_goOn_80 rfl ?_
        cases hg : sp_goal B y with
        | none =>
          have eg : sp_gone B (pre ++ [y]) = sp_gone B pre ++ [y] := by
            unfold sp_gone
            rw [List.filter_append, List.filter_cons_of_pos (by rw [hg]; rfl), List.filter_nil]
          have ek : keptW B (pre ++ [y]) = keptW B pre := by
            unfold keptW
            rw [List.filterMap_append, List.filterMap_cons_none (by unfold tagK; rw [hg]; rfl), List.filterMap_nil, List.append_nil]
          have hcapp : ¬ y.2.2.2.1 = -1 → (R ++ (sp_gone B pre).flatMap sp_rf).length < 512 := by
            intro hy9
            rw [List.length_append]
            have h1 := sp_rfs_le (sp_gone B pre)
            have h2 : ownN (sp_gone B pre) ≤ ownN pre := ownN_f _ _
            rw [e, ownN_a, ownN_c, if_neg hy9] at hcap
            omega
          refine r_if_ge 98 d_Mo_goOn_82 (by decide) (fun c2 => absurd c2 (by decide)) (fun c2 => ?_)
          refine r_aload_n d_Mo_goOn_85 rfl ?_
          refine r_iload_n d_Mo_goOn_86 rfl ?_
          refine r_iload d_Mo_goOn_87 rfl ?_
          refine r_cVv [.int (nI ln), .int (nI (5 * ln + pre.length))] 57 (d - 1) 0 0 (fun h' => ∃ F' V', frP h2 h' mod9 ∧ MD h' F' V' ∧ ch (Dlv ln) F2 F' ∧ vk V2 V' ∧ MCo F' ln (sp_cnt y (sp_cnts (sp_gone B pre) c)) ∧ MR F' V' ((R ++ (sp_gone B pre).flatMap sp_rf) ++ sp_rf y)) d_Mo_goOn_89 q_Mo_103 M2.1 rfl rfl (c_Mo_leave htr (by omega) hl (by omega) M2 cy oky HC2 HR2 hcapp (fun h' F' V' f' G1 G2 G3 G4 G5 => ⟨rfl, F', V', f', G1, G2, G3, G4, G5⟩)) (by show d - 1 + 1 ≤ d; omega) (Nat.le_refl _) (Nat.le_refl _) (Nat.le_of_ble_eq_true rfl) (fun h3 e3 => ?_)
          obtain ⟨F3, V3, Fr3, M3, C3, K3, HC3, HR3⟩ := e3
          refine r_iincP d_Mo_goOn_92 rfl (Nat.le_of_ble_eq_true rfl) ?_
          refine r_goto 149 d_Mo_goOn_95 (by decide) ?_
          refine r_iincP d_Mo_goOn_149 rfl (Nat.le_of_ble_eq_true rfl) ?_
          refine r_goto 7 d_Mo_goOn_152 (by decide) ?_
          rw [nI_1, nI_1]
          have := ih (pre ++ [y]) h3 F3 V3 ep (frP_tr Fr2 Fr3) M3 (ch_tr C2 (ch_mo C3 (fun j i z => Or.inl z))) (vk_tr K2 K3) ((C3 8 ln (by unfold Dlv; omega)).trans e8) (by rw [ek, lenp]; omega) (fun t w hw => (cw t w (by rw [← ek]; exact hw)).ch C3 (fun j h1 h2 => by unfold Dlv; omega)) (fun t b hb => by
            have := (cb (t + 1) b (by rw [List.getElem?_cons_succ]; exact hb)).ch C3 (fun j h1 h2 => by unfold Dlv; omega)
            have e9 : pre.length + (t + 1) = pre.length + 1 + t := by omega
            rw [lenp, ← e9]; exact this) (by rw [eg]; unfold sp_cnts; rw [List.foldl_append]; exact HC3) (by rw [eg, List.flatMap_append, ← List.append_assoc]; simpa using HR3)
          rw [eg, ek, lenp, List.length_append] at this
          exact r_loc _ (fun q hq => by simp at hq; rcases hq with q | q | q | q | q <;> subst q <;> rfl) this
        | some k =>
          have hkB := goal_lt hg
          have eg : sp_gone B (pre ++ [y]) = sp_gone B pre := by
            unfold sp_gone
            rw [List.filter_append, List.filter_cons_of_neg (by rw [hg]; simp), List.filter_nil, List.append_nil]
          have ek : keptW B (pre ++ [y]) = keptW B pre ++ [(y, k, some (y.1, y.2.1))] := by
            unfold keptW
            rw [List.filterMap_append, List.filterMap_cons_some (b := (y, k, some (y.1, y.2.1))) (by unfold tagK; rw [hg]; rfl), List.filterMap_nil]
          refine r_if_ge 98 d_Mo_goOn_82 (by decide) (fun c2 => ?_) (fun c2 => absurd (nI_pos' (by omega)) c2)
          refine r_aload_n d_Mo_goOn_98 rfl ?_
          refine r_getfield d_Mo_goOn_99 f_Mo_52 M2.1 rfl ?_
          refine r_iload d_Mo_goOn_102 rfl ?_
          refine r_iload d_Mo_goOn_104 rfl ?_
          refine r_mst 14 d_Mo_goOn_106 (by omega) (show 5*ln+pre.length < 10 by omega) M2 (fun h106_ fr106 M106 => ?_)
          refine r_aload_n d_Mo_goOn_107 rfl ?_
          refine r_getfield d_Mo_goOn_108 f_Mo_55 M106.1 rfl ?_
          refine r_iload d_Mo_goOn_111 rfl ?_
          refine r_aload_n d_Mo_goOn_113 rfl ?_
          refine r_getfield d_Mo_goOn_114 f_Mo_37 M106.1 rfl ?_
          refine r_iload d_Mo_goOn_117 rfl ?_
          refine r_ialoadN d_Mo_goOn_119 (md_first M106) (show 5*ln+pre.length < 10 by omega) (by omega) ?_
          refine r_ri ((up2_ne (by omega)).trans b1) ?_
          refine r_mst 15 d_Mo_goOn_120 (by omega) (show 5*ln+pre.length < 10 by omega) M106 (fun h120_ fr120 M120 => ?_)
          refine r_aload_n d_Mo_goOn_121 rfl ?_
          refine r_getfield d_Mo_goOn_122 f_Mo_58 M120.1 rfl ?_
          refine r_iload d_Mo_goOn_125 rfl ?_
          refine r_aload_n d_Mo_goOn_127 rfl ?_
          refine r_getfield d_Mo_goOn_128 f_Mo_40 M120.1 rfl ?_
          refine r_iload d_Mo_goOn_131 rfl ?_
          refine r_ialoadN d_Mo_goOn_133 (md_last M120) (show 5*ln+pre.length < 10 by omega) (by omega) ?_
          refine r_ri ((up2_ne (by omega)).trans ((up2_ne (by omega)).trans b2)) ?_
          refine r_mst 16 d_Mo_goOn_134 (by omega) (show 5*ln+pre.length < 10 by omega) M120 (fun h134_ fr134 M134 => ?_)
          refine r_aload_n d_Mo_goOn_135 rfl ?_
          refine r_iconst 5 d_Mo_goOn_136 (by decide) ?_
          refine r_iload_n d_Mo_goOn_137 rfl ?_
          refine r_ri2 (show (5 : Int32) = nI 5 by decide) ?_
          refine r_imul d_Mo_goOn_138 ?_
          refine r_ri (pk_mul _ _) ?_
          refine r_iload_n d_Mo_goOn_139 rfl ?_
          refine r_iadd d_Mo_goOn_140 ?_
          refine r_ri (nI_add _ _) ?_
          refine r_iload d_Mo_goOn_141 rfl ?_
          -- the cell before it is copied
          have C134 : ch (fun j i => (j = 14 ∨ j = 15 ∨ j = 16) ∧ i = 5 * ln + pre.length) F2 (up2 (up2 (up2 F2 14 (5 * ln + pre.length) (nI k)) 15 (5 * ln + pre.length) (nI y.1)) 16 (5 * ln + pre.length) (nI y.2.1)) := ch_tr (ch_tr (ch_up ⟨by omega, rfl⟩) (ch_up ⟨by omega, rfl⟩)) (ch_up ⟨by omega, rfl⟩)
          have cW : cellW (up2 (up2 (up2 F2 14 (5 * ln + pre.length) (nI k)) 15 (5 * ln + pre.length) (nI y.1)) 16 (5 * ln + pre.length) (nI y.2.1)) (5 * ln + pre.length) (y, k, some (y.1, y.2.1)) := ⟨cy.ch C134 (fun j h1 h2 z => by omega), (up2_ne (by omega)).trans ((up2_ne (by omega)).trans up2_eq), (up2_ne (by omega)).trans up2_eq, up2_eq⟩
          have eg9 : gI (some k) = nI k := rfl
          rw [eg9] at M134
          generalize up2 (up2 (up2 F2 14 (5 * ln + pre.length) (nI k)) 15 (5 * ln + pre.length) (nI y.1)) 16 (5 * ln + pre.length) (nI y.2.1) = F4 at *
          refine r_cVv [.int (nI (5 * ln + (keptW B pre).length)), .int (nI (5 * ln + pre.length))] 57 (d - 1) 0 0 (fun h' => frP h134_ h' mod9 ∧ MD h' (cpy9 F4 (5 * ln + (keptW B pre).length) (5 * ln + pre.length)) V2) d_Mo_goOn_143 q_Mo_107 M134.1 rfl rfl (c_Mo_copy htr (by omega) (by omega) M134 (fun h' f' G1 => ⟨rfl, f', G1⟩)) (by show d - 1 + 1 ≤ d; omega) (Nat.le_refl _) (Nat.le_refl _) (Nat.le_of_ble_eq_true rfl) (fun h5 e5 => ?_)
          obtain ⟨Fr5, M5⟩ := e5
          have CC : ch (fun j i => 9 ≤ j ∧ j ≤ 16 ∧ (i = 5 * ln + pre.length ∨ i = 5 * ln + (keptW B pre).length)) F2 (cpy9 F4 (5 * ln + (keptW B pre).length) (5 * ln + pre.length)) := ch_tr (ch_mo C134 (fun j i z => by omega)) (ch_mo ch_cpy (fun j i z => by omega))
          refine r_iincP d_Mo_goOn_146 rfl (Nat.le_of_ble_eq_true rfl) ?_
          refine r_iincP d_Mo_goOn_149 rfl (Nat.le_of_ble_eq_true rfl) ?_
          refine r_goto 7 d_Mo_goOn_152 (by decide) ?_
          rw [nI_1, nI_1]
          have := ih (pre ++ [y]) h5 _ V2 ep (frP_tr (frP_tr (frP_tr (frP_tr Fr2 fr106) fr120) fr134) Fr5) M5 (ch_tr C2 (ch_mo CC (fun j i z => Or.inr (Or.inr (by unfold Dbo; omega))))) K2 ((CC 8 ln (by omega)).trans e8) (by rw [ek, lenp, List.length_append, List.length_singleton]; omega) (fun t w hw => by
            rw [ek] at hw
            by_cases ht : t < (keptW B pre).length
            · rw [List.getElem?_append_left ht] at hw
              exact (cw t w hw).ch CC (fun j h1 h2 z => by omega)
            · rw [List.getElem?_append_right (by omega)] at hw
              have h1 : t - (keptW B pre).length < 1 := (List.getElem?_eq_some_iff.mp hw).1
              have e9 : t = (keptW B pre).length := by omega
              subst e9
              rw [Nat.sub_self] at hw
              cases hw
              exact cW.cpy) (fun t b hb => by
            have := (cb (t + 1) b (by rw [List.getElem?_cons_succ]; exact hb)).ch CC (fun j h1 h2 z => by omega)
            have e9 : pre.length + (t + 1) = pre.length + 1 + t := by omega
            rw [lenp, ← e9]; exact this) (by rw [eg]; exact HC2.ch CC (fun i _ _ z => by omega)) (by rw [eg]; exact HR2.ch CC rfl (fun i z => by omega))
          rw [eg, ek, lenp, List.length_append] at this
          exact r_loc _ (fun q hq => by simp at hq; rcases hq with q | q | q | q | q <;> subst q <;> rfl) this
      -- the search
      have inner : ∀ (m : Nat) (o : Option Nat), m ≤ B.length → fromP B y m o → ac_G (l, d, m_Mo_goOn, 0, 0, Φ, h.length, none) 37 [(7, .int (nI m - 1)), (6, .int (gI o)), (5, .int (nI (5 * ln + pre.length))), (4, .int (nI pre.length)), (3, .int (nI (sp_gone B pre).length)), (2, .int (nI (keptW B pre).length)), (0, .ref 57), (1, .int (nI ln))] [] h2 0 0 := by
        intro m
        induction m with
        | zero =>
          intro o _ hP
          refine r_iload d_Mo_goOn_37 rfl ?_
          refine r_if_lt 80 d_Mo_goOn_39 (by decide) (fun c1 => ?_) (fun c1 => absurd (by decide) c1)
          have eo := fromP_0 hP
          subst eo
          exact r_loc _ (fun q hq => by simp at hq; rcases hq with q | q | q | q | q | q | q <;> subst q <;> rfl) found
        | succ m ihm =>
          intro o hm hP
          rw [nI_pred]
          have hx := List.getElem?_eq_getElem (show m < B.length by omega)
          generalize B[m] = x at hx
          refine r_iload d_Mo_goOn_37 rfl ?_
          refine r_if_lt 80 d_Mo_goOn_39 (by decide) (fun c1 => absurd c1 (nI_pos (by omega))) (fun c1 => ?_)
          refine r_aload_n d_Mo_goOn_42 rfl ?_
          refine r_aload_n d_Mo_goOn_43 rfl ?_
          refine r_getfield d_Mo_goOn_44 f_Mo_37 M2.1 rfl ?_
          refine r_iload d_Mo_goOn_47 rfl ?_
          refine r_ialoadN d_Mo_goOn_49 (md_first M2) (show 5*ln+pre.length < 10 by omega) (by omega) ?_
          refine r_ri b1 ?_
          refine r_aload_n d_Mo_goOn_50 rfl ?_
          refine r_getfield d_Mo_goOn_51 f_Mo_40 M2.1 rfl ?_
          refine r_iload d_Mo_goOn_54 rfl ?_
          refine r_ialoadN d_Mo_goOn_56 (md_last M2) (show 5*ln+pre.length < 10 by omega) (by omega) ?_
          refine r_ri b2 ?_
          refine r_iload d_Mo_goOn_57 rfl ?_
          refine r_cVi [.int (nI y.1), .int (nI y.2.1), .int (nI m)] 57 (d - 1) 0 0 (b01 (meets y x)) (fun h' => h2 = h') d_Mo_goOn_59 q_Mo_99 M2.1 rfl rfl (c_Mo_meets htr M2 HB2 hB (by omega) hx (by omega) (by omega) ⟨rfl, rfl⟩) (by show d - 1 + 1 ≤ d; omega) (Nat.le_refl _) (Nat.le_refl _) (Nat.le_of_ble_eq_true rfl) (fun h' e9 => ?_)
          subst e9
          have go : ∀ o' : Option Nat, fromP B y m o' → ac_G (l, d, m_Mo_goOn, 0, 0, Φ, h.length, none) 72 [(7, .int (nI m)), (6, .int (gI o)), (5, .int (nI (5 * ln + pre.length))), (4, .int (nI pre.length)), (3, .int (nI (sp_gone B pre).length)), (2, .int (nI (keptW B pre).length)), (0, .ref 57), (1, .int (nI ln))] [.int (gI o')] h2 0 0 := by
            intro o' hP'
            refine r_istore d_Mo_goOn_72 (Nat.le_of_ble_eq_true rfl) ?_
            refine r_iincM d_Mo_goOn_74 rfl (Nat.le_of_ble_eq_true rfl) ?_
            refine r_goto 37 d_Mo_goOn_77 (by decide) ?_
            exact r_loc _ (fun q hq => by simp at hq; rcases hq with q | q | q | q | q | q | q | q <;> subst q <;> rfl) (ihm o' (by omega) hP')
          refine r_if_eq 70 d_Mo_goOn_62 (by decide) (fun c2 => ?_) (fun c2 => ?_)
          · have hn := b01_0.mp c2
            refine r_iload d_Mo_goOn_70 rfl ?_
            refine go o ?_
            rcases hP with ⟨e1, e2⟩ | ⟨k, e1, e2, e3, e4, e5⟩
            · refine Or.inl ⟨e1, fun j hj x' hx' => ?_⟩
              by_cases ej : j = m
              · subst ej; rw [hx] at hx'; cases hx'; exact hn
              · exact e2 j (by omega) x' hx'
            · refine Or.inr ⟨k, e1, e2, by omega, e4, fun j hj hjk x' hx' => ?_⟩
              by_cases ej : j = m
              · subst ej; rw [hx] at hx'; cases hx'; exact hn
              · exact e5 j (by omega) hjk x' hx'
          · have hm9 : meets y x := Classical.byContradiction fun z => c2 (b01_f z)
            refine r_iload d_Mo_goOn_65 rfl ?_
            refine r_goto 72 d_Mo_goOn_67 (by decide) ?_
            exact go (some m) (Or.inr ⟨m, rfl, by omega, Nat.le_refl _, ⟨x, hx, hm9⟩, fun j h1 h2 => absurd h1 (by omega)⟩)
      refine r_iconst (-1) d_Mo_goOn_26 (by decide) ?_
      refine r_istore d_Mo_goOn_27 (Nat.le_of_ble_eq_true rfl) ?_
      refine r_aload_n d_Mo_goOn_29 rfl ?_
      refine r_getfield d_Mo_goOn_30 f_Mo_92 M2.1 rfl ?_
      refine r_ri HB2.1 ?_
      refine r_iconst 1 d_Mo_goOn_33 (by decide) ?_
      refine r_isub d_Mo_goOn_34 ?_
      refine r_istore d_Mo_goOn_35 (Nat.le_of_ble_eq_true rfl) ?_
      exact r_loc _ (fun q hq => by simp at hq; rcases hq with q | q | q | q | q | q | q | q <;> subst q <;> rfl) (inner B.length none (Nat.le_refl _) (Or.inl ⟨rfl, fun j hj x hx => absurd (List.getElem?_eq_some_iff.mp hx).1 (by omega)⟩))
  refine r_iconst 0 d_Mo_goOn_0 (by decide) ?_
  refine r_ri (show (0 : Int32) = nI 0 by decide) ?_
  refine r_istore_n d_Mo_goOn_1 (Nat.le_of_ble_eq_true rfl) ?_
  refine r_iconst 0 d_Mo_goOn_2 (by decide) ?_
  refine r_ri (show (0 : Int32) = nI 0 by decide) ?_
  refine r_istore_n d_Mo_goOn_3 (Nat.le_of_ble_eq_true rfl) ?_
  refine r_iconst 0 d_Mo_goOn_4 (by decide) ?_
  refine r_ri (show (0 : Int32) = nI 0 by decide) ?_
  refine r_istore d_Mo_goOn_5 (Nat.le_of_ble_eq_true rfl) ?_
  exact r_loc _ (fun q hq => by simp at hq; rcases hq with q | q | q | q | q <;> subst q <;> rfl) (key row [] h F V rfl frP_rf M ch_rf vk_rf r0 (Nat.le_refl 0) (fun t w hw => by cases hw) (fun t b hb => by have := rc t b hb; simpa using this) HC (by simpa [sp_gone] using HR))
