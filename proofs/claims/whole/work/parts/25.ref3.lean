/-! THE REFERENCE: who goes on, who leaves -/
def cpy9 (F : Nat → Nat → Int32) (t f : Nat) : Nat → Nat → Int32 := fun j i => if 9 ≤ j ∧ j ≤ 16 ∧ i = t then F j f else F j i
theorem cpy_eq (F : Nat → Nat → Int32) (t f : Nat) : up2 (up2 (up2 (up2 (up2 (up2 (up2 (up2 F 9 t (F 9 f)) 10 t (F 10 f)) 11 t (F 11 f)) 12 t (F 12 f)) 13 t (F 13 f)) 14 t (F 14 f)) 15 t (F 15 f)) 16 t (F 16 f) = cpy9 F t f := by
  funext j i
  unfold cpy9 up2
  by_cases hi : i = t
  · by_cases hj : 9 ≤ j ∧ j ≤ 16
    · rw [if_pos (show 9 ≤ j ∧ j ≤ 16 ∧ i = t from ⟨hj.1, hj.2, hi⟩)]
      rcases (show j = 9 ∨ j = 10 ∨ j = 11 ∨ j = 12 ∨ j = 13 ∨ j = 14 ∨ j = 15 ∨ j = 16 by omega) with q | q | q | q | q | q | q | q <;> subst q <;> simp [hi]
    · rw [if_neg (show ¬ (9 ≤ j ∧ j ≤ 16 ∧ i = t) from fun z => hj ⟨z.1, z.2.1⟩)]
      repeat rw [if_neg (by omega)]
  · rw [if_neg (show ¬ (9 ≤ j ∧ j ≤ 16 ∧ i = t) from fun z => hi z.2.2)]
    repeat rw [if_neg (fun z => hi z.2)]
theorem c_Mo_copy {l : Launch} (htr : l.stackTraces = false) {d : Nat} {h : ac_H} {Φ : ac_R → ac_H → Prop} {t f : Nat} {F : Nat → Nat → Int32} {V : Nat → Int32} (ht : t < 10) (hf : f < 10) (M : MD h F V) (hΦ : ∀ h', frP h h' mod9 → MD h' (cpy9 F t f) V → Φ (.inl none) h') : ac_Mt l d m_Mo_copy [.ref 57, .int (nI t), .int (nI f)] h 0 0 Φ := by
  refine ac_enter (by decide) rfl htr (fun _ => Nat.le_of_ble_eq_true rfl) ?_
  refine r_aload_n d_Mo_copy_0 rfl ?_
  refine r_getfield d_Mo_copy_1 f_Mo_37 M.1 rfl ?_
  refine r_iload_n d_Mo_copy_4 rfl ?_
  refine r_aload_n d_Mo_copy_5 rfl ?_
  refine r_getfield d_Mo_copy_6 f_Mo_37 M.1 rfl ?_
  refine r_iload_n d_Mo_copy_9 rfl ?_
  refine r_ialoadN d_Mo_copy_10 (md_first M) (show f < 10 by omega) (by omega) ?_
  refine r_mst 9 d_Mo_copy_11 (by omega) (show t < 10 by omega) M (fun h11_ fr11 M11 => ?_)
  refine r_aload_n d_Mo_copy_12 rfl ?_
  refine r_getfield d_Mo_copy_13 f_Mo_40 M11.1 rfl ?_
  refine r_iload_n d_Mo_copy_16 rfl ?_
  refine r_aload_n d_Mo_copy_17 rfl ?_
  refine r_getfield d_Mo_copy_18 f_Mo_40 M11.1 rfl ?_
  refine r_iload_n d_Mo_copy_21 rfl ?_
  refine r_ialoadN d_Mo_copy_22 (md_last M11) (show f < 10 by omega) (by omega) ?_
  refine r_ri (up2_ne (by omega)) ?_
  refine r_mst 10 d_Mo_copy_23 (by omega) (show t < 10 by omega) M11 (fun h23_ fr23 M23 => ?_)
  refine r_aload_n d_Mo_copy_24 rfl ?_
  refine r_getfield d_Mo_copy_25 f_Mo_43 M23.1 rfl ?_
  refine r_iload_n d_Mo_copy_28 rfl ?_
  refine r_aload_n d_Mo_copy_29 rfl ?_
  refine r_getfield d_Mo_copy_30 f_Mo_43 M23.1 rfl ?_
  refine r_iload_n d_Mo_copy_33 rfl ?_
  refine r_ialoadN d_Mo_copy_34 (md_side M23) (show f < 10 by omega) (by omega) ?_
  refine r_ri ((up2_ne (by omega)).trans (up2_ne (by omega))) ?_
  refine r_mst 11 d_Mo_copy_35 (by omega) (show t < 10 by omega) M23 (fun h35_ fr35 M35 => ?_)
  refine r_aload_n d_Mo_copy_36 rfl ?_
  refine r_getfield d_Mo_copy_37 f_Mo_46 M35.1 rfl ?_
  refine r_iload_n d_Mo_copy_40 rfl ?_
  refine r_aload_n d_Mo_copy_41 rfl ?_
  refine r_getfield d_Mo_copy_42 f_Mo_46 M35.1 rfl ?_
  refine r_iload_n d_Mo_copy_45 rfl ?_
  refine r_ialoadN d_Mo_copy_46 (md_owns M35) (show f < 10 by omega) (by omega) ?_
  refine r_ri ((up2_ne (by omega)).trans ((up2_ne (by omega)).trans (up2_ne (by omega)))) ?_
  refine r_mst 12 d_Mo_copy_47 (by omega) (show t < 10 by omega) M35 (fun h47_ fr47 M47 => ?_)
  refine r_aload_n d_Mo_copy_48 rfl ?_
  refine r_getfield d_Mo_copy_49 f_Mo_49 M47.1 rfl ?_
  refine r_iload_n d_Mo_copy_52 rfl ?_
  refine r_aload_n d_Mo_copy_53 rfl ?_
  refine r_getfield d_Mo_copy_54 f_Mo_49 M47.1 rfl ?_
  refine r_iload_n d_Mo_copy_57 rfl ?_
  refine r_ialoadN d_Mo_copy_58 (md_length M47) (show f < 10 by omega) (by omega) ?_
  refine r_ri ((up2_ne (by omega)).trans ((up2_ne (by omega)).trans ((up2_ne (by omega)).trans (up2_ne (by omega))))) ?_
  refine r_mst 13 d_Mo_copy_59 (by omega) (show t < 10 by omega) M47 (fun h59_ fr59 M59 => ?_)
  refine r_aload_n d_Mo_copy_60 rfl ?_
  refine r_getfield d_Mo_copy_61 f_Mo_52 M59.1 rfl ?_
  refine r_iload_n d_Mo_copy_64 rfl ?_
  refine r_aload_n d_Mo_copy_65 rfl ?_
  refine r_getfield d_Mo_copy_66 f_Mo_52 M59.1 rfl ?_
  refine r_iload_n d_Mo_copy_69 rfl ?_
  refine r_ialoadN d_Mo_copy_70 (md_blobOf M59) (show f < 10 by omega) (by omega) ?_
  refine r_ri ((up2_ne (by omega)).trans ((up2_ne (by omega)).trans ((up2_ne (by omega)).trans ((up2_ne (by omega)).trans (up2_ne (by omega)))))) ?_
  refine r_mst 14 d_Mo_copy_71 (by omega) (show t < 10 by omega) M59 (fun h71_ fr71 M71 => ?_)
  refine r_aload_n d_Mo_copy_72 rfl ?_
  refine r_getfield d_Mo_copy_73 f_Mo_55 M71.1 rfl ?_
  refine r_iload_n d_Mo_copy_76 rfl ?_
  refine r_aload_n d_Mo_copy_77 rfl ?_
  refine r_getfield d_Mo_copy_78 f_Mo_55 M71.1 rfl ?_
  refine r_iload_n d_Mo_copy_81 rfl ?_
  refine r_ialoadN d_Mo_copy_82 (md_oldFirst M71) (show f < 10 by omega) (by omega) ?_
  refine r_ri ((up2_ne (by omega)).trans ((up2_ne (by omega)).trans ((up2_ne (by omega)).trans ((up2_ne (by omega)).trans ((up2_ne (by omega)).trans (up2_ne (by omega))))))) ?_
  refine r_mst 15 d_Mo_copy_83 (by omega) (show t < 10 by omega) M71 (fun h83_ fr83 M83 => ?_)
  refine r_aload_n d_Mo_copy_84 rfl ?_
  refine r_getfield d_Mo_copy_85 f_Mo_58 M83.1 rfl ?_
  refine r_iload_n d_Mo_copy_88 rfl ?_
  refine r_aload_n d_Mo_copy_89 rfl ?_
  refine r_getfield d_Mo_copy_90 f_Mo_58 M83.1 rfl ?_
  refine r_iload_n d_Mo_copy_93 rfl ?_
  refine r_ialoadN d_Mo_copy_94 (md_oldLast M83) (show f < 10 by omega) (by omega) ?_
  refine r_ri ((up2_ne (by omega)).trans ((up2_ne (by omega)).trans ((up2_ne (by omega)).trans ((up2_ne (by omega)).trans ((up2_ne (by omega)).trans ((up2_ne (by omega)).trans (up2_ne (by omega)))))))) ?_
  refine r_mst 16 d_Mo_copy_95 (by omega) (show t < 10 by omega) M83 (fun h95_ fr95 M95 => ?_)
  rw [cpy_eq] at M95
  exact r_vret d_Mo_copy_96 rfl (hΦ _ (frP_tr (frP_tr (frP_tr (frP_tr (frP_tr (frP_tr (frP_tr fr11 fr23) fr35) fr47) fr59) fr71) fr83) fr95) M95) (Nat.le_refl _) (Nat.le_refl _)
def cellB (F : Nat → Nat → Int32) (p : Nat) (b : sp_B) : Prop := F 9 p = nI b.1 ∧ F 10 p = nI b.2.1 ∧ F 11 p = nI b.2.2.1 ∧ F 12 p = b.2.2.2.1 ∧ F 13 p = nI b.2.2.2.2
theorem cellB.ch {F F' : Nat → Nat → Int32} {p : Nat} {b : sp_B} {D : Nat → Nat → Prop} (H : cellB F p b) (C : ch D F F') (hd : ∀ j, 9 ≤ j → j ≤ 13 → ¬ D j p) : cellB F' p b := by
  obtain ⟨a1, a2, a3, a4, a5⟩ := H
  exact ⟨(C 9 p (hd _ (by omega) (by omega))).trans a1, (C 10 p (hd _ (by omega) (by omega))).trans a2, (C 11 p (hd _ (by omega) (by omega))).trans a3, (C 12 p (hd _ (by omega) (by omega))).trans a4, (C 13 p (hd _ (by omega) (by omega))).trans a5⟩
def MCo (F : Nat → Nat → Int32) (ln : Nat) (c : Nat → Int32) : Prop := ∀ k, k < 5 → F 7 (5 * ln + k) = c k
theorem MCo.inc {F : Nat → Nat → Int32} {ln k : Nat} {c : Nat → Int32} (H : MCo F ln c) : MCo (up2 F 7 (5 * ln + k) (c k + 1)) ln (sp_inc c k) := by
  intro j hj
  unfold sp_inc upd
  by_cases e : j = k
  · subst e; rw [if_pos rfl]; exact up2_eq
  · rw [if_neg e, up2_ne (by omega)]; exact H j hj
theorem MCo.ch {F F' : Nat → Nat → Int32} {ln : Nat} {c : Nat → Int32} {D : Nat → Nat → Prop} (H : MCo F ln c) (C : ch D F F') (hd : ∀ i, 5 * ln ≤ i → i < 5 * ln + 5 → ¬ D 7 i) : MCo F' ln c := fun k hk => (C 7 _ (hd _ (by omega) (by omega))).trans (H k hk)
theorem own_lt {b : sp_B} (ok : okB b) : b.2.2.2.1 < 0 ↔ b.2.2.2.1 = -1 := by
  rcases ok.2.2.2.2 with e | e
  · rw [e]; decide
  · refine ⟨fun z => ?_, fun z => by rw [z]; decide⟩
    rw [Int32.lt_iff_toInt_lt, Int32.toInt_zero] at z
    omega
def D7 (ln j i : Nat) : Prop := j = 7 ∧ 5 * ln ≤ i ∧ i < 5 * ln + 5
def Dlv (ln j i : Nat) : Prop := (j = 7 ∧ 5 * ln ≤ i ∧ i < 5 * ln + 5) ∨ j = 24
def vk (V V' : Nat → Int32) : Prop := ∀ i, ¬ i = 5 → V' i = V i
theorem vk_rf {V : Nat → Int32} : vk V V := fun _ _ => rfl
theorem vk_tr {V V1 V2 : Nat → Int32} (a : vk V V1) (b : vk V1 V2) : vk V V2 := fun i hi => (b i hi).trans (a i hi)
theorem vk_up {V : Nat → Int32} {x : Int32} : vk V (upd V 5 x) := fun _ hi => if_neg hi
theorem c_Mo_leave {l : Launch} (htr : l.stackTraces = false) {d : Nat} {h : ac_H} {Φ : ac_R → ac_H → Prop} {ln p : Nat} {y : sp_B} {c : Nat → Int32} {R : List Int32} {F : Nat → Nat → Int32} {V : Nat → Int32} (hd : 1 ≤ d) (hl : ln < 2) (hp : p < 10) (M : MD h F V) (HB : cellB F p y) (ok : okB y) (HC : MCo F ln c) (HR : MR F V R) (hcap : ¬ y.2.2.2.1 = -1 → R.length < 512)
    (hΦ : ∀ h' F' V', frP h h' mod9 → MD h' F' V' → ch (Dlv ln) F F' → vk V V' → MCo F' ln (sp_cnt y c) → MR F' V' (R ++ sp_rf y) → Φ (.inl none) h') : ac_Mt l d m_Mo_leave [.ref 57, .int (nI ln), .int (nI p)] h 0 0 Φ := by
  obtain ⟨b1, b2, b3, b4, b5⟩ := id HB
  obtain ⟨o1, o2, o3, o4, o5⟩ := id ok
  refine ac_enter (by decide) rfl htr (fun _ => Nat.le_of_ble_eq_true rfl) ?_
  -- the counts stand; what is given back
  have last : ∀ (tv uv kv : Int32) (h2 : ac_H) (F2 : Nat → Nat → Int32), (tv = 0 ↔ ¬ thru y) → frP h h2 mod9 → MD h2 F2 V → ch (D7 ln) F F2 → MCo F2 ln (sp_cnt y c) → ac_G (l, d, m_Mo_leave, 0, 0, Φ, h.length, none) 164 [(5, .int kv), (4, .int uv), (3, .int tv), (0, .ref 57), (1, .int (nI ln)), (2, .int (nI p))] [] h2 0 0 := by
    intro tv uv kv h2 F2 ht Fr2 M2 C2 HC2
    have b42 : F2 12 p = y.2.2.2.1 := (C2 12 p (by unfold D7; omega)).trans b4
    have HR2 : MR F2 V R := HR.ch C2 rfl (fun i => by unfold D7; omega)
    have C2' : ch (Dlv ln) F F2 := ch_mo C2 (fun j i z => Or.inl z)
    have none9 : sp_rf y = [] → ac_G (l, d, m_Mo_leave, 0, 0, Φ, h.length, none) 187 [(5, .int kv), (4, .int uv), (3, .int tv), (0, .ref 57), (1, .int (nI ln)), (2, .int (nI p))] [] h2 0 0 := by
      intro e
      exact r_vret d_Mo_leave_187 rfl (hΦ h2 F2 V Fr2 M2 C2' vk_rf HC2 (by rw [e, List.append_nil]; exact HR2)) (Nat.le_refl _) (Nat.le_refl _)
    refine r_iload_n d_Mo_leave_164 rfl ?_
    refine r_if_ne 187 d_Mo_leave_165 (by decide) (fun c1 => none9 (if_pos (Or.inl (Classical.byContradiction fun z => c1 (ht.mpr z))))) (fun c1 => ?_)
    have hnt := ht.mp c1
    refine r_aload_n d_Mo_leave_168 rfl ?_
    refine r_getfield d_Mo_leave_169 f_Mo_46 M2.1 rfl ?_
    refine r_iload_n d_Mo_leave_172 rfl ?_
    refine r_ialoadN d_Mo_leave_173 (md_owns M2) (show p < 10 by omega) (by omega) ?_
    refine r_ri b42 ?_
    refine r_if_lt 187 d_Mo_leave_174 (by decide) (fun c2 => none9 (if_pos (Or.inr ((own_lt ok).mp c2)))) (fun c2 => ?_)
    have hne : ¬ y.2.2.2.1 = -1 := fun z => c2 ((own_lt ok).mpr z)
    have er : sp_rf y = [y.2.2.2.1] := if_neg (fun z => z.elim hnt hne)
    refine r_aload_n d_Mo_leave_177 rfl ?_
    refine r_aload_n d_Mo_leave_178 rfl ?_
    refine r_getfield d_Mo_leave_179 f_Mo_46 M2.1 rfl ?_
    refine r_iload_n d_Mo_leave_182 rfl ?_
    refine r_ialoadN d_Mo_leave_183 (md_owns M2) (show p < 10 by omega) (by omega) ?_
    refine r_ri b42 ?_
    refine r_cVv [.int y.2.2.2.1] 57 (d - 1) 0 0 (fun h' => ∃ F', frP h2 h' mod9 ∧ MD h' F' (upd V 5 (nI (R.length + 1))) ∧ ch Dr F2 F' ∧ MR F' (upd V 5 (nI (R.length + 1))) (R ++ [y.2.2.2.1])) d_Mo_leave_184 q_Mo_95 M2.1 rfl rfl (c_Mo_giveBack htr M2 HR2 (hcap hne) (fun h' F' f' G1 G2 G3 => ⟨rfl, F', f', G1, G2, G3⟩)) (by show d - 1 + 1 ≤ d; omega) (Nat.le_refl _) (Nat.le_refl _) (Nat.le_of_ble_eq_true rfl) (fun h3 e3 => ?_)
    obtain ⟨F3, Fr3, M3, C3, HR3⟩ := e3
    exact r_vret d_Mo_leave_187 rfl (hΦ h3 F3 _ (frP_tr Fr2 Fr3) M3 (ch_tr C2' (ch_mo C3 (fun j i z => Or.inr z))) vk_up (HC2.ch C3 (fun i _ _ => by unfold Dr; omega)) (by rw [er]; exact HR3)) (Nat.le_refl _) (Nat.le_refl _)
  have kind : ∀ (tv uv : Int32) (kd : Nat), kd < 4 → (tv = 0 ↔ ¬ thru y) → (thru y → (if y.2.2.2.1 = -1 then 1 else 0) = kd) → (¬ thru y → sp_cnt y c = sp_inc c kd) → ac_G (l, d, m_Mo_leave, 0, 0, Φ, h.length, none) 121 [(5, .int (nI kd)), (4, .int uv), (3, .int tv), (0, .ref 57), (1, .int (nI ln)), (2, .int (nI p))] [] h 0 0 := by
    intro tv uv kd hkd ht ht1 ht2
    refine r_aload_n d_Mo_leave_121 rfl ?_
    refine r_getfield d_Mo_leave_122 f_Mo_31 M.1 rfl ?_
    refine r_iconst 5 d_Mo_leave_125 (by decide) ?_
    refine r_iload_n d_Mo_leave_126 rfl ?_
    refine r_ri2 (show (5 : Int32) = nI 5 by decide) ?_
    refine r_imul d_Mo_leave_127 ?_
    refine r_ri (pk_mul _ _) ?_
    refine r_iload d_Mo_leave_128 rfl ?_
    refine r_iadd d_Mo_leave_130 ?_
    refine r_ri (nI_add _ _) ?_
    refine r_dup2 d_Mo_leave_131 rfl rfl ?_
    refine r_ialoadN d_Mo_leave_132 (md_counts M) (show 5 * ln + kd < 10 by omega) (by omega) ?_
    refine r_ri (HC kd (by omega)) ?_
    refine r_iconst 1 d_Mo_leave_133 (by decide) ?_
    refine r_iadd d_Mo_leave_134 ?_
    refine r_mst 7 d_Mo_leave_135 (by omega) (show 5 * ln + kd < 10 by omega) M (fun h2 Fr2 M2 => ?_)
    have C2 : ch (D7 ln) F (up2 F 7 (5 * ln + kd) (c kd + 1)) := ch_up ⟨rfl, by omega, by omega⟩
    have HC2 : MCo (up2 F 7 (5 * ln + kd) (c kd + 1)) ln (sp_inc c kd) := HC.inc
    refine r_iload_n d_Mo_leave_136 rfl ?_
    refine r_if_eq 164 d_Mo_leave_137 (by decide) (fun c1 => ?_) (fun c1 => ?_)
    · refine last tv uv _ h2 _ ht Fr2 M2 C2 ?_
      rw [ht2 (ht.mp c1)]; exact HC2
    · have hth : thru y := Classical.byContradiction fun z => c1 (ht.mpr z)
      have b52 : up2 F 7 (5 * ln + kd) (c kd + 1) 13 p = nI y.2.2.2.2 := (up2_ne (by omega)).trans b5
      refine r_aload_n d_Mo_leave_140 rfl ?_
      refine r_getfield d_Mo_leave_141 f_Mo_49 M2.1 rfl ?_
      refine r_iload_n d_Mo_leave_144 rfl ?_
      refine r_ialoadN d_Mo_leave_145 (md_length M2) (show p < 10 by omega) (by omega) ?_
      refine r_ri b52 ?_
      refine r_iconst 5 d_Mo_leave_146 (by decide) ?_
      refine r_ri (show (5 : Int32) = nI 5 by decide) ?_
      refine r_icmp_le 164 d_Mo_leave_147 (by decide) (fun c2 => ?_) (fun c2 => ?_)
      · have h6 := (nI_leI (by omega) (by omega)).mp c2
        refine last tv uv _ h2 _ ht Fr2 M2 C2 ?_
        have : sp_cnt y c = sp_inc c kd := by unfold sp_cnt; rw [if_pos hth, if_neg (by omega), ht1 hth]
        rw [this]; exact HC2
      · have h6 : ¬ y.2.2.2.2 ≤ 5 := fun z => c2 ((nI_leI (by omega) (by omega)).mpr z)
        refine r_aload_n d_Mo_leave_150 rfl ?_
        refine r_getfield d_Mo_leave_151 f_Mo_31 M2.1 rfl ?_
        refine r_iconst 5 d_Mo_leave_154 (by decide) ?_
        refine r_iload_n d_Mo_leave_155 rfl ?_
        refine r_ri2 (show (5 : Int32) = nI 5 by decide) ?_
        refine r_imul d_Mo_leave_156 ?_
        refine r_ri (pk_mul _ _) ?_
        refine r_iconst 4 d_Mo_leave_157 (by decide) ?_
        refine r_ri (show (4 : Int32) = nI 4 by decide) ?_
        refine r_iadd d_Mo_leave_158 ?_
        refine r_ri (nI_add _ _) ?_
        refine r_dup2 d_Mo_leave_159 rfl rfl ?_
        refine r_ialoadN d_Mo_leave_160 (md_counts M2) (show 5 * ln + 4 < 10 by omega) (by omega) ?_
        refine r_ri (HC2 4 (by omega)) ?_
        refine r_iconst 1 d_Mo_leave_161 (by decide) ?_
        refine r_iadd d_Mo_leave_162 ?_
        refine r_mst 7 d_Mo_leave_163 (by omega) (show 5 * ln + 4 < 10 by omega) M2 (fun h3 Fr3 M3 => ?_)
        refine last tv uv _ h3 _ ht (frP_tr Fr2 Fr3) M3 (ch_tr C2 (ch_up ⟨rfl, by omega, by omega⟩)) ?_
        have : sp_cnt y c = sp_inc (sp_inc c kd) 4 := by unfold sp_cnt; rw [if_pos hth, if_pos (by omega), ht1 hth]
        rw [this]; exact HC2.inc
  have turned : ∀ (tv uv : Int32), (tv = 0 ↔ ¬ thru y) → (¬ thru y → (uv = 0 ↔ ¬ turnd y)) → ac_G (l, d, m_Mo_leave, 0, 0, Φ, h.length, none) 88 [(4, .int uv), (3, .int tv), (0, .ref 57), (1, .int (nI ln)), (2, .int (nI p))] [] h 0 0 := by
    intro tv uv ht hu
    refine r_iload_n d_Mo_leave_88 rfl ?_
    refine r_if_eq 109 d_Mo_leave_89 (by decide) (fun c1 => ?_) (fun c1 => ?_)
    · have hnt := ht.mp c1
      refine r_iload d_Mo_leave_109 rfl ?_
      refine r_if_eq 118 d_Mo_leave_111 (by decide) (fun c2 => ?_) (fun c2 => ?_)
      · refine r_iconst 3 d_Mo_leave_118 (by decide) ?_
        refine r_ri (show (3 : Int32) = nI 3 by decide) ?_
        refine r_istore d_Mo_leave_119 (Nat.le_of_ble_eq_true rfl) ?_
        exact r_loc _ (fun q hq => by simp at hq; rcases hq with q | q | q | q | q | q <;> subst q <;> rfl) (kind tv uv 3 (by omega) ht (fun z => absurd z hnt) (fun _ => by unfold sp_cnt; rw [if_neg hnt, if_neg ((hu hnt).mp c2)]))
      · refine r_iconst 2 d_Mo_leave_114 (by decide) ?_
        refine r_goto 119 d_Mo_leave_115 (by decide) ?_
        refine r_ri (show (2 : Int32) = nI 2 by decide) ?_
        refine r_istore d_Mo_leave_119 (Nat.le_of_ble_eq_true rfl) ?_
        exact r_loc _ (fun q hq => by simp at hq; rcases hq with q | q | q | q | q | q <;> subst q <;> rfl) (kind tv uv 2 (by omega) ht (fun z => absurd z hnt) (fun _ => by unfold sp_cnt; rw [if_neg hnt, if_pos (Classical.byContradiction fun z => c2 ((hu hnt).mpr z))]))
    · have hth : thru y := Classical.byContradiction fun z => c1 (ht.mpr z)
      refine r_aload_n d_Mo_leave_92 rfl ?_
      refine r_getfield d_Mo_leave_93 f_Mo_46 M.1 rfl ?_
      refine r_iload_n d_Mo_leave_96 rfl ?_
      refine r_ialoadN d_Mo_leave_97 (md_owns M) (show p < 10 by omega) (by omega) ?_
      refine r_ri b4 ?_
      refine r_if_lt 105 d_Mo_leave_98 (by decide) (fun c2 => ?_) (fun c2 => ?_)
      · refine r_iconst 1 d_Mo_leave_105 (by decide) ?_
        refine r_goto 119 d_Mo_leave_106 (by decide) ?_
        refine r_ri (show (1 : Int32) = nI 1 by decide) ?_
        refine r_istore d_Mo_leave_119 (Nat.le_of_ble_eq_true rfl) ?_
        exact r_loc _ (fun q hq => by simp at hq; rcases hq with q | q | q | q | q | q <;> subst q <;> rfl) (kind tv uv 1 (by omega) ht (fun _ => if_pos ((own_lt ok).mp c2)) (fun z => absurd hth z))
      · refine r_iconst 0 d_Mo_leave_101 (by decide) ?_
        refine r_goto 119 d_Mo_leave_102 (by decide) ?_
        refine r_ri (show (0 : Int32) = nI 0 by decide) ?_
        refine r_istore d_Mo_leave_119 (Nat.le_of_ble_eq_true rfl) ?_
        exact r_loc _ (fun q hq => by simp at hq; rcases hq with q | q | q | q | q | q <;> subst q <;> rfl) (kind tv uv 0 (by omega) ht (fun _ => if_neg (fun z => c2 ((own_lt ok).mpr z))) (fun z => absurd hth z))
  have s0 : y.2.2.1 = 0 → nI y.2.2.1 = 0 := fun z => by rw [z]; exact nI_0
  have s1 : nI y.2.2.1 = 0 → y.2.2.1 = 0 := fun z => (nI_eq (by omega) (by omega)).mp (z.trans nI_0.symm)
  have thr : ∀ tv : Int32, (tv = 0 ↔ ¬ thru y) → ac_G (l, d, m_Mo_leave, 0, 0, Φ, h.length, none) 44 [(3, .int tv), (0, .ref 57), (1, .int (nI ln)), (2, .int (nI p))] [] h 0 0 := by
    intro tv ht
    have fin0 : (¬ thru y → ¬ turnd y) → ac_G (l, d, m_Mo_leave, 0, 0, Φ, h.length, none) 85 [(3, .int tv), (0, .ref 57), (1, .int (nI ln)), (2, .int (nI p))] [] h 0 0 := by
      intro z
      refine r_iconst 0 d_Mo_leave_85 (by decide) ?_
      refine r_istore d_Mo_leave_86 (Nat.le_of_ble_eq_true rfl) ?_
      exact r_loc _ (fun q hq => by simp at hq; rcases hq with q | q | q | q | q <;> subst q <;> rfl) (turned tv 0 ht (fun w => ⟨fun _ => z w, fun _ => rfl⟩))
    have fin1 : turnd y → ac_G (l, d, m_Mo_leave, 0, 0, Φ, h.length, none) 81 [(3, .int tv), (0, .ref 57), (1, .int (nI ln)), (2, .int (nI p))] [] h 0 0 := by
      intro z
      refine r_iconst 1 d_Mo_leave_81 (by decide) ?_
      refine r_goto 86 d_Mo_leave_82 (by decide) ?_
      refine r_istore d_Mo_leave_86 (Nat.le_of_ble_eq_true rfl) ?_
      exact r_loc _ (fun q hq => by simp at hq; rcases hq with q | q | q | q | q <;> subst q <;> rfl) (turned tv 1 ht (fun w => ⟨fun e => absurd e (by decide), fun e => absurd z e⟩))
    refine r_iload_n d_Mo_leave_44 rfl ?_
    refine r_if_ne 85 d_Mo_leave_45 (by decide) (fun c1 => fin0 (fun z => absurd (ht.mpr z) c1)) (fun c1 => ?_)
    refine r_aload_n d_Mo_leave_48 rfl ?_
    refine r_getfield d_Mo_leave_49 f_Mo_43 M.1 rfl ?_
    refine r_iload_n d_Mo_leave_52 rfl ?_
    refine r_ialoadN d_Mo_leave_53 (md_side M) (show p < 10 by omega) (by omega) ?_
    refine r_ri b3 ?_
    refine r_if_ne 70 d_Mo_leave_54 (by decide) (fun c2 => ?_) (fun c2 => ?_)
    · have hs : ¬ y.2.2.1 = 0 := fun z => c2 (s0 z)
      refine r_aload_n d_Mo_leave_70 rfl ?_
      refine r_getfield d_Mo_leave_71 f_Mo_40 M.1 rfl ?_
      refine r_iload_n d_Mo_leave_74 rfl ?_
      refine r_ialoadN d_Mo_leave_75 (md_last M) (show p < 10 by omega) (by omega) ?_
      refine r_ri b2 ?_
      refine r_bipush 6 d_Mo_leave_76 (by decide) ?_
      refine r_ri (show (6 : Int32) = nI 6 by decide) ?_
      refine r_icmp_le 85 d_Mo_leave_78 (by decide) (fun c3 => fin0 (fun _ z => ?_)) (fun c3 => fin1 ?_)
      · unfold turnd at z; rw [if_neg hs] at z
        have := (nI_leI (by omega) (by omega)).mp c3
        omega
      · unfold turnd; rw [if_neg hs]
        have : ¬ y.2.1 ≤ 6 := fun z => c3 ((nI_leI (by omega) (by omega)).mpr z)
        omega
    · have hs := s1 c2
      refine r_aload_n d_Mo_leave_57 rfl ?_
      refine r_getfield d_Mo_leave_58 f_Mo_37 M.1 rfl ?_
      refine r_iload_n d_Mo_leave_61 rfl ?_
      refine r_ialoadN d_Mo_leave_62 (md_first M) (show p < 10 by omega) (by omega) ?_
      refine r_ri b1 ?_
      refine r_iconst 3 d_Mo_leave_63 (by decide) ?_
      refine r_ri (show (3 : Int32) = nI 3 by decide) ?_
      refine r_icmp_ge 85 d_Mo_leave_64 (by decide) (fun c3 => fin0 (fun _ z => ?_)) (fun c3 => ?_)
      · unfold turnd at z; rw [if_pos hs] at z
        have := (nI_leI (by omega) (by omega)).mp c3
        omega
      · refine r_goto 81 d_Mo_leave_67 (by decide) ?_
        refine fin1 ?_
        unfold turnd; rw [if_pos hs]
        have : ¬ 3 ≤ y.1 := fun z => c3 ((nI_leI (by omega) (by omega)).mpr z)
        omega
  refine r_aload_n d_Mo_leave_0 rfl ?_
  refine r_getfield d_Mo_leave_1 f_Mo_43 M.1 rfl ?_
  refine r_iload_n d_Mo_leave_4 rfl ?_
  refine r_ialoadN d_Mo_leave_5 (md_side M) (show p < 10 by omega) (by omega) ?_
  refine r_ri b3 ?_
  refine r_if_ne 28 d_Mo_leave_6 (by decide) (fun c1 => ?_) (fun c1 => ?_)
  · have hs : ¬ y.2.2.1 = 0 := fun z => c1 (s0 z)
    refine r_aload_n d_Mo_leave_28 rfl ?_
    refine r_getfield d_Mo_leave_29 f_Mo_37 M.1 rfl ?_
    refine r_iload_n d_Mo_leave_32 rfl ?_
    refine r_ialoadN d_Mo_leave_33 (md_first M) (show p < 10 by omega) (by omega) ?_
    refine r_ri b1 ?_
    refine r_iconst 3 d_Mo_leave_34 (by decide) ?_
    refine r_ri (show (3 : Int32) = nI 3 by decide) ?_
    refine r_icmp_ge 42 d_Mo_leave_35 (by decide) (fun c2 => ?_) (fun c2 => ?_)
    · refine r_iconst 0 d_Mo_leave_42 (by decide) ?_
      refine r_istore_n d_Mo_leave_43 (Nat.le_of_ble_eq_true rfl) ?_
      refine r_loc _ (fun q hq => by simp at hq; rcases hq with q | q | q | q <;> subst q <;> rfl) (thr 0 ⟨fun _ z => ?_, fun _ => rfl⟩)
      unfold thru at z; rw [if_neg hs] at z
      have := (nI_leI (by omega) (by omega)).mp c2
      omega
    · refine r_iconst 1 d_Mo_leave_38 (by decide) ?_
      refine r_goto 43 d_Mo_leave_39 (by decide) ?_
      refine r_istore_n d_Mo_leave_43 (Nat.le_of_ble_eq_true rfl) ?_
      refine r_loc _ (fun q hq => by simp at hq; rcases hq with q | q | q | q <;> subst q <;> rfl) (thr 1 ⟨fun e => absurd e (by decide), fun z => absurd ?_ z⟩)
      unfold thru; rw [if_neg hs]
      have : ¬ 3 ≤ y.1 := fun z => c2 ((nI_leI (by omega) (by omega)).mpr z)
      omega
  · have hs := s1 c1
    refine r_aload_n d_Mo_leave_9 rfl ?_
    refine r_getfield d_Mo_leave_10 f_Mo_40 M.1 rfl ?_
    refine r_iload_n d_Mo_leave_13 rfl ?_
    refine r_ialoadN d_Mo_leave_14 (md_last M) (show p < 10 by omega) (by omega) ?_
    refine r_ri b2 ?_
    refine r_bipush 6 d_Mo_leave_15 (by decide) ?_
    refine r_ri (show (6 : Int32) = nI 6 by decide) ?_
    refine r_icmp_le 24 d_Mo_leave_17 (by decide) (fun c2 => ?_) (fun c2 => ?_)
    · refine r_iconst 0 d_Mo_leave_24 (by decide) ?_
      refine r_goto 43 d_Mo_leave_25 (by decide) ?_
      refine r_istore_n d_Mo_leave_43 (Nat.le_of_ble_eq_true rfl) ?_
      refine r_loc _ (fun q hq => by simp at hq; rcases hq with q | q | q | q <;> subst q <;> rfl) (thr 0 ⟨fun _ z => ?_, fun _ => rfl⟩)
      unfold thru at z; rw [if_pos hs] at z
      have := (nI_leI (by omega) (by omega)).mp c2
      omega
    · refine r_iconst 1 d_Mo_leave_20 (by decide) ?_
      refine r_goto 43 d_Mo_leave_21 (by decide) ?_
      refine r_istore_n d_Mo_leave_43 (Nat.le_of_ble_eq_true rfl) ?_
      refine r_loc _ (fun q hq => by simp at hq; rcases hq with q | q | q | q <;> subst q <;> rfl) (thr 1 ⟨fun e => absurd e (by decide), fun z => absurd ?_ z⟩)
      unfold thru; rw [if_pos hs]
      have : ¬ y.2.1 ≤ 6 := fun z => c2 ((nI_leI (by omega) (by omega)).mpr z)
      omega
