/-! THE REFERENCE: a tick of a lane -/
def MLn (F : Nat → Nat → Int32) (ln : Nat) (L : sp_L) : Prop := MEy F ln L.1 ∧ (F 5 ln = L.2.1.1 ∧ F 6 ln = L.2.1.2) ∧ (Mqu F (2 * ln) L.2.2.1.1 ∧ Mqu F (2 * ln + 1) L.2.2.1.2) ∧ (okQ L.2.2.1.1 ∧ okQ L.2.2.1.2) ∧ MCo F ln L.2.2.2.1 ∧ (F 4 ln = nI L.2.2.2.2.1 ∧ L.2.2.2.2.1 ≤ 3) ∧ MB F ln L.2.2.2.2.2 ∧ srt L.2.2.2.2.2
def own9 (ln j i : Nat) : Prop := (j < 7 ∧ i = ln) ∨ (j = 7 ∧ 5 * ln ≤ i ∧ i < 5 * ln + 5) ∨ (j = 8 ∧ i = ln) ∨ Dbo ln j i ∨ Dq (2 * ln) j i ∨ Dq (2 * ln + 1) j i
def Dl (ln j i : Nat) : Prop := own9 ln j i ∨ j = 17 ∨ j = 18 ∨ j = 24
theorem in_q0 {ln j i : Nat} (z : Dq (2 * ln) j i) : Dl ln j i := Or.inl (Or.inr (Or.inr (Or.inr (Or.inr (Or.inl z)))))
theorem in_q1 {ln j i : Nat} (z : Dq (2 * ln + 1) j i) : Dl ln j i := Or.inl (Or.inr (Or.inr (Or.inr (Or.inr (Or.inr z)))))
theorem in_24 {ln j i : Nat} (z : j = 24) : Dl ln j i := Or.inr (Or.inr (Or.inr z))
theorem in_lk {ln j i : Nat} (z : Dlk ln j i) : Dl ln j i := by
  rcases z with ⟨z, e⟩ | z | z
  · exact Or.inl (Or.inl ⟨by omega, e⟩)
  · exact Or.inr (Or.inl z)
  · exact Or.inr (Or.inr (Or.inl z))
theorem in_bo {ln j i : Nat} (z : Dbo ln j i) : Dl ln j i := Or.inl (Or.inr (Or.inr (Or.inr (Or.inl z))))
theorem in_8 {ln j i : Nat} (z : j = 8 ∧ i = ln) : Dl ln j i := Or.inl (Or.inr (Or.inr (Or.inl z)))
theorem in_7 {ln j i : Nat} (z : j = 7 ∧ 5 * ln ≤ i ∧ i < 5 * ln + 5) : Dl ln j i := Or.inl (Or.inr (Or.inl z))
theorem in_go {ln j i : Nat} (z : Dgo ln j i) : Dl ln j i := by
  rcases z with (z | z) | z | z
  · exact in_7 z
  · exact in_24 z
  · exact in_8 z
  · exact in_bo z
theorem in_py {ln j i : Nat} (z : Dpy ln j i) : Dl ln j i := by
  rcases z with z | z | z
  · exact in_bo ⟨by omega, by omega, z.2.1, z.2.2⟩
  · exact in_q0 z
  · exact in_q1 z
theorem in_tu {ln j i : Nat} (z : Dtu ln j i) : Dl ln j i := Or.inl (Or.inl ⟨by have := z.1; omega, z.2⟩)
theorem MEy.ch {F F' : Nat → Nat → Int32} {ln : Nat} {E : Int32 × Int32 × Int32 × Int32} {D : Nat → Nat → Prop} (H : MEy F ln E) (C : ch D F F') (hd : ∀ j, j < 4 → ¬ D j ln) : MEy F' ln E := ⟨(C 0 ln (hd 0 (by omega))).trans H.1, (C 1 ln (hd 1 (by omega))).trans H.2.1, (C 2 ln (hd 2 (by omega))).trans H.2.2.1, (C 3 ln (hd 3 (by omega))).trans H.2.2.2⟩
theorem MLn.ch {F F' : Nat → Nat → Int32} {ln : Nat} {L : sp_L} {D : Nat → Nat → Prop} (H : MLn F ln L) (C : ch D F F') (hd : ∀ j i, own9 ln j i → ¬ D j i) : MLn F' ln L := by
  obtain ⟨a1, ⟨a2, a3⟩, ⟨a4, a5⟩, a6, a7, ⟨a8, a9⟩, a10, a11⟩ := H
  have k : ∀ j, j < 7 → ¬ D j ln := fun j hj => hd j ln (Or.inl ⟨hj, rfl⟩)
  exact ⟨a1.ch C (fun j hj => k j (by omega)), ⟨(C 5 ln (k 5 (by omega))).trans a2, (C 6 ln (k 6 (by omega))).trans a3⟩, ⟨a4.ch C (fun j i z => hd j i (Or.inr (Or.inr (Or.inr (Or.inr (Or.inl z)))))), a5.ch C (fun j i z => hd j i (Or.inr (Or.inr (Or.inr (Or.inr (Or.inr z))))))⟩, a6, a7.ch C (fun i h1 h2 => hd 7 i (Or.inr (Or.inl ⟨rfl, h1, h2⟩))), ⟨(C 4 ln (k 4 (by omega))).trans a8, a9⟩, a10.ch C (hd 8 ln (Or.inr (Or.inr (Or.inl ⟨rfl, rfl⟩)))) (fun j i h1 h2 h3 h4 => hd j i (Or.inr (Or.inr (Or.inr (Or.inl ⟨by omega, by omega, by omega, by omega⟩))))), a11⟩
def v35 (V V' : Nat → Int32) : Prop := ∀ i, ¬ i = 3 → ¬ i = 5 → V' i = V i
theorem v35_tr {V V1 V2 : Nat → Int32} (a : v35 V V1) (b : v35 V1 V2) : v35 V V2 := fun i h1 h2 => (b i h1 h2).trans (a i h1 h2)
theorem v35_k {V V1 : Nat → Int32} (a : vk V V1) : v35 V V1 := fun i _ h2 => a i h2
theorem keptW_ok {B : List (Nat × Nat)} {row : List sp_B} (h : ∀ b ∈ row, okB b) (h4 : B.length ≤ 4) : ∀ w ∈ keptW B row, okW w := fun w hw => by
  obtain ⟨b, hb, hg, e⟩ := keptW_mem hw
  have := goal_lt hg
  have ok := h b hb
  rw [e]
  exact ⟨ok, by show w.2.1 < 4; omega, fun o ho => by cases ho; exact ⟨ok.1, ok.2.1⟩⟩
theorem c_Mo_tick {l : Launch} (htr : l.stackTraces = false) {d : Nat} {h : ac_H} {Φ : ac_R → ac_H → Prop} {ln : Nat} {now al : Int32} {L : sp_L} {R : List Int32} {F : Nat → Nat → Int32} {V : Nat → Int32} (hd : 3 ≤ d) (hl : ln < 2) (M : MD h F V) (HL : MLn F ln L) (HR : MR F V R) (hcap : R.length + capL L ≤ 512) (hV1 : V 1 = now) (hV2 : V 2 = al)
    (hΦ : ∀ h' F' V', frP h h' mod9 → MD h' F' V' → ch (Dl ln) F F' → v35 V V' → MLn F' ln (sp_tick now al L R).1 → MR F' V' (sp_tick now al L R).2.1 → Φ (.inl (some (.int (nI (sp_tick now al L R).2.2)))) h') : ac_Mt l d m_Mo_tick [.ref 57, .int (nI ln)] h 0 0 Φ := by
  obtain ⟨a1, ⟨a2, a3⟩, ⟨a4, a5⟩, ⟨a6, a7⟩, a8, ⟨a9, a10⟩, a11, a12⟩ := HL
  unfold capL at hcap
  refine ac_enter (by decide) rfl htr (fun _ => Nat.le_of_ble_eq_true rfl) ?_
  have drain : ∀ (s q : Nat), q = 2 * ln + s → s < 2 → ∀ (Q : sp_Q) (R2 : List Int32) (h2 : ac_H) (F2 : Nat → Nat → Int32) (V2 : Nat → Int32), Mqu F2 q Q → MR F2 V2 R2 → R2.length + Q.length ≤ 512 → V2 1 = now → MD h2 F2 V2 → (∀ h3 F3 V3, frP h2 h3 mod9 → MD h3 F3 V3 → ch (fun j i => Dq q j i ∨ j = 24) F2 F3 → vk V2 V3 → Mqu F3 q (sp_exp now Q R2).1 → MR F3 V3 (sp_exp now Q R2).2 → ac_G (l, d, m_Mo_tick, 0, 0, Φ, h.length, none) 54 [(3, .int (nI q)), (2, .int (nI s)), (0, .ref 57), (1, .int (nI ln))] [] h3 0 0) → ac_G (l, d, m_Mo_tick, 0, 0, Φ, h.length, none) 13 [(3, .int (nI q)), (2, .int (nI s)), (0, .ref 57), (1, .int (nI ln))] [] h2 0 0 := by
    intro s q hq hs Q
    induction Q with
    | nil =>
      intro R2 h2 F2 V2 TQ HR2 hc e1 M2 kk
      refine r_aload_n d_Mo_tick_13 rfl ?_
      refine r_getfield d_Mo_tick_14 f_Mo_67 M2.1 rfl ?_
      refine r_iload_n d_Mo_tick_17 rfl ?_
      refine r_ialoadN d_Mo_tick_18 (md_waiting M2) (show q < 4 by omega) (by omega) ?_
      refine r_ri TQ.1 ?_
      refine r_if_le 54 d_Mo_tick_19 (by decide) (fun c1 => kk h2 F2 V2 frP_rf M2 ch_rf vk_rf TQ HR2) (fun c1 => absurd (by decide) c1)
    | cons x Q ih =>
      intro R2 h2 F2 V2 TQ HR2 hc e1 M2 kk
      have h6 := TQ.2.1
      rw [List.length_cons] at h6 hc
      have ex : F2 21 (6 * q) = x.2 := (TQ.2.2 0 x rfl).2
      refine r_aload_n d_Mo_tick_13 rfl ?_
      refine r_getfield d_Mo_tick_14 f_Mo_67 M2.1 rfl ?_
      refine r_iload_n d_Mo_tick_17 rfl ?_
      refine r_ialoadN d_Mo_tick_18 (md_waiting M2) (show q < 4 by omega) (by omega) ?_
      refine r_ri TQ.1 ?_
      refine r_if_le 54 d_Mo_tick_19 (by decide) (fun c1 => absurd c1 (nI_nle (by rw [List.length_cons]; omega) (by rw [List.length_cons]; omega))) (fun c1 => ?_)
      refine r_aload_n d_Mo_tick_22 rfl ?_
      refine r_getfield d_Mo_tick_23 f_Mo_121 M2.1 rfl ?_
      refine r_ri e1 ?_
      refine r_aload_n d_Mo_tick_26 rfl ?_
      refine r_getfield d_Mo_tick_27 f_Mo_73 M2.1 rfl ?_
      refine r_bipush 6 d_Mo_tick_30 (by decide) ?_
      refine r_iload_n d_Mo_tick_32 rfl ?_
      refine r_ri2 (show (6 : Int32) = nI 6 by decide) ?_
      refine r_imul d_Mo_tick_33 ?_
      refine r_ri (pk_mul _ _) ?_
      refine r_ialoadN d_Mo_tick_34 (md_since M2) (show 6 * q < 24 by omega) (by omega) ?_
      refine r_ri ex ?_
      refine r_isub d_Mo_tick_35 ?_
      refine r_sipush 200 d_Mo_tick_36 (by decide) ?_
      refine r_icmp_lt 54 d_Mo_tick_39 (by decide) (fun c2 => ?_) (fun c2 => ?_)
      · have ee : sp_exp now (x :: Q) R2 = (x :: Q, R2) := by rw [sp_exp, if_pos c2]
        rw [ee] at kk
        exact kk h2 F2 V2 frP_rf M2 ch_rf vk_rf TQ HR2
      · have ee : sp_exp now (x :: Q) R2 = sp_exp now Q (R2 ++ [x.1]) := by rw [sp_exp, if_neg c2]
        rw [ee] at kk
        refine r_aload_n d_Mo_tick_42 rfl ?_
        refine r_aload_n d_Mo_tick_43 rfl ?_
        refine r_iload_n d_Mo_tick_44 rfl ?_
        refine r_cVi [.int (nI q)] 57 (d - 1) 0 0 x.1 (fun h' => ∃ F', frP h2 h' mod9 ∧ MD h' F' V2 ∧ ch (Dq q) F2 F' ∧ Mqu F' q Q) d_Mo_tick_45 q_Mo_113 M2.1 rfl rfl (c_Mo_takeOldest htr (by omega) M2 TQ (fun h' F' f' G1 G2 G3 => ⟨rfl, F', f', G1, G2, G3⟩)) (by show d - 1 + 1 ≤ d; omega) (Nat.le_refl _) (Nat.le_refl _) (Nat.le_of_ble_eq_true rfl) (fun h3 e3 => ?_)
        obtain ⟨F3, Fr3, M3, C3, T3⟩ := e3
        have HR3 : MR F3 V2 R2 := HR2.ch C3 rfl (fun i => by unfold Dq; omega)
        refine r_cVv [.int x.1] 57 (d - 1) 0 0 (fun h' => ∃ F', frP h3 h' mod9 ∧ MD h' F' (upd V2 5 (nI (R2.length + 1))) ∧ ch Dr F3 F' ∧ MR F' (upd V2 5 (nI (R2.length + 1))) (R2 ++ [x.1])) d_Mo_tick_48 q_Mo_95 M3.1 rfl rfl (c_Mo_giveBack htr M3 HR3 (by omega) (fun h' F' f' G1 G2 G3 => ⟨rfl, F', f', G1, G2, G3⟩)) (by show d - 1 + 1 ≤ d; omega) (Nat.le_refl _) (Nat.le_refl _) (Nat.le_of_ble_eq_true rfl) (fun h4 e4 => ?_)
        obtain ⟨F4, Fr4, M4, C4, HR4⟩ := e4
        refine r_goto 13 d_Mo_tick_51 (by decide) ?_
        refine ih (R2 ++ [x.1]) h4 F4 _ (T3.ch C4 (fun j i z1 z2 => by unfold Dq at z1; unfold Dr at z2; omega)) HR4 (by rw [List.length_append]; show R2.length + 1 + Q.length ≤ 512; omega) e1 M4 (fun h5 F5 V5 Fr5 M5 C5 K5 T5 HR5 => ?_)
        exact kk h5 F5 V5 (frP_tr (frP_tr Fr3 Fr4) Fr5) M5 (ch_tr (ch_tr (ch_mo C3 (fun j i z => Or.inl z)) (ch_mo C4 (fun j i z => Or.inr z))) C5) (vk_tr vk_up K5) T5 HR5
  have hl1 := sp_exp_len now L.2.2.1.1 R
  have hl2 := sp_exp_len now L.2.2.1.2 (sp_exp now L.2.2.1.1 R).2
  refine r_iconst 0 d_Mo_tick_0 (by decide) ?_
  refine r_ri (show (0 : Int32) = nI 0 by decide) ?_
  refine r_istore_n d_Mo_tick_1 (Nat.le_of_ble_eq_true rfl) ?_
  refine r_iload_n d_Mo_tick_2 rfl ?_
  refine r_iconst 2 d_Mo_tick_3 (by decide) ?_
  refine r_ri (show (2 : Int32) = nI 2 by decide) ?_
  refine r_icmp_ge 60 d_Mo_tick_4 (by decide) (fun c1 => absurd c1 (by decide)) (fun c1 => ?_)
  refine r_iconst 2 d_Mo_tick_7 (by decide) ?_
  refine r_iload_n d_Mo_tick_8 rfl ?_
  refine r_ri2 (show (2 : Int32) = nI 2 by decide) ?_
  refine r_imul d_Mo_tick_9 ?_
  refine r_ri (pk_mul _ _) ?_
  refine r_iload_n d_Mo_tick_10 rfl ?_
  refine r_iadd d_Mo_tick_11 ?_
  refine r_ri (nI_add _ _) ?_
  refine r_istore_n d_Mo_tick_12 (Nat.le_of_ble_eq_true rfl) ?_
  refine r_loc _ (fun q hq => by simp at hq; rcases hq with q | q | q | q <;> subst q <;> rfl) (drain 0 (2 * ln + 0) rfl (by omega) L.2.2.1.1 R h F V a4 HR (by omega) hV1 M (fun h2 F2 V2 Fr2 M2 C2 K2 T20 HR2 => ?_))
  refine r_iincP d_Mo_tick_54 rfl (Nat.le_of_ble_eq_true rfl) ?_
  refine r_goto 2 d_Mo_tick_57 (by decide) ?_
  refine r_iload_n d_Mo_tick_2 rfl ?_
  refine r_iconst 2 d_Mo_tick_3 (by decide) ?_
  refine r_ri (show (2 : Int32) = nI 2 by decide) ?_
  refine r_icmp_ge 60 d_Mo_tick_4 (by decide) (fun c1 => absurd c1 (by decide)) (fun c1 => ?_)
  refine r_loc [(2, .int (nI 1)), (0, .ref 57), (1, .int (nI ln))] (fun q hq => by simp at hq; rcases hq with q | q | q <;> subst q <;> rfl) ?_
  refine r_iconst 2 d_Mo_tick_7 (by decide) ?_
  refine r_iload_n d_Mo_tick_8 rfl ?_
  refine r_ri2 (show (2 : Int32) = nI 2 by decide) ?_
  refine r_imul d_Mo_tick_9 ?_
  refine r_ri (pk_mul _ _) ?_
  refine r_iload_n d_Mo_tick_10 rfl ?_
  refine r_iadd d_Mo_tick_11 ?_
  refine r_ri (nI_add _ _) ?_
  refine r_istore_n d_Mo_tick_12 (Nat.le_of_ble_eq_true rfl) ?_
  have a52 : Mqu F2 (2 * ln + 1) L.2.2.1.2 := a5.ch C2 (fun j i z1 z2 => by unfold Dq at z1 z2; omega)
  refine r_loc _ (fun q hq => by simp at hq; rcases hq with q | q | q | q <;> subst q <;> rfl) (drain 1 (2 * ln + 1) rfl (by omega) L.2.2.1.2 _ h2 F2 V2 a52 HR2 (by omega) ((K2 1 (by omega)).trans hV1) M2 (fun h3 F3 V3 Fr3 M3 C3 K3 T31 HR3 => ?_))
  refine r_iincP d_Mo_tick_54 rfl (Nat.le_of_ble_eq_true rfl) ?_
  refine r_goto 2 d_Mo_tick_57 (by decide) ?_
  refine r_iload_n d_Mo_tick_2 rfl ?_
  refine r_iconst 2 d_Mo_tick_3 (by decide) ?_
  refine r_ri (show (2 : Int32) = nI 2 by decide) ?_
  refine r_icmp_ge 60 d_Mo_tick_4 (by decide) (fun c1 => ?_) (fun c1 => absurd (by decide) c1)
  have T30 : Mqu F3 (2 * ln) (sp_exp now L.2.2.1.1 R).1 := T20.ch C3 (fun j i z1 z2 => by unfold Dq at z1 z2; omega)
  have CC : ch (fun j i => Dq (2 * ln) j i ∨ Dq (2 * ln + 1) j i ∨ j = 24) F F3 := ch_tr (ch_mo C2 (fun j i z => by
    rcases z with z | z
    · exact Or.inl z
    · exact Or.inr (Or.inr z))) (ch_mo C3 (fun j i z => by
    rcases z with z | z
    · exact Or.inr (Or.inl z)
    · exact Or.inr (Or.inr z)))
  have KK := vk_tr K2 K3
  have FF := frP_tr Fr2 Fr3
  have e3 : MEy F3 ln L.1 := a1.ch CC (fun j hj => by unfold Dq; omega)
  have C3 : MCo F3 ln L.2.2.2.1 := a8.ch CC (fun i _ _ => by unfold Dq; omega)
  have B3 : MB F3 ln L.2.2.2.2.2 := a11.ch CC (by unfold Dq; omega) (fun j i _ _ _ _ => by unfold Dq; omega)
  -- what is seen
  refine r_aload_n d_Mo_tick_60 rfl ?_
  refine r_iload_n d_Mo_tick_61 rfl ?_
  refine r_cVv [.int (nI ln)] 57 (d - 1) 0 0 (fun h' => ∃ F', frP h3 h' mod9 ∧ MD h' F' (upd V3 3 (nI (sp_blobs L).length)) ∧ ch (Dlk ln) F3 F' ∧ MEy F' ln (L.1.1, L.1.1, L.1.2.1, sp_see L.1) ∧ MBl F' (upd V3 3 (nI (sp_blobs L).length)) (sp_blobs L)) d_Mo_tick_62 q_Mo_124 M3.1 rfl rfl (c_Mo_look htr hl M3 e3 (fun h' F' f' G1 G2 G3 G4 => ⟨rfl, F', f', G1, G2, G3, G4⟩)) (by show d - 1 + 1 ≤ d; omega) (Nat.le_refl _) (Nat.le_refl _) (Nat.le_of_ble_eq_true rfl) (fun h4 e4 => ?_)
  obtain ⟨F4, Fr4, M4, C4, E4, HB4⟩ := e4
  have hap := sp_find_ok (sp_see L.1) 10
  have hB : okBl (sp_blobs L) := apart3_ok hap (by omega)
  have hB4 : (sp_blobs L).length ≤ 4 := apart3_len hap (by omega)
  have hsB : srtB (sp_blobs L) := find_srt (sp_see L.1) 10
  have hgm := gmon_of hB hsB a12
  have HR4 : MR F4 (upd V3 3 (nI (sp_blobs L).length)) (sp_tR now L R) := HR3.ch C4 rfl (fun i => by unfold Dlk; omega)
  have B4 : MB F4 ln L.2.2.2.2.2 := B3.ch C4 (by unfold Dlk; omega) (fun j i _ _ _ _ => by unfold Dlk; omega)
  have hc4 : (sp_tR now L R).length + ownN L.2.2.2.2.2 ≤ 512 := by unfold sp_tR; omega
  generalize hV4 : upd V3 3 (nI (sp_blobs L).length) = V4 at *
  have K4 : v35 V3 V4 := fun i h1 h2 => by rw [← hV4]; exact if_neg h1
  -- who goes on
  refine r_aload_n d_Mo_tick_65 rfl ?_
  refine r_iload_n d_Mo_tick_66 rfl ?_
  refine r_cVi [.int (nI ln)] 57 (d - 1) 0 0 (nI (sp_gone (sp_blobs L) L.2.2.2.2.2).length) (fun h' => ∃ F' V', frP h4 h' mod9 ∧ MD h' F' V' ∧ ch (Dgo ln) F4 F' ∧ vk V4 V' ∧ MW F' ln (keptW (sp_blobs L) L.2.2.2.2.2) ∧ MCo F' ln (sp_cnts (sp_gone (sp_blobs L) L.2.2.2.2.2) L.2.2.2.1) ∧ MR F' V' (sp_tR now L R ++ (sp_gone (sp_blobs L) L.2.2.2.2.2).flatMap sp_rf)) d_Mo_tick_67 q_Mo_127 M4.1 rfl rfl (c_Mo_goOn htr (by omega) hl M4 B4 HB4 hB hB4 (C3.ch C4 (fun i _ _ => by unfold Dlk; omega)) HR4 hc4 (fun h' F' V' f' G1 G2 G3 G4 G5 G6 => ⟨rfl, F', V', f', G1, G2, G3, G4, G5, G6⟩)) (by show d - 1 + 1 ≤ d; omega) (Nat.le_refl _) (Nat.le_refl _) (Nat.le_of_ble_eq_true rfl) (fun h5 e5 => ?_)
  obtain ⟨F5, V5, Fr5, M5, C5, K5, W5, HC5, HR5⟩ := e5
  have HB5 : MBl F5 V5 (sp_blobs L) := HB4.ch C5 (K5 3 (by omega)) (fun i => ⟨by unfold Dgo Dlv Dbo; omega, by unfold Dgo Dlv Dbo; omega⟩)
  refine r_istore_n d_Mo_tick_70 (Nat.le_of_ble_eq_true rfl) ?_
  refine r_iconst 0 d_Mo_tick_71 (by decide) ?_
  refine r_ri (show (0 : Int32) = nI 0 by decide) ?_
  refine r_istore_n d_Mo_tick_72 (Nat.le_of_ble_eq_true rfl) ?_
  -- the shares
  have shares : ∀ (m n : Nat) (h6 : ac_H) (F6 : Nat → Nat → Int32), n + m = (sp_blobs L).length → frP h5 h6 mod9 → MD h6 F6 V5 → ch (Dsh ln) F5 F6 → MW F6 ln (shsW (sp_blobs L) (keptW (sp_blobs L) L.2.2.2.2.2) n) → (∀ w ∈ shsW (sp_blobs L) (keptW (sp_blobs L) L.2.2.2.2.2) n, okW w) → ac_G (l, d, m_Mo_tick, 0, 0, Φ, h.length, none) 73 [(3, .int (nI n)), (2, .int (nI (sp_gone (sp_blobs L) L.2.2.2.2.2).length)), (0, .ref 57), (1, .int (nI ln))] [] h6 0 0 := by
    intro m
    induction m with
    | zero =>
      intro n h6 F6 hn Fr6 M6 C6 W6 ok6
      have e : n = (sp_blobs L).length := by omega
      subst e
      have HB6 : MBl F6 V5 (sp_blobs L) := HB5.ch C6 rfl (fun i => ⟨by unfold Dsh Dbo; omega, by unfold Dsh Dbo; omega⟩)
      refine r_iload_n d_Mo_tick_73 rfl ?_
      refine r_aload_n d_Mo_tick_74 rfl ?_
      refine r_getfield d_Mo_tick_75 f_Mo_92 M6.1 rfl ?_
      refine r_ri HB6.1 ?_
      refine r_icmp_ge 93 d_Mo_tick_78 (by decide) (fun c1 => ?_) (fun c1 => absurd (nI_le (Nat.le_refl _) (by omega)) c1)
      -- all stand in the new row
      have erow := rows_end hgm a11.2.1
      have B6 : MB F6 ln (sp_tRow L) := by
        have el : (sp_tRow L).length = (shsW (sp_blobs L) (keptW (sp_blobs L) L.2.2.2.2.2) (sp_blobs L).length).length := by
          unfold sp_tRow; rw [← erow, List.length_map]
        refine ⟨by rw [el]; exact W6.1, by rw [el]; exact W6.2.1, fun b hb => ?_, fun i b hb => ?_⟩
        · unfold sp_tRow at hb
          rw [← erow] at hb
          obtain ⟨w, hw, hwb⟩ := List.mem_map.mp hb
          rw [← hwb]; exact (ok6 w hw).1
        · unfold sp_tRow at hb
          rw [← erow, List.getElem?_map] at hb
          cases hw : (shsW (sp_blobs L) (keptW (sp_blobs L) L.2.2.2.2.2) (sp_blobs L).length)[i]? with
          | none => rw [hw] at hb; cases hb
          | some w => rw [hw] at hb; cases hb; exact (W6.2.2 i w hw).1
      have C36 : ch (fun j i => Dlk ln j i ∨ Dgo ln j i) F3 F6 := ch_tr (ch_tr (ch_mo C4 (fun j i z => Or.inl z)) (ch_mo C5 (fun j i z => Or.inr z))) (ch_mo C6 (fun j i z => Or.inr (by
        rcases z with z | z
        · exact Or.inr (Or.inl z)
        · exact Or.inr (Or.inr z))))
      have T60 : Mqu F6 (2 * ln) (sp_exp now L.2.2.1.1 R).1 := T30.ch C36 (fun j i z1 z2 => by unfold Dq at z1; unfold Dlk Dgo Dlv Dbo at z2; omega)
      have T61 : Mqu F6 (2 * ln + 1) (sp_exp now L.2.2.1.2 (sp_exp now L.2.2.1.1 R).2).1 := T31.ch C36 (fun j i z1 z2 => by unfold Dq at z1; unfold Dlk Dgo Dlv Dbo at z2; omega)
      refine r_aload_n d_Mo_tick_93 rfl ?_
      refine r_iload_n d_Mo_tick_94 rfl ?_
      refine r_cVv [.int (nI ln)] 57 (d - 1) 0 0 (fun h' => ∃ F', frP h6 h' mod9 ∧ MD h' F' V5 ∧ ch (Dpy ln) F6 F' ∧ MB F' ln (sp_tPay now L R).1 ∧ Mqu F' (2 * ln) (sp_tPay now L R).2.1 ∧ Mqu F' (2 * ln + 1) (sp_tPay now L R).2.2 ∧ okQ (sp_tPay now L R).2.1 ∧ okQ (sp_tPay now L R).2.2) d_Mo_tick_95 q_Mo_133 M6.1 rfl rfl (c_Mo_pay htr (by omega) hl M6 B6 (qs := ((sp_exp now L.2.2.1.1 R).1, (sp_exp now L.2.2.1.2 (sp_exp now L.2.2.1.1 R).2).1)) T60 T61 (sp_exp_ok _ _ _ a6) (sp_exp_ok _ _ _ a7) (fun h' F' f' G1 G2 G3 G4 G5 G6 G7 => ⟨rfl, F', f', G1, G2, G3, G4, G5, G6, G7⟩)) (by show d - 1 + 1 ≤ d; omega) (Nat.le_refl _) (Nat.le_refl _) (Nat.le_of_ble_eq_true rfl) (fun h7 e7 => ?_)
      obtain ⟨F7, Fr7, M7, C7, B7, T70, T71, ok70, ok71⟩ := e7
      have C37 : ch (fun j i => Dlk ln j i ∨ Dgo ln j i ∨ Dpy ln j i) F3 F7 := ch_tr (ch_mo C36 (fun j i z => by
        rcases z with z | z
        · exact Or.inl z
        · exact Or.inr (Or.inl z))) (ch_mo C7 (fun j i z => Or.inr (Or.inr z)))
      have e57 : F7 5 ln = L.2.1.1 := (C37 5 ln (by unfold Dlk Dgo Dlv Dbo Dpy Dq; omega)).trans ((CC 5 ln (by unfold Dq; omega)).trans a2)
      have C47 : ch (fun j i => Dgo ln j i ∨ Dpy ln j i) F4 F7 := ch_tr (ch_tr (ch_mo C5 (fun j i z => Or.inl z)) (ch_mo C6 (fun j i z => Or.inl (by
        rcases z with z | z
        · exact Or.inr (Or.inl z)
        · exact Or.inr (Or.inr z))))) (ch_mo C7 (fun j i z => Or.inr z))
      have E7 : MEy F7 ln (L.1.1, L.1.1, L.1.2.1, sp_see L.1) := E4.ch C47 (fun j hj => by unfold Dgo Dlv Dbo Dpy Dq; omega)
      have V52 : V5 2 = al := (K5 2 (by omega)).trans ((K4 2 (by omega) (by omega)).trans ((KK 2 (by omega)).trans hV2))
      refine r_aload_n d_Mo_tick_98 rfl ?_
      refine r_iload_n d_Mo_tick_99 rfl ?_
      refine r_cVv [.int (nI ln)] 57 (d - 1) 0 0 (fun h' => ∃ F', frP h7 h' mod9 ∧ MD h' F' V5 ∧ ch (Dtu ln) F7 F' ∧ F' 5 ln = L.2.1.1 + sp_tOrd now al L R ∧ F' 6 ln = sp_tOrd now al L R) d_Mo_tick_100 q_Mo_136 M7.1 rfl rfl (c_Mo_turn (od := 0) htr hl M7 B7 V52 e57 E7.2.2.2 (fun h' F' f' G1 G2 G3 G4 => ⟨rfl, F', f', G1, G2, G3, G4⟩)) (by show d - 1 + 1 ≤ d; omega) (Nat.le_refl _) (Nat.le_refl _) (Nat.le_of_ble_eq_true rfl) (fun h8 e8 => ?_)
      obtain ⟨F8, Fr8, M8, C8, e85, e86⟩ := e8
      refine r_iload_n d_Mo_tick_103 rfl ?_
      have srt8 : srt (sp_tPay now L R).1 := pay_srt (renew_srt (row := L.2.2.2.2.2) hB hsB _ (Nat.le_refl _)).1
      refine r_iret d_Mo_tick_104 rfl (hΦ h8 F8 V5 (frP_tr (frP_tr (frP_tr (frP_tr (frP_tr FF Fr4) Fr5) Fr6) Fr7) Fr8) M8 ?_ ?_ ⟨E7.ch C8 (fun j hj => by unfold Dtu; omega), ⟨e85, e86⟩, ⟨T70.ch C8 (fun j i z1 z2 => by unfold Dq at z1; unfold Dtu at z2; omega), T71.ch C8 (fun j i z1 z2 => by unfold Dq at z1; unfold Dtu at z2; omega)⟩, ⟨ok70, ok71⟩, ?_, ⟨?_, a10⟩, B7.ch C8 (by unfold Dtu; omega) (fun j i _ _ _ _ => by unfold Dtu; omega), srt8⟩ ?_) (Nat.le_refl _) (Nat.le_refl _)
      · refine ch_tr (ch_tr (ch_mo CC (fun j i z => ?_)) (ch_mo C37 (fun j i z => ?_))) (ch_mo C8 (fun j i z => ?_))
        · rcases z with z | z | z
          · exact in_q0 z
          · exact in_q1 z
          · exact in_24 z
        · rcases z with z | z | z
          · exact in_lk z
          · exact in_go z
          · exact in_py z
        · exact in_tu z
      · exact v35_tr (v35_tr (v35_k KK) K4) (v35_k K5)
      · have C58 : ch (fun j i => Dsh ln j i ∨ Dpy ln j i ∨ Dtu ln j i) F5 F8 := ch_tr (ch_tr (ch_mo C6 (fun j i z => Or.inl z)) (ch_mo C7 (fun j i z => Or.inr (Or.inl z)))) (ch_mo C8 (fun j i z => Or.inr (Or.inr z)))
        exact HC5.ch C58 (fun i _ _ => by unfold Dsh Dbo Dpy Dq Dtu; omega)
      · exact (C8 4 ln (by unfold Dtu; omega)).trans ((C37 4 ln (by unfold Dlk Dgo Dlv Dbo Dpy Dq; omega)).trans ((CC 4 ln (by unfold Dq; omega)).trans a9))
      · have C58 : ch (fun j i => Dsh ln j i ∨ Dpy ln j i ∨ Dtu ln j i) F5 F8 := ch_tr (ch_tr (ch_mo C6 (fun j i z => Or.inl z)) (ch_mo C7 (fun j i z => Or.inr (Or.inl z)))) (ch_mo C8 (fun j i z => Or.inr (Or.inr z)))
        exact HR5.ch C58 rfl (fun i => by unfold Dsh Dbo Dpy Dq Dtu; omega)
    | succ m ih =>
      intro n h6 F6 hn Fr6 M6 C6 W6 ok6
      have hx := List.getElem?_eq_getElem (show n < (sp_blobs L).length by omega)
      generalize (sp_blobs L)[n] = x at hx
      obtain ⟨x1, x2⟩ := hB x (List.mem_of_getElem? hx)
      have HB6 : MBl F6 V5 (sp_blobs L) := HB5.ch C6 rfl (fun i => ⟨by unfold Dsh Dbo; omega, by unfold Dsh Dbo; omega⟩)
      have est : shsW (sp_blobs L) (keptW (sp_blobs L) L.2.2.2.2.2) (n + 1) = shareW (shsW (sp_blobs L) (keptW (sp_blobs L) L.2.2.2.2.2) n) n x := by rw [shsW, hx]
      refine r_iload_n d_Mo_tick_73 rfl ?_
      refine r_aload_n d_Mo_tick_74 rfl ?_
      refine r_getfield d_Mo_tick_75 f_Mo_92 M6.1 rfl ?_
      refine r_ri HB6.1 ?_
      refine r_icmp_ge 93 d_Mo_tick_78 (by decide) (fun c1 => absurd ((nI_leI (by omega) (by omega)).mp c1) (by omega)) (fun c1 => ?_)
      refine r_aload_n d_Mo_tick_81 rfl ?_
      refine r_iload_n d_Mo_tick_82 rfl ?_
      refine r_iload_n d_Mo_tick_83 rfl ?_
      refine r_cVv [.int (nI ln), .int (nI n)] 57 (d - 1) 0 0 (fun h' => ∃ F', frP h6 h' mod9 ∧ MD h' F' V5 ∧ ch (Dsh ln) F6 F' ∧ MW F' ln (shareW (shsW (sp_blobs L) (keptW (sp_blobs L) L.2.2.2.2.2) n) n x)) d_Mo_tick_84 q_Mo_130 M6.1 rfl rfl (c_Mo_share htr (by omega) hl M6 W6 ok6 HB6 hB (by omega) hx (fun h' F' f' G1 G2 G3 => ⟨rfl, F', f', G1, G2, G3⟩)) (by show d - 1 + 1 ≤ d; omega) (Nat.le_refl _) (Nat.le_refl _) (Nat.le_of_ble_eq_true rfl) (fun h7 e7 => ?_)
      obtain ⟨F7, Fr7, M7, C7, W7⟩ := e7
      refine r_iincP d_Mo_tick_87 rfl (Nat.le_of_ble_eq_true rfl) ?_
      refine r_goto 73 d_Mo_tick_90 (by decide) ?_
      rw [nI_1]
      exact r_loc _ (fun q hq => by simp at hq; rcases hq with q | q | q | q <;> subst q <;> rfl) (ih (n + 1) h7 F7 (by omega) (frP_tr Fr6 Fr7) M7 (ch_tr C6 C7) (by rw [est]; exact W7) (by rw [est]; exact share_ok x1 x2 (by omega) ok6))
  exact r_loc _ (fun q hq => by simp at hq; rcases hq with q | q | q | q <;> subst q <;> rfl) (shares (sp_blobs L).length 0 h5 F5 (by omega) frP_rf M5 ch_rf W5 (keptW_ok a11.2.2.1 hB4))
