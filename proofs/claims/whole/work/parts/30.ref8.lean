/-! THE REFERENCE: the paddles; the rows of both sides are the same -/
def Dtu (ln j i : Nat) : Prop := (j = 5 ∨ j = 6) ∧ i = ln
theorem c_Mo_turn {l : Launch} (htr : l.stackTraces = false) {d : Nat} {h : ac_H} {Φ : ac_R → ac_H → Prop} {ln : Nat} {row : List sp_B} {al ang od w : Int32} {F : Nat → Nat → Int32} {V : Nat → Int32} (hl : ln < 2) (M : MD h F V) (HM : MB F ln row) (ha : V 2 = al) (h5 : F 5 ln = ang) (hw : F 3 ln = w)
    (hΦ : ∀ h' F', frP h h' mod9 → MD h' F' V → ch (Dtu ln) F F' → F' 5 ln = ang + sp_ord (¬ al = 0 ∨ owned row) ang (¬ w &&& 120 = 0) → F' 6 ln = sp_ord (¬ al = 0 ∨ owned row) ang (¬ w &&& 120 = 0) → Φ (.inl none) h') : ac_Mt l d m_Mo_turn [.ref 57, .int (nI ln)] h 0 0 Φ := by
  obtain ⟨r8, r4, rok, rc⟩ := HM
  refine ac_enter (by decide) rfl htr (fun _ => Nat.le_of_ble_eq_true rfl) ?_
  -- the order
  have last : ∀ (ov cv v : Int32), v = sp_ord (¬ al = 0 ∨ owned row) ang (¬ w &&& 120 = 0) → ac_G (l, d, m_Mo_turn, 0, 0, Φ, h.length, none) 113 [(3, .int cv), (2, .int ov), (0, .ref 57), (1, .int (nI ln))] [.int v, .int (nI ln), .ref 64] h 0 0 := by
    intro ov cv v hv
    refine r_mst 6 d_Mo_turn_113 (by omega) (show ln < 2 by omega) M (fun h2 Fr2 M2 => ?_)
    have e5 : up2 F 6 ln v 5 ln = ang := (up2_ne (by omega)).trans h5
    have e6 : up2 F 6 ln v 6 ln = v := up2_eq
    refine r_aload_n d_Mo_turn_114 rfl ?_
    refine r_getfield d_Mo_turn_115 f_Mo_25 M2.1 rfl ?_
    refine r_iload_n d_Mo_turn_118 rfl ?_
    refine r_aload_n d_Mo_turn_119 rfl ?_
    refine r_getfield d_Mo_turn_120 f_Mo_25 M2.1 rfl ?_
    refine r_iload_n d_Mo_turn_123 rfl ?_
    refine r_ialoadN d_Mo_turn_124 (md_angle M2) (show ln < 2 by omega) (by omega) ?_
    refine r_ri e5 ?_
    refine r_aload_n d_Mo_turn_125 rfl ?_
    refine r_getfield d_Mo_turn_126 f_Mo_28 M2.1 rfl ?_
    refine r_iload_n d_Mo_turn_129 rfl ?_
    refine r_pc 130 rfl ?_
    refine r_ialoadN d_Mo_turn_130 (md_order M2) (show ln < 2 by omega) (by omega) ?_
    refine r_ri e6 ?_
    refine r_iadd d_Mo_turn_131 ?_
    refine r_mst 5 d_Mo_turn_132 (by omega) (show ln < 2 by omega) M2 (fun h3 Fr3 M3 => ?_)
    refine r_vret d_Mo_turn_133 rfl (hΦ h3 _ (frP_tr Fr2 Fr3) M3 (ch_tr (ch_up ⟨by omega, rfl⟩) (ch_up ⟨by omega, rfl⟩)) ?_ ?_) (Nat.le_refl _) (Nat.le_refl _)
    · rw [← hv]; exact up2_eq
    · rw [← hv]; exact (up2_ne (by omega)).trans up2_eq
  have clr : ∀ (ov cv : Int32), (¬ ov = 0 ↔ (¬ al = 0 ∨ owned row)) → (¬ cv = 0 ↔ w &&& 120 = 0) → ac_G (l, d, m_Mo_turn, 0, 0, Φ, h.length, none) 66 [(3, .int cv), (2, .int ov), (0, .ref 57), (1, .int (nI ln))] [] h 0 0 := by
    intro ov cv ho hc
    refine r_aload_n d_Mo_turn_66 rfl ?_
    refine r_getfield d_Mo_turn_67 f_Mo_28 M.1 rfl ?_
    refine r_iload_n d_Mo_turn_70 rfl ?_
    refine r_iload_n d_Mo_turn_71 rfl ?_
    refine r_if_eq 94 d_Mo_turn_72 (by decide) (fun c1 => ?_) (fun c1 => ?_)
    · have hno : ¬ (¬ al = 0 ∨ owned row) := fun z => absurd c1 (ho.mpr z)
      refine r_aload_n d_Mo_turn_94 rfl ?_
      refine r_getfield d_Mo_turn_95 f_Mo_25 M.1 rfl ?_
      refine r_iload_n d_Mo_turn_98 rfl ?_
      refine r_ialoadN d_Mo_turn_99 (md_angle M) (show ln < 2 by omega) (by omega) ?_
      refine r_ri h5 ?_
      refine r_if_le 112 d_Mo_turn_100 (by decide) (fun c2 => ?_) (fun c2 => ?_)
      · refine r_iconst 0 d_Mo_turn_112 (by decide) ?_
        refine last ov cv 0 ?_
        unfold sp_ord sp_order
        rw [if_neg hno, if_neg (fun z => by rw [Int32.le_iff_toInt_le] at c2; have := Int32.lt_iff_toInt_lt.mp z.1; omega)]
      · have h0 : 0 < ang := by rw [Int32.lt_iff_toInt_lt]; rw [Int32.le_iff_toInt_le] at c2; omega
        refine r_iload_n d_Mo_turn_103 rfl ?_
        refine r_if_eq 112 d_Mo_turn_104 (by decide) (fun c3 => ?_) (fun c3 => ?_)
        · refine r_iconst 0 d_Mo_turn_112 (by decide) ?_
          refine last ov cv 0 ?_
          unfold sp_ord sp_order
          rw [if_neg hno, if_neg (fun z => z.2 (fun y => absurd c3 (hc.mpr y)))]
        · refine r_bipush (-2) d_Mo_turn_107 (by decide) ?_
          refine r_goto 113 d_Mo_turn_109 (by decide) ?_
          refine last ov cv (-2) ?_
          unfold sp_ord sp_order
          rw [if_neg hno, if_pos ⟨h0, fun y => y (hc.mp c3)⟩]
    · have hyes : ¬ al = 0 ∨ owned row := ho.mp c1
      refine r_aload_n d_Mo_turn_75 rfl ?_
      refine r_getfield d_Mo_turn_76 f_Mo_25 M.1 rfl ?_
      refine r_iload_n d_Mo_turn_79 rfl ?_
      refine r_ialoadN d_Mo_turn_80 (md_angle M) (show ln < 2 by omega) (by omega) ?_
      refine r_ri h5 ?_
      refine r_bipush 90 d_Mo_turn_81 (by decide) ?_
      refine r_icmp_ge 90 d_Mo_turn_83 (by decide) (fun c2 => ?_) (fun c2 => ?_)
      · refine r_iconst 0 d_Mo_turn_90 (by decide) ?_
        refine r_goto 113 d_Mo_turn_91 (by decide) ?_
        refine last ov cv 0 ?_
        unfold sp_ord sp_order
        rw [if_pos hyes, if_neg (fun z => by rw [Int32.le_iff_toInt_le] at c2; have := Int32.lt_iff_toInt_lt.mp z; omega)]
      · refine r_iconst 2 d_Mo_turn_86 (by decide) ?_
        refine r_goto 113 d_Mo_turn_87 (by decide) ?_
        refine last ov cv 2 ?_
        unfold sp_ord sp_order
        rw [if_pos hyes, if_pos (by rw [Int32.lt_iff_toInt_lt]; rw [Int32.le_iff_toInt_le] at c2; omega)]
  have key : ∀ (rest pre : List sp_B) (ov : Int32), row = pre ++ rest → (¬ ov = 0 ↔ (¬ al = 0 ∨ owned pre)) → ac_G (l, d, m_Mo_turn, 0, 0, Φ, h.length, none) 7 [(3, .int (nI pre.length)), (2, .int ov), (0, .ref 57), (1, .int (nI ln))] [] h 0 0 := by
    intro rest
    induction rest with
    | nil =>
      intro pre ov e ho
      rw [List.append_nil] at e
      subst e
      refine r_iload_n d_Mo_turn_7 rfl ?_
      refine r_aload_n d_Mo_turn_8 rfl ?_
      refine r_getfield d_Mo_turn_9 f_Mo_34 M.1 rfl ?_
      refine r_iload_n d_Mo_turn_12 rfl ?_
      refine r_ialoadN d_Mo_turn_13 (md_bodies M) (show ln < 2 by omega) (by omega) ?_
      refine r_ri r8 ?_
      refine r_icmp_ge 46 d_Mo_turn_14 (by decide) (fun c1 => ?_) (fun c1 => absurd (nI_le (Nat.le_refl _) (by omega)) c1)
      refine r_aload_n d_Mo_turn_46 rfl ?_
      refine r_getfield d_Mo_turn_47 f_Mo_19 M.1 rfl ?_
      refine r_iload_n d_Mo_turn_50 rfl ?_
      refine r_ialoadN d_Mo_turn_51 (md_seen M) (show ln < 2 by omega) (by omega) ?_
      refine r_ri hw ?_
      refine r_iconst 3 d_Mo_turn_52 (by decide) ?_
      refine r_ishr d_Mo_turn_53 ?_
      refine r_bipush 15 d_Mo_turn_54 (by decide) ?_
      refine r_iand d_Mo_turn_56 ?_
      refine r_if_ne 64 d_Mo_turn_57 (by decide) (fun c2 => ?_) (fun c2 => ?_)
      · refine r_iconst 0 d_Mo_turn_64 (by decide) ?_
        refine r_istore_n d_Mo_turn_65 (Nat.le_of_ble_eq_true rfl) ?_
        exact r_loc _ (fun q hq => by simp at hq; rcases hq with q | q | q | q <;> subst q <;> rfl) (clr ov 0 ho ⟨fun z => absurd rfl z, fun z => absurd ((clear_iff w).mpr z) c2⟩)
      · refine r_iconst 1 d_Mo_turn_60 (by decide) ?_
        refine r_goto 65 d_Mo_turn_61 (by decide) ?_
        refine r_istore_n d_Mo_turn_65 (Nat.le_of_ble_eq_true rfl) ?_
        exact r_loc _ (fun q hq => by simp at hq; rcases hq with q | q | q | q <;> subst q <;> rfl) (clr ov 1 ho ⟨fun _ => (clear_iff w).mp c2, fun _ => by decide⟩)
    | cons y rest ih =>
      intro pre ov e ho
      have hlen : row.length = pre.length + (rest.length + 1) := by rw [e, List.length_append, List.length_cons]
      have hy : row[pre.length]? = some y := by rw [e, List.getElem?_append_right (Nat.le_refl _), Nat.sub_self]; rfl
      have oky := rok y (List.mem_of_getElem? hy)
      have b4 := (rc _ y hy).2.2.2.1
      have ow : owned (pre ++ [y]) ↔ (owned pre ∨ ¬ y.2.2.2.1 = -1) := by
        unfold owned
        constructor
        · intro ⟨x, hx, hn⟩
          rcases List.mem_append.mp hx with q | q
          · exact Or.inl ⟨x, q, hn⟩
          · simp at q; subst q; exact Or.inr hn
        · intro z
          rcases z with ⟨x, hx, hn⟩ | hn
          · exact ⟨x, List.mem_append_left _ hx, hn⟩
          · exact ⟨y, by simp, hn⟩
      have lenp : (pre ++ [y]).length = pre.length + 1 := by rw [List.length_append]; rfl
      have go : ∀ v : Int32, (¬ v = 0 ↔ (¬ al = 0 ∨ owned (pre ++ [y]))) → ac_G (l, d, m_Mo_turn, 0, 0, Φ, h.length, none) 39 [(3, .int (nI pre.length)), (2, .int ov), (0, .ref 57), (1, .int (nI ln))] [.int v] h 0 0 := by
        intro v hv
        refine r_istore_n d_Mo_turn_39 (Nat.le_of_ble_eq_true rfl) ?_
        refine r_iincP d_Mo_turn_40 rfl (Nat.le_of_ble_eq_true rfl) ?_
        refine r_goto 7 d_Mo_turn_43 (by decide) ?_
        rw [nI_1]
        have := ih (pre ++ [y]) v (by rw [e]; simp) hv
        rw [lenp] at this
        exact r_loc _ (fun q hq => by simp at hq; rcases hq with q | q | q | q <;> subst q <;> rfl) this
      refine r_iload_n d_Mo_turn_7 rfl ?_
      refine r_aload_n d_Mo_turn_8 rfl ?_
      refine r_getfield d_Mo_turn_9 f_Mo_34 M.1 rfl ?_
      refine r_iload_n d_Mo_turn_12 rfl ?_
      refine r_ialoadN d_Mo_turn_13 (md_bodies M) (show ln < 2 by omega) (by omega) ?_
      refine r_ri r8 ?_
      refine r_icmp_ge 46 d_Mo_turn_14 (by decide) (fun c1 => absurd ((nI_leI (by omega) (by omega)).mp c1) (by omega)) (fun c1 => ?_)
      refine r_iload_n d_Mo_turn_17 rfl ?_
      refine r_if_ne 34 d_Mo_turn_18 (by decide) (fun c2 => ?_) (fun c2 => ?_)
      · refine r_iconst 1 d_Mo_turn_34 (by decide) ?_
        refine r_goto 39 d_Mo_turn_35 (by decide) ?_
        exact go 1 ⟨fun _ => (ho.mp c2).elim Or.inl (fun z => Or.inr (ow.mpr (Or.inl z))), fun _ => by decide⟩
      · refine r_aload_n d_Mo_turn_21 rfl ?_
        refine r_getfield d_Mo_turn_22 f_Mo_46 M.1 rfl ?_
        refine r_iconst 5 d_Mo_turn_25 (by decide) ?_
        refine r_iload_n d_Mo_turn_26 rfl ?_
        refine r_ri2 (show (5 : Int32) = nI 5 by decide) ?_
        refine r_imul d_Mo_turn_27 ?_
        refine r_ri (pk_mul _ _) ?_
        refine r_iload_n d_Mo_turn_28 rfl ?_
        refine r_iadd d_Mo_turn_29 ?_
        refine r_ri (nI_add _ _) ?_
        refine r_ialoadN d_Mo_turn_30 (md_owns M) (show 5 * ln + pre.length < 10 by omega) (by omega) ?_
        refine r_ri b4 ?_
        refine r_if_lt 38 d_Mo_turn_31 (by decide) (fun c3 => ?_) (fun c3 => ?_)
        · refine r_iconst 0 d_Mo_turn_38 (by decide) ?_
          exact go 0 ⟨fun z => absurd rfl z, fun z => by
            rcases z with z | z
            · exact absurd c2 (ho.mpr (Or.inl z))
            · rcases ow.mp z with z | z
              · exact absurd c2 (ho.mpr (Or.inr z))
              · exact absurd ((own_lt oky).mp c3) z⟩
        · refine r_iconst 1 d_Mo_turn_34 (by decide) ?_
          refine r_goto 39 d_Mo_turn_35 (by decide) ?_
          exact go 1 ⟨fun _ => Or.inr (ow.mpr (Or.inr (fun z => c3 ((own_lt oky).mpr z)))), fun _ => by decide⟩
  refine r_aload_n d_Mo_turn_0 rfl ?_
  refine r_getfield d_Mo_turn_1 f_Mo_117 M.1 rfl ?_
  refine r_ri ha ?_
  refine r_istore_n d_Mo_turn_4 (Nat.le_of_ble_eq_true rfl) ?_
  refine r_iconst 0 d_Mo_turn_5 (by decide) ?_
  refine r_ri (show (0 : Int32) = nI 0 by decide) ?_
  refine r_istore_n d_Mo_turn_6 (Nat.le_of_ble_eq_true rfl) ?_
  exact r_loc _ (fun q hq => by simp at hq; rcases hq with q | q | q | q <;> subst q <;> rfl) (key row [] al rfl ⟨fun z => Or.inl z, fun z => z.elim id (fun ⟨x, hx, _⟩ => by cases hx)⟩)
/-! the order of the row -/
def iv (b : sp_B) : Nat × Nat := (b.1, b.2.1)
def srt (row : List sp_B) : Prop := row.Pairwise (fun a b => a.1 ≤ b.1 ∧ a.2.1 ≤ b.2.1)
def srtB (B : List (Nat × Nat)) : Prop := B.Pairwise (fun x y => x.2 < y.1)
theorem find_srt (w : Int32) : ∀ n, srtB (sp_find w n)
  | 0 => List.Pairwise.nil
  | n + 1 => by
    have ih := find_srt w n
    have ap := sp_find_ok w n
    rw [sp_find]
    by_cases hb : sp_bit w n
    · rw [if_pos hb]
      generalize sp_find w n = B at *
      have add : srtB (B ++ [(n, n)]) := List.pairwise_append.mpr ⟨ih, List.pairwise_singleton _ _, fun x hx y hy => by simp at hy; subst hy; exact (ap.1 x hx).2⟩
      rcases List.eq_nil_or_concat B with e | ⟨B0, x, e⟩
      · subst e; exact add
      · rw [List.concat_eq_append] at e
        have ea : sp_add B n = if n ≤ x.2 + 2 then B0 ++ [(x.1, n)] else B ++ [(n, n)] := by
          unfold sp_add
          rw [e]; simp
        rw [ea]
        by_cases c : n ≤ x.2 + 2
        · rw [if_pos c]
          rw [e] at ih
          obtain ⟨i1, i2, i3⟩ := List.pairwise_append.mp ih
          exact List.pairwise_append.mpr ⟨i1, List.pairwise_singleton _ _, fun y hy z hz => by simp at hz; subst hz; exact i3 y hy x (by simp)⟩
        · rw [if_neg c]; exact add
    · rw [if_neg hb]; exact ih
theorem srtB_at {B : List (Nat × Nat)} (h : srtB B) {i j : Nat} {x y : Nat × Nat} (hi : B[i]? = some x) (hj : B[j]? = some y) (hij : i < j) : x.2 < y.1 := by
  obtain ⟨hi1, hi2⟩ := List.getElem?_eq_some_iff.mp hi
  obtain ⟨hj1, hj2⟩ := List.getElem?_eq_some_iff.mp hj
  have := List.pairwise_iff_getElem.mp h i j hi1 hj1 hij
  rw [hi2, hj2] at this
  exact this
theorem goal_spec {B : List (Nat × Nat)} {b : sp_B} {k : Nat} (h : sp_goal B b = some k) : (∃ x, B[k]? = some x ∧ meets b x) ∧ ∀ j x, j < k → B[j]? = some x → ¬ meets b x := by
  unfold sp_goal at h
  obtain ⟨h1, h2, h3⟩ := List.findIdx?_eq_some_iff_getElem.mp h
  refine ⟨⟨B[k], List.getElem?_eq_getElem h1, mt_iff.mp h2⟩, fun j x hj hx hm => ?_⟩
  obtain ⟨hj1, hj2⟩ := List.getElem?_eq_some_iff.mp hx
  have := h3 j hj
  rw [hj2] at this
  rw [mt_iff.mpr hm] at this
  exact absurd this (by simp)
theorem goal_mono {B : List (Nat × Nat)} (hB : okBl B) (hs : srtB B) {a b : sp_B} (h : a.1 ≤ b.1 ∧ a.2.1 ≤ b.2.1) {k k' : Nat} (ha : sp_goal B a = some k) (hb : sp_goal B b = some k') : k ≤ k' := by
  rcases Nat.lt_or_ge k' k with z | z
  · exfalso
    obtain ⟨⟨x, hx, mx⟩, ha2⟩ := goal_spec ha
    obtain ⟨⟨y, hy, my⟩, _⟩ := goal_spec hb
    have hn := ha2 k' y z hy
    have hxy := srtB_at hs hy hx z
    have ox := hB x (List.mem_of_getElem? hx)
    have oy := hB y (List.mem_of_getElem? hy)
    unfold meets at mx my hn
    omega
  · exact z
/-- goals never fall along the row -/
def gmon (B : List (Nat × Nat)) (row : List sp_B) : Prop := row.Pairwise (fun a b => ∀ k k', sp_goal B a = some k → sp_goal B b = some k' → k ≤ k')
theorem gmon_of {B : List (Nat × Nat)} {row : List sp_B} (hB : okBl B) (hs : srtB B) (h : srt row) : gmon B row := List.Pairwise.imp (fun h k k' ha hb => goal_mono hB hs h ha hb) h
theorem kept_split {B : List (Nat × Nat)} (n : Nat) : ∀ {row : List sp_B}, gmon B row → sp_kept B row n = sel B n row ++ sp_kept B row (n + 1)
  | [], _ => rfl
  | b :: row, h => by
    obtain ⟨h1, h2⟩ := List.pairwise_cons.mp h
    have ih := kept_split n h2
    unfold sp_kept sel at *
    cases hg : sp_goal B b with
    | none => rw [List.filter_cons_of_neg (by simp [hg]), List.filter_cons_of_neg (by simp [hg]), List.filter_cons_of_neg (by simp [hg])]; exact ih
    | some k =>
      rcases Nat.lt_trichotomy n k with q | q | q
      · rw [List.filter_cons_of_pos (by simp [hg]; omega), List.filter_cons_of_neg (by simp [hg]; omega), List.filter_cons_of_pos (by simp [hg]; omega), ih]
        have : List.filter (fun b => sp_goal B b == some n) row = [] := by
          rw [List.filter_eq_nil_iff]
          intro a ha hz
          have ha2 : sp_goal B a = some n := by simpa using hz
          have := h1 a ha k n hg ha2
          omega
        rw [this]; rfl
      · rw [List.filter_cons_of_pos (by simp [hg]; omega), List.filter_cons_of_pos (by simp [hg]; omega), List.filter_cons_of_neg (by simp [hg]; omega), ih]; rfl
      · rw [List.filter_cons_of_neg (by simp [hg]; omega), List.filter_cons_of_neg (by simp [hg]; omega), List.filter_cons_of_neg (by simp [hg]; omega)]; exact ih
