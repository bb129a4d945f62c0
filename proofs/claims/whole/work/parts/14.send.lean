/-! WHO LEAVES -/
def sp_inc (c : Nat → Int32) (k : Nat) : Nat → Int32 := upd c k (c k + 1)
noncomputable def sp_cnt (b : sp_B) (c : Nat → Int32) : Nat → Int32 := @ite _ (thru b) (Classical.propDecidable _) (if 6 ≤ b.2.2.2.2 then sp_inc (sp_inc c (if b.2.2.2.1 = -1 then 1 else 0)) 4 else sp_inc c (if b.2.2.2.1 = -1 then 1 else 0)) (sp_inc c (@ite _ (turnd b) (Classical.propDecidable _) 2 3))
noncomputable def sp_rf (b : sp_B) : List Int32 := @ite _ (thru b ∨ b.2.2.2.1 = -1) (Classical.propDecidable _) [] [b.2.2.2.1]
theorem c_Lane_countLeaver {l : Launch} (htr : l.stackTraces = false) {d : Nat} {h : ac_H} {Φ : ac_R → ac_H → Prop} {b r r' m n w rr : Nat} {x : sp_B} {c : Nat → Int32} {R : List Int32} (hd : 2 ≤ d) (hb : h[b]? = some (lnO b r r' m n)) (hw : h[w]? = some (bo x)) (ok : okB x) (hc : h[b + 13]? = some (.inl (.inl (5, c)))) (HR : Rfs h rr R) (hcap : ¬ x.2.2.2.1 = -1 → R.length < 512) (hwb : w ≠ b + 13) (hrr : b + 24 < rr) (hwr : w < rr)
    (hΦ : ∀ h', fr h h' [b + 13, rr, rr + 1] → h'[b + 13]? = some (.inl (.inl (5, sp_cnt x c))) → Rfs h' rr (R ++ sp_rf x) → Φ (.inl none) h') : ac_Mt l d m_Lane_countLeaver [.ref b, .ref w, .ref rr] h 0 0 Φ := by
  have o4 := ok.2.2.2.1
  refine ac_enter (by decide) rfl htr (fun _ => Nat.le_of_ble_eq_true rfl) ?_
  have main : ∀ t : Int32, (t = 0 ↔ x.2.2.2.1 = -1) → ac_G (l, d, m_Lane_countLeaver, 0, 0, Φ, h.length, none) 14 [(3, .int t), (0, .ref b), (1, .ref w), (2, .ref rr)] [] h 0 0 := by
    intro t ht
    refine r_aload_n d_Lane_countLeaver_14 rfl ?_
    refine r_cVi [] w (d - 1) 0 0 (b01 (thru x)) (fun h' => h = h') d_Lane_countLeaver_15 q_Lane_118 hw rfl rfl (c_Body_isThrough htr (by omega) hw ok ⟨rfl, rfl⟩) (by show d - 1 + 1 ≤ d; omega) (Nat.le_refl _) (Nat.le_refl _) (Nat.le_of_ble_eq_true rfl) (fun h' e9 => ?_)
    subst e9
    refine r_if_eq 59 d_Lane_countLeaver_18 (by decide) (fun c1 => ?_) (fun c1 => ?_)
    · have hnt := b01_0.mp c1
      refine r_aload_n d_Lane_countLeaver_59 rfl ?_
      refine r_getfield d_Lane_countLeaver_60 f_Lane_41 hb rfl ?_
      refine r_aload_n d_Lane_countLeaver_63 rfl ?_
      refine r_cVi [] w (d - 1) 0 0 (b01 (turnd x)) (fun h' => h = h') d_Lane_countLeaver_64 q_Lane_124 hw rfl rfl (c_Body_isTurned htr (by omega) hw ok ⟨rfl, rfl⟩) (by show d - 1 + 1 ≤ d; omega) (Nat.le_refl _) (Nat.le_refl _) (Nat.le_of_ble_eq_true rfl) (fun h' e9 => ?_)
      subst e9
      have go : ∀ kd : Nat, kd < 5 → sp_cnt x c = sp_inc c kd → ac_G (l, d, m_Lane_countLeaver, 0, 0, Φ, h.length, none) 75 [(3, .int t), (0, .ref b), (1, .ref w), (2, .ref rr)] [.int (nI kd), .ref (b + 13)] h 0 0 := by
        intro kd hkd he
        refine r_dup2 d_Lane_countLeaver_75 rfl rfl ?_
        refine r_ialoadN d_Lane_countLeaver_76 hc hkd (by omega) ?_
        refine r_iconst 1 d_Lane_countLeaver_77 (by decide) ?_
        refine r_iadd d_Lane_countLeaver_78 ?_
        refine r_iastoreN d_Lane_countLeaver_79 hc hkd (by omega) (fun h79_ fr79 g79 => ?_)
        refine r_iload_n d_Lane_countLeaver_80 rfl ?_
        have hRf : ∀ (h2 : ac_H), fr h h2 [b + 13] → h2[b + 13]? = some (.inl (.inl (5, sp_cnt x c))) → ¬ x.2.2.2.1 = -1 → ac_G (l, d, m_Lane_countLeaver, 0, 0, Φ, h.length, none) 84 [(3, .int t), (0, .ref b), (1, .ref w), (2, .ref rr)] [] h2 0 0 := by
          intro h2 F2 G2 hne
          have hw2 := fr_at F2 (b := w) (by simp [hwb]) hw
          have HR2 : Rfs h2 rr R := HR.fr F2 (by simp only [List.mem_cons, List.not_mem_nil, or_false, not_or]; omega) (by simp only [List.mem_cons, List.not_mem_nil, or_false, not_or]; omega)
          have hcap9 := hcap hne
          refine r_aload_n d_Lane_countLeaver_84 rfl ?_
          refine r_aload_n d_Lane_countLeaver_85 rfl ?_
          refine r_getfield d_Lane_countLeaver_86 f_Lane_115 hw2 rfl ?_
          refine r_cVv [.int x.2.2.2.1] rr (d - 1) 0 0 (fun h' => fr h2 h' [rr, rr + 1] ∧ Rfs h' rr (R ++ [x.2.2.2.1])) d_Lane_countLeaver_89 q_Lane_127 HR2.1 rfl rfl (c_Rf_add htr HR2 (fun _ h' f' H' => ⟨rfl, f', H'⟩) (fun e => absurd e (by omega))) (by show d - 1 + 1 ≤ d; omega) (Nat.le_refl _) (Nat.le_refl _) (Nat.le_of_ble_eq_true rfl) (fun h4 e4 => ?_)
          refine r_vret d_Lane_countLeaver_92 rfl (hΦ _ (fr_tr F2 e4.1 (by simp) (by simp)) (fr_at e4.1 (by simp only [List.mem_cons, List.not_mem_nil, or_false, not_or]; omega) G2) ?_) (Nat.le_refl _) (Nat.le_refl _)
          have e5 : sp_rf x = [x.2.2.2.1] := if_neg (fun z => z.elim hnt hne)
          rw [e5]; exact e4.2
        refine r_if_eq 92 d_Lane_countLeaver_81 (by decide) (fun c2 => ?_) (fun c2 => ?_)
        · refine r_vret d_Lane_countLeaver_92 rfl (hΦ _ (fr_mo fr79 (by simp)) (by rw [he]; exact g79) ?_) (Nat.le_refl _) (Nat.le_refl _)
          have e5 : sp_rf x = [] := if_pos (Or.inr (ht.mp c2))
          rw [e5, List.append_nil]
          exact HR.fr fr79 (by simp only [List.mem_cons, List.not_mem_nil, or_false, not_or]; omega) (by simp only [List.mem_cons, List.not_mem_nil, or_false, not_or]; omega)
        · exact hRf _ fr79 (by rw [he]; exact g79) (fun z => c2 (ht.mpr z))
      refine r_if_eq 74 d_Lane_countLeaver_67 (by decide) (fun c2 => ?_) (fun c2 => ?_)
      · refine r_iconst 3 d_Lane_countLeaver_74 (by decide) ?_
        refine r_ri nI3 ?_
        exact go 3 (by omega) (by unfold sp_cnt; rw [if_neg hnt, if_neg (b01_0.mp c2)])
      · refine r_iconst 2 d_Lane_countLeaver_70 (by decide) ?_
        refine r_goto 75 d_Lane_countLeaver_71 (by decide) ?_
        refine r_ri nI2 ?_
        exact go 2 (by omega) (by unfold sp_cnt; rw [if_neg hnt, if_pos (Classical.byContradiction fun z => c2 (b01_f z))])
    · have hth : thru x := Classical.byContradiction fun z => c1 (b01_f z)
      have e5 : sp_rf x = [] := if_pos (Or.inl hth)
      refine r_aload_n d_Lane_countLeaver_21 rfl ?_
      refine r_getfield d_Lane_countLeaver_22 f_Lane_41 hb rfl ?_
      refine r_iload_n d_Lane_countLeaver_25 rfl ?_
      have go : ∀ kd : Nat, kd < 5 → (if x.2.2.2.1 = -1 then 1 else 0) = kd → ac_G (l, d, m_Lane_countLeaver, 0, 0, Φ, h.length, none) 34 [(3, .int t), (0, .ref b), (1, .ref w), (2, .ref rr)] [.int (nI kd), .ref (b + 13)] h 0 0 := by
        intro kd hkd he
        refine r_dup2 d_Lane_countLeaver_34 rfl rfl ?_
        refine r_ialoadN d_Lane_countLeaver_35 hc hkd (by omega) ?_
        refine r_iconst 1 d_Lane_countLeaver_36 (by decide) ?_
        refine r_iadd d_Lane_countLeaver_37 ?_
        refine r_iastoreN d_Lane_countLeaver_38 hc hkd (by omega) (fun h38_ fr38 g38 => ?_)
        have hw2 := fr_at fr38 (b := w) (by simp [hwb]) hw
        have hb2 := fr_at fr38 (b := b) (by simp only [List.mem_cons, List.not_mem_nil, or_false, not_or]; omega) hb
        refine r_aload_n d_Lane_countLeaver_39 rfl ?_
        refine r_getfield d_Lane_countLeaver_40 f_Lane_121 hw2 rfl ?_
        refine r_bipush 6 d_Lane_countLeaver_43 (by decide) ?_
        refine r_ri nI6 ?_
        refine r_icmp_lt 58 d_Lane_countLeaver_45 (by decide) (fun c2 => ?_) (fun c2 => ?_)
        · have h6 := (nI_ltI (by omega) (by omega)).mp c2
          refine r_vret d_Lane_countLeaver_58 rfl (hΦ _ (fr_mo fr38 (by simp)) ?_ ?_) (Nat.le_refl _) (Nat.le_refl _)
          · have : sp_cnt x c = sp_inc c kd := by unfold sp_cnt; rw [if_pos hth, if_neg (by omega), he]
            rw [this]; exact g38
          · rw [e5, List.append_nil]; exact HR.fr fr38 (by simp only [List.mem_cons, List.not_mem_nil, or_false, not_or]; omega) (by simp only [List.mem_cons, List.not_mem_nil, or_false, not_or]; omega)
        · have h6 : ¬ x.2.2.2.2 < 6 := fun z => c2 ((nI_ltI (by omega) (by omega)).mpr z)
          refine r_aload_n d_Lane_countLeaver_48 rfl ?_
          refine r_getfield d_Lane_countLeaver_49 f_Lane_41 hb2 rfl ?_
          refine r_iconst 4 d_Lane_countLeaver_52 (by decide) ?_
          refine r_ri nI4 ?_
          refine r_dup2 d_Lane_countLeaver_53 rfl rfl ?_
          refine r_ialoadN d_Lane_countLeaver_54 g38 (by omega) (by omega) ?_
          refine r_iconst 1 d_Lane_countLeaver_55 (by decide) ?_
          refine r_iadd d_Lane_countLeaver_56 ?_
          refine r_iastoreN d_Lane_countLeaver_57 g38 (by omega) (by omega) (fun h57_ fr57 g57 => ?_)
          refine r_vret d_Lane_countLeaver_58 rfl (hΦ _ (fr_tr fr38 fr57 (by simp) (by simp)) ?_ ?_) (Nat.le_refl _) (Nat.le_refl _)
          · have : sp_cnt x c = sp_inc (sp_inc c kd) 4 := by unfold sp_cnt; rw [if_pos hth, if_pos (by omega), he]
            rw [this]; exact g57
          · rw [e5, List.append_nil]; exact (HR.fr fr38 (by simp only [List.mem_cons, List.not_mem_nil, or_false, not_or]; omega) (by simp only [List.mem_cons, List.not_mem_nil, or_false, not_or]; omega)).fr fr57 (by simp only [List.mem_cons, List.not_mem_nil, or_false, not_or]; omega) (by simp only [List.mem_cons, List.not_mem_nil, or_false, not_or]; omega)
      refine r_if_eq 33 d_Lane_countLeaver_26 (by decide) (fun c2 => ?_) (fun c2 => ?_)
      · refine r_iconst 1 d_Lane_countLeaver_33 (by decide) ?_
        refine r_ri nI1 ?_
        exact go 1 (by omega) (by rw [if_pos (ht.mp c2)])
      · refine r_iconst 0 d_Lane_countLeaver_29 (by decide) ?_
        refine r_goto 34 d_Lane_countLeaver_30 (by decide) ?_
        refine r_ri nI_0.symm ?_
        exact go 0 (by omega) (by rw [if_neg (fun z => c2 (ht.mpr z))])
  refine r_aload_n d_Lane_countLeaver_0 rfl ?_
  refine r_getfield d_Lane_countLeaver_1 f_Lane_115 hw rfl ?_
  refine r_iconst (-1) d_Lane_countLeaver_4 (by decide) ?_
  refine r_icmp_eq 12 d_Lane_countLeaver_5 (by decide) (fun c1 => ?_) (fun c1 => ?_)
  · refine r_iconst 0 d_Lane_countLeaver_12 (by decide) ?_
    refine r_istore_n d_Lane_countLeaver_13 (Nat.le_of_ble_eq_true rfl) ?_
    exact main 0 ⟨fun _ => c1, fun _ => rfl⟩
  · refine r_iconst 1 d_Lane_countLeaver_8 (by decide) ?_
    refine r_goto 13 d_Lane_countLeaver_9 (by decide) ?_
    refine r_istore_n d_Lane_countLeaver_13 (Nat.le_of_ble_eq_true rfl) ?_
    exact main 1 ⟨fun z => absurd z (by decide), fun z => absurd z c1⟩
def sp_goal (B : List (Nat × Nat)) (b : sp_B) : Option Nat := B.findIdx? (fun x => mt b x)
theorem goal_some {B : List (Nat × Nat)} {b : sp_B} {k : Nat} (hk : k < B.length) (h : goesTo B b k) : sp_goal B b = some k := by
  obtain ⟨⟨x, hx, hm⟩, hn⟩ := h
  refine List.findIdx?_eq_some_iff_getElem.mpr ⟨hk, ?_, fun j hj => ?_⟩
  · rw [List.getElem?_eq_getElem hk] at hx
    cases hx
    exact mt_iff.mpr hm
  · intro z
    exact hn j hj _ (List.getElem?_eq_getElem (by omega)) (mt_iff.mp z)
theorem goal_none {B : List (Nat × Nat)} {b : sp_B} (h : lost9 B b) : sp_goal B b = none := List.findIdx?_eq_none_iff.mpr fun x hx => by
  cases hm : mt b x with
  | false => rfl
  | true => exact absurd (mt_iff.mp hm) (h x hx)
theorem goal_lt {B : List (Nat × Nat)} {b : sp_B} {k : Nat} (h : sp_goal B b = some k) : k < B.length := (List.findIdx?_eq_some_iff_getElem.mp h).1
theorem gI_m1 {o : Option Nat} (ho : ∀ j, o = some j → j < 4) : gI o = -1 ↔ o = none := by
  cases o with
  | none => exact ⟨fun _ => rfl, fun _ => rfl⟩
  | some k =>
    have := ho k rfl
    refine ⟨fun z => ?_, fun z => by cases z⟩
    have z2 : nI k = -1 := z
    rcases (show k = 0 ∨ k = 1 ∨ k = 2 ∨ k = 3 by omega) with q | q | q | q <;> rw [q] at z2 <;> exact absurd z2 (by decide)
def sp_gone (B : List (Nat × Nat)) (row : List sp_B) : List sp_B := row.filter (fun b => (sp_goal B b).isNone)
noncomputable def sp_cnts (bs : List sp_B) (c : Nat → Int32) : Nat → Int32 := bs.foldl (fun c b => sp_cnt b c) c
theorem sp_rf_le (b : sp_B) : (sp_rf b).length ≤ 1 := by
  unfold sp_rf
  by_cases h : thru b ∨ b.2.2.2.1 = -1
  · rw [if_pos h]; exact Nat.zero_le 1
  · rw [if_neg h]; exact Nat.le_refl 1
/-- how many have a token -/
def ownN (row : List sp_B) : Nat := row.countP (fun b => !decide (b.2.2.2.1 = -1))
theorem ownN_c (b : sp_B) (bs : List sp_B) : ownN (b :: bs) = ownN bs + (if b.2.2.2.1 = -1 then 0 else 1) := by
  unfold ownN
  rw [List.countP_cons]
  by_cases c : b.2.2.2.1 = -1 <;> simp [c]
theorem ownN_a (a b : List sp_B) : ownN (a ++ b) = ownN a + ownN b := List.countP_append
theorem ownN_f (p : sp_B → Bool) (a : List sp_B) : ownN (a.filter p) ≤ ownN a := List.Sublist.countP_le List.filter_sublist
theorem ownN_le (a : List sp_B) : ownN a ≤ a.length := List.countP_le_length
theorem sp_rf_le2 (b : sp_B) : (sp_rf b).length ≤ (if b.2.2.2.1 = -1 then 0 else 1) := by
  unfold sp_rf
  by_cases h : b.2.2.2.1 = -1
  · rw [if_pos (Or.inr h), if_pos h]; exact Nat.le_refl 0
  · rw [if_neg h]
    by_cases h2 : thru b
    · rw [if_pos (Or.inl h2)]; exact Nat.zero_le 1
    · rw [if_neg (fun z => z.elim h2 h)]; exact Nat.le_refl 1
theorem sp_rfs_le : ∀ bs : List sp_B, (bs.flatMap sp_rf).length ≤ ownN bs
  | [] => Nat.le_refl 0
  | b :: bs => by
    rw [List.flatMap_cons, List.length_append, ownN_c]
    have h1 := sp_rf_le2 b
    have h2 := sp_rfs_le bs
    omega
theorem isG_put {G : List (Option Nat)} {gl : Nat → Int32} {o : Option Nat} (h : isG G gl) (ho : ∀ k, o = some k → k < 4) : isG (G ++ [o]) (upd gl G.length (gI o)) := by
  intro i x hx
  unfold upd
  by_cases hi : i < G.length
  · rw [List.getElem?_append_left hi] at hx
    rw [if_neg (by omega)]; exact h i x hx
  · rw [List.getElem?_append_right (by omega)] at hx
    have h1 : i - G.length < 1 := (List.getElem?_eq_some_iff.mp hx).1
    have e : i = G.length := by omega
    subst e
    rw [Nat.sub_self] at hx
    cases hx
    rw [if_pos rfl]; exact ⟨rfl, ho⟩
theorem c_Lane_sendBodies {l : Launch} (htr : l.stackTraces = false) {d : Nat} {h : ac_H} {Φ : ac_R → ac_H → Prop} {b r r' m rr : Nat} {row : List sp_B} {RW : Nat → sp_B} {B : List (Nat × Nat)} {gl c : Nat → Int32} {R : List Int32} (hd : 3 ≤ d) (hb : h[b]? = some (lnO b r r' m row.length)) (HW : Rws h r RW) (hrow : isRow row RW) (HB : Bls h (b + 2) B) (hg : h[b + 14]? = some (.inl (.inl (4, gl)))) (hc : h[b + 13]? = some (.inl (.inl (5, c)))) (HR : Rfs h rr R) (hcap : R.length + ownN row ≤ 512) (hr : r = b + 15 ∨ r = b + 20) (hrr : b + 24 < rr)
    (hΦ : ∀ h' gl', fr h h' [b + 13, b + 14, rr, rr + 1] → h'[b + 14]? = some (.inl (.inl (4, gl'))) → isG (row.map (sp_goal B)) gl' → h'[b + 13]? = some (.inl (.inl (5, sp_cnts (sp_gone B row) c))) → Rfs h' rr (R ++ (sp_gone B row).flatMap sp_rf) → Φ (.inl (some (.int (nI (sp_gone B row).length)))) h') : ac_Mt l d m_Lane_sendBodies [.ref b, .ref rr] h 0 0 Φ := by
  obtain ⟨⟨gr, g1, g2⟩, g3⟩ := id HW
  obtain ⟨r1, r2⟩ := hrow
  have hB4 := HB.2.1
  refine ac_enter (by decide) rfl htr (fun _ => Nat.le_of_ble_eq_true rfl) ?_
  have key : ∀ (rest pre : List sp_B) (h2 : ac_H) (gl2 : Nat → Int32), row = pre ++ rest → fr h h2 [b + 13, b + 14, rr, rr + 1] → h2[b + 14]? = some (.inl (.inl (4, gl2))) → isG (pre.map (sp_goal B)) gl2 → h2[b + 13]? = some (.inl (.inl (5, sp_cnts (sp_gone B pre) c))) → Rfs h2 rr (R ++ (sp_gone B pre).flatMap sp_rf) → ac_G (l, d, m_Lane_sendBodies, 0, 0, Φ, h.length, none) 4 [(3, .int (nI pre.length)), (2, .int (nI (sp_gone B pre).length)), (0, .ref b), (1, .ref rr)] [] h2 0 0 := by
    intro rest
    induction rest with
    | nil =>
      intro pre h2 gl2 e F k1 k2 k3 k4
      rw [List.append_nil] at e
      subst e
      have hb2 := fr_at F (b := b) (by simp only [List.mem_cons, List.not_mem_nil, or_false, not_or]; omega) hb
      refine r_iload_n d_Lane_sendBodies_4 rfl ?_
      refine r_aload_n d_Lane_sendBodies_5 rfl ?_
      refine r_getfield d_Lane_sendBodies_6 f_Lane_52 hb2 rfl ?_
      refine r_icmp_ge 61 d_Lane_sendBodies_9 (by decide) (fun c1 => ?_) (fun c1 => absurd (nI_le (Nat.le_refl _) (by omega)) c1)
      refine r_iload_n d_Lane_sendBodies_61 rfl ?_
      exact r_iret d_Lane_sendBodies_62 rfl (hΦ _ _ F k1 k2 k3 k4) (Nat.le_refl _) (Nat.le_refl _)
    | cons y rest ih =>
      intro pre h2 gl2 e F k1 k2 k3 k4
      have hl : pre.length < row.length := by rw [e]; simp
      have hy : row[pre.length]? = some y := by rw [e, List.getElem?_append_right (Nat.le_refl _), Nat.sub_self]; rfl
      have oky := (r2 _ _ hy).2
      have hb2 := fr_at F (b := b) (by simp only [List.mem_cons, List.not_mem_nil, or_false, not_or]; omega) hb
      have hrow2 := fr_at F (b := r) (by simp only [List.mem_cons, List.not_mem_nil, or_false, not_or]; omega) g1
      have hc2 := fr_at F (b := r + 1 + pre.length) (by simp only [List.mem_cons, List.not_mem_nil, or_false, not_or]; omega) (g3 pre.length (by omega))
      rw [(r2 _ _ hy).1] at hc2
      have HB2 : Bls h2 (b + 2) B := HB.fr F (by simp only [List.mem_cons, List.not_mem_nil, or_false, not_or]; omega) (by simp only [List.mem_cons, List.not_mem_nil, or_false, not_or]; omega) (by simp only [List.mem_cons, List.not_mem_nil, or_false, not_or]; omega)
      have hgl : ∀ k, sp_goal B y = some k → k < 4 := fun k hk => by have := goal_lt hk; omega
      refine r_iload_n d_Lane_sendBodies_4 rfl ?_
      refine r_aload_n d_Lane_sendBodies_5 rfl ?_
      refine r_getfield d_Lane_sendBodies_6 f_Lane_52 hb2 rfl ?_
      refine r_icmp_ge 61 d_Lane_sendBodies_9 (by decide) (fun c1 => absurd ((nI_leI (by omega) (by omega)).mp c1) (by omega)) (fun c1 => ?_)
      refine r_aload_n d_Lane_sendBodies_12 rfl ?_
      refine r_getfield d_Lane_sendBodies_13 f_Lane_45 hb2 rfl ?_
      refine r_iload_n d_Lane_sendBodies_16 rfl ?_
      refine r_aload_n d_Lane_sendBodies_17 rfl ?_
      refine r_getfield d_Lane_sendBodies_18 f_Lane_21 hb2 rfl ?_
      refine r_aload_n d_Lane_sendBodies_21 rfl ?_
      refine r_getfield d_Lane_sendBodies_22 f_Lane_59 hb2 rfl ?_
      refine r_iload_n d_Lane_sendBodies_25 rfl ?_
      refine r_aaloadN d_Lane_sendBodies_26 hrow2 rfl (by omega) (by omega) (g2 _ (by omega)) ?_
      refine r_cVi [.ref (r + 1 + pre.length)] (b + 2) (d - 1) 0 0 (gI (sp_goal B y)) (fun h' => h2 = h') d_Lane_sendBodies_27 q_Lane_107 HB2.1 rfl rfl (c_Blobs_firstMetBy htr (by omega) HB2 hc2 oky (fun z => ⟨by rw [goal_none z]; rfl, rfl⟩) (fun k hk z => ⟨by rw [goal_some hk z]; rfl, rfl⟩)) (by show d - 1 + 1 ≤ d; omega) (Nat.le_refl _) (Nat.le_refl _) (Nat.le_of_ble_eq_true rfl) (fun h' e9 => ?_)
      subst e9
      refine r_iastoreN d_Lane_sendBodies_30 k1 (by omega) (by omega) (fun h30_ fr30 g30 => ?_)
      have p0 := fr_at fr30 (b := b) (by simp only [List.mem_cons, List.not_mem_nil, or_false, not_or]; omega) hb2
      refine r_aload_n d_Lane_sendBodies_31 rfl ?_
      refine r_getfield d_Lane_sendBodies_32 f_Lane_45 p0 rfl ?_
      refine r_iload_n d_Lane_sendBodies_35 rfl ?_
      refine r_ialoadN d_Lane_sendBodies_36 g30 (by omega) (by omega) ?_
      refine r_iconst (-1) d_Lane_sendBodies_37 (by decide) ?_
      have eu : upd gl2 pre.length (gI (sp_goal B y)) pre.length = gI (sp_goal B y) := if_pos rfl
      rw [eu]
      have hG2 : isG ((pre ++ [y]).map (sp_goal B)) (upd gl2 pre.length (gI (sp_goal B y))) := by
        rw [List.map_append]
        have := isG_put k2 hgl
        rw [List.length_map] at this
        exact this
      have F2 : fr h h30_ [b + 13, b + 14, rr, rr + 1] := fr_tr F fr30 (fun _ q => q) (by simp)
      have lenp : (pre ++ [y]).length = pre.length + 1 := by rw [List.length_append]; rfl
      have ep : row = (pre ++ [y]) ++ rest := by rw [e]; simp
      refine r_icmp_ne 55 d_Lane_sendBodies_38 (by decide) (fun c2 => ?_) (fun c2 => ?_)
      · have hne : ¬ sp_goal B y = none := fun z => c2 ((gI_m1 hgl).mpr z)
        have eg : sp_gone B (pre ++ [y]) = sp_gone B pre := by
          unfold sp_gone
          rw [List.filter_append, List.filter_cons_of_neg (by cases hq : sp_goal B y with | none => exact absurd hq hne | some _ => simp), List.filter_nil, List.append_nil]
        refine r_iincP d_Lane_sendBodies_55 rfl (Nat.le_of_ble_eq_true rfl) ?_
        refine r_goto 4 d_Lane_sendBodies_58 (by decide) ?_
        rw [nI_1]
        have := ih (pre ++ [y]) h30_ _ ep F2 g30 hG2 (by rw [eg]; exact fr_at fr30 (by simp only [List.mem_cons, List.not_mem_nil, or_false, not_or]; omega) k3) (by rw [eg]; exact k4.fr fr30 (by simp only [List.mem_cons, List.not_mem_nil, or_false, not_or]; omega) (by simp only [List.mem_cons, List.not_mem_nil, or_false, not_or]; omega))
        rw [eg, lenp] at this
        exact this
      · have hno : sp_goal B y = none := (gI_m1 hgl).mp c2
        have eg : sp_gone B (pre ++ [y]) = sp_gone B pre ++ [y] := by
          unfold sp_gone
          rw [List.filter_append, List.filter_cons_of_pos (by rw [hno]; rfl), List.filter_nil]
        have hc3 := fr_at fr30 (b := r + 1 + pre.length) (by simp only [List.mem_cons, List.not_mem_nil, or_false, not_or]; omega) hc2
        have hrow3 := fr_at fr30 (b := r) (by simp only [List.mem_cons, List.not_mem_nil, or_false, not_or]; omega) hrow2
        have hlg : (sp_gone B pre).length ≤ pre.length := List.length_filter_le _ _
        have hcapp : ¬ y.2.2.2.1 = -1 → (R ++ (sp_gone B pre).flatMap sp_rf).length < 512 := by
          intro hy9
          rw [List.length_append]
          have h1 := sp_rfs_le (sp_gone B pre)
          have h2 : ownN (sp_gone B pre) ≤ ownN pre := ownN_f _ _
          rw [e, ownN_a, ownN_c, if_neg hy9] at hcap
          omega
        refine r_aload_n d_Lane_sendBodies_41 rfl ?_
        refine r_aload_n d_Lane_sendBodies_42 rfl ?_
        refine r_getfield d_Lane_sendBodies_43 f_Lane_59 p0 rfl ?_
        refine r_iload_n d_Lane_sendBodies_46 rfl ?_
        refine r_aaloadN d_Lane_sendBodies_47 hrow3 rfl (by omega) (by omega) (g2 _ (by omega)) ?_
        refine r_aload_n d_Lane_sendBodies_48 rfl ?_
        refine r_cVv [.ref (r + 1 + pre.length), .ref rr] b (d - 1) 0 0 (fun h' => fr h30_ h' [b + 13, rr, rr + 1] ∧ h'[b + 13]? = some (.inl (.inl (5, sp_cnt y (sp_cnts (sp_gone B pre) c)))) ∧ Rfs h' rr ((R ++ (sp_gone B pre).flatMap sp_rf) ++ sp_rf y)) d_Lane_sendBodies_49 q_Lane_111 p0 rfl rfl (c_Lane_countLeaver htr (by omega) p0 hc3 oky (fr_at fr30 (by simp only [List.mem_cons, List.not_mem_nil, or_false, not_or]; omega) k3) (k4.fr fr30 (by simp only [List.mem_cons, List.not_mem_nil, or_false, not_or]; omega) (by simp only [List.mem_cons, List.not_mem_nil, or_false, not_or]; omega)) hcapp (by omega) hrr (by omega) (fun h' f' H1 H2 => ⟨rfl, f', H1, H2⟩)) (by show d - 1 + 1 ≤ d; omega) (Nat.le_refl _) (Nat.le_refl _) (Nat.le_of_ble_eq_true rfl) (fun h4 e4 => ?_)
        obtain ⟨e41, e42, e43⟩ := e4
        refine r_iincP d_Lane_sendBodies_52 rfl (Nat.le_of_ble_eq_true rfl) ?_
        refine r_iincP d_Lane_sendBodies_55 rfl (Nat.le_of_ble_eq_true rfl) ?_
        refine r_goto 4 d_Lane_sendBodies_58 (by decide) ?_
        rw [nI_1, nI_1]
        have := ih (pre ++ [y]) h4 _ ep (fr_tr F2 e41 (fun _ q => q) (by simp)) (fr_at e41 (by simp only [List.mem_cons, List.not_mem_nil, or_false, not_or]; omega) g30) hG2 (by rw [eg]; unfold sp_cnts; rw [List.foldl_append]; exact e42) (by rw [eg, List.flatMap_append, ← List.append_assoc]; simpa using e43)
        rw [eg, lenp, List.length_append] at this
        exact r_loc _ (fun q hq => by simp at hq; rcases hq with q | q | q | q <;> subst q <;> rfl) this
  refine r_iconst 0 d_Lane_sendBodies_0 (by decide) ?_
  refine r_ri nI_0.symm ?_
  refine r_istore_n d_Lane_sendBodies_1 (Nat.le_of_ble_eq_true rfl) ?_
  refine r_iconst 0 d_Lane_sendBodies_2 (by decide) ?_
  refine r_ri nI_0.symm ?_
  refine r_istore_n d_Lane_sendBodies_3 (Nat.le_of_ble_eq_true rfl) ?_
  exact key row [] h gl rfl fr_rf hg (fun i o ho => by cases ho) hc (by simpa [sp_gone] using HR)
