/-! A LANE -/
abbrev sp_Q : Type := List (Int32 × Int32)
/-- the lane's own cell -/
abbrev lnO (b r r' : Nat) (m n : Nat) : ac_E := .inr (3, [.ref (b + 1), .ref (b + 2), .ref (b + 5), .ref (b + 6), .ref (b + 13), .ref (b + 14), .int (nI m), .int (nI n), .ref r, .ref r'])
/-- four bodies in an array -/
def Rws (h : ac_H) (r : Nat) (RW : Nat → sp_B) : Prop := (∃ gr, h[r]? = some (.inl (.inr (.inr (2, 4, gr)))) ∧ ∀ j, j < 4 → gr j = some (r + 1 + j)) ∧ ∀ i, i < 4 → h[r + 1 + i]? = some (bo (RW i))
theorem Rws.fr {h h' : ac_H} {r : Nat} {RW : Nat → sp_B} {as : List Nat} (H : Rws h r RW) (F : fr h h' as) (h0 : ∀ j, j < 5 → r + j ∉ as) : Rws h' r RW := by
  obtain ⟨⟨gr, g1, g2⟩, g3⟩ := H
  exact ⟨⟨gr, fr_at F (h0 0 (by omega)) g1, g2⟩, fun i hi => fr_at F (by have := h0 (i + 1) (by omega); rw [show r + 1 + i = r + (i + 1) by omega]; exact this) (g3 i hi)⟩
/-- the row is the first of them -/
def isRow (row : List sp_B) (RW : Nat → sp_B) : Prop := row.length ≤ 4 ∧ ∀ (i : Nat) (x : sp_B), row[i]? = some x → RW i = x ∧ okB x
def tk (m s : Nat) : Prop := m = 0 ∨ m = s + 1
theorem c_Lane_takesSide {l : Launch} (htr : l.stackTraces = false) {d : Nat} {h : ac_H} {Φ : ac_R → ac_H → Prop} {b r r' m n s : Nat} (hb : h[b]? = some (lnO b r r' m n)) (hm : m ≤ 3) (hs : s ≤ 1) (hΦ : Φ (.inl (some (.int (b01 (tk m s))))) h) : ac_Mt l d m_Lane_takesSide [.ref b, .int (nI s)] h 0 0 Φ := by
  refine ac_enter (by decide) rfl htr (fun _ => Nat.le_of_ble_eq_true rfl) ?_
  refine r_aload_n d_Lane_takesSide_0 rfl ?_
  refine r_getfield d_Lane_takesSide_1 f_Lane_48 hb rfl ?_
  have yes : tk m s → ac_G (l, d, m_Lane_takesSide, 0, 0, Φ, h.length, none) 17 [(0, .ref b), (1, .int (nI s))] [] h 0 0 := by
    intro ht
    refine r_iconst 1 d_Lane_takesSide_17 (by decide) ?_
    refine r_goto 22 d_Lane_takesSide_18 (by decide) ?_
    rw [b01_t ht] at hΦ
    exact r_zret d_Lane_takesSide_22 rfl (Or.inr rfl) hΦ (Nat.le_refl _) (Nat.le_refl _)
  refine r_if_eq 17 d_Lane_takesSide_4 (by decide) (fun c1 => ?_) (fun c1 => ?_)
  · exact yes (Or.inl ((nI_eq (by omega) (by omega)).mp (by rw [c1]; decide)))
  · have h0 : ¬ m = 0 := fun z => c1 (by rw [z]; decide)
    refine r_aload_n d_Lane_takesSide_7 rfl ?_
    refine r_getfield d_Lane_takesSide_8 f_Lane_48 hb rfl ?_
    refine r_iload_n d_Lane_takesSide_11 rfl ?_
    refine r_iconst 1 d_Lane_takesSide_12 (by decide) ?_
    refine r_iadd d_Lane_takesSide_13 ?_
    refine r_ri (nI_1 _) ?_
    refine r_icmp_ne 21 d_Lane_takesSide_14 (by decide) (fun c2 => ?_) (fun c2 => ?_)
    · refine r_iconst 0 d_Lane_takesSide_21 (by decide) ?_
      rw [b01_f (fun z => z.elim h0 (fun z => c2 (by rw [z])))] at hΦ
      exact r_zret d_Lane_takesSide_22 rfl (Or.inl rfl) hΦ (Nat.le_refl _) (Nat.le_refl _)
    · exact yes (Or.inr ((nI_eq (by omega) (by omega)).mp c2))
/-- some body of the row has a token -/
def owned (row : List sp_B) : Prop := ∃ x ∈ row, ¬ x.2.2.2.1 = -1
theorem c_Lane_some {l : Launch} (htr : l.stackTraces = false) {d : Nat} {h : ac_H} {Φ : ac_R → ac_H → Prop} {b r r' m : Nat} {row : List sp_B} {RW : Nat → sp_B} (hb : h[b]? = some (lnO b r r' m row.length)) (HR : Rws h r RW) (hr : isRow row RW) (hΦ : Φ (.inl (some (.int (b01 (owned row))))) h) : ac_Mt l d m_Lane_someBodyHasToken [.ref b] h 0 0 Φ := by
  obtain ⟨⟨gr, g1, g2⟩, g3⟩ := HR
  obtain ⟨r1, r2⟩ := hr
  refine ac_enter (by decide) rfl htr (fun _ => Nat.le_of_ble_eq_true rfl) ?_
  have key : ∀ (rest pre : List sp_B), row = pre ++ rest → (owned rest ↔ owned row) → ac_G (l, d, m_Lane_someBodyHasToken, 0, 0, Φ, h.length, none) 2 [(1, .int (nI pre.length)), (0, .ref b)] [] h 0 0 := by
    intro rest
    induction rest with
    | nil =>
      intro pre e ho
      have hl : pre.length = row.length := by rw [e]; simp
      refine r_iload_n d_Lane_someBodyHasToken_2 rfl ?_
      refine r_aload_n d_Lane_someBodyHasToken_3 rfl ?_
      refine r_getfield d_Lane_someBodyHasToken_4 f_Lane_52 hb rfl ?_
      refine r_icmp_ge 31 d_Lane_someBodyHasToken_7 (by decide) (fun c1 => ?_) (fun c1 => absurd (nI_le (by omega) (by omega)) c1)
      refine r_iconst 0 d_Lane_someBodyHasToken_31 (by decide) ?_
      rw [b01_f (fun z => by obtain ⟨x, hx, -⟩ := ho.mpr z; cases hx)] at hΦ
      exact r_zret d_Lane_someBodyHasToken_32 rfl (Or.inl rfl) hΦ (Nat.le_refl _) (Nat.le_refl _)
    | cons y rest ih =>
      intro pre e ho
      have hl : pre.length < row.length := by rw [e]; simp
      have hy : row[pre.length]? = some y := by rw [e, List.getElem?_append_right (Nat.le_refl _), Nat.sub_self]; rfl
      have hc := g3 pre.length (by omega)
      rw [(r2 _ _ hy).1] at hc
      refine r_iload_n d_Lane_someBodyHasToken_2 rfl ?_
      refine r_aload_n d_Lane_someBodyHasToken_3 rfl ?_
      refine r_getfield d_Lane_someBodyHasToken_4 f_Lane_52 hb rfl ?_
      refine r_icmp_ge 31 d_Lane_someBodyHasToken_7 (by decide) (fun c1 => absurd ((nI_leI (by omega) (by omega)).mp c1) (by omega)) (fun c1 => ?_)
      refine r_aload_n d_Lane_someBodyHasToken_10 rfl ?_
      refine r_getfield d_Lane_someBodyHasToken_11 f_Lane_59 hb rfl ?_
      refine r_iload_n d_Lane_someBodyHasToken_14 rfl ?_
      refine r_aaloadN d_Lane_someBodyHasToken_15 g1 rfl (by omega) (by omega) (g2 _ (by omega)) ?_
      refine r_getfield d_Lane_someBodyHasToken_16 f_Lane_115 hc rfl ?_
      refine r_iconst (-1) d_Lane_someBodyHasToken_19 (by decide) ?_
      refine r_icmp_eq 25 d_Lane_someBodyHasToken_20 (by decide) (fun c2 => ?_) (fun c2 => ?_)
      · refine r_iincP d_Lane_someBodyHasToken_25 rfl (Nat.le_of_ble_eq_true rfl) ?_
        refine r_goto 2 d_Lane_someBodyHasToken_28 (by decide) ?_
        rw [nI_1]
        have := ih (pre ++ [y]) (by rw [e]; simp) (by
          rw [← ho]
          exact ⟨fun ⟨x, hx, hz⟩ => ⟨x, List.mem_cons_of_mem _ hx, hz⟩, fun ⟨x, hx, hz⟩ => by
            rcases List.mem_cons.mp hx with q | q
            · subst q; exact absurd c2 hz
            · exact ⟨x, q, hz⟩⟩)
        rw [List.length_append] at this
        exact this
      · refine r_iconst 1 d_Lane_someBodyHasToken_23 (by decide) ?_
        rw [b01_t (ho.mp ⟨y, List.mem_cons_self, c2⟩)] at hΦ
        exact r_zret d_Lane_someBodyHasToken_24 rfl (Or.inr rfl) hΦ (Nat.le_refl _) (Nat.le_refl _)
  refine r_iconst 0 d_Lane_someBodyHasToken_0 (by decide) ?_
  refine r_ri nI_0.symm ?_
  refine r_istore_n d_Lane_someBodyHasToken_1 (Nat.le_of_ble_eq_true rfl) ?_
  exact key row [] rfl Iff.rfl
def mt (b : sp_B) (x : Nat × Nat) : Bool := decide (b.1 ≤ x.2 + 1) && decide (x.1 ≤ b.2.1 + 1)
theorem mt_iff {b : sp_B} {x : Nat × Nat} : mt b x = true ↔ meets b x := by simp [mt, meets]
/-- the side of a body that comes with the blob x -/
def sp_side (row : List sp_B) (x : Nat × Nat) : Nat := ((row.find? (fun b => mt b x)).map (fun b => b.2.2.1)).getD (if x.1 + x.2 < 9 then 0 else 1)
theorem c_Lane_sideFor {l : Launch} (htr : l.stackTraces = false) {d : Nat} {h : ac_H} {Φ : ac_R → ac_H → Prop} {b r r' m k : Nat} {row : List sp_B} {RW : Nat → sp_B} {B : List (Nat × Nat)} {x : Nat × Nat} (hd : 1 ≤ d) (hb : h[b]? = some (lnO b r r' m row.length)) (HR : Rws h r RW) (hr : isRow row RW) (HB : Bls h (b + 2) B) (hx : B[k]? = some x) (hΦ : Φ (.inl (some (.int (nI (sp_side row x))))) h) : ac_Mt l d m_Lane_sideFor [.ref b, .int (nI k)] h 0 0 Φ := by
  obtain ⟨⟨gr, g1, g2⟩, g3⟩ := HR
  obtain ⟨r1, r2⟩ := hr
  obtain ⟨a1, a2, a3, f, g, a4, a5, a6⟩ := id HB
  have hk : k < B.length := (List.getElem?_eq_some_iff.mp hx).1
  obtain ⟨x1, x2⟩ := a3 x (List.mem_of_getElem? hx)
  obtain ⟨e1, e2⟩ := a6 k x hx
  refine ac_enter (by decide) rfl htr (fun _ => Nat.le_of_ble_eq_true rfl) ?_
  have key : ∀ (rest pre : List sp_B), row = pre ++ rest → sp_side rest x = sp_side row x → ac_G (l, d, m_Lane_sideFor, 0, 0, Φ, h.length, none) 2 [(2, .int (nI pre.length)), (0, .ref b), (1, .int (nI k))] [] h 0 0 := by
    intro rest
    induction rest with
    | nil =>
      intro pre e ho
      have hl : pre.length = row.length := by rw [e]; simp
      refine r_iload_n d_Lane_sideFor_2 rfl ?_
      refine r_aload_n d_Lane_sideFor_3 rfl ?_
      refine r_getfield d_Lane_sideFor_4 f_Lane_52 hb rfl ?_
      refine r_icmp_ge 43 d_Lane_sideFor_7 (by decide) (fun c1 => ?_) (fun c1 => absurd (nI_le (by omega) (by omega)) c1)
      refine r_aload_n d_Lane_sideFor_43 rfl ?_
      refine r_getfield d_Lane_sideFor_44 f_Lane_21 hb rfl ?_
      refine r_getfield d_Lane_sideFor_47 f_Lane_141 a1 rfl ?_
      refine r_iload_n d_Lane_sideFor_50 rfl ?_
      refine r_ialoadN d_Lane_sideFor_51 a4 (by omega) (by omega) ?_
      refine r_aload_n d_Lane_sideFor_52 rfl ?_
      refine r_getfield d_Lane_sideFor_53 f_Lane_21 hb rfl ?_
      refine r_getfield d_Lane_sideFor_56 f_Lane_144 a1 rfl ?_
      refine r_iload_n d_Lane_sideFor_59 rfl ?_
      refine r_ialoadN d_Lane_sideFor_60 a5 (by omega) (by omega) ?_
      rw [e1, e2]
      refine r_iadd d_Lane_sideFor_61 ?_
      refine r_ri (nI_add _ _) ?_
      refine r_bipush 9 d_Lane_sideFor_62 (by decide) ?_
      refine r_ri nI9 ?_
      have ho2 : sp_side row x = if x.1 + x.2 < 9 then 0 else 1 := ho.symm
      rw [ho2] at hΦ
      refine r_icmp_ge 71 d_Lane_sideFor_64 (by decide) (fun c2 => ?_) (fun c2 => ?_)
      · refine r_iconst 1 d_Lane_sideFor_71 (by decide) ?_
        rw [if_neg (by have := (nI_leI (by omega) (by omega)).mp c2; omega)] at hΦ
        exact r_iret d_Lane_sideFor_72 rfl hΦ (Nat.le_refl _) (Nat.le_refl _)
      · refine r_iconst 0 d_Lane_sideFor_67 (by decide) ?_
        refine r_goto 72 d_Lane_sideFor_68 (by decide) ?_
        rw [if_pos (lt_of_nle (by omega) c2 (by omega))] at hΦ
        exact r_iret d_Lane_sideFor_72 rfl hΦ (Nat.le_refl _) (Nat.le_refl _)
    | cons y rest ih =>
      intro pre e ho
      have hl : pre.length < row.length := by rw [e]; simp
      have hy : row[pre.length]? = some y := by rw [e, List.getElem?_append_right (Nat.le_refl _), Nat.sub_self]; rfl
      have hc := g3 pre.length (by omega)
      rw [(r2 _ _ hy).1] at hc
      refine r_iload_n d_Lane_sideFor_2 rfl ?_
      refine r_aload_n d_Lane_sideFor_3 rfl ?_
      refine r_getfield d_Lane_sideFor_4 f_Lane_52 hb rfl ?_
      refine r_icmp_ge 43 d_Lane_sideFor_7 (by decide) (fun c1 => absurd ((nI_leI (by omega) (by omega)).mp c1) (by omega)) (fun c1 => ?_)
      refine r_aload_n d_Lane_sideFor_10 rfl ?_
      refine r_getfield d_Lane_sideFor_11 f_Lane_21 hb rfl ?_
      refine r_aload_n d_Lane_sideFor_14 rfl ?_
      refine r_getfield d_Lane_sideFor_15 f_Lane_59 hb rfl ?_
      refine r_iload_n d_Lane_sideFor_18 rfl ?_
      refine r_aaloadN d_Lane_sideFor_19 g1 rfl (by omega) (by omega) (g2 _ (by omega)) ?_
      refine r_iload_n d_Lane_sideFor_20 rfl ?_
      refine r_cVi [.ref (r + 1 + pre.length), .int (nI k)] (b + 2) (d - 1) 0 0 (b01 (meets y x)) (fun h' => h' = h) d_Lane_sideFor_21 q_Lane_164 a1 rfl rfl (c_Blobs_isMetBy htr HB hc (r2 _ _ hy).2 hx ⟨rfl, rfl⟩) (by show d - 1 + 1 ≤ d; omega) (Nat.le_refl _) (Nat.le_refl _) (Nat.le_of_ble_eq_true rfl) (fun h' e9 => ?_)
      subst e9
      refine r_if_eq 37 d_Lane_sideFor_24 (by decide) (fun c2 => ?_) (fun c2 => ?_)
      · have hm := b01_0.mp c2
        refine r_iincP d_Lane_sideFor_37 rfl (Nat.le_of_ble_eq_true rfl) ?_
        refine r_goto 2 d_Lane_sideFor_40 (by decide) ?_
        rw [nI_1]
        have := ih (pre ++ [y]) (by rw [e]; simp) (by
          rw [← ho]; unfold sp_side
          rw [List.find?_cons_of_neg (p := fun b => mt b x) (a := y) (fun z => hm (mt_iff.mp z))])
        rw [List.length_append] at this
        exact this
      · have hm : meets y x := Classical.byContradiction fun z => c2 (b01_f z)
        refine r_aload_n d_Lane_sideFor_27 rfl ?_
        refine r_getfield d_Lane_sideFor_28 f_Lane_59 hb rfl ?_
        refine r_iload_n d_Lane_sideFor_31 rfl ?_
        refine r_aaloadN d_Lane_sideFor_32 g1 rfl (by omega) (by omega) (g2 _ (by omega)) ?_
        refine r_getfield d_Lane_sideFor_33 f_Lane_168 hc rfl ?_
        have ho2 : sp_side row x = y.2.2.1 := by
          rw [← ho]; unfold sp_side
          rw [List.find?_cons_of_pos (p := fun b => mt b x) (a := y) (mt_iff.mpr hm)]; rfl
        rw [ho2] at hΦ
        exact r_iret d_Lane_sideFor_36 rfl hΦ (Nat.le_refl _) (Nat.le_refl _)
  refine r_iconst 0 d_Lane_sideFor_0 (by decide) ?_
  refine r_ri nI_0.symm ?_
  refine r_istore_n d_Lane_sideFor_1 (Nat.le_of_ble_eq_true rfl) ?_
  exact key row [] rfl rfl
/-- where each body goes: a blob, or none -/
def gI : Option Nat → Int32
  | some k => nI k
  | none => -1
def isG (G : List (Option Nat)) (gl : Nat → Int32) : Prop := ∀ (i : Nat) (o : Option Nat), G[i]? = some o → gl i = gI o ∧ ∀ k, o = some k → k < 4
theorem gI_eq {o : Option Nat} {k : Nat} (ho : ∀ j, o = some j → j < 4) (hk : k < 4) : gI o = nI k ↔ o = some k := by
  cases o with
  | none => exact ⟨fun z => absurd z (by
      rcases (show k = 0 ∨ k = 1 ∨ k = 2 ∨ k = 3 by omega) with q | q | q | q <;> rw [q] <;> decide), fun z => by cases z⟩
  | some j => exact ⟨fun z => by rw [(nI_eq (by have := ho j rfl; omega) (by omega)).mp z], fun z => by cases z; rfl⟩
theorem c_Lane_sharersOf {l : Launch} (htr : l.stackTraces = false) {d : Nat} {h : ac_H} {Φ : ac_R → ac_H → Prop} {b r r' m k n : Nat} {G : List (Option Nat)} {gl : Nat → Int32} (hb : h[b]? = some (lnO b r r' m G.length)) (hg : h[b + 14]? = some (.inl (.inl (4, gl)))) (hG : isG G gl) (hn : G.length ≤ 4) (hk : k < 4) (hΦ : Φ (.inl (some (.int (nI (G.count (some k)))))) h) : ac_Mt l d m_Lane_sharersOf [.ref b, .int (nI k)] h 0 0 Φ := by
  refine ac_enter (by decide) rfl htr (fun _ => Nat.le_of_ble_eq_true rfl) ?_
  have key : ∀ (rest pre : List (Option Nat)), G = pre ++ rest → ac_G (l, d, m_Lane_sharersOf, 0, 0, Φ, h.length, none) 4 [(3, .int (nI pre.length)), (2, .int (nI (pre.count (some k)))), (0, .ref b), (1, .int (nI k))] [] h 0 0 := by
    intro rest
    induction rest with
    | nil =>
      intro pre e
      have hl : pre.length = G.length := by rw [e]; simp
      refine r_iload_n d_Lane_sharersOf_4 rfl ?_
      refine r_aload_n d_Lane_sharersOf_5 rfl ?_
      refine r_getfield d_Lane_sharersOf_6 f_Lane_52 hb rfl ?_
      refine r_icmp_ge 31 d_Lane_sharersOf_9 (by decide) (fun c1 => ?_) (fun c1 => absurd (nI_le (by omega) (by omega)) c1)
      refine r_iload_n d_Lane_sharersOf_31 rfl ?_
      rw [e, List.append_nil] at hΦ
      exact r_iret d_Lane_sharersOf_32 rfl hΦ (Nat.le_refl _) (Nat.le_refl _)
    | cons o rest ih =>
      intro pre e
      have hl : pre.length < G.length := by rw [e]; simp
      have ho : G[pre.length]? = some o := by rw [e, List.getElem?_append_right (Nat.le_refl _), Nat.sub_self]; rfl
      obtain ⟨o1, o2⟩ := hG _ _ ho
      have go : (pre ++ [o]).length = pre.length + 1 := by rw [List.length_append]; rfl
      have := ih (pre ++ [o]) (by rw [e]; simp)
      rw [go] at this
      refine r_iload_n d_Lane_sharersOf_4 rfl ?_
      refine r_aload_n d_Lane_sharersOf_5 rfl ?_
      refine r_getfield d_Lane_sharersOf_6 f_Lane_52 hb rfl ?_
      refine r_icmp_ge 31 d_Lane_sharersOf_9 (by decide) (fun c1 => absurd ((nI_leI (by omega) (by omega)).mp c1) (by omega)) (fun c1 => ?_)
      refine r_aload_n d_Lane_sharersOf_12 rfl ?_
      refine r_getfield d_Lane_sharersOf_13 f_Lane_45 hb rfl ?_
      refine r_iload_n d_Lane_sharersOf_16 rfl ?_
      refine r_ialoadN d_Lane_sharersOf_17 hg (by omega) (by omega) ?_
      refine r_iload_n d_Lane_sharersOf_18 rfl ?_
      rw [o1]
      refine r_icmp_ne 25 d_Lane_sharersOf_19 (by decide) (fun c2 => ?_) (fun c2 => ?_)
      · have hne : ¬ o = some k := fun z => c2 ((gI_eq o2 hk).mpr z)
        refine r_iincP d_Lane_sharersOf_25 rfl (Nat.le_of_ble_eq_true rfl) ?_
        refine r_goto 4 d_Lane_sharersOf_28 (by decide) ?_
        rw [nI_1]
        have e9 : (pre ++ [o]).count (some k) = pre.count (some k) := by
          rw [List.count_append, List.count_singleton]
          simp [hne]
        rw [e9] at this
        exact this
      · have he : o = some k := (gI_eq o2 hk).mp c2
        refine r_iincP d_Lane_sharersOf_22 rfl (Nat.le_of_ble_eq_true rfl) ?_
        refine r_iincP d_Lane_sharersOf_25 rfl (Nat.le_of_ble_eq_true rfl) ?_
        refine r_goto 4 d_Lane_sharersOf_28 (by decide) ?_
        rw [nI_1, nI_1]
        have e9 : (pre ++ [o]).count (some k) = pre.count (some k) + 1 := by
          rw [List.count_append, List.count_singleton]
          simp [he]
        rw [e9] at this
        exact r_loc _ (fun q hq => by simp at hq; rcases hq with q | q | q | q <;> subst q <;> rfl) this
  refine r_iconst 0 d_Lane_sharersOf_0 (by decide) ?_
  refine r_ri nI_0.symm ?_
  refine r_istore_n d_Lane_sharersOf_1 (Nat.le_of_ble_eq_true rfl) ?_
  refine r_iconst 0 d_Lane_sharersOf_2 (by decide) ?_
  refine r_ri nI_0.symm ?_
  refine r_istore_n d_Lane_sharersOf_3 (Nat.le_of_ble_eq_true rfl) ?_
  exact key G [] rfl
