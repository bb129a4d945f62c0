/-! A LANE: what it is, a change of its mode, its tick -/
abbrev sp_L : Type := (Int32 × Int32 × Int32 × Int32) × (Int32 × Int32) × (sp_Q × sp_Q) × (Nat → Int32) × Nat × List sp_B
/-- h' is h where P does not hold -/
def frP (h h' : ac_H) (P : Nat → Prop) : Prop := h'.length = h.length ∧ ∀ x, ¬ P x → h'[x]? = h[x]?
theorem frP_rf {h : ac_H} {P : Nat → Prop} : frP h h P := ⟨rfl, fun _ _ => rfl⟩
theorem frP_tr {h h1 h2 : ac_H} {P : Nat → Prop} (a : frP h h1 P) (b : frP h1 h2 P) : frP h h2 P := ⟨b.1.trans a.1, fun x hx => (b.2 x hx).trans (a.2 x hx)⟩
theorem frP_mo {h h1 : ac_H} {P Q : Nat → Prop} (a : frP h h1 P) (hq : ∀ x, P x → Q x) : frP h h1 Q := ⟨a.1, fun x hx => a.2 x (fun z => hx (hq x z))⟩
theorem frP_of {h h1 : ac_H} {as : List Nat} {P : Nat → Prop} (a : fr h h1 as) (hp : ∀ x ∈ as, P x) : frP h h1 P := ⟨a.1, fun x hx => a.2 x (fun z => hx (hp x z))⟩
theorem frP_at {h h' : ac_H} {P : Nat → Prop} (a : frP h h' P) {b : Nat} {e : ac_E} (hb : ¬ P b) (he : h[b]? = some e) : h'[b]? = some e := (a.2 b hb).trans he
theorem TLs.pt {h h' : ac_H} {t N : Nat} {q : sp_Q} (H : TLs h t N q) (hp : ∀ j, j < 3 → h'[t + j]? = h[t + j]?) : TLs h' t N q := by
  obtain ⟨a1, a2, a3, f, g, a4, a5, a6⟩ := H
  exact ⟨(hp 0 (by omega)).trans a1, a2, a3, f, g, (hp 1 (by omega)).trans a4, (hp 2 (by omega)).trans a5, a6⟩
theorem Rfs.pt {h h' : ac_H} {t : Nat} {q : List Int32} (H : Rfs h t q) (hp : ∀ j, j < 2 → h'[t + j]? = h[t + j]?) : Rfs h' t q := by
  obtain ⟨a1, a2, f, a4, a6⟩ := H
  exact ⟨(hp 0 (by omega)).trans a1, a2, f, (hp 1 (by omega)).trans a4, a6⟩
theorem Bls.pt {h h' : ac_H} {t : Nat} {B : List (Nat × Nat)} (H : Bls h t B) (hp : ∀ j, j < 3 → h'[t + j]? = h[t + j]?) : Bls h' t B := by
  obtain ⟨a1, a2, a3, f, g, a4, a5, a6⟩ := H
  exact ⟨(hp 0 (by omega)).trans a1, a2, a3, f, g, (hp 1 (by omega)).trans a4, (hp 2 (by omega)).trans a5, a6⟩
theorem Rws.pt {h h' : ac_H} {r : Nat} {RW : Nat → sp_B} (H : Rws h r RW) (hp : ∀ j, j < 5 → h'[r + j]? = h[r + j]?) : Rws h' r RW := by
  obtain ⟨⟨gr, a1, a2⟩, a3⟩ := H
  refine ⟨⟨gr, (hp 0 (by omega)).trans a1, a2⟩, fun i hi => ?_⟩
  have := hp (1 + i) (by omega)
  rw [← Nat.add_assoc] at this
  exact this.trans (a3 i hi)
/-- the lane L lies at b -/
def Lns (h : ac_H) (b : Nat) (L : sp_L) : Prop := L.2.2.2.2.1 ≤ 3 ∧ okQ L.2.2.1.1 ∧ okQ L.2.2.1.2 ∧ ∃ (r r' : Nat) (RW NR : Nat → sp_B) (B : List (Nat × Nat)) (gl : Nat → Int32) (gq : Nat → Option Nat), ((r = b + 15 ∧ r' = b + 20) ∨ (r = b + 20 ∧ r' = b + 15)) ∧
  h[b]? = some (lnO b r r' L.2.2.2.2.1 L.2.2.2.2.2.length) ∧ h[b + 1]? = some (.inr (2, [.int L.1.1, .int L.1.2.1, .int L.1.2.2.1, .int L.1.2.2.2])) ∧ Bls h (b + 2) B ∧ h[b + 5]? = some (.inr (4, [.int L.2.1.1, .int L.2.1.2])) ∧
  (h[b + 6]? = some (.inl (.inr (.inr (1, 2, gq)))) ∧ gq 0 = some (b + 7) ∧ gq 1 = some (b + 10)) ∧ TLs h (b + 7) 6 L.2.2.1.1 ∧ TLs h (b + 10) 6 L.2.2.1.2 ∧ h[b + 13]? = some (.inl (.inl (5, L.2.2.2.1))) ∧ h[b + 14]? = some (.inl (.inl (4, gl))) ∧ Rws h r RW ∧ isRow L.2.2.2.2.2 RW ∧ Rws h r' NR
theorem Lns.pt {h h' : ac_H} {b : Nat} {L : sp_L} (H : Lns h b L) (hp : ∀ j, j < 25 → h'[b + j]? = h[b + j]?) : Lns h' b L := by
  obtain ⟨x1, x2, x3, r, r', RW, NR, B, gl, gq, a0, a1, a2, a3, a4, ⟨a5, a6, a7⟩, a8, a9, a10, a11, a12, a13, a14⟩ := H
  have sub : ∀ k n, k + n ≤ 25 → ∀ j, j < n → h'[b + k + j]? = h[b + k + j]? := fun k n hk j hj => by
    have := hp (k + j) (by omega)
    rw [← Nat.add_assoc] at this
    exact this
  have sr : ∀ r9, r9 = b + 15 ∨ r9 = b + 20 → ∀ j, j < 5 → h'[r9 + j]? = h[r9 + j]? := fun r9 h9 => by
    rcases h9 with q | q <;> subst q
    · exact sub 15 5 (by omega)
    · exact sub 20 5 (by omega)
  exact ⟨x1, x2, x3, r, r', RW, NR, B, gl, gq, a0, (hp 0 (by omega)).trans a1, (hp 1 (by omega)).trans a2, a3.pt (sub 2 3 (by omega)), (hp 5 (by omega)).trans a4, ⟨(hp 6 (by omega)).trans a5, a6, a7⟩, a8.pt (sub 7 3 (by omega)), a9.pt (sub 10 3 (by omega)), (hp 13 (by omega)).trans a10, (hp 14 (by omega)).trans a11, a12.pt (sr r (by omega)), a13, a14.pt (sr r' (by omega))⟩
/-- the places of a lane at b and of the refunds at rr -/
def inL (b rr x : Nat) : Prop := (b ≤ x ∧ x < b + 25) ∨ x = rr ∨ x = rr + 1
/-- what a change to mode m leaves of a queue, and what it gives back -/
def sp_mq (m s : Nat) (q : sp_Q) : sp_Q := if m = 0 ∨ m = s + 1 then q else []
def sp_mr (m s : Nat) (q : sp_Q) : List Int32 := if m = 0 ∨ m = s + 1 then [] else q.map (·.1)
def sp_mode (m : Nat) (L : sp_L) : sp_L := (L.1, L.2.1, (sp_mq m 0 L.2.2.1.1, sp_mq m 1 L.2.2.1.2), L.2.2.2.1, m, L.2.2.2.2.2)
theorem sp_mq_ok {m s : Nat} {q : sp_Q} (h : okQ q) : okQ (sp_mq m s q) := by
  unfold sp_mq
  split
  · exact h
  · exact fun x hx => by cases hx
theorem c_Lane_changeMode {l : Launch} (htr : l.stackTraces = false) {d : Nat} {h : ac_H} {Φ : ac_R → ac_H → Prop} {b rr m : Nat} {L : sp_L} {R : List Int32} (hd : 2 ≤ d) (H : Lns h b L) (HR : Rfs h rr R) (hm : m ≤ 3) (hrr : b + 24 < rr) (hcap : R.length + L.2.2.1.1.length + L.2.2.1.2.length ≤ 512)
    (hΦ : ∀ h', frP h h' (inL b rr) → Lns h' b (sp_mode m L) → Rfs h' rr (R ++ sp_mr m 0 L.2.2.1.1 ++ sp_mr m 1 L.2.2.1.2) → Φ (.inl (some (.int (nI ((sp_mr m 0 L.2.2.1.1).length + (sp_mr m 1 L.2.2.1.2).length))))) h') : ac_Mt l d m_Lane_changeMode [.ref b, .int (nI m), .ref rr] h 0 0 Φ := by
  obtain ⟨x1, x2, x3, r, r', RW, NR, B, gl, gq, a0, a1, a2, a3, a4, ⟨a5, a6, a7⟩, a8, a9, a10, a11, a12, a13, a14⟩ := H
  refine ac_enter (by decide) rfl htr (fun _ => Nat.le_of_ble_eq_true rfl) ?_
  refine r_aload_n d_Lane_changeMode_0 rfl ?_
  refine r_iload_n d_Lane_changeMode_1 rfl ?_
  refine r_putfieldN d_Lane_changeMode_2 f_Lane_48 a1 (Nat.le_of_ble_eq_true rfl) (fun _ => rfl) (fun _ => rfl) (fun h2_ fr2 g2 => ?_)
  have g2 : h2_[b]? = some (lnO b r r' m L.2.2.2.2.2.length) := g2
  refine r_iconst 0 d_Lane_changeMode_5 (by decide) ?_
  refine r_ri nI_0.symm ?_
  refine r_istore_n d_Lane_changeMode_6 (Nat.le_of_ble_eq_true rfl) ?_
  refine r_iconst 0 d_Lane_changeMode_7 (by decide) ?_
  refine r_ri nI_0.symm ?_
  refine r_istore d_Lane_changeMode_8 (Nat.le_of_ble_eq_true rfl) ?_
  -- one side
  have side : ∀ (s n t : Nat) (q : sp_Q) (R2 : List Int32) (h3 : ac_H), s ≤ 1 → t + 2 < rr → h3[b]? = some (lnO b r r' m L.2.2.2.2.2.length) → h3[b + 6]? = some (.inl (.inr (.inr (1, 2, gq)))) → gq s = some t → TLs h3 t 6 q → Rfs h3 rr R2 → R2.length + q.length ≤ 512 → (∀ h4, fr h3 h4 [t, t + 1, t + 2, rr, rr + 1] → TLs h4 t 6 (sp_mq m s q) → Rfs h4 rr (R2 ++ sp_mr m s q) → ac_G (l, d, m_Lane_changeMode, 0, 0, Φ, h.length, none) 10 [(4, .int (nI (s + 1))), (3, .int (nI (n + (sp_mr m s q).length))), (0, .ref b), (1, .int (nI m)), (2, .ref rr)] [] h4 0 0) → ac_G (l, d, m_Lane_changeMode, 0, 0, Φ, h.length, none) 10 [(4, .int (nI s)), (3, .int (nI n)), (0, .ref b), (1, .int (nI m)), (2, .ref rr)] [] h3 0 0 := by
    intro s n t q R2 h3 hs ht k1 k2 k3 k4 k5 k6 kk
    refine r_iload d_Lane_changeMode_10 rfl ?_
    refine r_aload_n d_Lane_changeMode_12 rfl ?_
    refine r_getfield d_Lane_changeMode_13 f_Lane_37 k1 rfl ?_
    refine r_alenR d_Lane_changeMode_16 k2 rfl ?_
    refine r_icmp_ge 49 d_Lane_changeMode_17 (by decide) (fun c1 => absurd ((nI_leI (by omega) (by omega)).mp c1) (by omega)) (fun c1 => ?_)
    refine r_aload_n d_Lane_changeMode_20 rfl ?_
    refine r_iload d_Lane_changeMode_21 rfl ?_
    refine r_cVi [.int (nI s)] b (d - 1) 0 0 (b01 (tk m s)) (fun h' => h3 = h') d_Lane_changeMode_23 q_Lane_69 k1 rfl rfl (c_Lane_takesSide htr k1 hm hs ⟨rfl, rfl⟩) (by show d - 1 + 1 ≤ d; omega) (Nat.le_refl _) (Nat.le_refl _) (Nat.le_of_ble_eq_true rfl) (fun h' e9 => ?_)
    subst e9
    refine r_if_ne 43 d_Lane_changeMode_26 (by decide) (fun c2 => ?_) (fun c2 => ?_)
    · have hk9 : m = 0 ∨ m = s + 1 := Classical.byContradiction fun z => c2 (b01_f z)
      have e1 : sp_mq m s q = q := if_pos hk9
      have e2 : sp_mr m s q = [] := if_pos hk9
      rw [e1, e2, List.append_nil] at kk
      refine r_iincP d_Lane_changeMode_43 rfl (Nat.le_of_ble_eq_true rfl) ?_
      refine r_goto 10 d_Lane_changeMode_46 (by decide) ?_
      rw [nI_1]
      exact r_loc _ (fun q hq => by simp at hq; rcases hq with q | q | q | q | q <;> subst q <;> rfl) (kk h3 fr_rf k4 k5)
    · have hk9 : ¬ (m = 0 ∨ m = s + 1) := b01_0.mp c2
      have e1 : sp_mq m s q = [] := if_neg hk9
      have e2 : sp_mr m s q = q.map (·.1) := if_neg hk9
      rw [e1, e2, List.length_map] at kk
      refine r_iload_n d_Lane_changeMode_29 rfl ?_
      refine r_aload_n d_Lane_changeMode_30 rfl ?_
      refine r_getfield d_Lane_changeMode_31 f_Lane_37 k1 rfl ?_
      refine r_iload d_Lane_changeMode_34 rfl ?_
      refine r_aaloadN d_Lane_changeMode_36 k2 rfl (by omega) (by omega) k3 ?_
      refine r_aload_n d_Lane_changeMode_37 rfl ?_
      refine r_cVi [.ref rr] t (d - 1) 0 0 (nI q.length) (fun h' => fr h3 h' [t, t + 1, t + 2, rr, rr + 1] ∧ TLs h' t 6 [] ∧ Rfs h' rr (R2 ++ q.map (·.1))) d_Lane_changeMode_38 q_Lane_73 k4.1 rfl rfl (c_TL_refundAll htr (by omega) k4 k5 ht k6 (fun h' f' H1 H2 => ⟨rfl, f', H1, H2⟩)) (by show d - 1 + 1 ≤ d; omega) (Nat.le_refl _) (Nat.le_refl _) (Nat.le_of_ble_eq_true rfl) (fun h4 e4 => ?_)
      refine r_iadd d_Lane_changeMode_41 ?_
      refine r_ri (nI_add _ _) ?_
      refine r_istore_n d_Lane_changeMode_42 (Nat.le_of_ble_eq_true rfl) ?_
      refine r_iincP d_Lane_changeMode_43 rfl (Nat.le_of_ble_eq_true rfl) ?_
      refine r_goto 10 d_Lane_changeMode_46 (by decide) ?_
      rw [nI_1]
      exact r_loc _ (fun q hq => by simp at hq; rcases hq with q | q | q | q | q <;> subst q <;> rfl) (kk h4 e4.1 e4.2.1 e4.2.2)
  have hm0 : (sp_mr m 0 L.2.2.1.1).length ≤ L.2.2.1.1.length := by unfold sp_mr; split <;> simp
  refine r_loc [(4, .int (nI 0)), (3, .int (nI 0)), (0, .ref b), (1, .int (nI m)), (2, .ref rr)] (fun q hq => by simp at hq; rcases hq with q | q | q | q | q <;> subst q <;> rfl) ?_
  refine side 0 0 (b + 7) L.2.2.1.1 R h2_ (by omega) (by omega) g2 (fr_at fr2 (by simp only [List.mem_cons, List.not_mem_nil, or_false, not_or]; omega) a5) a6 (a8.fr fr2 (by simp only [List.mem_cons, List.not_mem_nil, or_false, not_or]; omega) (by simp only [List.mem_cons, List.not_mem_nil, or_false, not_or]; omega) (by simp only [List.mem_cons, List.not_mem_nil, or_false, not_or]; omega)) (HR.fr fr2 (by simp only [List.mem_cons, List.not_mem_nil, or_false, not_or]; omega) (by simp only [List.mem_cons, List.not_mem_nil, or_false, not_or]; omega)) (by omega) (fun h4 F4 T4 R4 => ?_)
  refine side 1 _ (b + 10) L.2.2.1.2 _ h4 (by omega) (by omega) (fr_at F4 (by simp only [List.mem_cons, List.not_mem_nil, or_false, not_or]; omega) g2) (fr_at F4 (by simp only [List.mem_cons, List.not_mem_nil, or_false, not_or]; omega) (fr_at fr2 (by simp only [List.mem_cons, List.not_mem_nil, or_false, not_or]; omega) a5)) a7 ((a9.fr fr2 (by simp only [List.mem_cons, List.not_mem_nil, or_false, not_or]; omega) (by simp only [List.mem_cons, List.not_mem_nil, or_false, not_or]; omega) (by simp only [List.mem_cons, List.not_mem_nil, or_false, not_or]; omega)).fr F4 (by simp only [List.mem_cons, List.not_mem_nil, or_false, not_or]; omega) (by simp only [List.mem_cons, List.not_mem_nil, or_false, not_or]; omega) (by simp only [List.mem_cons, List.not_mem_nil, or_false, not_or]; omega)) R4 (by rw [List.length_append]; omega) (fun h5 F5 T5 R5 => ?_)
  have k1 := fr_at F5 (b := b) (by simp only [List.mem_cons, List.not_mem_nil, or_false, not_or]; omega) (fr_at F4 (by simp only [List.mem_cons, List.not_mem_nil, or_false, not_or]; omega) g2)
  have k2 := fr_at F5 (b := b + 6) (by simp only [List.mem_cons, List.not_mem_nil, or_false, not_or]; omega) (fr_at F4 (by simp only [List.mem_cons, List.not_mem_nil, or_false, not_or]; omega) (fr_at fr2 (by simp only [List.mem_cons, List.not_mem_nil, or_false, not_or]; omega) a5))
  refine r_iload d_Lane_changeMode_10 rfl ?_
  refine r_aload_n d_Lane_changeMode_12 rfl ?_
  refine r_getfield d_Lane_changeMode_13 f_Lane_37 k1 rfl ?_
  refine r_alenR d_Lane_changeMode_16 k2 rfl ?_
  refine r_icmp_ge 49 d_Lane_changeMode_17 (by decide) (fun c1 => ?_) (fun c1 => absurd (nI_le (Nat.le_refl _) (by omega)) c1)
  refine r_iload_n d_Lane_changeMode_49 rfl ?_
  refine r_ri (by rw [Nat.zero_add]) ?_
  have P2 : frP h h5 (inL b rr) := frP_tr (frP_tr (frP_of fr2 (fun x hx => by simp at hx; unfold inL; omega)) (frP_of F4 (fun x hx => by simp at hx; unfold inL; omega))) (frP_of F5 (fun x hx => by simp at hx; unfold inL; omega))
  have FF : fr h h5 [b, b + 7, b + 8, b + 9, b + 10, b + 11, b + 12, rr, rr + 1] := fr_tr (fr_tr fr2 F4 (cs := [b, b + 7, b + 8, b + 9, b + 10, b + 11, b + 12, rr, rr + 1]) (by simp) (fun x hx => by simp at hx ⊢; omega)) F5 (fun _ q => q) (fun x hx => by simp at hx ⊢; omega)
  refine r_iret d_Lane_changeMode_50 rfl (hΦ h5 P2 ⟨hm, sp_mq_ok x2, sp_mq_ok x3, r, r', RW, NR, B, gl, gq, a0, k1, fr_at FF (by simp only [List.mem_cons, List.not_mem_nil, or_false, not_or]; omega) a2, a3.fr FF (by simp only [List.mem_cons, List.not_mem_nil, or_false, not_or]; omega) (by simp only [List.mem_cons, List.not_mem_nil, or_false, not_or]; omega) (by simp only [List.mem_cons, List.not_mem_nil, or_false, not_or]; omega), fr_at FF (by simp only [List.mem_cons, List.not_mem_nil, or_false, not_or]; omega) a4, ⟨k2, a6, a7⟩, T4.fr F5 (by simp only [List.mem_cons, List.not_mem_nil, or_false, not_or]; omega) (by simp only [List.mem_cons, List.not_mem_nil, or_false, not_or]; omega) (by simp only [List.mem_cons, List.not_mem_nil, or_false, not_or]; omega), T5, fr_at FF (by simp only [List.mem_cons, List.not_mem_nil, or_false, not_or]; omega) a10, fr_at FF (by simp only [List.mem_cons, List.not_mem_nil, or_false, not_or]; omega) a11, a12.fr FF (fun j hj => by simp; omega), a13, a14.fr FF (fun j hj => by simp; omega)⟩ R5) (Nat.le_refl _) (Nat.le_refl _)

theorem sp_exp_len (now : Int32) : ∀ (q : sp_Q) (R : List Int32), (sp_exp now q R).1.length + (sp_exp now q R).2.length = q.length + R.length
  | [], R => rfl
  | x :: q, R => by
    rw [sp_exp]
    by_cases c : now - x.2 < 200
    · rw [if_pos c]
    · rw [if_neg c, sp_exp_len now q (R ++ [x.1])]
      simp only [List.length_append, List.length_cons, List.length_nil]; omega
theorem sp_exp_ok (now : Int32) : ∀ (q : sp_Q) (R : List Int32), okQ q → okQ (sp_exp now q R).1
  | [], R, h => h
  | x :: q, R, h => by
    rw [sp_exp]
    by_cases c : now - x.2 < 200
    · rw [if_pos c]; exact h
    · rw [if_neg c]; exact sp_exp_ok now q _ (fun y hy => h y (List.mem_cons_of_mem _ hy))
noncomputable def sp_ord (op : Prop) (ang : Int32) (bl : Prop) : Int32 := @sp_order op (Classical.propDecidable _) ang bl (Classical.propDecidable _)
theorem sp_ord_eq {op bl : Prop} {x y ang : Int32} (hx : ¬ x = 0 ↔ op) (hy : ¬ y = 0 ↔ bl) : sp_order (¬ x = 0) ang (¬ y = 0) = sp_ord op ang bl := by
  unfold sp_ord sp_order
  by_cases c : op
  · rw [if_pos c, if_pos (hx.mpr c)]
  · rw [if_neg c, if_neg (fun z => c (hx.mp z))]
    by_cases c2 : bl
    · rw [if_neg (fun z => z.2 (hy.mpr c2)), if_neg (fun z => z.2 c2)]
    · by_cases c3 : 0 < ang
      · rw [if_pos ⟨c3, fun z => c2 (hy.mp z)⟩, if_pos ⟨c3, c2⟩]
      · rw [if_neg (fun z => c3 z.1), if_neg (fun z => c3 z.1)]
/-- what is seen -/
def sp_see (E : Int32 × Int32 × Int32 × Int32) : Int32 := E.1 &&& E.2.1 ||| E.1 &&& E.2.2.1 ||| E.2.1 &&& E.2.2.1
noncomputable def sp_blobs (L : sp_L) : List (Nat × Nat) := sp_find (sp_see L.1) 10
/-- a lane after a tick, the refunds, how many left -/
noncomputable def sp_tR (now : Int32) (L : sp_L) (R : List Int32) : List Int32 := (sp_exp now L.2.2.1.2 (sp_exp now L.2.2.1.1 R).2).2
noncomputable def sp_tRow (L : sp_L) : List sp_B := (sp_renew (sp_blobs L) L.2.2.2.2.2 (sp_blobs L).length).1
noncomputable def sp_tPay (now : Int32) (L : sp_L) (R : List Int32) : List sp_B × (sp_Q × sp_Q) := sp_pay (sp_tRow L) ((sp_exp now L.2.2.1.1 R).1, (sp_exp now L.2.2.1.2 (sp_exp now L.2.2.1.1 R).2).1)
noncomputable def sp_tOrd (now al : Int32) (L : sp_L) (R : List Int32) : Int32 := sp_ord (¬ al = 0 ∨ owned (sp_tPay now L R).1) L.2.1.1 (¬ sp_see L.1 &&& 120 = 0)
noncomputable def sp_tick (now al : Int32) (L : sp_L) (R : List Int32) : sp_L × List Int32 × Nat :=
  (((L.1.1, L.1.1, L.1.2.1, sp_see L.1), (L.2.1.1 + sp_tOrd now al L R, sp_tOrd now al L R), (sp_tPay now L R).2, sp_cnts (sp_gone (sp_blobs L) L.2.2.2.2.2) L.2.2.2.1, L.2.2.2.2.1, (sp_tPay now L R).1), sp_tR now L R ++ (sp_gone (sp_blobs L) L.2.2.2.2.2).flatMap sp_rf, (sp_gone (sp_blobs L) L.2.2.2.2.2).length)
theorem c_Lane_tick {l : Launch} (htr : l.stackTraces = false) {d : Nat} {h : ac_H} {Φ : ac_R → ac_H → Prop} {b rr : Nat} {now al : Int32} {L : sp_L} {R : List Int32} (hd : 4 ≤ d) (H : Lns h b L) (HR : Rfs h rr R) (hrr : b + 24 < rr) (hcap : R.length + L.2.2.1.1.length + L.2.2.1.2.length + ownN L.2.2.2.2.2 ≤ 512)
    (hΦ : ∀ h', frP h h' (inL b rr) → Lns h' b (sp_tick now al L R).1 → Rfs h' rr (sp_tick now al L R).2.1 → Φ (.inl (some (.int (nI (sp_tick now al L R).2.2)))) h') : ac_Mt l d m_Lane_tick [.ref b, .int now, .int al, .ref rr] h 0 0 Φ := by
  obtain ⟨x1, x2, x3, r, r', RW, NR, B, gl, gq, a0, a1, a2, a3, a4, ⟨a5, a6, a7⟩, a8, a9, a10, a11, a12, a13, a14⟩ := H
  have hl1 := sp_exp_len now L.2.2.1.1 R
  have hl2 := sp_exp_len now L.2.2.1.2 (sp_exp now L.2.2.1.1 R).2
  refine ac_enter (by decide) rfl htr (fun _ => Nat.le_of_ble_eq_true rfl) ?_
  refine r_iconst 0 d_Lane_tick_0 (by decide) ?_
  refine r_ri nI_0.symm ?_
  refine r_istore d_Lane_tick_1 (Nat.le_of_ble_eq_true rfl) ?_
  have side : ∀ (s t : Nat) (q : sp_Q) (R2 : List Int32) (h3 : ac_H), s ≤ 1 → t + 2 < rr → h3[b]? = some (lnO b r r' L.2.2.2.2.1 L.2.2.2.2.2.length) → h3[b + 6]? = some (.inl (.inr (.inr (1, 2, gq)))) → gq s = some t → TLs h3 t 6 q → Rfs h3 rr R2 → R2.length + q.length ≤ 512 → (∀ h4, fr h3 h4 [t, t + 1, t + 2, rr, rr + 1] → TLs h4 t 6 (sp_exp now q R2).1 → Rfs h4 rr (sp_exp now q R2).2 → ac_G (l, d, m_Lane_tick, 0, 0, Φ, h.length, none) 3 [(4, .int (nI (s + 1))), (0, .ref b), (1, .int now), (2, .int al), (3, .ref rr)] [] h4 0 0) → ac_G (l, d, m_Lane_tick, 0, 0, Φ, h.length, none) 3 [(4, .int (nI s)), (0, .ref b), (1, .int now), (2, .int al), (3, .ref rr)] [] h3 0 0 := by
    intro s t q R2 h3 hs ht k1 k2 k3 k4 k5 k6 kk
    refine r_iload d_Lane_tick_3 rfl ?_
    refine r_aload_n d_Lane_tick_5 rfl ?_
    refine r_getfield d_Lane_tick_6 f_Lane_37 k1 rfl ?_
    refine r_alenR d_Lane_tick_9 k2 rfl ?_
    refine r_icmp_ge 31 d_Lane_tick_10 (by decide) (fun c1 => absurd ((nI_leI (by omega) (by omega)).mp c1) (by omega)) (fun c1 => ?_)
    refine r_aload_n d_Lane_tick_13 rfl ?_
    refine r_getfield d_Lane_tick_14 f_Lane_37 k1 rfl ?_
    refine r_iload d_Lane_tick_17 rfl ?_
    refine r_aaloadN d_Lane_tick_19 k2 rfl (by omega) (by omega) k3 ?_
    refine r_iload_n d_Lane_tick_20 rfl ?_
    refine r_aload_n d_Lane_tick_21 rfl ?_
    refine r_cVv [.int now, .ref rr] t (d - 1) 0 0 (fun h' => fr h3 h' [t, t + 1, t + 2, rr, rr + 1] ∧ TLs h' t 6 (sp_exp now q R2).1 ∧ Rfs h' rr (sp_exp now q R2).2) d_Lane_tick_22 q_Lane_77 k4.1 rfl rfl (c_TL_refundExpired htr (by omega) k4 k5 (by omega) ht k6 (fun h' f' H1 H2 => ⟨rfl, f', H1, H2⟩)) (by show d - 1 + 1 ≤ d; omega) (Nat.le_refl _) (Nat.le_refl _) (Nat.le_of_ble_eq_true rfl) (fun h4 e4 => ?_)
    refine r_iincP d_Lane_tick_25 rfl (Nat.le_of_ble_eq_true rfl) ?_
    refine r_goto 3 d_Lane_tick_28 (by decide) ?_
    rw [nI_1]
    exact r_loc _ (fun q hq => by simp at hq; rcases hq with q | q | q | q | q <;> subst q <;> rfl) (kk h4 e4.1 e4.2.1 e4.2.2)
  refine side 0 (b + 7) L.2.2.1.1 R h (by omega) (by omega) a1 a5 a6 a8 HR (by omega) (fun h4 F4 T4 R4 => ?_)
  refine side 1 (b + 10) L.2.2.1.2 _ h4 (by omega) (by omega) (fr_at F4 (by simp only [List.mem_cons, List.not_mem_nil, or_false, not_or]; omega) a1) (fr_at F4 (by simp only [List.mem_cons, List.not_mem_nil, or_false, not_or]; omega) a5) a7 (a9.fr F4 (by simp only [List.mem_cons, List.not_mem_nil, or_false, not_or]; omega) (by simp only [List.mem_cons, List.not_mem_nil, or_false, not_or]; omega) (by simp only [List.mem_cons, List.not_mem_nil, or_false, not_or]; omega)) R4 (by omega) (fun h5 F5 T5 R5 => ?_)
  have T4 := T4.fr F5 (by simp only [List.mem_cons, List.not_mem_nil, or_false, not_or]; omega) (by simp only [List.mem_cons, List.not_mem_nil, or_false, not_or]; omega) (by simp only [List.mem_cons, List.not_mem_nil, or_false, not_or]; omega)
  have FF : fr h h5 [b + 7, b + 8, b + 9, b + 10, b + 11, b + 12, rr, rr + 1] := fr_tr F4 F5 (fun x hx => by simp at hx ⊢; omega) (fun x hx => by simp at hx ⊢; omega)
  have k1 := fr_at FF (b := b) (by simp only [List.mem_cons, List.not_mem_nil, or_false, not_or]; omega) a1
  have k2 := fr_at FF (b := b + 6) (by simp only [List.mem_cons, List.not_mem_nil, or_false, not_or]; omega) a5
  have ke := fr_at FF (b := b + 1) (by simp only [List.mem_cons, List.not_mem_nil, or_false, not_or]; omega) a2
  refine r_iload d_Lane_tick_3 rfl ?_
  refine r_aload_n d_Lane_tick_5 rfl ?_
  refine r_getfield d_Lane_tick_6 f_Lane_37 k1 rfl ?_
  refine r_alenR d_Lane_tick_9 k2 rfl ?_
  refine r_icmp_ge 31 d_Lane_tick_10 (by decide) (fun c1 => ?_) (fun c1 => absurd (nI_le (Nat.le_refl _) (by omega)) c1)
  refine r_aload_n d_Lane_tick_31 rfl ?_
  refine r_getfield d_Lane_tick_32 f_Lane_12 k1 rfl ?_
  refine r_cVv [] (b + 1) (d - 1) 0 0 (fun h' => fr h5 h' [b + 1] ∧ h'[b + 1]? = some (.inr (2, [.int L.1.1, .int L.1.1, .int L.1.2.1, .int (sp_see L.1)]))) d_Lane_tick_35 q_Lane_81 ke rfl rfl (c_Eye_take htr ke (fun h' f' H1 => ⟨rfl, f', H1⟩)) (by show d - 1 + 1 ≤ d; omega) (Nat.le_refl _) (Nat.le_refl _) (Nat.le_of_ble_eq_true rfl) (fun h6 e6 => ?_)
  obtain ⟨F6, e6⟩ := e6
  have FF : fr h h6 [b + 1, b + 7, b + 8, b + 9, b + 10, b + 11, b + 12, rr, rr + 1] := fr_tr FF F6 (fun x hx => by simp at hx ⊢; omega) (fun x hx => by simp at hx ⊢; omega)
  have k1 := fr_at F6 (b := b) (by simp only [List.mem_cons, List.not_mem_nil, or_false, not_or]; omega) k1
  have HB6 : Bls h6 (b + 2) B := a3.fr FF (by simp only [List.mem_cons, List.not_mem_nil, or_false, not_or]; omega) (by simp only [List.mem_cons, List.not_mem_nil, or_false, not_or]; omega) (by simp only [List.mem_cons, List.not_mem_nil, or_false, not_or]; omega)
  refine r_aload_n d_Lane_tick_38 rfl ?_
  refine r_getfield d_Lane_tick_39 f_Lane_21 k1 rfl ?_
  refine r_aload_n d_Lane_tick_42 rfl ?_
  refine r_getfield d_Lane_tick_43 f_Lane_12 k1 rfl ?_
  refine r_getfield d_Lane_tick_46 f_Lane_84 e6 rfl ?_
  refine r_cVv [.int (sp_see L.1)] (b + 2) (d - 1) 0 0 (fun h' => fr h6 h' [b + 2, b + 2 + 1, b + 2 + 2] ∧ Bls h' (b + 2) (sp_blobs L)) d_Lane_tick_49 q_Lane_87 HB6.1 rfl rfl (c_Blobs_find htr (by omega) HB6 (fun h' f' H1 => ⟨rfl, f', H1⟩)) (by show d - 1 + 1 ≤ d; omega) (Nat.le_refl _) (Nat.le_refl _) (Nat.le_of_ble_eq_true rfl) (fun h7 e7 => ?_)
  obtain ⟨F7, HB7⟩ := e7
  have FF : fr h h7 [b + 1, b + 2, b + 3, b + 4, b + 7, b + 8, b + 9, b + 10, b + 11, b + 12, rr, rr + 1] := fr_tr FF F7 (fun x hx => by simp at hx ⊢; omega) (fun x hx => by simp at hx ⊢; omega)
  have F57 : fr h5 h7 [b + 1, b + 2, b + 3, b + 4] := fr_tr F6 F7 (fun x hx => by simp at hx ⊢; omega) (fun x hx => by simp at hx ⊢; omega)
  have k1 := fr_at F7 (b := b) (by simp only [List.mem_cons, List.not_mem_nil, or_false, not_or]; omega) k1
  have ke := fr_at F7 (b := b + 1) (by simp only [List.mem_cons, List.not_mem_nil, or_false, not_or]; omega) e6
  have HW7 : Rws h7 r RW := a12.fr FF (fun j hj => by simp; omega)
  have HN7 : Rws h7 r' NR := a14.fr FF (fun j hj => by simp; omega)
  have hc7 := fr_at FF (b := b + 13) (by simp only [List.mem_cons, List.not_mem_nil, or_false, not_or]; omega) a10
  have hg7 := fr_at FF (b := b + 14) (by simp only [List.mem_cons, List.not_mem_nil, or_false, not_or]; omega) a11
  have HR7 : Rfs h7 rr (sp_tR now L R) := R5.fr F57 (by simp only [List.mem_cons, List.not_mem_nil, or_false, not_or]; omega) (by simp only [List.mem_cons, List.not_mem_nil, or_false, not_or]; omega)
  have hcap7 : (sp_tR now L R).length + ownN L.2.2.2.2.2 ≤ 512 := by unfold sp_tR; omega
  have hrow4 := a13.1
  have hlg : (sp_gone (sp_blobs L) L.2.2.2.2.2).length ≤ L.2.2.2.2.2.length := List.length_filter_le _ _
  refine r_aload_n d_Lane_tick_52 rfl ?_
  refine r_aload_n d_Lane_tick_53 rfl ?_
  refine r_cVi [.ref rr] b (d - 1) 0 0 (nI (sp_gone (sp_blobs L) L.2.2.2.2.2).length) (fun h' => ∃ gl', fr h7 h' [b + 13, b + 14, rr, rr + 1] ∧ h'[b + 14]? = some (.inl (.inl (4, gl'))) ∧ isG (L.2.2.2.2.2.map (sp_goal (sp_blobs L))) gl' ∧ h'[b + 13]? = some (.inl (.inl (5, sp_cnts (sp_gone (sp_blobs L) L.2.2.2.2.2) L.2.2.2.1))) ∧ Rfs h' rr (sp_tR now L R ++ (sp_gone (sp_blobs L) L.2.2.2.2.2).flatMap sp_rf)) d_Lane_tick_54 q_Lane_90 k1 rfl rfl (c_Lane_sendBodies htr (by omega) k1 HW7 a13 HB7 hg7 hc7 HR7 hcap7 (by omega) hrr (fun h' gl' f' H1 H2 H3 H4 => ⟨rfl, gl', f', H1, H2, H3, H4⟩)) (by show d - 1 + 1 ≤ d; omega) (Nat.le_refl _) (Nat.le_refl _) (Nat.le_of_ble_eq_true rfl) (fun h8 e8 => ?_)
  obtain ⟨gl8, F8, g81, g82, g83, g84⟩ := e8
  have k1 := fr_at F8 (b := b) (by simp only [List.mem_cons, List.not_mem_nil, or_false, not_or]; omega) k1
  have ke := fr_at F8 (b := b + 1) (by simp only [List.mem_cons, List.not_mem_nil, or_false, not_or]; omega) ke
  have HW8 : Rws h8 r RW := HW7.fr F8 (fun j hj => by simp; omega)
  have HN8 : Rws h8 r' NR := HN7.fr F8 (fun j hj => by simp; omega)
  have HB8 : Bls h8 (b + 2) (sp_blobs L) := HB7.fr F8 (by simp only [List.mem_cons, List.not_mem_nil, or_false, not_or]; omega) (by simp only [List.mem_cons, List.not_mem_nil, or_false, not_or]; omega) (by simp only [List.mem_cons, List.not_mem_nil, or_false, not_or]; omega)
  refine r_istore d_Lane_tick_57 (Nat.le_of_ble_eq_true rfl) ?_
  refine r_aload_n d_Lane_tick_59 rfl ?_
  refine r_aload_n d_Lane_tick_60 rfl ?_
  refine r_getfield d_Lane_tick_61 f_Lane_52 k1 rfl ?_
  refine r_iload d_Lane_tick_64 rfl ?_
  refine r_isub d_Lane_tick_66 ?_
  refine r_ri (pk_sub hlg) ?_
  refine r_cVv [.int (nI (L.2.2.2.2.2.length - (sp_gone (sp_blobs L) L.2.2.2.2.2).length))] b (d - 1) 0 0 (fun h' => ∃ NR', fr h8 h' [b, r' + 1, r' + 2, r' + 3, r' + 4] ∧ h'[b]? = some (lnO b r' r L.2.2.2.2.1 (sp_tRow L).length) ∧ Rws h' r' NR' ∧ isRow (sp_tRow L) NR') d_Lane_tick_67 q_Lane_93 k1 rfl rfl (c_Lane_renewRow htr (by omega) k1 HW8 a13 HN8 HB8 g81 g82 a0 (fun h' NR' f' H1 H2 H3 => ⟨rfl, NR', f', H1, H2, H3⟩)) (by show d - 1 + 1 ≤ d; omega) (Nat.le_refl _) (Nat.le_refl _) (Nat.le_of_ble_eq_true rfl) (fun h9 e9 => ?_)
  obtain ⟨NR9, F9, g91, g92, g93⟩ := e9
  have F59 : fr h5 h9 [b, b + 1, b + 2, b + 3, b + 4, b + 13, b + 14, rr, rr + 1, r' + 1, r' + 2, r' + 3, r' + 4] := fr_tr (fr_tr F57 F8 (cs := [b, b + 1, b + 2, b + 3, b + 4, b + 13, b + 14, rr, rr + 1, r' + 1, r' + 2, r' + 3, r' + 4]) (fun x hx => by simp at hx ⊢; omega) (fun x hx => by simp at hx ⊢; omega)) F9 (fun _ q => q) (fun x hx => by simp at hx ⊢; omega)
  have T0 : TLs h9 (b + 7) 6 (sp_exp now L.2.2.1.1 R).1 := T4.fr F59 (by simp only [List.mem_cons, List.not_mem_nil, or_false, not_or]; omega) (by simp only [List.mem_cons, List.not_mem_nil, or_false, not_or]; omega) (by simp only [List.mem_cons, List.not_mem_nil, or_false, not_or]; omega)
  have T1 : TLs h9 (b + 10) 6 (sp_exp now L.2.2.1.2 (sp_exp now L.2.2.1.1 R).2).1 := T5.fr F59 (by simp only [List.mem_cons, List.not_mem_nil, or_false, not_or]; omega) (by simp only [List.mem_cons, List.not_mem_nil, or_false, not_or]; omega) (by simp only [List.mem_cons, List.not_mem_nil, or_false, not_or]; omega)
  have k2 := fr_at F59 (b := b + 6) (by simp only [List.mem_cons, List.not_mem_nil, or_false, not_or]; omega) k2
  have ke := fr_at F9 (b := b + 1) (by simp only [List.mem_cons, List.not_mem_nil, or_false, not_or]; omega) ke
  have HW9 : Rws h9 r RW := HW8.fr F9 (fun j hj => by simp; omega)
  refine r_aload_n d_Lane_tick_70 rfl ?_
  refine r_cVv [] b (d - 1) 0 0 (fun h' => ∃ RW', fr h9 h' [r' + 1, r' + 2, r' + 3, r' + 4, b + 7, b + 8, b + 9, b + 10, b + 11, b + 12] ∧ Rws h' r' RW' ∧ isRow (sp_tPay now L R).1 RW' ∧ TLs h' (b + 7) 6 (sp_tPay now L R).2.1 ∧ TLs h' (b + 10) 6 (sp_tPay now L R).2.2 ∧ okQ (sp_tPay now L R).2.1 ∧ okQ (sp_tPay now L R).2.2 ∧ (sp_tPay now L R).1.length = (sp_tRow L).length) d_Lane_tick_71 q_Lane_96 g91 rfl rfl (c_Lane_handOut htr (by omega) g91 g92 g93 k2 a6 a7 (qs := ((sp_exp now L.2.2.1.1 R).1, (sp_exp now L.2.2.1.2 (sp_exp now L.2.2.1.1 R).2).1)) T0 T1 (sp_exp_ok _ _ _ x2) (sp_exp_ok _ _ _ x3) (by omega) (fun h' RW' f' H1 H2 H3 H4 H5 H6 H7 => ⟨rfl, RW', f', H1, H2, H3, H4, H5, H6, H7⟩)) (by show d - 1 + 1 ≤ d; omega) (Nat.le_refl _) (Nat.le_refl _) (Nat.le_of_ble_eq_true rfl) (fun h10 e10 => ?_)
  obtain ⟨RW10, F10, q1, q2, q3, q4, q5, q6, q7⟩ := e10
  have k1 := fr_at F10 (b := b) (by simp only [List.mem_cons, List.not_mem_nil, or_false, not_or]; omega) g91
  rw [← q7] at k1
  have ke := fr_at F10 (b := b + 1) (by simp only [List.mem_cons, List.not_mem_nil, or_false, not_or]; omega) ke
  have F5A : fr h5 h10 [b, b + 1, b + 2, b + 3, b + 4, b + 7, b + 8, b + 9, b + 10, b + 11, b + 12, b + 13, b + 14, rr, rr + 1, r' + 1, r' + 2, r' + 3, r' + 4] := fr_tr F59 F10 (fun x hx => by simp at hx ⊢; omega) (fun x hx => by simp at hx ⊢; omega)
  have kp := fr_at F5A (b := b + 5) (by simp only [List.mem_cons, List.not_mem_nil, or_false, not_or]; omega) (fr_at (fr_tr F4 F5 (cs := [b + 7, b + 8, b + 9, b + 10, b + 11, b + 12, rr, rr + 1]) (fun x hx => by simp at hx ⊢; omega) (fun x hx => by simp at hx ⊢; omega)) (b := b + 5) (by simp only [List.mem_cons, List.not_mem_nil, or_false, not_or]; omega) a4)
  refine r_aload_n d_Lane_tick_74 rfl ?_
  refine r_getfield d_Lane_tick_75 f_Lane_28 k1 rfl ?_
  refine r_iload_n d_Lane_tick_78 rfl ?_
  -- the paddles
  have last : ∀ x y : Int32, (¬ x = 0 ↔ (¬ al = 0 ∨ owned (sp_tPay now L R).1)) → (¬ y = 0 ↔ ¬ sp_see L.1 &&& 120 = 0) → ac_G (l, d, m_Lane_tick, 0, 0, Φ, h.length, none) 112 [(4, .int (nI (sp_gone (sp_blobs L) L.2.2.2.2.2).length)), (0, .ref b), (1, .int now), (2, .int al), (3, .ref rr)] [.int y, .int x, .ref (b + 5)] h10 0 0 := by
    intro x y ex ey
    refine r_cVv [.int x, .int y] (b + 5) (d - 1) 0 0 (fun h' => fr h10 h' [b + 5] ∧ h'[b + 5]? = some (.inr (4, [.int (L.2.1.1 + sp_tOrd now al L R), .int (sp_tOrd now al L R)]))) d_Lane_tick_112 q_Lane_103 kp rfl rfl (c_Pad_move htr kp (fun h' f' H1 => ⟨rfl, f', by rw [sp_ord_eq ex ey] at H1; exact H1⟩)) (by show d - 1 + 1 ≤ d; omega) (Nat.le_refl _) (Nat.le_refl _) (Nat.le_of_ble_eq_true rfl) (fun h11 e11 => ?_)
    obtain ⟨F11, e11⟩ := e11
    refine r_iload d_Lane_tick_115 rfl ?_
    have Fall : frP h h11 (inL b rr) := frP_tr (frP_tr (frP_tr (frP_of F4 (fun x hx => by simp at hx; unfold inL; omega)) (frP_of F5 (fun x hx => by simp at hx; unfold inL; omega))) (frP_of F5A (fun x hx => by simp at hx; unfold inL; omega))) (frP_of F11 (fun x hx => by simp at hx; unfold inL; omega))
    refine r_iret d_Lane_tick_117 rfl (hΦ h11 Fall ⟨x1, q5, q6, r', r, RW10, RW, sp_blobs L, gl8, gq, by omega, fr_at F11 (by simp only [List.mem_cons, List.not_mem_nil, or_false, not_or]; omega) k1, fr_at F11 (by simp only [List.mem_cons, List.not_mem_nil, or_false, not_or]; omega) ke, ((HB8.fr F9 (by simp only [List.mem_cons, List.not_mem_nil, or_false, not_or]; omega) (by simp only [List.mem_cons, List.not_mem_nil, or_false, not_or]; omega) (by simp only [List.mem_cons, List.not_mem_nil, or_false, not_or]; omega)).fr F10 (by simp only [List.mem_cons, List.not_mem_nil, or_false, not_or]; omega) (by simp only [List.mem_cons, List.not_mem_nil, or_false, not_or]; omega) (by simp only [List.mem_cons, List.not_mem_nil, or_false, not_or]; omega)).fr F11 (by simp only [List.mem_cons, List.not_mem_nil, or_false, not_or]; omega) (by simp only [List.mem_cons, List.not_mem_nil, or_false, not_or]; omega) (by simp only [List.mem_cons, List.not_mem_nil, or_false, not_or]; omega), e11, ⟨fr_at F11 (by simp only [List.mem_cons, List.not_mem_nil, or_false, not_or]; omega) (fr_at F10 (by simp only [List.mem_cons, List.not_mem_nil, or_false, not_or]; omega) k2), a6, a7⟩, q3.fr F11 (by simp only [List.mem_cons, List.not_mem_nil, or_false, not_or]; omega) (by simp only [List.mem_cons, List.not_mem_nil, or_false, not_or]; omega) (by simp only [List.mem_cons, List.not_mem_nil, or_false, not_or]; omega), q4.fr F11 (by simp only [List.mem_cons, List.not_mem_nil, or_false, not_or]; omega) (by simp only [List.mem_cons, List.not_mem_nil, or_false, not_or]; omega) (by simp only [List.mem_cons, List.not_mem_nil, or_false, not_or]; omega), fr_at F11 (by simp only [List.mem_cons, List.not_mem_nil, or_false, not_or]; omega) (fr_at F10 (by simp only [List.mem_cons, List.not_mem_nil, or_false, not_or]; omega) (fr_at F9 (by simp only [List.mem_cons, List.not_mem_nil, or_false, not_or]; omega) g83)), fr_at F11 (by simp only [List.mem_cons, List.not_mem_nil, or_false, not_or]; omega) (fr_at F10 (by simp only [List.mem_cons, List.not_mem_nil, or_false, not_or]; omega) (fr_at F9 (by simp only [List.mem_cons, List.not_mem_nil, or_false, not_or]; omega) g81)), q1.fr F11 (fun j hj => by simp; omega), q2, (HW9.fr F10 (fun j hj => by simp; omega)).fr F11 (fun j hj => by simp; omega)⟩ (((g84.fr F9 (by simp only [List.mem_cons, List.not_mem_nil, or_false, not_or]; omega) (by simp only [List.mem_cons, List.not_mem_nil, or_false, not_or]; omega)).fr F10 (by simp only [List.mem_cons, List.not_mem_nil, or_false, not_or]; omega) (by simp only [List.mem_cons, List.not_mem_nil, or_false, not_or]; omega)).fr F11 (by simp only [List.mem_cons, List.not_mem_nil, or_false, not_or]; omega) (by simp only [List.mem_cons, List.not_mem_nil, or_false, not_or]; omega))) (Nat.le_refl _) (Nat.le_refl _)
  have mid : ∀ x : Int32, (¬ x = 0 ↔ (¬ al = 0 ∨ owned (sp_tPay now L R).1)) → ac_G (l, d, m_Lane_tick, 0, 0, Φ, h.length, none) 94 [(4, .int (nI (sp_gone (sp_blobs L) L.2.2.2.2.2).length)), (0, .ref b), (1, .int now), (2, .int al), (3, .ref rr)] [.int x, .ref (b + 5)] h10 0 0 := by
    intro x ex
    refine r_aload_n d_Lane_tick_94 rfl ?_
    refine r_getfield d_Lane_tick_95 f_Lane_12 k1 rfl ?_
    refine r_getfield d_Lane_tick_98 f_Lane_84 ke rfl ?_
    refine r_bipush 120 d_Lane_tick_101 (by decide) ?_
    refine r_iand d_Lane_tick_103 ?_
    refine r_if_eq 111 d_Lane_tick_104 (by decide) (fun c2 => ?_) (fun c2 => ?_)
    · refine r_iconst 0 d_Lane_tick_111 (by decide) ?_
      exact last x 0 ex ⟨fun z => absurd rfl z, fun z => absurd c2 z⟩
    · refine r_iconst 1 d_Lane_tick_107 (by decide) ?_
      refine r_goto 112 d_Lane_tick_108 (by decide) ?_
      exact last x 1 ex ⟨fun _ => c2, fun _ => by decide⟩
  refine r_if_ne 89 d_Lane_tick_79 (by decide) (fun c1 => ?_) (fun c1 => ?_)
  · refine r_iconst 1 d_Lane_tick_89 (by decide) ?_
    refine r_goto 94 d_Lane_tick_90 (by decide) ?_
    exact r_loc _ (fun q hq => by simp at hq; rcases hq with q | q | q | q | q <;> subst q <;> rfl) (mid 1 ⟨fun _ => Or.inl c1, fun _ => by decide⟩)
  · refine r_aload_n d_Lane_tick_82 rfl ?_
    refine r_cVi [] b (d - 1) 0 0 (b01 (owned (sp_tPay now L R).1)) (fun h' => h10 = h') d_Lane_tick_83 q_Lane_99 k1 rfl rfl (c_Lane_some htr k1 q1 q2 ⟨rfl, rfl⟩) (by show d - 1 + 1 ≤ d; omega) (Nat.le_refl _) (Nat.le_refl _) (Nat.le_of_ble_eq_true rfl) (fun h' e9 => ?_)
    subst e9
    refine r_if_eq 93 d_Lane_tick_86 (by decide) (fun c2 => ?_) (fun c2 => ?_)
    · refine r_iconst 0 d_Lane_tick_93 (by decide) ?_
      exact r_loc _ (fun q hq => by simp at hq; rcases hq with q | q | q | q | q <;> subst q <;> rfl) (mid 0 ⟨fun z => absurd rfl z, fun z => z.elim (fun z => absurd c1 z) (fun z => absurd z (b01_0.mp c2))⟩)
    · refine r_iconst 1 d_Lane_tick_89 (by decide) ?_
      refine r_goto 94 d_Lane_tick_90 (by decide) ?_
      exact r_loc _ (fun q hq => by simp at hq; rcases hq with q | q | q | q | q <;> subst q <;> rfl) (mid 1 ⟨fun _ => Or.inr (Classical.byContradiction fun z => c2 (b01_f z)), fun _ => by decide⟩)
