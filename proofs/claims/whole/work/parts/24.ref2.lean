/-! THE REFERENCE: the oldest of a queue, sides, what is seen -/
theorem c_Mo_takeOldest {l : Launch} (htr : l.stackTraces = false) {d : Nat} {h : ac_H} {Φ : ac_R → ac_H → Prop} {q : Nat} {x : Int32 × Int32} {r : sp_Q} {F : Nat → Nat → Int32} {V : Nat → Int32} (hq : q < 4) (M : MD h F V) (HQ : Mqu F q (x :: r)) (hΦ : ∀ h' F', frP h h' mod9 → MD h' F' V → ch (Dq q) F F' → Mqu F' q r → Φ (.inl (some (.int x.1))) h') : ac_Mt l d m_Mo_takeOldest [.ref 57, .int (nI q)] h 0 0 Φ := by
  obtain ⟨a1, a2, a3⟩ := HQ
  rw [List.length_cons] at a1 a2
  have ex : F 20 (6 * q) = x.1 := (a3 0 x rfl).1
  refine ac_enter (by decide) rfl htr (fun _ => Nat.le_of_ble_eq_true rfl) ?_
  refine r_aload_n d_Mo_takeOldest_0 rfl ?_
  refine r_getfield d_Mo_takeOldest_1 f_Mo_70 M.1 rfl ?_
  refine r_bipush 6 d_Mo_takeOldest_4 (by decide) ?_
  refine r_iload_n d_Mo_takeOldest_6 rfl ?_
  refine r_ri2 (show (6 : Int32) = nI 6 by decide) ?_
  refine r_imul d_Mo_takeOldest_7 ?_
  refine r_ri (pk_mul _ _) ?_
  refine r_ialoadN d_Mo_takeOldest_8 (md_account M) (show 6 * q < 24 by omega) (by omega) ?_
  refine r_ri ex ?_
  refine r_istore_n d_Mo_takeOldest_9 (Nat.le_of_ble_eq_true rfl) ?_
  refine r_aload_n d_Mo_takeOldest_10 rfl ?_
  refine r_getfield d_Mo_takeOldest_11 f_Mo_67 M.1 rfl ?_
  refine r_iload_n d_Mo_takeOldest_14 rfl ?_
  refine r_pc 15 rfl ?_
  refine r_dup2 d_Mo_takeOldest_15 rfl rfl ?_
  refine r_ialoadN d_Mo_takeOldest_16 (md_waiting M) (show q < 4 by omega) (by omega) ?_
  refine r_ri a1 ?_
  refine r_iconst 1 d_Mo_takeOldest_17 (by decide) ?_
  refine r_isub d_Mo_takeOldest_18 ?_
  refine r_ri (nI_pred _) ?_
  refine r_mst 19 d_Mo_takeOldest_19 (by omega) (show q < 4 by omega) M (fun h2 Fr2 M2 => ?_)
  refine r_iconst 0 d_Mo_takeOldest_20 (by decide) ?_
  refine r_ri (show (0 : Int32) = nI 0 by decide) ?_
  refine r_istore_n d_Mo_takeOldest_21 (Nat.le_of_ble_eq_true rfl) ?_
  have key : ∀ (n i : Nat) (h3 : ac_H) (F3 : Nat → Nat → Int32), i + n = r.length → frP h h3 mod9 → MD h3 F3 V → ch (Dq q) F F3 → F3 19 q = nI r.length → (∀ j, j < i → F3 20 (6 * q + j) = F 20 (6 * q + j + 1) ∧ F3 21 (6 * q + j) = F 21 (6 * q + j + 1)) → (∀ j, i ≤ j → F3 20 (6 * q + j) = F 20 (6 * q + j) ∧ F3 21 (6 * q + j) = F 21 (6 * q + j)) → ac_G (l, d, m_Mo_takeOldest, 0, 0, Φ, h.length, none) 22 [(3, .int (nI i)), (2, .int x.1), (0, .ref 57), (1, .int (nI q))] [] h3 0 0 := by
    intro n
    induction n with
    | zero =>
      intro i h3 F3 hi Fr3 M3 C3 e1 u1 u2
      refine r_iload_n d_Mo_takeOldest_22 rfl ?_
      refine r_aload_n d_Mo_takeOldest_23 rfl ?_
      refine r_getfield d_Mo_takeOldest_24 f_Mo_67 M3.1 rfl ?_
      refine r_iload_n d_Mo_takeOldest_27 rfl ?_
      refine r_ialoadN d_Mo_takeOldest_28 (md_waiting M3) (show q < 4 by omega) (by omega) ?_
      refine r_ri e1 ?_
      refine r_icmp_ge 86 d_Mo_takeOldest_29 (by decide) (fun c => ?_) (fun c => absurd (nI_le (by omega) (by omega)) c)
      refine r_iload_n d_Mo_takeOldest_86 rfl ?_
      refine r_iret d_Mo_takeOldest_87 rfl (hΦ h3 F3 Fr3 M3 C3 ⟨e1, by omega, fun j y hy => ?_⟩) (Nat.le_refl _) (Nat.le_refl _)
      have hj : j < r.length := (List.getElem?_eq_some_iff.mp hy).1
      obtain ⟨v1, v2⟩ := u1 j (by omega)
      obtain ⟨w1, w2⟩ := a3 (j + 1) y (by rw [List.getElem?_cons_succ]; exact hy)
      exact ⟨v1.trans w1, v2.trans w2⟩
    | succ n ih =>
      intro i h3 F3 hi Fr3 M3 C3 e1 u1 u2
      refine r_iload_n d_Mo_takeOldest_22 rfl ?_
      refine r_aload_n d_Mo_takeOldest_23 rfl ?_
      refine r_getfield d_Mo_takeOldest_24 f_Mo_67 M3.1 rfl ?_
      refine r_iload_n d_Mo_takeOldest_27 rfl ?_
      refine r_ialoadN d_Mo_takeOldest_28 (md_waiting M3) (show q < 4 by omega) (by omega) ?_
      refine r_ri e1 ?_
      refine r_icmp_ge 86 d_Mo_takeOldest_29 (by decide) (fun c => absurd ((nI_leI (by omega) (by omega)).mp c) (by omega)) (fun c => ?_)
      have v := u2 (i + 1) (by omega)
      refine r_aload_n d_Mo_takeOldest_32 rfl ?_
      refine r_getfield d_Mo_takeOldest_33 f_Mo_70 M3.1 rfl ?_
      refine r_bipush 6 d_Mo_takeOldest_36 (by decide) ?_
      refine r_iload_n d_Mo_takeOldest_38 rfl ?_
      refine r_ri2 (show (6 : Int32) = nI 6 by decide) ?_
      refine r_imul d_Mo_takeOldest_39 ?_
      refine r_ri (pk_mul _ _) ?_
      refine r_iload_n d_Mo_takeOldest_40 rfl ?_
      refine r_iadd d_Mo_takeOldest_41 ?_
      refine r_ri (nI_add _ _) ?_
      refine r_aload_n d_Mo_takeOldest_42 rfl ?_
      refine r_getfield d_Mo_takeOldest_43 f_Mo_70 M3.1 rfl ?_
      refine r_bipush 6 d_Mo_takeOldest_46 (by decide) ?_
      refine r_pc 48 rfl ?_
      refine r_iload_n d_Mo_takeOldest_48 rfl ?_
      refine r_ri2 (show (6 : Int32) = nI 6 by decide) ?_
      refine r_imul d_Mo_takeOldest_49 ?_
      refine r_ri (pk_mul _ _) ?_
      refine r_iload_n d_Mo_takeOldest_50 rfl ?_
      refine r_iadd d_Mo_takeOldest_51 ?_
      refine r_ri (nI_add _ _) ?_
      refine r_iconst 1 d_Mo_takeOldest_52 (by decide) ?_
      refine r_ri (show (1 : Int32) = nI 1 by decide) ?_
      refine r_iadd d_Mo_takeOldest_53 ?_
      refine r_ri (nI_add _ _) ?_
      refine r_ialoadN d_Mo_takeOldest_54 (md_account M3) (show 6 * q + i + 1 < 24 by omega) (by omega) ?_
      refine r_ri v.1 ?_
      refine r_mst 20 d_Mo_takeOldest_55 (by omega) (show 6 * q + i < 24 by omega) M3 (fun h55_ fr55 M55 => ?_)
      have v2 : up2 F3 20 (6 * q + i) (F 20 (6 * q + (i + 1))) 21 (6 * q + i + 1) = F 21 (6 * q + (i + 1)) := (up2_ne (by omega)).trans v.2
      refine r_aload_n d_Mo_takeOldest_56 rfl ?_
      refine r_getfield d_Mo_takeOldest_57 f_Mo_73 M55.1 rfl ?_
      refine r_bipush 6 d_Mo_takeOldest_60 (by decide) ?_
      refine r_iload_n d_Mo_takeOldest_62 rfl ?_
      refine r_ri2 (show (6 : Int32) = nI 6 by decide) ?_
      refine r_imul d_Mo_takeOldest_63 ?_
      refine r_ri (pk_mul _ _) ?_
      refine r_iload_n d_Mo_takeOldest_64 rfl ?_
      refine r_iadd d_Mo_takeOldest_65 ?_
      refine r_ri (nI_add _ _) ?_
      refine r_aload_n d_Mo_takeOldest_66 rfl ?_
      refine r_getfield d_Mo_takeOldest_67 f_Mo_73 M55.1 rfl ?_
      refine r_bipush 6 d_Mo_takeOldest_70 (by decide) ?_
      refine r_pc 72 rfl ?_
      refine r_iload_n d_Mo_takeOldest_72 rfl ?_
      refine r_ri2 (show (6 : Int32) = nI 6 by decide) ?_
      refine r_imul d_Mo_takeOldest_73 ?_
      refine r_ri (pk_mul _ _) ?_
      refine r_iload_n d_Mo_takeOldest_74 rfl ?_
      refine r_iadd d_Mo_takeOldest_75 ?_
      refine r_ri (nI_add _ _) ?_
      refine r_iconst 1 d_Mo_takeOldest_76 (by decide) ?_
      refine r_ri (show (1 : Int32) = nI 1 by decide) ?_
      refine r_iadd d_Mo_takeOldest_77 ?_
      refine r_ri (nI_add _ _) ?_
      refine r_ialoadN d_Mo_takeOldest_78 (md_since M55) (show 6 * q + i + 1 < 24 by omega) (by omega) ?_
      refine r_ri v2 ?_
      refine r_mst 21 d_Mo_takeOldest_79 (by omega) (show 6 * q + i < 24 by omega) M55 (fun h79_ fr79 M79 => ?_)
      refine r_iincP d_Mo_takeOldest_80 rfl (Nat.le_of_ble_eq_true rfl) ?_
      refine r_goto 22 d_Mo_takeOldest_83 (by decide) ?_
      rw [nI_1]
      refine r_loc _ (fun q hq => by simp at hq; rcases hq with q | q | q | q <;> subst q <;> rfl) (ih (i + 1) _ _ (by omega) (frP_tr (frP_tr Fr3 fr55) fr79) M79 (ch_tr (ch_tr C3 (ch_up (Or.inr ⟨Or.inl rfl, by omega, by omega⟩))) (ch_up (Or.inr ⟨Or.inr rfl, by omega, by omega⟩))) ?_ ?_ ?_)
      · rw [up2_ne (by omega), up2_ne (by omega)]; exact e1
      · intro j hj
        by_cases e : j = i
        · subst e; exact ⟨(up2_ne (by omega)).trans up2_eq, up2_eq⟩
        · obtain ⟨w1, w2⟩ := u1 j (by omega)
          exact ⟨((up2_ne (by omega)).trans (up2_ne (by omega))).trans w1, ((up2_ne (by omega)).trans (up2_ne (by omega))).trans w2⟩
      · intro j hj
        obtain ⟨w1, w2⟩ := u2 j (by omega)
        exact ⟨((up2_ne (by omega)).trans (up2_ne (by omega))).trans w1, ((up2_ne (by omega)).trans (up2_ne (by omega))).trans w2⟩
  refine r_loc _ (fun q hq => by simp at hq; rcases hq with q | q | q | q <;> subst q <;> rfl) (key r.length 0 h2 _ (by omega) Fr2 M2 (ch_up (Or.inl ⟨rfl, rfl⟩)) up2_eq (fun j hj => absurd hj (by omega)) (fun j _ => ⟨up2_ne (by omega), up2_ne (by omega)⟩))
theorem c_Mo_hasSide {l : Launch} (htr : l.stackTraces = false) {d : Nat} {h : ac_H} {Φ : ac_R → ac_H → Prop} {ln i m : Nat} {F : Nat → Nat → Int32} {V : Nat → Int32} (hl : ln < 2) (hi : i < 2) (hm : m ≤ 3) (M : MD h F V) (H : F 4 ln = nI m) (hΦ : Φ (.inl (some (.int (b01 (tk m i))))) h) : ac_Mt l d m_Mo_hasSide [.ref 57, .int (nI ln), .int (nI i)] h 0 0 Φ := by
  refine ac_enter (by decide) rfl htr (fun _ => Nat.le_of_ble_eq_true rfl) ?_
  have yes : tk m i → ac_G (l, d, m_Mo_hasSide, 0, 0, Φ, h.length, none) 21 [(0, .ref 57), (1, .int (nI ln)), (2, .int (nI i))] [] h 0 0 := by
    intro e
    rw [b01_t e] at hΦ
    refine r_iconst 1 d_Mo_hasSide_21 (by decide) ?_
    refine r_goto 26 d_Mo_hasSide_22 (by decide) ?_
    exact r_zret d_Mo_hasSide_26 rfl (Or.inr rfl) hΦ (Nat.le_refl _) (Nat.le_refl _)
  refine r_aload_n d_Mo_hasSide_0 rfl ?_
  refine r_getfield d_Mo_hasSide_1 f_Mo_22 M.1 rfl ?_
  refine r_iload_n d_Mo_hasSide_4 rfl ?_
  refine r_ialoadN d_Mo_hasSide_5 (md_modes M) (show ln < 2 by omega) (by omega) ?_
  refine r_ri H ?_
  refine r_if_eq 21 d_Mo_hasSide_6 (by decide) (fun c => yes (Or.inl ?_)) (fun c => ?_)
  · rw [← nI_0] at c; exact (nI_eq (by omega) (by omega)).mp c
  · refine r_aload_n d_Mo_hasSide_9 rfl ?_
    refine r_getfield d_Mo_hasSide_10 f_Mo_22 M.1 rfl ?_
    refine r_iload_n d_Mo_hasSide_13 rfl ?_
    refine r_ialoadN d_Mo_hasSide_14 (md_modes M) (show ln < 2 by omega) (by omega) ?_
    refine r_ri H ?_
    refine r_iload_n d_Mo_hasSide_15 rfl ?_
    refine r_iconst 1 d_Mo_hasSide_16 (by decide) ?_
    refine r_ri (show (1 : Int32) = nI 1 by decide) ?_
    refine r_iadd d_Mo_hasSide_17 ?_
    refine r_ri (nI_add _ _) ?_
    refine r_icmp_ne 25 d_Mo_hasSide_18 (by decide) (fun c2 => ?_) (fun c2 => yes (Or.inr ((nI_eq (by omega) (by omega)).mp c2)))
    rw [b01_f (fun e => by
      rcases e with q | q
      · exact c (by rw [q]; exact nI_0)
      · exact c2 (by rw [q]))] at hΦ
    refine r_iconst 0 d_Mo_hasSide_25 (by decide) ?_
    exact r_zret d_Mo_hasSide_26 rfl (Or.inl rfl) hΦ (Nat.le_refl _) (Nat.le_refl _)
/-- the blobs -/
def MBl (F : Nat → Nat → Int32) (V : Nat → Int32) (B : List (Nat × Nat)) : Prop := V 3 = nI B.length ∧ in2N B (F 17) (F 18)
theorem MBl.ch {F F' : Nat → Nat → Int32} {V V' : Nat → Int32} {B : List (Nat × Nat)} {D : Nat → Nat → Prop} (H : MBl F V B) (C : ch D F F') (hv : V' 3 = V 3) (hd : ∀ i, ¬ D 17 i ∧ ¬ D 18 i) : MBl F' V' B := ⟨hv.trans H.1, fun i x hx => ⟨(C 17 i (hd i).1).trans (H.2 i x hx).1, (C 18 i (hd i).2).trans (H.2 i x hx).2⟩⟩
theorem c_Mo_meets {l : Launch} (htr : l.stackTraces = false) {d : Nat} {h : ac_H} {Φ : ac_R → ac_H → Prop} {f e k : Nat} {x : Nat × Nat} {F : Nat → Nat → Int32} {V : Nat → Int32} {B : List (Nat × Nat)} (M : MD h F V) (HB : MBl F V B) (hB : okBl B) (hk : k < 5) (hx : B[k]? = some x) (hf : f ≤ 9) (he : e ≤ 9) (hΦ : Φ (.inl (some (.int (b01 (f ≤ x.2 + 1 ∧ x.1 ≤ e + 1))))) h) : ac_Mt l d m_Mo_meets [.ref 57, .int (nI f), .int (nI e), .int (nI k)] h 0 0 Φ := by
  obtain ⟨e1, e2⟩ := HB.2 k x hx
  obtain ⟨x1, x2⟩ := hB x (List.mem_of_getElem? hx)
  refine ac_enter (by decide) rfl htr (fun _ => Nat.le_of_ble_eq_true rfl) ?_
  have no : ¬ (f ≤ x.2 + 1 ∧ x.1 ≤ e + 1) → ac_G (l, d, m_Mo_meets, 0, 0, Φ, h.length, none) 28 [(0, .ref 57), (1, .int (nI f)), (2, .int (nI e)), (3, .int (nI k))] [] h 0 0 := by
    intro z
    rw [b01_f z] at hΦ
    refine r_iconst 0 d_Mo_meets_28 (by decide) ?_
    exact r_zret d_Mo_meets_29 rfl (Or.inl rfl) hΦ (Nat.le_refl _) (Nat.le_refl _)
  refine r_iload_n d_Mo_meets_0 rfl ?_
  refine r_iconst 1 d_Mo_meets_1 (by decide) ?_
  refine r_isub d_Mo_meets_2 ?_
  refine r_aload_n d_Mo_meets_3 rfl ?_
  refine r_getfield d_Mo_meets_4 f_Mo_64 M.1 rfl ?_
  refine r_iload_n d_Mo_meets_7 rfl ?_
  refine r_ialoadN d_Mo_meets_8 (md_blobLast M) (show k < 5 by omega) (by omega) ?_
  refine r_ri e2 ?_
  refine r_icmp_gt 28 d_Mo_meets_9 (by decide) (fun c => no (fun z => ?_)) (fun c => ?_)
  · have := (nI_m1_le (by omega) (by omega)).mpr z.1
    rw [Int32.le_iff_toInt_le] at this
    rw [Int32.lt_iff_toInt_lt] at c
    omega
  · have h1 : f ≤ x.2 + 1 := (nI_m1_le (by omega) (by omega)).mp (by rw [Int32.le_iff_toInt_le]; rw [Int32.lt_iff_toInt_lt] at c; omega)
    refine r_iload_n d_Mo_meets_12 rfl ?_
    refine r_iconst 1 d_Mo_meets_13 (by decide) ?_
    refine r_ri (show (1 : Int32) = nI 1 by decide) ?_
    refine r_iadd d_Mo_meets_14 ?_
    refine r_ri (nI_add _ _) ?_
    refine r_aload_n d_Mo_meets_15 rfl ?_
    refine r_getfield d_Mo_meets_16 f_Mo_61 M.1 rfl ?_
    refine r_iload_n d_Mo_meets_19 rfl ?_
    refine r_ialoadN d_Mo_meets_20 (md_blobFirst M) (show k < 5 by omega) (by omega) ?_
    refine r_ri e1 ?_
    refine r_icmp_lt 28 d_Mo_meets_21 (by decide) (fun c2 => no (fun z => ?_)) (fun c2 => ?_)
    · have := (nI_ltI (by omega) (by omega)).mp c2
      omega
    · have h2 : x.1 ≤ e + 1 := by
        rcases Nat.lt_or_ge (e + 1) x.1 with z | z
        · exact absurd ((nI_ltI (by omega) (by omega)).mpr z) c2
        · exact z
      rw [b01_t ⟨h1, h2⟩] at hΦ
      refine r_iconst 1 d_Mo_meets_24 (by decide) ?_
      refine r_goto 29 d_Mo_meets_25 (by decide) ?_
      exact r_zret d_Mo_meets_29 rfl (Or.inr rfl) hΦ (Nat.le_refl _) (Nat.le_refl _)
theorem and_1 (y : Int32) : y &&& 1 = 0 ∨ y &&& 1 = 1 := by
  have h : (y &&& 1).toBitVec = BitVec.setWidth 32 (BitVec.ofBool (y.toBitVec.getLsbD 0)) := by
    rw [Int32.toBitVec_and]; exact BitVec.and_one_eq_setWidth_ofBool_getLsbD
  cases hb : y.toBitVec.getLsbD 0 with
  | false => rw [hb] at h; exact Or.inl (Int32.toBitVec_inj.mp h)
  | true => rw [hb] at h; exact Or.inr (Int32.toBitVec_inj.mp h)
theorem and_1n {y : Int32} : ¬ y &&& 1 = 0 ↔ y &&& 1 = 1 := by
  rcases and_1 y with e | e
  · rw [e]; decide
  · rw [e]; decide
/-- what the eye of a lane holds -/
def MEy (F : Nat → Nat → Int32) (ln : Nat) (E : Int32 × Int32 × Int32 × Int32) : Prop := F 0 ln = E.1 ∧ F 1 ln = E.2.1 ∧ F 2 ln = E.2.2.1 ∧ F 3 ln = E.2.2.2
def Dlk (ln j i : Nat) : Prop := ((j = 1 ∨ j = 2 ∨ j = 3) ∧ i = ln) ∨ j = 17 ∨ j = 18
theorem add_nil (i : Nat) : sp_add [] i = [(i, i)] := rfl
theorem c_Mo_look {l : Launch} (htr : l.stackTraces = false) {d : Nat} {h : ac_H} {Φ : ac_R → ac_H → Prop} {ln : Nat} {E : Int32 × Int32 × Int32 × Int32} {F : Nat → Nat → Int32} {V : Nat → Int32} (hl : ln < 2) (M : MD h F V) (HE : MEy F ln E) (hΦ : ∀ h' F', frP h h' mod9 → MD h' F' (upd V 3 (nI (sp_find (sp_see E) 10).length)) → ch (Dlk ln) F F' → MEy F' ln (E.1, E.1, E.2.1, sp_see E) → MBl F' (upd V 3 (nI (sp_find (sp_see E) 10).length)) (sp_find (sp_see E) 10) → Φ (.inl none) h') : ac_Mt l d m_Mo_look [.ref 57, .int (nI ln)] h 0 0 Φ := by
  obtain ⟨e0, e1, e2, e3⟩ := HE
  refine ac_enter (by decide) rfl htr (fun _ => Nat.le_of_ble_eq_true rfl) ?_
  refine r_aload_n d_Mo_look_0 rfl ?_
  refine r_getfield d_Mo_look_1 f_Mo_7 M.1 rfl ?_
  refine r_iload_n d_Mo_look_4 rfl ?_
  refine r_ialoadN d_Mo_look_5 (md_told M) (show ln < 2 by omega) (by omega) ?_
  refine r_ri e0 ?_
  refine r_istore_n d_Mo_look_6 (Nat.le_of_ble_eq_true rfl) ?_
  refine r_aload_n d_Mo_look_7 rfl ?_
  refine r_getfield d_Mo_look_8 f_Mo_13 M.1 rfl ?_
  refine r_iload_n d_Mo_look_11 rfl ?_
  refine r_ialoadN d_Mo_look_12 (md_before M) (show ln < 2 by omega) (by omega) ?_
  refine r_ri e1 ?_
  refine r_istore_n d_Mo_look_13 (Nat.le_of_ble_eq_true rfl) ?_
  refine r_pc 14 rfl ?_
  refine r_aload_n d_Mo_look_14 rfl ?_
  refine r_getfield d_Mo_look_15 f_Mo_16 M.1 rfl ?_
  refine r_iload_n d_Mo_look_18 rfl ?_
  refine r_ialoadN d_Mo_look_19 (md_earlier M) (show ln < 2 by omega) (by omega) ?_
  refine r_ri e2 ?_
  refine r_istore d_Mo_look_20 (Nat.le_of_ble_eq_true rfl) ?_
  refine r_aload_n d_Mo_look_22 rfl ?_
  refine r_getfield d_Mo_look_23 f_Mo_19 M.1 rfl ?_
  refine r_iload_n d_Mo_look_26 rfl ?_
  refine r_iload_n d_Mo_look_27 rfl ?_
  refine r_iload_n d_Mo_look_28 rfl ?_
  refine r_pc 29 rfl ?_
  refine r_iand d_Mo_look_29 ?_
  refine r_iload_n d_Mo_look_30 rfl ?_
  refine r_iload d_Mo_look_31 rfl ?_
  refine r_iand d_Mo_look_33 ?_
  refine r_ior d_Mo_look_34 ?_
  refine r_iload_n d_Mo_look_35 rfl ?_
  refine r_iload d_Mo_look_36 rfl ?_
  refine r_iand d_Mo_look_38 ?_
  refine r_ior d_Mo_look_39 ?_
  refine r_ri (show _ = sp_see E from rfl) ?_
  refine r_mst 3 d_Mo_look_40 (by omega) (show ln < 2 by omega) M (fun h40_ fr40 M40 => ?_)
  refine r_aload_n d_Mo_look_41 rfl ?_
  refine r_getfield d_Mo_look_42 f_Mo_16 M40.1 rfl ?_
  refine r_iload_n d_Mo_look_45 rfl ?_
  refine r_iload_n d_Mo_look_46 rfl ?_
  refine r_mst 2 d_Mo_look_47 (by omega) (show ln < 2 by omega) M40 (fun h47_ fr47 M47 => ?_)
  refine r_aload_n d_Mo_look_48 rfl ?_
  refine r_getfield d_Mo_look_49 f_Mo_13 M47.1 rfl ?_
  refine r_iload_n d_Mo_look_52 rfl ?_
  refine r_iload_n d_Mo_look_53 rfl ?_
  refine r_mst 1 d_Mo_look_54 (by omega) (show ln < 2 by omega) M47 (fun h54_ fr54 M54 => ?_)
  have q3 : up2 (up2 (up2 F 3 ln (sp_see E)) 2 ln E.2.1) 1 ln E.1 3 ln = sp_see E := (up2_ne (by omega)).trans ((up2_ne (by omega)).trans up2_eq)
  refine r_aload_n d_Mo_look_55 rfl ?_
  refine r_iconst 0 d_Mo_look_56 (by decide) ?_
  refine r_mpf_blobs d_Mo_look_57 f_Mo_92 M54 (fun h57_ fr57 M57 => ?_)
  have c0 : ch (Dlk ln) F (up2 (up2 (up2 F 3 ln (sp_see E)) 2 ln E.2.1) 1 ln E.1) := ch_tr (ch_tr (ch_up (Or.inl ⟨by omega, rfl⟩)) (ch_up (Or.inl ⟨by omega, rfl⟩))) (ch_up (Or.inl ⟨by omega, rfl⟩))
  have p0 : MEy (up2 (up2 (up2 F 3 ln (sp_see E)) 2 ln E.2.1) 1 ln E.1) ln (E.1, E.1, E.2.1, sp_see E) := ⟨(up2_ne (by omega)).trans ((up2_ne (by omega)).trans ((up2_ne (by omega)).trans e0)), up2_eq, (up2_ne (by omega)).trans up2_eq, q3⟩
  have key : ∀ (n i : Nat) (h3 : ac_H) (F3 : Nat → Nat → Int32), i + n = 10 → frP h h3 mod9 → MD h3 F3 (upd V 3 (nI (sp_find (sp_see E) i).length)) → ch (Dlk ln) F F3 → MEy F3 ln (E.1, E.1, E.2.1, sp_see E) → in2N (sp_find (sp_see E) i) (F3 17) (F3 18) → ac_G (l, d, m_Mo_look, 0, 0, Φ, h.length, none) 63 [(5, .int (nI i)), (0, .ref 57), (1, .int (nI ln))] [] h3 0 0 := by
    intro n
    induction n with
    | zero =>
      intro i h3 F3 hi Fr3 M3 C3 E3 B3
      have e : i = 10 := by omega
      subst e
      refine r_iload d_Mo_look_63 rfl ?_
      refine r_bipush 10 d_Mo_look_65 (by decide) ?_
      refine r_ri (show (10 : Int32) = nI 10 by decide) ?_
      refine r_icmp_ge 164 d_Mo_look_67 (by decide) (fun c => ?_) (fun c => absurd (by decide) c)
      exact r_vret d_Mo_look_164 rfl (hΦ h3 F3 Fr3 M3 C3 E3 ⟨rfl, B3⟩) (Nat.le_refl _) (Nat.le_refl _)
    | succ n ih =>
      intro i h3 F3 hi Fr3 M3 C3 E3 B3
      have hap := sp_find_ok (sp_see E) i
      have hl4 := apart3_len hap (by omega)
      have s3 := E3.2.2.2
      have V3 : upd V 3 (nI (sp_find (sp_see E) i).length) 3 = nI (sp_find (sp_see E) i).length := if_pos rfl
      generalize hB : sp_find (sp_see E) i = B at *
      have same : sp_find (sp_see E) (i + 1) = B → ac_G (l, d, m_Mo_look, 0, 0, Φ, h.length, none) 158 [(5, .int (nI i)), (0, .ref 57), (1, .int (nI ln))] [] h3 0 0 := by
        intro e9
        refine r_iincP d_Mo_look_158 rfl (Nat.le_of_ble_eq_true rfl) ?_
        refine r_goto 63 d_Mo_look_161 (by decide) ?_
        rw [nI_1]
        exact r_loc _ (fun q hq => by simp at hq; rcases hq with q | q | q <;> subst q <;> rfl) (ih (i + 1) h3 F3 (by omega) Fr3 (by rw [e9]; exact M3) C3 E3 (by rw [e9]; exact B3))
      refine r_iload d_Mo_look_63 rfl ?_
      refine r_bipush 10 d_Mo_look_65 (by decide) ?_
      refine r_ri (show (10 : Int32) = nI 10 by decide) ?_
      refine r_icmp_ge 164 d_Mo_look_67 (by decide) (fun c => absurd ((nI_leI (by omega) (by omega)).mp c) (by omega)) (fun c => ?_)
      refine r_aload_n d_Mo_look_70 rfl ?_
      refine r_getfield d_Mo_look_71 f_Mo_19 M3.1 rfl ?_
      refine r_iload_n d_Mo_look_74 rfl ?_
      refine r_ialoadN d_Mo_look_75 (md_seen M3) (show ln < 2 by omega) (by omega) ?_
      refine r_ri s3 ?_
      refine r_iload d_Mo_look_76 rfl ?_
      refine r_ishr d_Mo_look_78 ?_
      refine r_iconst 1 d_Mo_look_79 (by decide) ?_
      refine r_iand d_Mo_look_80 ?_
      refine r_iconst 1 d_Mo_look_81 (by decide) ?_
      refine r_icmp_ne 158 d_Mo_look_82 (by decide) (fun c2 => same ?_) (fun c2 => ?_)
      · have hb : ¬ sp_bit (sp_see E) i := fun z => c2 (and_1n.mp z)
        rw [sp_find, if_neg hb, hB]
      · have hb : sp_bit (sp_see E) i := and_1n.mpr c2
        have ef : sp_find (sp_see E) (i + 1) = sp_add B i := by rw [sp_find, if_pos hb, hB]
        -- a new blob
        have new : sp_add B i = B ++ [(i, i)] → ac_G (l, d, m_Mo_look, 0, 0, Φ, h.length, none) 126 [(5, .int (nI i)), (0, .ref 57), (1, .int (nI ln))] [] h3 0 0 := by
          intro e9
          refine r_aload_n d_Mo_look_126 rfl ?_
          refine r_getfield d_Mo_look_127 f_Mo_61 M3.1 rfl ?_
          refine r_aload_n d_Mo_look_130 rfl ?_
          refine r_getfield d_Mo_look_131 f_Mo_92 M3.1 rfl ?_
          refine r_ri V3 ?_
          refine r_iload d_Mo_look_134 rfl ?_
          refine r_mst 17 d_Mo_look_136 (by omega) (show B.length < 5 by omega) M3 (fun h136_ fr136 M136 => ?_)
          refine r_aload_n d_Mo_look_137 rfl ?_
          refine r_getfield d_Mo_look_138 f_Mo_64 M136.1 rfl ?_
          refine r_aload_n d_Mo_look_141 rfl ?_
          refine r_getfield d_Mo_look_142 f_Mo_92 M136.1 rfl ?_
          refine r_ri V3 ?_
          refine r_pc 145 rfl ?_
          refine r_iload d_Mo_look_145 rfl ?_
          refine r_mst 18 d_Mo_look_147 (by omega) (show B.length < 5 by omega) M136 (fun h147_ fr147 M147 => ?_)
          refine r_aload_n d_Mo_look_148 rfl ?_
          refine r_dup d_Mo_look_149 rfl ?_
          refine r_getfield d_Mo_look_150 f_Mo_92 M147.1 rfl ?_
          refine r_ri V3 ?_
          refine r_iconst 1 d_Mo_look_153 (by decide) ?_
          refine r_ri (show (1 : Int32) = nI 1 by decide) ?_
          refine r_iadd d_Mo_look_154 ?_
          refine r_ri (nI_add _ _) ?_
          refine r_mpf_blobs d_Mo_look_155 f_Mo_92 M147 (fun h155_ fr155 M155 => ?_)
          refine r_iincP d_Mo_look_158 rfl (Nat.le_of_ble_eq_true rfl) ?_
          refine r_goto 63 d_Mo_look_161 (by decide) ?_
          rw [nI_1]
          have lenB : (sp_find (sp_see E) (i + 1)).length = B.length + 1 := by rw [ef, e9, List.length_append]; rfl
          have uu : upd (upd V 3 (nI B.length)) 3 (nI (B.length + 1)) = upd V 3 (nI (sp_find (sp_see E) (i + 1)).length) := by
            rw [lenB]; funext j; unfold upd; split <;> rfl
          rw [uu] at M155
          refine r_loc _ (fun q hq => by simp at hq; rcases hq with q | q | q <;> subst q <;> rfl) (ih (i + 1) _ _ (by omega) (frP_tr (frP_tr (frP_tr Fr3 fr136) fr147) fr155) M155 (ch_tr (ch_tr C3 (ch_up (Or.inr (Or.inl rfl)))) (ch_up (Or.inr (Or.inr rfl)))) ?_ ?_)
          · exact ⟨((up2_ne (by omega)).trans (up2_ne (by omega))).trans E3.1, ((up2_ne (by omega)).trans (up2_ne (by omega))).trans E3.2.1, ((up2_ne (by omega)).trans (up2_ne (by omega))).trans E3.2.2.1, ((up2_ne (by omega)).trans (up2_ne (by omega))).trans s3⟩
          · rw [ef, e9, up2_rne (by omega), up2_row, up2_row, up2_rne (by omega)]
            exact in2N_add B3
        refine r_aload_n d_Mo_look_85 rfl ?_
        refine r_getfield d_Mo_look_86 f_Mo_92 M3.1 rfl ?_
        refine r_ri V3 ?_
        rcases List.eq_nil_or_concat B with e | ⟨B0, x, e⟩
        · subst e
          refine r_if_le 126 d_Mo_look_89 (by decide) (fun c3 => new rfl) (fun c3 => absurd (by decide) c3)
        · rw [List.concat_eq_append] at e
          have lB : B.length = B0.length + 1 := by rw [e, List.length_append]; rfl
          have hx : B[B0.length]? = some x := by rw [e, List.getElem?_append_right (Nat.le_refl _), Nat.sub_self]; rfl
          have hx2 := hap.1 x (List.mem_of_getElem? hx)
          have f2 := (B3 _ _ hx).2
          refine r_if_le 126 d_Mo_look_89 (by decide) (fun c3 => absurd c3 (nI_nle (by omega) (by omega))) (fun c3 => ?_)
          have V3' : upd V 3 (nI B.length) 3 = nI (B0.length + 1) := by rw [← lB]; exact V3
          refine r_iload d_Mo_look_92 rfl ?_
          refine r_aload_n d_Mo_look_94 rfl ?_
          refine r_getfield d_Mo_look_95 f_Mo_64 M3.1 rfl ?_
          refine r_aload_n d_Mo_look_98 rfl ?_
          refine r_getfield d_Mo_look_99 f_Mo_92 M3.1 rfl ?_
          refine r_ri V3' ?_
          refine r_iconst 1 d_Mo_look_102 (by decide) ?_
          refine r_isub d_Mo_look_103 ?_
          refine r_ri (y := nI (B0.length)) (nI_pred _) ?_
          refine r_ialoadN d_Mo_look_104 (md_blobLast M3) (show B0.length < 5 by omega) (by omega) ?_
          refine r_ri f2 ?_
          refine r_isub d_Mo_look_105 ?_
          refine r_ri (y := nI ((i-x.2))) (pk_sub (by omega)) ?_
          refine r_iconst 3 d_Mo_look_106 (by decide) ?_
          refine r_ri (show (3 : Int32) = nI 3 by decide) ?_
          have ea : sp_add B i = if i ≤ x.2 + 2 then B0 ++ [(x.1, i)] else B ++ [(i, i)] := by
            unfold sp_add
            rw [e]; simp
          refine r_icmp_ge 126 d_Mo_look_107 (by decide) (fun c4 => new ?_) (fun c4 => ?_)
          · have := (nI_leI (by omega) (by omega)).mp c4
            rw [ea, if_neg (by omega)]
          · have : i - x.2 < 3 := lt_of_nle (by omega) c4 (by omega)
            have e9 : sp_add B i = B0 ++ [(x.1, i)] := by rw [ea, if_pos (by omega)]
            refine r_aload_n d_Mo_look_110 rfl ?_
            refine r_getfield d_Mo_look_111 f_Mo_64 M3.1 rfl ?_
            refine r_aload_n d_Mo_look_114 rfl ?_
            refine r_getfield d_Mo_look_115 f_Mo_92 M3.1 rfl ?_
            refine r_ri V3' ?_
            refine r_iconst 1 d_Mo_look_118 (by decide) ?_
            refine r_isub d_Mo_look_119 ?_
            refine r_ri (y := nI (B0.length)) (nI_pred _) ?_
            refine r_iload d_Mo_look_120 rfl ?_
            refine r_mst 18 d_Mo_look_122 (by omega) (show B0.length < 5 by omega) M3 (fun h122_ fr122 M122 => ?_)
            refine r_goto 158 d_Mo_look_123 (by decide) ?_
            refine r_iincP d_Mo_look_158 rfl (Nat.le_of_ble_eq_true rfl) ?_
            refine r_goto 63 d_Mo_look_161 (by decide) ?_
            rw [nI_1]
            have lenB : (sp_find (sp_see E) (i + 1)).length = B.length := by rw [ef, e9, lB, List.length_append]; rfl
            refine r_loc _ (fun q hq => by simp at hq; rcases hq with q | q | q <;> subst q <;> rfl) (ih (i + 1) _ _ (by omega) (frP_tr Fr3 fr122) (by rw [lenB]; exact M122) (ch_tr C3 (ch_up (Or.inr (Or.inr rfl)))) ?_ ?_)
            · exact ⟨(up2_ne (by omega)).trans E3.1, (up2_ne (by omega)).trans E3.2.1, (up2_ne (by omega)).trans E3.2.2.1, (up2_ne (by omega)).trans s3⟩
            · rw [ef, e9, up2_rne (by omega), up2_row]
              rw [e] at B3
              exact in2N_put B3
  refine r_iconst 0 d_Mo_look_60 (by decide) ?_
  refine r_ri (show (0 : Int32) = nI 0 by decide) ?_
  refine r_istore d_Mo_look_61 (Nat.le_of_ble_eq_true rfl) ?_
  exact r_loc _ (fun q hq => by simp at hq; rcases hq with q | q | q <;> subst q <;> rfl) (key 10 0 _ _ (by omega) (frP_tr (frP_tr (frP_tr fr40 fr47) fr54) fr57) M57 c0 p0 (fun i x hx => by cases hx))
