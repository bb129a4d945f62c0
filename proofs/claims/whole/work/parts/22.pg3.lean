/-! THE COMPONENT'S PUBLIC CALLS: mode, token, ticks -/
def sp_modR (m : Nat) (L : sp_L) (R : List Int32) : List Int32 := R ++ sp_mr m 0 L.2.2.1.1 ++ sp_mr m 1 L.2.2.1.2
def sp_modN (m : Nat) (L : sp_L) : Nat := (sp_mr m 0 L.2.2.1.1).length + (sp_mr m 1 L.2.2.1.2).length
def sp_modS (s : sp_S) (j m : Nat) : sp_S := ((stL s j (sp_mode m (lnOf s j))).1, s.2.1, sp_modR m (lnOf s j) s.2.2.1, s.2.2.2)
theorem c_PG_mode {l : Launch} (htr : l.stackTraces = false) {d : Nat} {h : ac_H} {Φ : ac_R → ac_H → Prop} {lane x : Int32} {s : sp_S} (hd : 7 ≤ d) (H : PGs h s) (hcap : ∀ j, j < 2 → s.2.2.1.length + (lnOf s j).2.2.1.1.length + (lnOf s j).2.2.1.2.length ≤ 512) (hx : out9 lane 2 → Φ (.inr x_I) h) (hy : ∀ j, j < 2 → lane = nI j → out9 x 4 → Φ (.inr x_A) h) (hz : ∀ j m, j < 2 → lane = nI j → m < 4 → x = nI m → ¬ (lnOf s j).2.2.2.2.2 = [] → Φ (.inr x_S) h)
    (ha : ∀ j m h', j < 2 → lane = nI j → m < 4 → x = nI m → (lnOf s j).2.2.2.2.2 = [] → frP h h' cmp9 → PGs h' (sp_modS s j m) → Φ (.inl (some (.int (nI (sp_modN m (lnOf s j)))))) h') : ac_Mt l d m_PG_mode [.ref 0, .int lane, .int x] h 3 18 Φ := by
  refine ac_enter (by decide) rfl htr (fun _ => Nat.le_of_ble_eq_true rfl) ?_
  refine r_aload_n d_PG_mode_0 rfl ?_
  refine r_iload_n d_PG_mode_1 rfl ?_
  refine r_lane htr rfl d_PG_mode_2 H hd rfl (Nat.le_of_ble_eq_true rfl) (Nat.le_of_ble_eq_true rfl) (Nat.le_of_ble_eq_true rfl) hx (fun j hj e => ?_)
  obtain ⟨r, r', a1, a2, a3, a4, a5, a6⟩ := (H.ln hj).eye
  have HR := H.2.2.2.2.2.1
  have bad : out9 x 4 → ac_G (l, d, m_PG_mode, 3, 18, Φ, h.length, none) 15 [(3, .ref (2 + 25 * j)), (0, .ref 0), (1, .int lane), (2, .int x)] [] h (0 + 1) (0 + 6) := fun z =>
    r_throw x_A (x_thr rfl (by decide +kernel) el_PG_53 ei_IllegalArgumentException (text := "modes are 0 .. 3") (by decide +kernel) x_A_in d_PG_mode_15 d_PG_mode_18 d_PG_mode_19 d_PG_mode_21 d_PG_mode_24 (by show 6 ≤ d; omega)) rfl (hy j hj e z) (Nat.le_of_ble_eq_true rfl) (Nat.le_of_ble_eq_true rfl) (Nat.le_of_ble_eq_true rfl)
  refine r_astore_n d_PG_mode_5 (Nat.le_of_ble_eq_true rfl) ?_
  refine r_iload_n d_PG_mode_6 rfl ?_
  refine r_if_lt 15 d_PG_mode_7 (by decide) (fun c => bad (out_neg (by omega) c)) (fun c => ?_)
  refine r_iload_n d_PG_mode_10 rfl ?_
  refine r_iconst 3 d_PG_mode_11 (by decide) ?_
  obtain ⟨m, hm, rfl⟩ := nI_of c
  refine r_ri nI3 ?_
  refine r_icmp_le 25 d_PG_mode_12 (by decide) (fun c2 => ?_) (fun c2 => bad (out_big (by omega) (nI_le (by
    rcases Nat.lt_or_ge m 4 with z | z
    · exact absurd ((nI_leI (by omega) (by omega)).mpr (by omega)) c2
    · exact z) hm)))
  have hm4 : m ≤ 3 := (nI_leI (by omega) (by omega)).mp c2
  refine r_aload_n d_PG_mode_25 rfl ?_
  refine r_getfield d_PG_mode_26 f_PG_97 a1 rfl ?_
  refine r_if_le 42 d_PG_mode_29 (by decide) (fun c3 => ?_) (fun c3 => ?_)
  · have hno : (lnOf s j).2.2.2.2.2 = [] := by
      cases hq : (lnOf s j).2.2.2.2.2 with
      | nil => rfl
      | cons y t => rw [hq] at c3 a5; exact absurd c3 (nI_nle (by rw [List.length_cons]; omega) (by omega))
    refine r_aload_n d_PG_mode_42 rfl ?_
    refine r_iload_n d_PG_mode_43 rfl ?_
    refine r_aload_n d_PG_mode_44 rfl ?_
    refine r_getfield d_PG_mode_45 f_PG_28 H.2.1 rfl ?_
    refine r_cVi [.int (nI m), .ref 55] (2 + 25 * j) (d - 1) 0 0 (nI (sp_modN m (lnOf s j))) (fun h' => frP h h' (inL (2 + 25 * j) 55) ∧ Lns h' (2 + 25 * j) (sp_mode m (lnOf s j)) ∧ Rfs h' 55 (sp_modR m (lnOf s j) s.2.2.1)) d_PG_mode_48 q_PG_103 a1 rfl rfl (c_Lane_changeMode htr (by omega) (H.ln hj) HR hm4 (by omega) (hcap j hj) (fun h' f' H1 H2 => ⟨rfl, f', H1, H2⟩)) (by show d - 1 + 1 ≤ d; omega) (Nat.le_of_ble_eq_true rfl) (Nat.le_of_ble_eq_true rfl) (Nat.le_of_ble_eq_true rfl) (fun h2 e2 => ?_)
    exact r_iret d_PG_mode_51 rfl (ha j m h2 hj e (by omega) rfl hno (frP_mo e2.1 (fun x hx => by unfold inL at hx; show x < 57; omega)) (H.lane hj e2.1 e2.2.1 e2.2.2)) (Nat.le_of_ble_eq_true rfl) (Nat.le_of_ble_eq_true rfl)
  · have hno : ¬ (lnOf s j).2.2.2.2.2 = [] := fun z => c3 (by rw [z]; decide)
    exact r_throw x_S (x_thr rfl (by decide +kernel) el_PG_98 ei_IllegalStateException (text := "the lane has bodies") (by decide +kernel) x_S_in d_PG_mode_32 d_PG_mode_35 d_PG_mode_36 d_PG_mode_38 d_PG_mode_41 (by show 6 ≤ d; omega)) rfl (hz j m hj e (by omega) rfl hno) (Nat.le_of_ble_eq_true rfl) (Nat.le_of_ble_eq_true rfl) (Nat.le_of_ble_eq_true rfl)
def sp_tokS (s : sp_S) (j i : Nat) (a : Int32) : sp_S := ((stL s j (stQ (lnOf s j) i (qOf (lnOf s j) i ++ [(a, nI s.2.2.2.2)]))).1, s.2.1 ++ [(a, nI s.2.2.2.2)], s.2.2)
/-- the answer to a token -/
noncomputable def sp_tokV (s : sp_S) (j i : Nat) (a : Int32) : Nat := @ite _ (tk (lnOf s j).2.2.2.2.1 i) (Classical.propDecidable _) (if sp_rec s.2.1 a (nI s.2.2.2.2) s.2.1.length = true then 3 else if 6 ≤ (qOf (lnOf s j) i).length then 2 else 0) 1
theorem c_PG_token {l : Launch} (htr : l.stackTraces = false) {d : Nat} {h : ac_H} {Φ : ac_R → ac_H → Prop} {lane x a : Int32} {s : sp_S} (hd : 7 ≤ d) (H : PGs h s) (hcap : s.2.1.length < 512) (hx : (out9 lane 2 ∨ out9 x 2) → Φ (.inr x_I) h) (hy : ∀ j i, j < 2 → lane = nI j → i < 2 → x = nI i → a < 0 → Φ (.inr x_A) h) (ha : ∀ j i, j < 2 → lane = nI j → i < 2 → x = nI i → ¬ a < 0 → ¬ sp_tokV s j i a = 0 → Φ (.inl (some (.int (nI (sp_tokV s j i a))))) h)
    (hb : ∀ j i h', j < 2 → lane = nI j → i < 2 → x = nI i → ¬ a < 0 → sp_tokV s j i a = 0 → frP h h' cmp9 → PGs h' (sp_tokS s j i a) → Φ (.inl (some (.int (nI (sp_tokV s j i a))))) h') : ac_Mt l d m_PG_token [.ref 0, .int lane, .int x, .int a] h 3 18 Φ := by
  refine ac_enter (by decide) rfl htr (fun _ => Nat.le_of_ble_eq_true rfl) ?_
  refine r_aload_n d_PG_token_0 rfl ?_
  refine r_iload_n d_PG_token_1 rfl ?_
  refine r_lane htr rfl d_PG_token_2 H hd rfl (Nat.le_of_ble_eq_true rfl) (Nat.le_of_ble_eq_true rfl) (Nat.le_of_ble_eq_true rfl) (fun z => hx (Or.inl z)) (fun j hj e => ?_)
  refine r_astore d_PG_token_5 (Nat.le_of_ble_eq_true rfl) ?_
  refine r_aload d_PG_token_7 rfl ?_
  refine r_iload_n d_PG_token_9 rfl ?_
  refine r_queue htr rfl d_PG_token_10 (H.ln hj) hd rfl (Nat.le_of_ble_eq_true rfl) (Nat.le_of_ble_eq_true rfl) (Nat.le_of_ble_eq_true rfl) (fun z => hx (Or.inr z)) (fun i hi e2 => ?_)
  obtain ⟨r, r', a1, a2, a3, a4, a5, a6⟩ := (H.ln hj).eye
  obtain ⟨T, okq⟩ := (H.ln hj).q hi
  have TA := H.2.2.2.2.1
  have ho := H.2.1
  subst e2
  refine r_astore d_PG_token_13 (Nat.le_of_ble_eq_true rfl) ?_
  refine r_iload_n d_PG_token_15 rfl ?_
  refine r_if_ge 29 d_PG_token_16 (by decide) (fun c1 => ?_) (fun c1 => r_throw x_A (x_thr rfl (by decide +kernel) el_PG_53 ei_IllegalArgumentException (text := "an account is not below 0") (by decide +kernel) x_A_in d_PG_token_19 d_PG_token_22 d_PG_token_23 d_PG_token_25 d_PG_token_28 (by show 6 ≤ d; omega)) rfl (hy j i hj e hi rfl (by rw [Int32.lt_iff_toInt_lt]; rw [Int32.le_iff_toInt_le] at c1; omega)) (Nat.le_of_ble_eq_true rfl) (Nat.le_of_ble_eq_true rfl) (Nat.le_of_ble_eq_true rfl))
  have hna : ¬ a < 0 := by rw [Int32.lt_iff_toInt_lt]; rw [Int32.le_iff_toInt_le] at c1; omega
  have hb := fun h' => hb j i h' hj e hi rfl hna
  have ha := ha j i hj e hi rfl hna
  have hv : ∀ n, sp_tokV s j i a = n → ¬ n = 0 → Φ (.inl (some (.int (nI n)))) h := fun n hn h0 => by subst hn; exact ha h0
  refine r_aload d_PG_token_29 rfl ?_
  refine r_iload_n d_PG_token_31 rfl ?_
  refine r_cVi [.int (nI i)] (2 + 25 * j) (d - 1) 0 0 (b01 (tk (lnOf s j).2.2.2.2.1 i)) (fun h' => h = h') d_PG_token_32 q_PG_70 a1 rfl rfl (c_Lane_takesSide htr a1 a6 (by omega) ⟨rfl, rfl⟩) (by show d - 1 + 1 ≤ d; omega) (Nat.le_of_ble_eq_true rfl) (Nat.le_of_ble_eq_true rfl) (Nat.le_of_ble_eq_true rfl) (fun h' e9 => ?_)
  subst e9
  refine r_if_ne 40 d_PG_token_35 (by decide) (fun c2 => ?_) (fun c2 => ?_)
  · have htk : tk (lnOf s j).2.2.2.2.1 i := Classical.byContradiction fun z => c2 (b01_f z)
    have eV : sp_tokV s j i a = (if sp_rec s.2.1 a (nI s.2.2.2.2) s.2.1.length = true then 3 else if 6 ≤ (qOf (lnOf s j) i).length then 2 else 0) := if_pos htk
    refine r_aload_n d_PG_token_40 rfl ?_
    refine r_getfield d_PG_token_41 f_PG_21 ho rfl ?_
    refine r_iload_n d_PG_token_44 rfl ?_
    refine r_aload_n d_PG_token_45 rfl ?_
    refine r_getfield d_PG_token_46 f_PG_36 ho rfl ?_
    refine r_cVi [.int a, .int (nI s.2.2.2.2)] 52 (d - 1) 0 0 (if sp_rec s.2.1 a (nI s.2.2.2.2) s.2.1.length = true then 1 else 0) (fun h' => h = h') d_PG_token_49 q_PG_74 TA.1 rfl rfl (c_TL_hasRecent htr TA ⟨rfl, rfl⟩) (by show d - 1 + 1 ≤ d; omega) (Nat.le_of_ble_eq_true rfl) (Nat.le_of_ble_eq_true rfl) (Nat.le_of_ble_eq_true rfl) (fun h' e9 => ?_)
    subst e9
    by_cases hrc : sp_rec s.2.1 a (nI s.2.2.2.2) s.2.1.length = true
    · rw [if_pos hrc] at eV ⊢
      refine r_if_eq 57 d_PG_token_52 (by decide) (fun c3 => absurd c3 (by decide)) (fun c3 => ?_)
      refine r_iconst 3 d_PG_token_55 (by decide) ?_
      refine r_ri nI3 ?_
      exact r_iret d_PG_token_56 rfl (hv 3 eV (by omega)) (Nat.le_of_ble_eq_true rfl) (Nat.le_of_ble_eq_true rfl)
    · rw [if_neg hrc] at eV ⊢
      refine r_if_eq 57 d_PG_token_52 (by decide) (fun c3 => ?_) (fun c3 => absurd rfl c3)
      refine r_aload d_PG_token_57 rfl ?_
      refine r_cVi [] (2 + 25 * j + 7 + 3 * i) (d - 1) 0 0 (if 6 ≤ (qOf (lnOf s j) i).length then 1 else 0) (fun h' => h = h') d_PG_token_59 q_PG_78 T.1 rfl rfl (c_TL_isFull htr T ⟨rfl, rfl⟩) (by show d - 1 + 1 ≤ d; omega) (Nat.le_of_ble_eq_true rfl) (Nat.le_of_ble_eq_true rfl) (Nat.le_of_ble_eq_true rfl) (fun h' e9 => ?_)
      subst e9
      by_cases hf : 6 ≤ (qOf (lnOf s j) i).length
      · rw [if_pos hf] at eV ⊢
        refine r_if_ne 75 d_PG_token_62 (by decide) (fun c4 => ?_) (fun c4 => absurd c4 (by decide))
        refine r_iconst 2 d_PG_token_75 (by decide) ?_
        refine r_ri nI2 ?_
        exact r_iret d_PG_token_76 rfl (hv 2 eV (by omega)) (Nat.le_of_ble_eq_true rfl) (Nat.le_of_ble_eq_true rfl)
      · rw [if_neg hf] at eV ⊢
        refine r_if_ne 75 d_PG_token_62 (by decide) (fun c4 => absurd rfl c4) (fun c4 => ?_)
        refine r_aload_n d_PG_token_65 rfl ?_
        refine r_getfield d_PG_token_66 f_PG_21 ho rfl ?_
        refine r_cVi [] 52 (d - 1) 0 0 (if 512 ≤ s.2.1.length then 1 else 0) (fun h' => h = h') d_PG_token_69 q_PG_78 TA.1 rfl rfl (c_TL_isFull htr TA ⟨rfl, rfl⟩) (by show d - 1 + 1 ≤ d; omega) (Nat.le_of_ble_eq_true rfl) (Nat.le_of_ble_eq_true rfl) (Nat.le_of_ble_eq_true rfl) (fun h' e9 => ?_)
        subst e9
        rw [if_neg (show ¬ 512 ≤ s.2.1.length by omega)]
        refine r_if_eq 77 d_PG_token_72 (by decide) (fun c5 => ?_) (fun c5 => absurd rfl c5)
        refine r_aload_n d_PG_token_77 rfl ?_
        refine r_getfield d_PG_token_78 f_PG_21 ho rfl ?_
        refine r_iload_n d_PG_token_81 rfl ?_
        refine r_aload_n d_PG_token_82 rfl ?_
        refine r_getfield d_PG_token_83 f_PG_36 ho rfl ?_
        refine r_cVv [.int a, .int (nI s.2.2.2.2)] 52 (d - 1) 0 0 (fun h' => fr h h' [52, 52 + 1, 52 + 2] ∧ TLs h' 52 512 (s.2.1 ++ [(a, nI s.2.2.2.2)])) d_PG_token_86 q_PG_82 TA.1 rfl rfl (c_TL_add htr TA hcap (fun h' f' H1 => ⟨rfl, f', H1⟩)) (by show d - 1 + 1 ≤ d; omega) (Nat.le_of_ble_eq_true rfl) (Nat.le_of_ble_eq_true rfl) (Nat.le_of_ble_eq_true rfl) (fun h2 e2 => ?_)
        have H2 := H.acc e2.1 e2.2
        obtain ⟨T2, -⟩ := (H2.ln hj).q hi
        have T2 : TLs h2 (2 + 25 * j + 7 + 3 * i) 6 (qOf (lnOf s j) i) := T2
        have ho2 := H2.2.1
        refine r_aload d_PG_token_89 rfl ?_
        refine r_iload_n d_PG_token_91 rfl ?_
        refine r_aload_n d_PG_token_92 rfl ?_
        refine r_getfield d_PG_token_93 f_PG_36 ho2 rfl ?_
        refine r_cVv [.int a, .int (nI s.2.2.2.2)] (2 + 25 * j + 7 + 3 * i) (d - 1) 0 0 (fun h' => fr h2 h' [2 + 25 * j + 7 + 3 * i, 2 + 25 * j + 7 + 3 * i + 1, 2 + 25 * j + 7 + 3 * i + 2] ∧ TLs h' (2 + 25 * j + 7 + 3 * i) 6 (qOf (lnOf s j) i ++ [(a, nI s.2.2.2.2)])) d_PG_token_96 q_PG_82 T2.1 rfl rfl (c_TL_add htr T2 (by omega) (fun h' f' H1 => ⟨rfl, f', H1⟩)) (by show d - 1 + 1 ≤ d; omega) (Nat.le_of_ble_eq_true rfl) (Nat.le_of_ble_eq_true rfl) (Nat.le_of_ble_eq_true rfl) (fun h3 e3 => ?_)
        have okn : okQ (qOf (lnOf s j) i ++ [(a, nI s.2.2.2.2)]) := fun y hy => by
          rcases List.mem_append.mp hy with q | q
          · exact okq y q
          · simp at q; subst q; rw [Int32.le_iff_toInt_le] at c1; exact c1
        have HL3 := (H2.ln hj).setq hi e3.1 e3.2 okn
        refine r_iconst 0 d_PG_token_99 (by decide) ?_
        refine r_ri nI_0.symm ?_
        have fin := hb h3 eV (frP_tr (frP_of e2.1 (fun x hx => by simp at hx; show x < 57; omega)) (frP_of e3.1 (fun x hx => by simp at hx; show x < 57; omega))) (H2.lane hj (frP_of e3.1 (fun x hx => by simp at hx; unfold inL; omega)) HL3 (H2.2.2.2.2.2.1.fr e3.1 (by simp only [List.mem_cons, List.not_mem_nil, or_false, not_or]; omega) (by simp only [List.mem_cons, List.not_mem_nil, or_false, not_or]; omega)))
        rw [eV] at fin
        exact r_iret d_PG_token_100 rfl fin (Nat.le_of_ble_eq_true rfl) (Nat.le_of_ble_eq_true rfl)
  · have htk := b01_0.mp c2
    refine r_iconst 1 d_PG_token_38 (by decide) ?_
    refine r_ri nI1 ?_
    exact r_iret d_PG_token_39 rfl (hv 1 (if_neg htk) (by omega)) (Nat.le_of_ble_eq_true rfl) (Nat.le_of_ble_eq_true rfl)
/-- one tick of both lanes -/
noncomputable def sp_st1 (s : sp_S) : sp_L × List Int32 × Nat := sp_tick (nI (s.2.2.2.2 + 1)) s.2.2.2.1 s.1.1 s.2.2.1
noncomputable def sp_st2 (s : sp_S) : sp_L × List Int32 × Nat := sp_tick (nI (s.2.2.2.2 + 1)) s.2.2.2.1 s.1.2 (sp_st1 s).2.1
noncomputable def sp_step (s : sp_S) : sp_S := (((sp_st1 s).1, (sp_st2 s).1), s.2.1, (sp_st2 s).2.1, s.2.2.2.1, s.2.2.2.2 + 1)
noncomputable def sp_left (s : sp_S) : Nat := (sp_st1 s).2.2 + (sp_st2 s).2.2
/-- n ticks more, c have left so far -/
noncomputable def sp_ticks : Nat → sp_S → Nat → sp_S × Nat
  | 0, s, c => (s, c)
  | n + 1, s, c => sp_ticks n (sp_step s) (c + sp_left s)
def capL (L : sp_L) : Nat := L.2.2.1.1.length + L.2.2.1.2.length + ownN L.2.2.2.2.2
def cap (s : sp_S) : Nat := s.2.2.1.length + capL s.1.1 + capL s.1.2
theorem ownN_mapIdx : ∀ (S : List sp_B) (f : Nat → sp_B → sp_B), (∀ j b, (f j b).2.2.2.1 = b.2.2.2.1) → ownN (S.mapIdx f) = ownN S
  | [], f, hf => rfl
  | b :: S, f, hf => by
    rw [List.mapIdx_cons, ownN_c, ownN_c, ownN_mapIdx S _ (fun j b => hf (j + 1) b), hf 0 b]
theorem own_0 (B : List (Nat × Nat)) : ∀ row : List sp_B, ownN (sp_kept B row 0) + ownN (sp_gone B row) = ownN row
  | [] => rfl
  | b :: row => by
    have ih := own_0 B row
    unfold sp_kept sp_gone at *
    rw [ownN_c]
    cases hg : sp_goal B b with
    | none =>
      rw [List.filter_cons_of_neg (by simp [hg]), List.filter_cons_of_pos (by simp [hg]), ownN_c]; omega
    | some k =>
      rw [List.filter_cons_of_pos (by simp [hg]), List.filter_cons_of_neg (by simp [hg]), ownN_c]; omega
theorem own_s (B : List (Nat × Nat)) (n : Nat) : ∀ row : List sp_B, ownN (sp_kept B row n) = ownN (sel B n row) + ownN (sp_kept B row (n + 1))
  | [] => rfl
  | b :: row => by
    have ih := own_s B n row
    unfold sp_kept sel at *
    cases hg : sp_goal B b with
    | none =>
      rw [List.filter_cons_of_neg (by simp [hg]), List.filter_cons_of_neg (by simp [hg]), List.filter_cons_of_neg (by simp [hg])]; exact ih
    | some k =>
      rcases Nat.lt_trichotomy n k with q | q | q
      · rw [List.filter_cons_of_pos (by simp [hg]; omega), List.filter_cons_of_neg (by simp [hg]; omega), List.filter_cons_of_pos (by simp [hg]; omega), ownN_c, ownN_c]; omega
      · rw [List.filter_cons_of_pos (by simp [hg]; omega), List.filter_cons_of_pos (by simp [hg]; omega), List.filter_cons_of_neg (by simp [hg]; omega), ownN_c, ownN_c]; omega
      · rw [List.filter_cons_of_neg (by simp [hg]; omega), List.filter_cons_of_neg (by simp [hg]; omega), List.filter_cons_of_neg (by simp [hg]; omega)]; exact ih
theorem renew_own {B : List (Nat × Nat)} {row : List sp_B} : ∀ n, n ≤ B.length → ownN (sp_renew B row n).1 + ownN (sp_kept B row n) = ownN (sp_kept B row 0)
  | 0, _ => by
    show ownN [] + _ = _
    have : ownN [] = 0 := rfl
    omega
  | n + 1, hn => by
    have ih := renew_own (B := B) (row := row) n (by omega)
    have hk := own_s B n row
    have hst : sp_renew B row (n + 1) = sp_one B row n B[n] (sp_renew B row n) := by rw [sp_renew, List.getElem?_eq_getElem (show n < B.length by omega)]
    rw [hst]
    unfold sp_one
    by_cases c1 : 0 < (sel B n row).length
    · rw [if_pos c1]
      show ownN ((sp_renew B row n).1 ++ sp_shs _ _ _) + _ = _
      have e9 := ownN_mapIdx (sel B n row) (fun j b => sp_sh B[n] (sel B n row).length j b) (fun _ _ => rfl)
      rw [ownN_a]; unfold sp_shs; omega
    · rw [if_neg c1]
      have h0 : sel B n row = [] := List.length_eq_zero_iff.mp (by omega)
      have h1 : ownN (sel B n row) = 0 := by rw [h0]; rfl
      by_cases c2 : 0 < (sp_renew B row n).2
      · rw [if_pos c2]
        show ownN ((sp_renew B row n).1 ++ [_]) + _ = _
        rw [ownN_a, ownN_c]
        have e1 : ownN ([] : List sp_B) = 0 := rfl
        have e2 : (if (sp_ent row B[n]).2.2.2.1 = -1 then 0 else 1) = 0 := if_pos rfl
        rw [e1, e2]; omega
      · rw [if_neg c2]; omega
theorem pay1_cap (y : sp_B) (qs : sp_Q × sp_Q) : (if (sp_pay1 y qs).1.2.2.2.1 = -1 then 0 else 1) + (sp_pay1 y qs).2.1.length + (sp_pay1 y qs).2.2.length ≤ (if y.2.2.2.1 = -1 then 0 else 1) + qs.1.length + qs.2.length := by
  obtain ⟨q0, q1⟩ := qs
  unfold sp_pay1
  by_cases c : y.2.2.2.1 = -1 ∧ rched y
  · rw [if_pos c]
    have hm : ∀ z : sp_B, (if z.2.2.2.1 = -1 then 0 else 1) ≤ 1 := fun z => by split <;> omega
    by_cases c2 : y.2.2.1 = 0
    · rw [if_pos c2]
      cases q0 with
      | nil => exact Nat.le_refl _
      | cons x t => have := hm (setA y x.1); show (if (setA y x.1).2.2.2.1 = -1 then 0 else 1) + t.length + q1.length ≤ _ + (t.length + 1) + q1.length; omega
    · rw [if_neg c2]
      cases q1 with
      | nil => exact Nat.le_refl _
      | cons x t => have := hm (setA y x.1); show (if (setA y x.1).2.2.2.1 = -1 then 0 else 1) + q0.length + t.length ≤ _ + q0.length + (t.length + 1); omega
  · rw [if_neg c]; exact Nat.le_refl _
theorem pay_cap : ∀ (row : List sp_B) (qs : sp_Q × sp_Q), ownN (sp_pay row qs).1 + (sp_pay row qs).2.1.length + (sp_pay row qs).2.2.length ≤ ownN row + qs.1.length + qs.2.length
  | [], qs => Nat.le_refl _
  | y :: rest, qs => by
    have h1 := pay1_cap y qs
    have h2 := pay_cap rest (sp_pay1 y qs).2
    rw [sp_pay, ownN_c, ownN_c]
    show _ + _ + (sp_pay rest (sp_pay1 y qs).2).2.1.length + (sp_pay rest (sp_pay1 y qs).2).2.2.length ≤ _
    omega
theorem tick_cap (now al : Int32) (L : sp_L) (R : List Int32) : (sp_tick now al L R).2.1.length + capL (sp_tick now al L R).1 ≤ R.length + capL L := by
  have h1 := sp_exp_len now L.2.2.1.1 R
  have h2 := sp_exp_len now L.2.2.1.2 (sp_exp now L.2.2.1.1 R).2
  have h3 := sp_rfs_le (sp_gone (sp_blobs L) L.2.2.2.2.2)
  have h4 := own_0 (sp_blobs L) L.2.2.2.2.2
  have h5 := renew_own (B := sp_blobs L) (row := L.2.2.2.2.2) _ (Nat.le_refl _)
  have h6 := pay_cap (sp_tRow L) ((sp_exp now L.2.2.1.1 R).1, (sp_exp now L.2.2.1.2 (sp_exp now L.2.2.1.1 R).2).1)
  show (sp_tR now L R ++ (sp_gone (sp_blobs L) L.2.2.2.2.2).flatMap sp_rf).length + ((sp_tPay now L R).2.1.length + (sp_tPay now L R).2.2.length + ownN (sp_tPay now L R).1) ≤ R.length + (L.2.2.1.1.length + L.2.2.1.2.length + ownN L.2.2.2.2.2)
  rw [List.length_append]
  unfold sp_tR sp_tPay
  have h7 : ownN (sp_tRow L) + ownN (sp_gone (sp_blobs L) L.2.2.2.2.2) ≤ ownN L.2.2.2.2.2 := by unfold sp_tRow; omega
  have h6 : ownN (sp_pay (sp_tRow L) ((sp_exp now L.2.2.1.1 R).1, (sp_exp now L.2.2.1.2 (sp_exp now L.2.2.1.1 R).2).1)).1 + (sp_pay (sp_tRow L) ((sp_exp now L.2.2.1.1 R).1, (sp_exp now L.2.2.1.2 (sp_exp now L.2.2.1.1 R).2).1)).2.1.length + (sp_pay (sp_tRow L) ((sp_exp now L.2.2.1.1 R).1, (sp_exp now L.2.2.1.2 (sp_exp now L.2.2.1.1 R).2).1)).2.2.length ≤ ownN (sp_tRow L) + (sp_exp now L.2.2.1.1 R).1.length + (sp_exp now L.2.2.1.2 (sp_exp now L.2.2.1.1 R).2).1.length := h6
  omega
theorem step_cap (s : sp_S) : cap (sp_step s) ≤ cap s := by
  have h1 := tick_cap (nI (s.2.2.2.2 + 1)) s.2.2.2.1 s.1.1 s.2.2.1
  have h2 := tick_cap (nI (s.2.2.2.2 + 1)) s.2.2.2.1 s.1.2 (sp_st1 s).2.1
  show (sp_st2 s).2.1.length + capL (sp_st1 s).1 + capL (sp_st2 s).1 ≤ s.2.2.1.length + capL s.1.1 + capL s.1.2
  unfold sp_st2
  unfold sp_st1 at *
  omega
theorem c_PG_ticks {l : Launch} (htr : l.stackTraces = false) {d : Nat} {h : ac_H} {Φ : ac_R → ac_H → Prop} {x : Int32} {s : sp_S} (hd : 7 ≤ d) (H : PGs h s) (hcap : cap s ≤ 512) (hx : (∀ n, 0 < n → n ≤ 300 → ¬ x = nI n) → Φ (.inr x_A) h) (ha : ∀ n h', 0 < n → n ≤ 300 → x = nI n → frP h h' cmp9 → PGs h' (sp_ticks n s 0).1 → Φ (.inl (some (.int (nI (sp_ticks n s 0).2)))) h') : ac_Mt l d m_PG_ticks [.ref 0, .int x] h 3 18 Φ := by
  refine ac_enter (by decide) rfl htr (fun _ => Nat.le_of_ble_eq_true rfl) ?_
  have bad : (∀ n, 0 < n → n ≤ 300 → ¬ x = nI n) → ac_G (l, d, m_PG_ticks, 3, 18, Φ, h.length, none) 12 [(0, .ref 0), (1, .int x)] [] h 0 0 := fun z =>
    r_throw x_A (x_thr rfl (by decide +kernel) el_PG_53 ei_IllegalArgumentException (text := "ticks are 1 .. 300") (by decide +kernel) x_A_in d_PG_ticks_12 d_PG_ticks_15 d_PG_ticks_16 d_PG_ticks_18 d_PG_ticks_21 (by show 6 ≤ d; omega)) rfl (hx z) (Nat.le_of_ble_eq_true rfl) (Nat.le_of_ble_eq_true rfl) (Nat.le_of_ble_eq_true rfl)
  have t1 : (1 : Int32).toInt = 1 := by decide
  have t3 : (300 : Int32).toInt = 300 := by decide
  have t0 : (0 : Int32).toInt = 0 := by decide
  refine r_iload_n d_PG_ticks_0 rfl ?_
  refine r_iconst 1 d_PG_ticks_1 (by decide) ?_
  refine r_icmp_lt 12 d_PG_ticks_2 (by decide) (fun c => bad (fun n n0 n3 e => by subst e; rw [Int32.lt_iff_toInt_lt, nI_toInt (by omega)] at c; omega)) (fun c => ?_)
  refine r_iload_n d_PG_ticks_5 rfl ?_
  refine r_sipush 300 d_PG_ticks_6 (by decide) ?_
  refine r_icmp_le 22 d_PG_ticks_9 (by decide) (fun c2 => ?_) (fun c2 => bad (fun n n0 n3 e => by subst e; rw [Int32.le_iff_toInt_le, nI_toInt (by omega)] at c2; omega))
  obtain ⟨n, hn, rfl⟩ : ∃ n : Nat, n < 2 ^ 31 ∧ x = nI n := nI_of (fun z => c (by rw [Int32.lt_iff_toInt_lt] at z ⊢; omega))
  have n0 : 0 < n := by
    rcases Nat.eq_zero_or_pos n with z | z
    · subst z; exact absurd (by decide) c
    · exact z
  have n3 : n ≤ 300 := by
    rw [Int32.le_iff_toInt_le, nI_toInt hn] at c2
    have : (300 : Int32).toInt = 300 := by decide
    omega
  -- one lane's tick
  have lane : ∀ (j c : Nat) (s2 : sp_S) (h2 : ac_H) (i : Nat) (kk : Nat), j < 2 → PGs h2 s2 → frP h h2 cmp9 → s2.2.2.1.length + capL (lnOf s2 j) ≤ 512 → (∀ h3, frP h h3 cmp9 → PGs h3 ((stL s2 j (sp_tick (nI s2.2.2.2.2) s2.2.2.2.1 (lnOf s2 j) s2.2.2.1).1).1, s2.2.1, (sp_tick (nI s2.2.2.2.2) s2.2.2.2.1 (lnOf s2 j) s2.2.2.1).2.1, s2.2.2.2) → ac_G (l, d, m_PG_ticks, 3, 18, Φ, h.length, none) 44 [(4, .int (nI (j + 1))), (3, .int (nI i)), (2, .int (nI (c + (sp_tick (nI s2.2.2.2.2) s2.2.2.2.1 (lnOf s2 j) s2.2.2.1).2.2))), (0, .ref 0), (1, .int (nI n))] [] h3 0 0) → ac_G (l, d, m_PG_ticks, 3, 18, Φ, h.length, none) 44 [(4, .int (nI j)), (3, .int (nI i)), (2, .int (nI c)), (0, .ref 0), (1, .int (nI n))] [] h2 0 0 := by
    intro j c s2 h2 i _ hj H2 F2 hc2 kk
    obtain ⟨⟨gl, b1, b2, b3⟩, b4, -⟩ := id H2
    obtain ⟨r, r', a1, -⟩ := (H2.ln hj).eye
    have hg : gl j = some (2 + 25 * j) := by
      rcases (show j = 0 ∨ j = 1 by omega) with q | q <;> subst q
      · exact b2
      · exact b3
    refine r_iload d_PG_ticks_44 rfl ?_
    refine r_aload_n d_PG_ticks_46 rfl ?_
    refine r_getfield d_PG_ticks_47 f_PG_10 b4 rfl ?_
    refine r_alenR d_PG_ticks_50 b1 rfl ?_
    refine r_icmp_ge 85 d_PG_ticks_51 (by decide) (fun c1 => absurd ((nI_leI (by omega) (by omega)).mp c1) (by omega)) (fun c1 => ?_)
    refine r_iload_n d_PG_ticks_54 rfl ?_
    refine r_aload_n d_PG_ticks_55 rfl ?_
    refine r_getfield d_PG_ticks_56 f_PG_10 b4 rfl ?_
    refine r_iload d_PG_ticks_59 rfl ?_
    refine r_aaloadN d_PG_ticks_61 b1 rfl hj (by omega) hg ?_
    refine r_aload_n d_PG_ticks_62 rfl ?_
    refine r_getfield d_PG_ticks_63 f_PG_36 b4 rfl ?_
    refine r_aload_n d_PG_ticks_66 rfl ?_
    refine r_getfield d_PG_ticks_67 f_PG_32 b4 rfl ?_
    refine r_aload_n d_PG_ticks_70 rfl ?_
    refine r_getfield d_PG_ticks_71 f_PG_28 b4 rfl ?_
    refine r_cVi [.int (nI s2.2.2.2.2), .int s2.2.2.2.1, .ref 55] (2 + 25 * j) (d - 1) 0 0 (nI (sp_tick (nI s2.2.2.2.2) s2.2.2.2.1 (lnOf s2 j) s2.2.2.1).2.2) (fun h' => frP h2 h' (inL (2 + 25 * j) 55) ∧ Lns h' (2 + 25 * j) (sp_tick (nI s2.2.2.2.2) s2.2.2.2.1 (lnOf s2 j) s2.2.2.1).1 ∧ Rfs h' 55 (sp_tick (nI s2.2.2.2.2) s2.2.2.2.1 (lnOf s2 j) s2.2.2.1).2.1) d_PG_ticks_74 q_PG_60 a1 rfl rfl (c_Lane_tick htr (by omega) (H2.ln hj) H2.2.2.2.2.2.1 (by omega) (by unfold capL at hc2; omega) (fun h' f' G1 G2 => ⟨rfl, f', G1, G2⟩)) (by show d - 1 + 1 ≤ d; omega) (Nat.le_of_ble_eq_true rfl) (Nat.le_of_ble_eq_true rfl) (Nat.le_of_ble_eq_true rfl) (fun h3 e3 => ?_)
    refine r_iadd d_PG_ticks_77 ?_
    refine r_ri (nI_add _ _) ?_
    refine r_istore_n d_PG_ticks_78 (Nat.le_of_ble_eq_true rfl) ?_
    refine r_iincP d_PG_ticks_79 rfl (Nat.le_of_ble_eq_true rfl) ?_
    refine r_goto 44 d_PG_ticks_82 (by decide) ?_
    rw [nI_1]
    exact r_loc _ (fun q hq => by simp at hq; rcases hq with q | q | q | q | q <;> subst q <;> rfl) (kk h3 (frP_tr F2 (frP_mo e3.1 (fun x hx => by unfold inL at hx; show x < 57; omega))) (H2.lane hj e3.1 e3.2.1 e3.2.2))
  have key : ∀ (m i c : Nat) (s2 : sp_S) (h2 : ac_H), i + m = n → PGs h2 s2 → frP h h2 cmp9 → cap s2 ≤ 512 → sp_ticks m s2 c = sp_ticks n s 0 → ac_G (l, d, m_PG_ticks, 3, 18, Φ, h.length, none) 26 [(3, .int (nI i)), (2, .int (nI c)), (0, .ref 0), (1, .int (nI n))] [] h2 0 0 := by
    intro m
    induction m with
    | zero =>
      intro i c s2 h2 hi H2 F2 hc2 he
      refine r_iload_n d_PG_ticks_26 rfl ?_
      refine r_iload_n d_PG_ticks_27 rfl ?_
      refine r_icmp_ge 91 d_PG_ticks_28 (by decide) (fun c1 => ?_) (fun c1 => absurd (nI_le (by omega) (by omega)) c1)
      refine r_iload_n d_PG_ticks_91 rfl ?_
      have := ha n h2 n0 n3 rfl F2
      rw [← he] at this
      exact r_iret d_PG_ticks_92 rfl (this H2) (Nat.le_of_ble_eq_true rfl) (Nat.le_of_ble_eq_true rfl)
    | succ m ih =>
      intro i c s2 h2 hi H2 F2 hc2 he
      have hsc := step_cap s2
      refine r_iload_n d_PG_ticks_26 rfl ?_
      refine r_iload_n d_PG_ticks_27 rfl ?_
      refine r_icmp_ge 91 d_PG_ticks_28 (by decide) (fun c1 => absurd ((nI_leI (by omega) (by omega)).mp c1) (by omega)) (fun c1 => ?_)
      refine r_aload_n d_PG_ticks_31 rfl ?_
      refine r_dup d_PG_ticks_32 rfl ?_
      refine r_getfield d_PG_ticks_33 f_PG_36 H2.2.1 rfl ?_
      refine r_iconst 1 d_PG_ticks_36 (by decide) ?_
      refine r_iadd d_PG_ticks_37 ?_
      refine r_ri (nI_1 _) ?_
      refine r_putfieldN d_PG_ticks_38 f_PG_36 (H2.2.1) (Nat.le_of_ble_eq_true rfl) (fun _ => rfl) (fun _ => rfl) (fun h38_ fr38 g38 => ?_)
      have H3 := H2.obj H2.2.2.2.2.2.2 fr38 g38
      have F3 := frP_tr F2 (frP_of fr38 (P := cmp9) (fun x hx => by simp at hx; show x < 57; omega))
      refine r_iconst 0 d_PG_ticks_41 (by decide) ?_
      refine r_ri nI_0.symm ?_
      refine r_istore d_PG_ticks_42 (Nat.le_of_ble_eq_true rfl) ?_
      have hcu : cap s2 = s2.2.2.1.length + capL s2.1.1 + capL s2.1.2 := rfl
      have tc1 := tick_cap (nI (s2.2.2.2.2 + 1)) s2.2.2.2.1 s2.1.1 s2.2.2.1
      refine r_loc [(4, .int (nI 0)), (3, .int (nI i)), (2, .int (nI c)), (0, .ref 0), (1, .int (nI n))] (fun q hq => by simp at hq; rcases hq with q | q | q | q | q <;> subst q <;> rfl) ?_
      refine lane 0 c _ _ i 0 (by omega) H3 F3 (by show s2.2.2.1.length + capL s2.1.1 ≤ 512; omega) (fun h4 F4 H4 => ?_)
      refine lane 1 _ _ h4 i 0 (by omega) H4 F4 (by show (sp_tick (nI (s2.2.2.2.2 + 1)) s2.2.2.2.1 s2.1.1 s2.2.2.1).2.1.length + capL s2.1.2 ≤ 512; omega) (fun h5 F5 H5 => ?_)
      obtain ⟨⟨gl, b1, -⟩, b4, -⟩ := id H5
      refine r_iload d_PG_ticks_44 rfl ?_
      refine r_aload_n d_PG_ticks_46 rfl ?_
      refine r_getfield d_PG_ticks_47 f_PG_10 b4 rfl ?_
      refine r_alenR d_PG_ticks_50 b1 rfl ?_
      refine r_icmp_ge 85 d_PG_ticks_51 (by decide) (fun c1 => ?_) (fun c1 => absurd (nI_le (Nat.le_refl _) (by omega)) c1)
      refine r_iincP d_PG_ticks_85 rfl (Nat.le_of_ble_eq_true rfl) ?_
      refine r_goto 26 d_PG_ticks_88 (by decide) ?_
      rw [nI_1]
      have := ih (i + 1) (c + sp_left s2) (sp_step s2) h5 (by omega) H5 F5 (by omega) he
      refine r_loc _ (fun q hq => ?_) this
      simp at hq
      rcases hq with q | q | q | q <;> subst q
      · rfl
      · show some (Value.int (nI (c + _ + _))) = some (Value.int (nI (c + ((sp_st1 s2).2.2 + (sp_st2 s2).2.2))))
        rw [← Nat.add_assoc]; rfl
      · rfl
      · rfl
  refine r_iconst 0 d_PG_ticks_22 (by decide) ?_
  refine r_ri nI_0.symm ?_
  refine r_istore_n d_PG_ticks_23 (Nat.le_of_ble_eq_true rfl) ?_
  refine r_iconst 0 d_PG_ticks_24 (by decide) ?_
  refine r_ri nI_0.symm ?_
  refine r_istore_n d_PG_ticks_25 (Nat.le_of_ble_eq_true rfl) ?_
  exact r_loc _ (fun q hq => by simp at hq; rcases hq with q | q | q | q <;> subst q <;> rfl) (key n 0 0 s h (by omega) H frP_rf hcap rfl)
