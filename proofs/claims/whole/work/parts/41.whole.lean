/-! THE LAW: its loop, its start, the claim -/
theorem law_loop {l : Launch} (htr : l.stackTraces = false) {Φ : ac_R → ac_H → Prop} {L : Nat} {xs : Nat → Int32} (hL : L ≤ 2048) (hΦ : ∀ h, Φ (.inl (some (.int 1))) h) : ∀ (n c : Nat) (h : ac_H) (s : sp_S) (f : Nat) (fo : Nat → Int64) (k z : Nat), L ≤ 4 * c + 4 * n → c ≤ 512 → PGs h s → MDs h s f → h[83]? = some (.inl (.inr (.inl (1, fo)))) → Inv s c → k ≤ 84 + 3 * c → z ≤ 3780 + 18 * c → ac_G (lawP l Φ L xs) 23 (lawL c) [] h k z := by
  intro n
  induction n with
  | zero =>
    intro c h s f fo k z hn hc9 H HM ho hI hk hz
    refine r_iload d_La_law_23 rfl ?_
    refine r_aload_nS d_La_law_25 rfl ?_
    refine r_slen d_La_law_26 rfl ?_
    refine r_iconst 4 d_La_law_27 (by decide) ?_
    refine r_isub d_La_law_28 ?_
    refine r_icmp_gt 1073 d_La_law_29 (by decide) (fun c1 => ?_) (fun c1 => absurd ?_ c1)
    · refine r_iconst 1 d_La_law_1073 (by decide) ?_
      exact r_zret d_La_law_1074 rfl (Or.inr rfl) (hΦ h) (by show k ≤ 601024; omega) (by show z ≤ 7293034; omega)
    · rw [Int32.lt_iff_toInt_lt, nI4, pk_sub_toInt (by omega) (by omega), nI_toInt (by omega)]; omega
  | succ n ih =>
    intro c h s f fo k z hn hc9 H HM ho hI hk hz
    refine r_iload d_La_law_23 rfl ?_
    refine r_aload_nS d_La_law_25 rfl ?_
    refine r_slen d_La_law_26 rfl ?_
    refine r_iconst 4 d_La_law_27 (by decide) ?_
    refine r_isub d_La_law_28 ?_
    refine r_icmp_gt 1073 d_La_law_29 (by decide) (fun c1 => ?_) (fun c1 => ?_)
    · refine r_iconst 1 d_La_law_1073 (by decide) ?_
      exact r_zret d_La_law_1074 rfl (Or.inr rfl) (hΦ h) (by show k ≤ 601024; omega) (by show z ≤ 7293034; omega)
    · have hc : 4 * c + 4 ≤ L := by
        rw [Int32.lt_iff_toInt_lt, nI4, pk_sub_toInt (by omega) (by omega), nI_toInt (by omega)] at c1; omega
      have nx : lawN l Φ L xs c := by
        intro h' s' f' fo' k' z' H' HM' ho' hI' hk' hz'
        refine r_iinc (nI (4 * (c + 1))) d_La_law_1067 rfl ?_ (Nat.le_of_ble_eq_true rfl) ?_
        · have e4 : Int32.ofInt 4 = nI 4 := by decide
          rw [e4, nI_add]; rfl
        · refine r_goto 23 d_La_law_1070 (by decide) ?_
          exact r_loc _ (fun q hq => by simp at hq; rcases hq with q | q | q | q | q <;> subst q <;> rfl) (ih (c + 1) h' s' f' fo' k' z' (by omega) (by omega) H' HM' ho' hI' hk' hz')
      refine r_aload_nS d_La_law_32 rfl ?_
      refine r_iload d_La_law_33 rfl ?_
      refine r_sload d_La_law_35 rfl (vp_in_nI (show 4 * c < L by omega) (by omega)) ?_
      refine r_bipush 31 d_La_law_36 (by decide) ?_
      refine r_iand d_La_law_38 ?_
      generalize xs (nI (4 * c)).toNatClampNeg &&& 31 = x
      have dflt : ac_G (lawP l Φ L xs) 1067 (lawL c) [] h k z := nx h s f fo k z H HM ho hI.mo (by omega) (by omega)
      rcases pk_ix x (n := 18) (by omega) with c2 | c2 | ⟨j, hj, rfl⟩
      · exact r_tableOut 1067 d_La_law_39 (Or.inl (by rw [Int32.lt_iff_toInt_lt] at c2; exact c2)) (by decide) dflt
      · exact r_tableOut 1067 d_La_law_39 (Or.inr (by rw [Int32.le_iff_toInt_le, nI_toInt (by omega)] at c2; omega)) (by decide) dflt
      · have t1 : ¬ (nI j).toInt < 0 := by rw [nI_toInt (by omega)]; omega
        have t2 : ¬ 17 < (nI j).toInt := by rw [nI_toInt (by omega)]; omega
        rcases (show j = 0 ∨ j = 1 ∨ j = 2 ∨ j = 3 ∨ j = 4 ∨ j = 5 ∨ j = 6 ∨ j = 7 ∨ j = 8 ∨ j = 9 ∨ j = 10 ∨ j = 11 ∨ j = 12 ∨ j = 13 ∨ j = 14 ∨ j = 15 ∨ j = 16 ∨ j = 17 by omega) with q | q | q | q | q | q | q | q | q | q | q | q | q | q | q | q | q | q <;> subst q
        · exact r_tableIn 124 d_La_law_39 t1 t2 rfl (by decide) (law_0 htr hc hL nx H HM ho hI hk hz)
        · exact r_tableIn 172 d_La_law_39 t1 t2 rfl (by decide) (law_1 htr hc hL nx H HM ho hI hk hz)
        · exact r_tableIn 228 d_La_law_39 t1 t2 rfl (by decide) (law_2 htr hc hL nx H HM ho hI hk hz)
        · exact r_tableIn 308 d_La_law_39 t1 t2 rfl (by decide) (law_3 htr hc hL nx H HM ho hI hk hz)
        · exact r_tableIn 376 d_La_law_39 t1 t2 rfl (by decide) (law_4 htr hc hL nx H HM ho hI hk hz)
        · exact r_tableIn 444 d_La_law_39 t1 t2 rfl (by decide) (law_5 htr hc hL nx H HM ho hI hk hz)
        · exact r_tableIn 483 d_La_law_39 t1 t2 rfl (by decide) (law_6 htr hc hL nx H HM ho hI hk hz)
        · exact r_tableIn 496 d_La_law_39 t1 t2 rfl (by decide) (law_7 htr hc hL nx H HM ho hI hk hz)
        · exact r_tableIn 552 d_La_law_39 t1 t2 rfl (by decide) (law_8 htr hc hL nx H HM ho hI hk hz)
        · exact r_tableIn 632 d_La_law_39 t1 t2 rfl (by decide) (law_9 htr hc hL nx H HM ho hI hk hz)
        · exact r_tableIn 700 d_La_law_39 t1 t2 rfl (by decide) (law_10 htr hc hL nx H HM ho hI hk hz)
        · exact r_tableIn 780 d_La_law_39 t1 t2 rfl (by decide) (law_11 htr hc hL nx H HM ho hI hk hz)
        · exact r_tableIn 848 d_La_law_39 t1 t2 rfl (by decide) (law_12 htr hc hL nx H HM ho hI hk hz)
        · exact r_tableIn 904 d_La_law_39 t1 t2 rfl (by decide) (law_13 htr hc hL nx H HM ho hI hk hz)
        · exact r_tableIn 960 d_La_law_39 t1 t2 rfl (by decide) (law_14 htr hc hL nx H HM ho hI hk hz)
        · exact r_tableIn 1016 d_La_law_39 t1 t2 rfl (by decide) (law_15 htr hc hL nx H HM ho hI hk hz)
        · exact r_tableIn 1029 d_La_law_39 t1 t2 rfl (by decide) (law_16 htr hc hL nx H HM ho hI hk hz)
        · exact r_tableIn 1042 d_La_law_39 t1 t2 rfl (by decide) (law_17 htr hc hL nx H HM ho hI hk hz)
theorem r_newLB {g : ac_P} {pc : Nat} {L : List (Nat × Value)} {S : List Value} {h : ac_H} {k z : Nat} {n : Nat} (b : Nat) (hb : h.length = b) (hd : decode (ac_cc g) pc = .ok (.newarray .long, 2)) (hw9 : Cond.arrayClass .long ∈ ac_U) (hn : n < 1000000) (h1 : k + 1 ≤ ac_mc g) (h2 : z + n ≤ ac_ms g) (kk : ac_G g (pc + 2) L (.ref b :: S) (h ++ [.inl (.inr (.inl (n, fun _ => 0)))]) (k + 1) (z + n)) : ac_G g pc L (.int (nI n) :: S) h k z := by
  subst hb
  exact r_newarrayL hd hw9 hn h1 h2 kk
theorem law_go {l : Launch} (htr : l.stackTraces = false) {Φ : ac_R → ac_H → Prop} {L : Nat} {xs : Nat → Int32} (hL : L ≤ 2048) (hΦ : ∀ h, Φ (.inl (some (.int 1))) h) : ac_G (lawP l Φ L xs) 0 [(0, .retAddr 0)] [] [] 0 0 := by
  refine r_newB 0 rfl d_La_law_0 nw_La_8 (Nat.le_of_ble_eq_true rfl) (Nat.le_of_ble_eq_true rfl) ?_
  refine r_dup d_La_law_3 rfl ?_
  refine r_callI [] 0 10 56 1775 (Ψ := fun r h' => r = .inl none ∧ h' = e_PG) d_La_law_4 q_La_58 rfl (c_PG_init htr (by omega)) (fun E h9 w => nomatch w.1) (Nat.le_of_ble_eq_true rfl) (Nat.le_of_ble_eq_true rfl) (Nat.le_of_ble_eq_true rfl) (Nat.le_of_ble_eq_true rfl) (fun r h2 hp _ => ?_)
  obtain ⟨e1, e2⟩ := hp
  cases e1
  subst e2
  refine r_astore_n d_La_law_7 (Nat.le_of_ble_eq_true rfl) ?_
  refine r_newB 57 rfl d_La_law_8 nw_La_59 (Nat.le_of_ble_eq_true rfl) (Nat.le_of_ble_eq_true rfl) ?_
  refine r_dup d_La_law_11 rfl ?_
  refine r_initB [] _ e_Mo 10 25 1968 57 rfl d_La_law_12 q_La_61 rfl (fun h1 => c_Mo_init htr (by omega) h1) (Nat.le_of_ble_eq_true rfl) (Nat.le_of_ble_eq_true rfl) (Nat.le_of_ble_eq_true rfl) (Nat.le_of_ble_eq_true rfl) ?_
  refine r_astore_n d_La_law_15 (Nat.le_of_ble_eq_true rfl) ?_
  refine r_iconst 1 d_La_law_16 (by decide) ?_
  refine r_ri nI1 ?_
  refine r_newLB 83 rfl d_La_law_17 ar_L (by decide) (Nat.le_of_ble_eq_true rfl) (Nat.le_of_ble_eq_true rfl) ?_
  refine r_astore_n d_La_law_19 (Nat.le_of_ble_eq_true rfl) ?_
  refine r_iconst 0 d_La_law_20 (by decide) ?_
  refine r_ri nI_0.symm ?_
  refine r_istore d_La_law_21 (Nat.le_of_ble_eq_true rfl) ?_
  have l57 : (e_PG : ac_H).length = 57 := rfl
  have l83 : (e_PG ++ e_Mo 57 : ac_H).length = 83 := rfl
  have p1 : ∀ j, j < 83 → ((e_PG ++ e_Mo 57) ++ [.inl (.inr (.inl (1, fun _ => 0)))] : ac_H)[j]? = (e_PG ++ e_Mo 57 : ac_H)[j]? := fun j hj => List.getElem?_append_left (by rw [l83]; exact hj)
  have HP : PGs ((e_PG ++ e_Mo 57) ++ [.inl (.inr (.inl (1, fun _ => 0)))]) S0 := PGs_new (fun j hj => (p1 j (by omega)).trans (List.getElem?_append_left (by rw [l57]; exact hj)))
  have HM : MDs ((e_PG ++ e_Mo 57) ++ [.inl (.inr (.inl (1, fun _ => 0)))]) S0 0 := MDs_new (h0 := e_PG) l57 (fun x h1 h2 => p1 x h2)
  refine r_loc _ (fun q hq => by simp at hq; rcases hq with q | q | q | q | q <;> subst q <;> rfl) (law_loop htr hL hΦ 512 0 _ S0 0 (fun _ => 0) _ _ (by omega) (by omega) HP HM ?_ Inv_0 (Nat.le_of_ble_eq_true rfl) (Nat.le_of_ble_eq_true rfl))
  rw [List.getElem?_append_right (by rw [l83]; exact Nat.le_refl _), l83]; rfl
theorem whole_start {p : Program} {e : Env} {s : State} {m : MethodId} {below : List Frame} {meth : Method} {c : Code} (l : Launch) (htr : l.stackTraces = false) {b L : Nat} {xs : Nat → Int32} (hL : L ≤ 2048) (C0 : lw_At p s m meth c b L xs) (hnm : meth.name = "law") (htab : c.exceptionTable.toList = []) : W p l e room_1 s m #[Value.ref b] below meth c s.heap [] 0 0 (lw_Z below #[Value.ref b] s) (entryFrame m ([Value.ref b] : List Value).toArray 7) := by
  obtain ⟨hx, hb, hr, hml, hown, hts, hX, hbl, hlocks, hgv⟩ := id C0
  have hU : ∀ w ∈ ac_U, w.before #[Value.ref b] s = true := fun w hw => hts w (List.mem_filter.mp hw).1
  have hg9 := flat_of_before _ hgv
  have hbA : ¬ (fun q : Nat => s.heap.size ≤ q) b := Nat.not_le.mpr hbl
  have hA0 : ∀ a : Nat, a < s.heap.size → ¬ (fun q : Nat => s.heap.size ≤ q) a := fun a ha => Nat.not_le.mpr ha
  obtain ⟨c0, i0, hKn0⟩ := u_known (C := R_Blobs) (T := T_Blobs) (N := 3) (n := 3) hU i_Blobs (hts (.instantiable R_Blobs 3) (by decide +kernel))
  obtain ⟨c1, i1, hKn1⟩ := u_known (C := R_Body) (T := T_Body) (N := 5) (n := 5) hU i_Body (hts (.instantiable R_Body 5) (by decide +kernel))
  obtain ⟨c2, i2, hKn2⟩ := u_known (C := R_Eye) (T := T_Eye) (N := 4) (n := 4) hU i_Eye (hts (.instantiable R_Eye 4) (by decide +kernel))
  obtain ⟨c3, i3, hKn3⟩ := u_known (C := R_Lane) (T := T_Lane) (N := 10) (n := 10) hU i_Lane (hts (.instantiable R_Lane 10) (by decide +kernel))
  obtain ⟨c4, i4, hKn4⟩ := u_known (C := R_Pad) (T := T_Pad) (N := 2) (n := 2) hU i_Pad (hts (.instantiable R_Pad 2) (by decide +kernel))
  obtain ⟨c5, i5, hKn5⟩ := u_known (C := R_Rf) (T := T_Rf) (N := 2) (n := 2) hU i_Rf (hts (.instantiable R_Rf 2) (by decide +kernel))
  obtain ⟨c6, i6, hKn6⟩ := u_known (C := R_TL) (T := T_TL) (N := 3) (n := 3) hU i_TL (hts (.instantiable R_TL 3) (by decide +kernel))
  obtain ⟨c7, i7, hKn7⟩ := u_known (C := R_PG) (T := T_PG) (N := 5) (n := 5) hU i_PG (hts (.instantiable R_PG 5) (by decide +kernel))
  obtain ⟨c8, i8, hKn8⟩ := u_known (C := R_Mo) (T := T_Mo) (N := 31) (n := 31) hU i_Mo (hts (.instantiable R_Mo 31) (by decide +kernel))
  obtain ⟨dC, dI, hKc⟩ : ∃ (dC : Nat → ClassId) (dI : Nat → Nat → Nat), ∀ (k : Nat) (q : vw_C), ac_cl[k]? = some q → u_Kn s q.1 q.2.1 q.2.2 (dC k) (dI k) := by
    refine ⟨fun k => match k with | 0 => c0 | 1 => c1 | 2 => c2 | 3 => c3 | 4 => c4 | 5 => c5 | 6 => c6 | 7 => c7 | _ => c8, fun k => match k with | 0 => i0 | 1 => i1 | 2 => i2 | 3 => i3 | 4 => i4 | 5 => i5 | 6 => i6 | 7 => i7 | _ => i8, ?_⟩
    intro k q hq
    match k, hq with
    | 0, hq => cases hq; exact hKn0
    | 1, hq => cases hq; exact hKn1
    | 2, hq => cases hq; exact hKn2
    | 3, hq => cases hq; exact hKn3
    | 4, hq => cases hq; exact hKn4
    | 5, hq => cases hq; exact hKn5
    | 6, hq => cases hq; exact hKn6
    | 7, hq => cases hq; exact hKn7
    | 8, hq => cases hq; exact hKn8
    | k + 9, hq => simp [ac_cl] at hq
  obtain ⟨aI, kI, pI, fI1, fI2, fI3⟩ := Cond.arrayClass_spec (hts (.arrayClass .int) (by decide +kernel))
  obtain ⟨aJ, kJ, pJ, fJ1, fJ2, fJ3⟩ := Cond.arrayClass_spec (hts (.arrayClass .long) (by decide +kernel))
  obtain ⟨p0, a0, k0, g01, g02, g03, g04, g05⟩ := Cond.arrayOver_spec (hts (.arrayOver (.object "PairedGates$Lane")) (by decide +kernel))
  obtain ⟨p1, a1, k1, g11, g12, g13, g14, g15⟩ := Cond.arrayOver_spec (hts (.arrayOver (.object "PairedGates$TokenList")) (by decide +kernel))
  obtain ⟨p2, a2, k2, g21, g22, g23, g24, g25⟩ := Cond.arrayOver_spec (hts (.arrayOver (.object "PairedGates$Body")) (by decide +kernel))
  obtain ⟨dA, hKa⟩ : ∃ dA : Nat → ClassId, ∀ (k : Nat) (q : ClassId × FieldType), (ac_tys dA)[k]? = some q → ArrOfT s q.1 q.2 ∧ va_RA s q.1 q.2 := by
    refine ⟨fun k => match k with | 0 => aI | 1 => aJ | 2 => a0 | 3 => a1 | _ => a2, ?_⟩
    intro k q hq
    match k, hq with
    | 0, hq => cases hq; exact ⟨fun n z => ⟨fun k h => (by cases h), kI, fI2, pI, fI3⟩, fI1⟩
    | 1, hq => cases hq; exact ⟨fun n z => ⟨fun k h => (by cases h), kJ, fJ2, pJ, fJ3⟩, fJ1⟩
    | 2, hq => cases hq; exact ⟨fun n z => ⟨fun k h => (by cases h), k0, g03, p0, g04⟩, ⟨k0, p0, g03, g04, g01, g05⟩⟩
    | 3, hq => cases hq; exact ⟨fun n z => ⟨fun k h => (by cases h), k1, g13, p1, g14⟩, ⟨k1, p1, g13, g14, g11, g15⟩⟩
    | 4, hq => cases hq; exact ⟨fun n z => ⟨fun k h => (by cases h), k2, g23, p2, g24⟩, ⟨k2, p2, g23, g24, g21, g25⟩⟩
    | k + 5, hq => simp [ac_tys, ac_kn] at hq
  have hK : va_K (dC, dI) ac_cl (ac_tys dA) s := ⟨hKc, hKa⟩
  have hini : (Cond.initialized Bundle.tN).before #[Value.ref b] s = true := hts _ (by decide +kernel)
  have hl1 : (Cond.laysStatic Bundle.tN "UNASSIGNED_STACK" Bundle.steD).before #[Value.ref b] s = true := hts _ (by decide +kernel)
  have hl2 : (Cond.laysStatic Bundle.tN "SUPPRESSED_SENTINEL" Bundle.listD).before #[Value.ref b] s = true := hts _ (by decide +kernel)
  have hX9 : ac_X (fun q : Nat => s.heap.size ≤ q) s s.heap := by
    refine ⟨fun w hw => ?_, fun w hw => ?_, fun C hC => ?_, fun q hq => ?_, fun q hq => ?_⟩
    · simp only [xq_sw, List.mem_cons, List.not_mem_nil, or_false] at hw
      rcases hw with rfl | rfl | rfl | rfl
      · exact xq_Zref hl1 hini (hg9 _ (by decide +kernel)) hA0
      · exact xq_Zref hl2 hini (hg9 _ (by decide +kernel)) hA0
      · exact xq_Zlay hl1 hA0
      · exact xq_Zlay hl2 hA0
    · have hm9 : ∀ w ∈ ac_ow, w ∈ lw_tbl := by decide +kernel
      exact va_Nw.of (ac_ow_tab w hw) (hts w (hm9 w hw))
    · have hm9 : ∀ C ∈ ac_kn, Cond.arrayOver (.object C) ∈ lw_tbl := by decide +kernel
      exact va_AO.of (hts _ (hm9 C hC))
    · have hm9 : ∀ q ∈ ac_str, Cond.stringRef q.1 q.2.1 q.2.2 ∈ lw_tbl ∧ q.1 = "PairedGates" := by decide +kernel
      obtain ⟨h1, h2⟩ := hm9 q hq
      have h3 := hts _ h1
      obtain ⟨cP, kP, hP1, -⟩ := Cond.instantiable_spec (hts (.instantiable "PairedGates" 5) (by decide +kernel))
      rw [← h2] at hP1
      obtain ⟨k9, cf9, i9, a9, -, -, -, -, -, hev⟩ := Cond.stringRef_spec hP1 h3
      exact ⟨a9, vk_R.of h3 hev⟩
    · have hm9 : ∀ q ∈ ac_nc, Cond.not (.castable q.1 q.2) ∈ flatC (Jvm.Cond.and given_1 narrow_1) := by decide +kernel
      exact va_Nc.of (hg9 _ (hm9 q hq))
  have hl := lv_entry ([.ref b]) (n := 7) (Nat.le_of_ble_eq_true rfl)
  rw [lg_entry_eq]
  refine law_go (l := l) htr (Φ := fun r _ => r = .inl (some (.int 1))) (xs := xs) hL (fun _ => rfl) p e room_1 s m #[Value.ref b] below meth c (dC, dI) dA (fun q : Nat => s.heap.size ≤ q) (b, fun _ => 0) (lw_Z below #[Value.ref b] s) ⟨⟨hx, hb, hml, hown, hnm, hU, htab⟩, ⟨hK, hX9, fun _ h => h, Nat.le_of_ble_eq_true rfl, Nat.le_of_ble_eq_true rfl, rfl, rfl⟩, ⟨?_, ?_, ?_⟩, ?_⟩ (b, fun _ => 0) s.heap [] _ ⟨fun i e he => (by simp at he), Nat.le_refl _, ac_ag_rf, fun k q hq => (by simp [ac_w] at hq), ⟨fun i j p q hp => (by simp [ac_w] at hp), fun k q hq => (by simp [ac_w] at hq)⟩, va_S.rf⟩ (fun q hq => ?_) (fun v hv => (by cases hv)) hl
  · intro σ h' H locs k z r pc ls hW hp h1 h2 hok hb9
    obtain ⟨w1, w2, w3, hP1, hD1, hSS⟩ := hW
    have hp : r = some (.int 1) := Sum.inl.inj hp
    subst hp
    refine va_forget (fun q hq => hSS.2.2 q hq) ?_
    refine W.widen h1 h2 ?_
    rcases hb9 with ⟨v, e1, e2, -⟩ | ⟨a9, n9, e1, -⟩ | ⟨a9, t9, e1, -⟩ | ⟨e1, -⟩
    · exact lw_ret hx hb hr hlocks e2
    · cases e1
    · cases e1
    · cases e1
  · intro σ h' H locs k z E ce q pc ls rest hW hp
    cases hp
  · intro σ h' H locs k z E pc ls rest hW hp
    cases hp
  · intro L9 xs9 hq
    cases hq
    exact ⟨hX, hbl, hbA⟩
  · simp at hq
    subst hq
    exact ac_ok_scr
