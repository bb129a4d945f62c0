/-! THE COMPONENT'S PUBLIC CALLS -/
abbrev cmp9 (x : Nat) : Prop := x < 57
def sp_tell (L : sp_L) (w : Int32) : sp_L := ((w &&& 1023, L.1.2.1, L.1.2.2.1, L.1.2.2.2), L.2)
theorem Lns.eye {h : ac_H} {b : Nat} {L : sp_L} (H : Lns h b L) : ∃ r r', h[b]? = some (lnO b r r' L.2.2.2.2.1 L.2.2.2.2.2.length) ∧ h[b + 1]? = some (.inr (2, [.int L.1.1, .int L.1.2.1, .int L.1.2.2.1, .int L.1.2.2.2])) ∧ h[b + 5]? = some (.inr (4, [.int L.2.1.1, .int L.2.1.2])) ∧ h[b + 13]? = some (.inl (.inl (5, L.2.2.2.1))) ∧ L.2.2.2.2.2.length ≤ 4 ∧ L.2.2.2.2.1 ≤ 3 := by
  obtain ⟨x1, x2, x3, r, r', RW, NR, B, gl, gq, a0, a1, a2, a3, a4, ⟨a5, a6, a7⟩, a8, a9, a10, a11, a12, a13, a14⟩ := H
  exact ⟨r, r', a1, a2, a4, a10, a13.1, x1⟩
theorem Lns.sete {h h' : ac_H} {b : Nat} {L : sp_L} {E : Int32 × Int32 × Int32 × Int32} (H : Lns h b L) (F : fr h h' [b + 1]) (HE : h'[b + 1]? = some (.inr (2, [.int E.1, .int E.2.1, .int E.2.2.1, .int E.2.2.2]))) : Lns h' b (E, L.2) := by
  obtain ⟨x1, x2, x3, r, r', RW, NR, B, gl, gq, a0, a1, a2, a3, a4, ⟨a5, a6, a7⟩, a8, a9, a10, a11, a12, a13, a14⟩ := H
  have k : ∀ x, (x ≠ b + 1) → h'[x]? = h[x]? := fun x hx => F.2 x (by simp; omega)
  exact ⟨x1, x2, x3, r, r', RW, NR, B, gl, gq, a0, (k _ (by omega)).trans a1, HE, a3.pt (fun i hi => k _ (by omega)), (k _ (by omega)).trans a4, ⟨(k _ (by omega)).trans a5, a6, a7⟩, a8.pt (fun i hi => k _ (by omega)), a9.pt (fun i hi => k _ (by omega)), (k _ (by omega)).trans a10, (k _ (by omega)).trans a11, a12.pt (fun i hi => k _ (by omega)), a13, a14.pt (fun i hi => k _ (by omega))⟩
theorem c_PG_beams {l : Launch} (htr : l.stackTraces = false) {d : Nat} {h : ac_H} {Φ : ac_R → ac_H → Prop} {lane w : Int32} {s : sp_S} (hd : 7 ≤ d) (H : PGs h s) (hx : out9 lane 2 → Φ (.inr x_I) h) (ha : ∀ j h', j < 2 → lane = nI j → frP h h' cmp9 → PGs h' (stL s j (sp_tell (lnOf s j) w)) → Φ (.inl none) h') : ac_Mt l d m_PG_beams [.ref 0, .int lane, .int w] h 3 18 Φ := by
  refine ac_enter (by decide) rfl htr (fun _ => Nat.le_of_ble_eq_true rfl) ?_
  refine r_aload_n d_PG_beams_0 rfl ?_
  refine r_iload_n d_PG_beams_1 rfl ?_
  refine r_lane htr rfl d_PG_beams_2 H hd rfl (Nat.le_of_ble_eq_true rfl) (Nat.le_of_ble_eq_true rfl) (Nat.le_of_ble_eq_true rfl) hx (fun j hj e => ?_)
  have HL := H.ln hj
  obtain ⟨r, r', a1, a2, -⟩ := HL.eye
  refine r_getfield d_PG_beams_5 f_PG_44 a1 rfl ?_
  refine r_iload_n d_PG_beams_8 rfl ?_
  refine r_cVv [.int w] (2 + 25 * j + 1) (d - 1) 0 0 (fun h' => fr h h' [2 + 25 * j + 1] ∧ h'[2 + 25 * j + 1]? = some (.inr (2, [.int (w &&& 1023), .int (lnOf s j).1.2.1, .int (lnOf s j).1.2.2.1, .int (lnOf s j).1.2.2.2]))) d_PG_beams_9 q_PG_48 a2 rfl rfl (c_Eye_tell htr a2 (fun h' f' H1 => ⟨rfl, f', H1⟩)) (by show d - 1 + 1 ≤ d; omega) (Nat.le_of_ble_eq_true rfl) (Nat.le_of_ble_eq_true rfl) (Nat.le_of_ble_eq_true rfl) (fun h2 e2 => ?_)
  refine r_vret d_PG_beams_12 rfl (ha j h2 hj e (frP_of e2.1 (fun x hx => by simp at hx; show x < 57; omega)) (H.lane hj (frP_of e2.1 (fun x hx => by simp at hx; unfold inL; omega)) (HL.sete e2.1 e2.2) (H.2.2.2.2.2.1.fr e2.1 (by simp only [List.mem_cons, List.not_mem_nil, or_false, not_or]; omega) (by simp only [List.mem_cons, List.not_mem_nil, or_false, not_or]; omega)))) (Nat.le_of_ble_eq_true rfl) (Nat.le_of_ble_eq_true rfl)
/-- a call that only looks at a lane -/
theorem c_PG_bodies {l : Launch} (htr : l.stackTraces = false) {d : Nat} {h : ac_H} {Φ : ac_R → ac_H → Prop} {lane : Int32} {s : sp_S} (hd : 7 ≤ d) (H : PGs h s) (hx : out9 lane 2 → Φ (.inr x_I) h) (ha : ∀ j, j < 2 → lane = nI j → Φ (.inl (some (.int (nI (lnOf s j).2.2.2.2.2.length)))) h) : ac_Mt l d m_PG_bodies [.ref 0, .int lane] h 3 18 Φ := by
  refine ac_enter (by decide) rfl htr (fun _ => Nat.le_of_ble_eq_true rfl) ?_
  refine r_aload_n d_PG_bodies_0 rfl ?_
  refine r_iload_n d_PG_bodies_1 rfl ?_
  refine r_lane htr rfl d_PG_bodies_2 H hd rfl (Nat.le_of_ble_eq_true rfl) (Nat.le_of_ble_eq_true rfl) (Nat.le_of_ble_eq_true rfl) hx (fun j hj e => ?_)
  obtain ⟨r, r', a1, a2, -⟩ := (H.ln hj).eye
  refine r_getfield d_PG_bodies_5 f_PG_97 a1 rfl ?_
  exact r_iret d_PG_bodies_8 rfl (ha j hj e) (Nat.le_of_ble_eq_true rfl) (Nat.le_of_ble_eq_true rfl)
theorem c_PG_angle {l : Launch} (htr : l.stackTraces = false) {d : Nat} {h : ac_H} {Φ : ac_R → ac_H → Prop} {lane : Int32} {s : sp_S} (hd : 7 ≤ d) (H : PGs h s) (hx : out9 lane 2 → Φ (.inr x_I) h) (ha : ∀ j, j < 2 → lane = nI j → Φ (.inl (some (.int (lnOf s j).2.1.1))) h) : ac_Mt l d m_PG_angle [.ref 0, .int lane] h 3 18 Φ := by
  refine ac_enter (by decide) rfl htr (fun _ => Nat.le_of_ble_eq_true rfl) ?_
  refine r_aload_n d_PG_angle_0 rfl ?_
  refine r_iload_n d_PG_angle_1 rfl ?_
  refine r_lane htr rfl d_PG_angle_2 H hd rfl (Nat.le_of_ble_eq_true rfl) (Nat.le_of_ble_eq_true rfl) (Nat.le_of_ble_eq_true rfl) hx (fun j hj e => ?_)
  obtain ⟨r, r', a1, a2, a3, -⟩ := (H.ln hj).eye
  refine r_getfield d_PG_angle_5 f_PG_138 a1 rfl ?_
  refine r_getfield d_PG_angle_8 f_PG_142 a3 rfl ?_
  exact r_iret d_PG_angle_11 rfl (ha j hj e) (Nat.le_of_ble_eq_true rfl) (Nat.le_of_ble_eq_true rfl)
theorem c_PG_order {l : Launch} (htr : l.stackTraces = false) {d : Nat} {h : ac_H} {Φ : ac_R → ac_H → Prop} {lane : Int32} {s : sp_S} (hd : 7 ≤ d) (H : PGs h s) (hx : out9 lane 2 → Φ (.inr x_I) h) (ha : ∀ j, j < 2 → lane = nI j → Φ (.inl (some (.int (lnOf s j).2.1.2))) h) : ac_Mt l d m_PG_order [.ref 0, .int lane] h 3 18 Φ := by
  refine ac_enter (by decide) rfl htr (fun _ => Nat.le_of_ble_eq_true rfl) ?_
  refine r_aload_n d_PG_order_0 rfl ?_
  refine r_iload_n d_PG_order_1 rfl ?_
  refine r_lane htr rfl d_PG_order_2 H hd rfl (Nat.le_of_ble_eq_true rfl) (Nat.le_of_ble_eq_true rfl) (Nat.le_of_ble_eq_true rfl) hx (fun j hj e => ?_)
  obtain ⟨r, r', a1, a2, a3, -⟩ := (H.ln hj).eye
  refine r_getfield d_PG_order_5 f_PG_138 a1 rfl ?_
  refine r_getfield d_PG_order_8 f_PG_147 a3 rfl ?_
  exact r_iret d_PG_order_11 rfl (ha j hj e) (Nat.le_of_ble_eq_true rfl) (Nat.le_of_ble_eq_true rfl)
theorem c_PG_seen {l : Launch} (htr : l.stackTraces = false) {d : Nat} {h : ac_H} {Φ : ac_R → ac_H → Prop} {lane : Int32} {s : sp_S} (hd : 7 ≤ d) (H : PGs h s) (hx : out9 lane 2 → Φ (.inr x_I) h) (ha : ∀ j, j < 2 → lane = nI j → Φ (.inl (some (.int (lnOf s j).1.2.2.2))) h) : ac_Mt l d m_PG_seen [.ref 0, .int lane] h 3 18 Φ := by
  refine ac_enter (by decide) rfl htr (fun _ => Nat.le_of_ble_eq_true rfl) ?_
  refine r_aload_n d_PG_seen_0 rfl ?_
  refine r_iload_n d_PG_seen_1 rfl ?_
  refine r_lane htr rfl d_PG_seen_2 H hd rfl (Nat.le_of_ble_eq_true rfl) (Nat.le_of_ble_eq_true rfl) (Nat.le_of_ble_eq_true rfl) hx (fun j hj e => ?_)
  obtain ⟨r, r', a1, a2, a3, -⟩ := (H.ln hj).eye
  refine r_getfield d_PG_seen_5 f_PG_44 a1 rfl ?_
  refine r_getfield d_PG_seen_8 f_PG_150 a2 rfl ?_
  exact r_iret d_PG_seen_11 rfl (ha j hj e) (Nat.le_of_ble_eq_true rfl) (Nat.le_of_ble_eq_true rfl)
theorem c_PG_count {l : Launch} (htr : l.stackTraces = false) {d : Nat} {h : ac_H} {Φ : ac_R → ac_H → Prop} {lane x : Int32} {s : sp_S} (hd : 7 ≤ d) (H : PGs h s) (hx : out9 lane 2 → Φ (.inr x_I) h) (ha : ∀ j i, j < 2 → lane = nI j → i < 5 → x = nI i → Φ (.inl (some (.int ((lnOf s j).2.2.2.1 i)))) h) (hb : ∀ j, j < 2 → lane = nI j → out9 x 5 → Φ (.inl (some (.int 0))) h) : ac_Mt l d m_PG_count [.ref 0, .int lane, .int x] h 3 18 Φ := by
  refine ac_enter (by decide) rfl htr (fun _ => Nat.le_of_ble_eq_true rfl) ?_
  refine r_aload_n d_PG_count_0 rfl ?_
  refine r_iload_n d_PG_count_1 rfl ?_
  refine r_lane htr rfl d_PG_count_2 H hd rfl (Nat.le_of_ble_eq_true rfl) (Nat.le_of_ble_eq_true rfl) (Nat.le_of_ble_eq_true rfl) hx (fun j hj e => ?_)
  obtain ⟨r, r', a1, a2, a3, a4, -⟩ := (H.ln hj).eye
  refine r_getfield d_PG_count_5 f_PG_134 a1 rfl ?_
  refine r_astore_n d_PG_count_8 (Nat.le_of_ble_eq_true rfl) ?_
  refine r_iload_n d_PG_count_9 rfl ?_
  refine r_if_lt 25 d_PG_count_10 (by decide) (fun c => ?_) (fun c => ?_)
  · refine r_iconst 0 d_PG_count_25 (by decide) ?_
    exact r_iret d_PG_count_26 rfl (hb j hj e (out_neg (by omega) c)) (Nat.le_of_ble_eq_true rfl) (Nat.le_of_ble_eq_true rfl)
  · refine r_iload_n d_PG_count_13 rfl ?_
    refine r_aload_n d_PG_count_14 rfl ?_
    refine r_alenI d_PG_count_15 a4 ?_
    refine r_icmp_ge 25 d_PG_count_16 (by decide) (fun c2 => ?_) (fun c2 => ?_)
    · refine r_iconst 0 d_PG_count_25 (by decide) ?_
      exact r_iret d_PG_count_26 rfl (hb j hj e (out_big (by omega) c2)) (Nat.le_of_ble_eq_true rfl) (Nat.le_of_ble_eq_true rfl)
    · obtain ⟨i, hi, rfl⟩ := nI_of c
      have hi5 : i < 5 := lt_of_nle (by omega) c2 hi
      refine r_aload_n d_PG_count_19 rfl ?_
      refine r_iload_n d_PG_count_20 rfl ?_
      refine r_ialoadN d_PG_count_21 a4 hi5 (by omega) ?_
      refine r_goto 26 d_PG_count_22 (by decide) ?_
      exact r_iret d_PG_count_26 rfl (ha j i hj e hi5 rfl) (Nat.le_of_ble_eq_true rfl) (Nat.le_of_ble_eq_true rfl)
theorem c_PG_waiting {l : Launch} (htr : l.stackTraces = false) {d : Nat} {h : ac_H} {Φ : ac_R → ac_H → Prop} {lane x : Int32} {s : sp_S} (hd : 7 ≤ d) (H : PGs h s) (hx : (out9 lane 2 ∨ out9 x 2) → Φ (.inr x_I) h) (ha : ∀ j i, j < 2 → lane = nI j → i < 2 → x = nI i → Φ (.inl (some (.int (nI (qOf (lnOf s j) i).length)))) h) : ac_Mt l d m_PG_waiting [.ref 0, .int lane, .int x] h 3 18 Φ := by
  refine ac_enter (by decide) rfl htr (fun _ => Nat.le_of_ble_eq_true rfl) ?_
  refine r_aload_n d_PG_waiting_0 rfl ?_
  refine r_iload_n d_PG_waiting_1 rfl ?_
  refine r_lane htr rfl d_PG_waiting_2 H hd rfl (Nat.le_of_ble_eq_true rfl) (Nat.le_of_ble_eq_true rfl) (Nat.le_of_ble_eq_true rfl) (fun z => hx (Or.inl z)) (fun j hj e => ?_)
  refine r_iload_n d_PG_waiting_5 rfl ?_
  refine r_queue htr rfl d_PG_waiting_6 (H.ln hj) hd rfl (Nat.le_of_ble_eq_true rfl) (Nat.le_of_ble_eq_true rfl) (Nat.le_of_ble_eq_true rfl) (fun z => hx (Or.inr z)) (fun i hi e2 => ?_)
  have T := ((H.ln hj).q hi).1.1
  refine r_getfield d_PG_waiting_9 f_PG_86 T rfl ?_
  exact r_iret d_PG_waiting_12 rfl (ha j i hj e hi e2) (Nat.le_of_ble_eq_true rfl) (Nat.le_of_ble_eq_true rfl)
theorem c_PG_waits {l : Launch} (htr : l.stackTraces = false) {d : Nat} {h : ac_H} {Φ : ac_R → ac_H → Prop} {lane x y : Int32} {s : sp_S} (hd : 7 ≤ d) (H : PGs h s) (hx : (out9 lane 2 ∨ out9 x 2) → Φ (.inr x_I) h) (ha : ∀ j i, j < 2 → lane = nI j → i < 2 → x = nI i → Φ (.inl (some (.int (if 0 ≤ y.toInt then (((qOf (lnOf s j) i)[y.toInt.toNat]?).map (·.1)).getD (-1) else -1)))) h) : ac_Mt l d m_PG_waits [.ref 0, .int lane, .int x, .int y] h 3 18 Φ := by
  refine ac_enter (by decide) rfl htr (fun _ => Nat.le_of_ble_eq_true rfl) ?_
  refine r_aload_n d_PG_waits_0 rfl ?_
  refine r_iload_n d_PG_waits_1 rfl ?_
  refine r_lane htr rfl d_PG_waits_2 H hd rfl (Nat.le_of_ble_eq_true rfl) (Nat.le_of_ble_eq_true rfl) (Nat.le_of_ble_eq_true rfl) (fun z => hx (Or.inl z)) (fun j hj e => ?_)
  refine r_iload_n d_PG_waits_5 rfl ?_
  refine r_queue htr rfl d_PG_waits_6 (H.ln hj) hd rfl (Nat.le_of_ble_eq_true rfl) (Nat.le_of_ble_eq_true rfl) (Nat.le_of_ble_eq_true rfl) (fun z => hx (Or.inr z)) (fun i hi e2 => ?_)
  have T := ((H.ln hj).q hi).1
  refine r_iload_n d_PG_waits_9 rfl ?_
  refine r_cVi [.int y] (2 + 25 * j + 7 + 3 * i) (d - 1) 0 0 _ (fun h' => h = h') d_PG_waits_10 q_PG_130 T.1 rfl rfl (c_TL_accountAt htr T ⟨rfl, rfl⟩) (by show d - 1 + 1 ≤ d; omega) (Nat.le_of_ble_eq_true rfl) (Nat.le_of_ble_eq_true rfl) (Nat.le_of_ble_eq_true rfl) (fun h' e9 => ?_)
  subst e9
  exact r_iret d_PG_waits_13 rfl (ha j i hj e hi e2) (Nat.le_of_ble_eq_true rfl) (Nat.le_of_ble_eq_true rfl)
theorem c_PG_accepted {l : Launch} (htr : l.stackTraces = false) {d : Nat} {h : ac_H} {Φ : ac_R → ac_H → Prop} {s : sp_S} (H : PGs h s) (ha : Φ (.inl (some (.int (nI s.2.1.length)))) h) : ac_Mt l d m_PG_accepted [.ref 0] h 0 0 Φ := by
  refine ac_enter (by decide) rfl htr (fun _ => Nat.le_of_ble_eq_true rfl) ?_
  refine r_aload_n d_PG_accepted_0 rfl ?_
  refine r_getfield d_PG_accepted_1 f_PG_21 H.2.1 rfl ?_
  refine r_getfield d_PG_accepted_4 f_PG_86 H.2.2.2.2.1.1 rfl ?_
  exact r_iret d_PG_accepted_7 rfl ha (Nat.le_of_ble_eq_true rfl) (Nat.le_of_ble_eq_true rfl)
theorem c_PG_refunds {l : Launch} (htr : l.stackTraces = false) {d : Nat} {h : ac_H} {Φ : ac_R → ac_H → Prop} {s : sp_S} (H : PGs h s) (ha : Φ (.inl (some (.int (nI s.2.2.1.length)))) h) : ac_Mt l d m_PG_refunds [.ref 0] h 0 0 Φ := by
  refine ac_enter (by decide) rfl htr (fun _ => Nat.le_of_ble_eq_true rfl) ?_
  refine r_aload_n d_PG_refunds_0 rfl ?_
  refine r_getfield d_PG_refunds_1 f_PG_28 H.2.1 rfl ?_
  refine r_getfield d_PG_refunds_4 f_PG_153 H.2.2.2.2.2.1.1 rfl ?_
  exact r_iret d_PG_refunds_7 rfl ha (Nat.le_of_ble_eq_true rfl) (Nat.le_of_ble_eq_true rfl)
theorem c_PG_refund {l : Launch} (htr : l.stackTraces = false) {d : Nat} {h : ac_H} {Φ : ac_R → ac_H → Prop} {i : Int32} {s : sp_S} (hd : 1 ≤ d) (H : PGs h s) (ha : Φ (.inl (some (.int (if 0 ≤ i.toInt then (s.2.2.1[i.toInt.toNat]?).getD (-1) else -1)))) h) : ac_Mt l d m_PG_refund [.ref 0, .int i] h 0 0 Φ := by
  refine ac_enter (by decide) rfl htr (fun _ => Nat.le_of_ble_eq_true rfl) ?_
  have T := H.2.2.2.2.2.1
  refine r_aload_n d_PG_refund_0 rfl ?_
  refine r_getfield d_PG_refund_1 f_PG_28 H.2.1 rfl ?_
  refine r_iload_n d_PG_refund_4 rfl ?_
  refine r_cVi [.int i] 55 (d - 1) 0 0 _ (fun h' => h = h') d_PG_refund_5 q_PG_154 T.1 rfl rfl (c_Rf_accountAt htr T ⟨rfl, rfl⟩) (by show d - 1 + 1 ≤ d; omega) (Nat.le_of_ble_eq_true rfl) (Nat.le_of_ble_eq_true rfl) (Nat.le_of_ble_eq_true rfl) (fun h' e9 => ?_)
  subst e9
  exact r_iret d_PG_refund_8 rfl ha (Nat.le_of_ble_eq_true rfl) (Nat.le_of_ble_eq_true rfl)
theorem c_PG_time {l : Launch} (htr : l.stackTraces = false) {d : Nat} {h : ac_H} {Φ : ac_R → ac_H → Prop} {s : sp_S} (H : PGs h s) (ha : Φ (.inl (some (.int (nI s.2.2.2.2)))) h) : ac_Mt l d m_PG_time [.ref 0] h 0 0 Φ := by
  refine ac_enter (by decide) rfl htr (fun _ => Nat.le_of_ble_eq_true rfl) ?_
  refine r_aload_n d_PG_time_0 rfl ?_
  refine r_getfield d_PG_time_1 f_PG_36 H.2.1 rfl ?_
  exact r_iret d_PG_time_4 rfl ha (Nat.le_of_ble_eq_true rfl) (Nat.le_of_ble_eq_true rfl)
theorem c_PG_alarm {l : Launch} (htr : l.stackTraces = false) {d : Nat} {h : ac_H} {Φ : ac_R → ac_H → Prop} {x : Int32} {s : sp_S} (hx : x = 0 ∨ x = 1) (H : PGs h s) (ha : ∀ h', frP h h' cmp9 → PGs h' (s.1, s.2.1, s.2.2.1, x, s.2.2.2.2) → Φ (.inl none) h') : ac_Mt l d m_PG_alarm [.ref 0, .int x] h 0 0 Φ := by
  refine ac_enter (by decide) rfl htr (fun _ => Nat.le_of_ble_eq_true rfl) ?_
  refine r_aload_n d_PG_alarm_0 rfl ?_
  refine r_iload_n d_PG_alarm_1 rfl ?_
  refine r_putfield d_PG_alarm_2 f_PG_32 H.2.1 (Nat.le_of_ble_eq_true rfl) (fun _ => by rcases hx with q | q <;> subst q <;> rfl) (fun _ => by rcases hx with q | q <;> subst q <;> rfl) ?_
  refine r_vret d_PG_alarm_5 rfl (ha _ (frP_of fr_set (fun x hx => by simp at hx; show x < 57; omega)) (H.obj hx fr_set (set_at H.2.1))) (Nat.le_of_ble_eq_true rfl) (Nat.le_of_ble_eq_true rfl)
theorem c_PG_body {l : Launch} (htr : l.stackTraces = false) {d : Nat} {h : ac_H} {Φ : ac_R → ac_H → Prop} {lane x w : Int32} {s : sp_S} (hd : 7 ≤ d) (H : PGs h s) (hx : (out9 lane 2 ∨ ∃ j, j < 2 ∧ lane = nI j ∧ out9 x (lnOf s j).2.2.2.2.2.length) → Φ (.inr x_I) h) (hy : ∀ j i y, j < 2 → lane = nI j → (lnOf s j).2.2.2.2.2[i]? = some y → x = nI i → out9 w 5 → Φ (.inr x_A) h)
    (ha : ∀ j i y n v, j < 2 → lane = nI j → (lnOf s j).2.2.2.2.2[i]? = some y → x = nI i → w = nI n → [nI y.1, nI y.2.1, nI y.2.2.1, y.2.2.2.1, nI y.2.2.2.2][n]? = some v → Φ (.inl (some (.int v))) h) : ac_Mt l d m_PG_body [.ref 0, .int lane, .int x, .int w] h 3 18 Φ := by
  refine ac_enter (by decide) rfl htr (fun _ => Nat.le_of_ble_eq_true rfl) ?_
  refine r_aload_n d_PG_body_0 rfl ?_
  refine r_iload_n d_PG_body_1 rfl ?_
  refine r_lane htr rfl d_PG_body_2 H hd rfl (Nat.le_of_ble_eq_true rfl) (Nat.le_of_ble_eq_true rfl) (Nat.le_of_ble_eq_true rfl) (fun z => hx (Or.inl z)) (fun j hj e => ?_)
  refine r_iload_n d_PG_body_5 rfl ?_
  refine r_body htr rfl d_PG_body_6 (H.ln hj) hd rfl (Nat.le_of_ble_eq_true rfl) (Nat.le_of_ble_eq_true rfl) (Nat.le_of_ble_eq_true rfl) (fun z => hx (Or.inr ⟨j, hj, e, z⟩)) (fun i y a e1 e2 e3 => ?_)
  have bad : out9 w 5 → ac_G (l, d, m_PG_body, 3, 18, Φ, h.length, none) 78 [(4, .ref a), (0, .ref 0), (1, .int lane), (2, .int x), (3, .int w)] [] h (0 + 1 + 1) (0 + 6 + 6) := fun z =>
    r_throw x_A (x_thr rfl (by decide +kernel) el_PG_53 ei_IllegalArgumentException (text := "what is 0 .. 4") (by decide +kernel) x_A_in d_PG_body_78 d_PG_body_81 d_PG_body_82 d_PG_body_84 d_PG_body_87 (by show 6 ≤ d; omega)) rfl (hy j i y hj e e1 e2 z) (Nat.le_of_ble_eq_true rfl) (Nat.le_of_ble_eq_true rfl) (Nat.le_of_ble_eq_true rfl)
  refine r_astore d_PG_body_9 (Nat.le_of_ble_eq_true rfl) ?_
  refine r_iload_n d_PG_body_11 rfl ?_
  rcases pk_ix w (n := 5) (by omega) with c | c | ⟨n, hn, rfl⟩
  · refine r_tableOut 78 d_PG_body_12 (Or.inl (by rw [Int32.lt_iff_toInt_lt] at c; exact c)) (by decide) (bad (out_neg (by omega) c))
  · refine r_tableOut 78 d_PG_body_12 (Or.inr (by rw [Int32.le_iff_toInt_le, nI_toInt (by omega)] at c; omega)) (by decide) (bad (out_big (by omega) c))
  · have ho : ∀ v, [nI y.1, nI y.2.1, nI y.2.2.1, y.2.2.2.1, nI y.2.2.2.2][n]? = some v → Φ (.inl (some (.int v))) h := fun v hv => ha j i y n v hj e e1 e2 rfl hv
    have t1 : ¬ (nI n).toInt < 0 := by rw [nI_toInt (by omega)]; omega
    have t2 : ¬ 4 < (nI n).toInt := by rw [nI_toInt (by omega)]; omega
    rcases (show n = 0 ∨ n = 1 ∨ n = 2 ∨ n = 3 ∨ n = 4 by omega) with q | q | q | q | q <;> subst q
    · refine r_tableIn 48 d_PG_body_12 t1 t2 rfl (by decide) ?_
      refine r_aload d_PG_body_48 rfl ?_
      refine r_getfield d_PG_body_50 f_PG_111 e3 rfl ?_
      exact r_iret d_PG_body_53 rfl (ho _ rfl) (Nat.le_of_ble_eq_true rfl) (Nat.le_of_ble_eq_true rfl)
    · refine r_tableIn 54 d_PG_body_12 t1 t2 rfl (by decide) ?_
      refine r_aload d_PG_body_54 rfl ?_
      refine r_getfield d_PG_body_56 f_PG_116 e3 rfl ?_
      exact r_iret d_PG_body_59 rfl (ho _ rfl) (Nat.le_of_ble_eq_true rfl) (Nat.le_of_ble_eq_true rfl)
    · refine r_tableIn 60 d_PG_body_12 t1 t2 rfl (by decide) ?_
      refine r_aload d_PG_body_60 rfl ?_
      refine r_getfield d_PG_body_62 f_PG_119 e3 rfl ?_
      exact r_iret d_PG_body_65 rfl (ho _ rfl) (Nat.le_of_ble_eq_true rfl) (Nat.le_of_ble_eq_true rfl)
    · refine r_tableIn 66 d_PG_body_12 t1 t2 rfl (by decide) ?_
      refine r_aload d_PG_body_66 rfl ?_
      refine r_getfield d_PG_body_68 f_PG_122 e3 rfl ?_
      exact r_iret d_PG_body_71 rfl (ho _ rfl) (Nat.le_of_ble_eq_true rfl) (Nat.le_of_ble_eq_true rfl)
    · refine r_tableIn 72 d_PG_body_12 t1 t2 rfl (by decide) ?_
      refine r_aload d_PG_body_72 rfl ?_
      refine r_getfield d_PG_body_74 f_PG_125 e3 rfl ?_
      exact r_iret d_PG_body_77 rfl (ho _ rfl) (Nat.le_of_ble_eq_true rfl) (Nat.le_of_ble_eq_true rfl)
/-- the oldest of a queue goes back -/
def sp_canc (s : sp_S) (j i : Nat) (x : Int32 × Int32) (t : sp_Q) : sp_S := ((stL s j (stQ (lnOf s j) i t)).1, s.2.1, s.2.2.1 ++ [x.1], s.2.2.2)
theorem c_PG_cancel {l : Launch} (htr : l.stackTraces = false) {d : Nat} {h : ac_H} {Φ : ac_R → ac_H → Prop} {lane x : Int32} {s : sp_S} (hd : 7 ≤ d) (H : PGs h s) (hcap : ∀ j i, j < 2 → i < 2 → s.2.2.1.length + (qOf (lnOf s j) i).length ≤ 512) (hx : (out9 lane 2 ∨ out9 x 2) → Φ (.inr x_I) h) (ha : ∀ j i, j < 2 → lane = nI j → i < 2 → x = nI i → qOf (lnOf s j) i = [] → Φ (.inl (some (.int (-1)))) h) (hb : ∀ j i y t h', j < 2 → lane = nI j → i < 2 → x = nI i → qOf (lnOf s j) i = y :: t → frP h h' cmp9 → PGs h' (sp_canc s j i y t) → Φ (.inl (some (.int y.1))) h') : ac_Mt l d m_PG_cancel [.ref 0, .int lane, .int x] h 3 18 Φ := by
  refine ac_enter (by decide) rfl htr (fun _ => Nat.le_of_ble_eq_true rfl) ?_
  refine r_aload_n d_PG_cancel_0 rfl ?_
  refine r_iload_n d_PG_cancel_1 rfl ?_
  refine r_lane htr rfl d_PG_cancel_2 H hd rfl (Nat.le_of_ble_eq_true rfl) (Nat.le_of_ble_eq_true rfl) (Nat.le_of_ble_eq_true rfl) (fun z => hx (Or.inl z)) (fun j hj e => ?_)
  refine r_iload_n d_PG_cancel_5 rfl ?_
  refine r_queue htr rfl d_PG_cancel_6 (H.ln hj) hd rfl (Nat.le_of_ble_eq_true rfl) (Nat.le_of_ble_eq_true rfl) (Nat.le_of_ble_eq_true rfl) (fun z => hx (Or.inr z)) (fun i hi e2 => ?_)
  obtain ⟨T, okq⟩ := (H.ln hj).q hi
  have hc := hcap j i hj hi
  have HR := H.2.2.2.2.2.1
  refine r_astore_n d_PG_cancel_9 (Nat.le_of_ble_eq_true rfl) ?_
  refine r_aload_n d_PG_cancel_10 rfl ?_
  refine r_getfield d_PG_cancel_11 f_PG_86 T.1 rfl ?_
  cases hq : qOf (lnOf s j) i with
  | nil =>
    refine r_if_ne 19 d_PG_cancel_14 (by decide) (fun c1 => absurd (by decide) c1) (fun c1 => ?_)
    refine r_iconst (-1) d_PG_cancel_17 (by decide) ?_
    exact r_iret d_PG_cancel_18 rfl (ha j i hj e hi e2 hq) (Nat.le_of_ble_eq_true rfl) (Nat.le_of_ble_eq_true rfl)
  | cons y t =>
    rw [hq] at T hc okq
    rw [List.length_cons] at hc
    refine r_if_ne 19 d_PG_cancel_14 (by decide) (fun c1 => ?_) (fun c1 => absurd c1 (nI_ne0 (by rw [List.length_cons]; omega) (by rw [List.length_cons]; omega)))
    refine r_aload_n d_PG_cancel_19 rfl ?_
    refine r_cVi [] (2 + 25 * j + 7 + 3 * i) (d - 1) 0 0 y.1 (fun h' => fr h h' [2 + 25 * j + 7 + 3 * i, 2 + 25 * j + 7 + 3 * i + 1, 2 + 25 * j + 7 + 3 * i + 2] ∧ TLs h' (2 + 25 * j + 7 + 3 * i) 6 t) d_PG_cancel_20 q_PG_89 T.1 rfl rfl (c_TL_removeOldest htr T (fun e => by cases e) (fun x9 r9 h' e f' H' => by cases e; exact ⟨rfl, f', H'⟩)) (by show d - 1 + 1 ≤ d; omega) (Nat.le_of_ble_eq_true rfl) (Nat.le_of_ble_eq_true rfl) (Nat.le_of_ble_eq_true rfl) (fun h3 e3 => ?_)
    have ho := fr_at e3.1 (b := 0) (by simp only [List.mem_cons, List.not_mem_nil, or_false, not_or]; omega) H.2.1
    have HR3 : Rfs h3 55 s.2.2.1 := HR.fr e3.1 (by simp only [List.mem_cons, List.not_mem_nil, or_false, not_or]; omega) (by simp only [List.mem_cons, List.not_mem_nil, or_false, not_or]; omega)
    refine r_istore d_PG_cancel_23 (Nat.le_of_ble_eq_true rfl) ?_
    refine r_aload_n d_PG_cancel_25 rfl ?_
    refine r_getfield d_PG_cancel_26 f_PG_28 ho rfl ?_
    refine r_iload d_PG_cancel_29 rfl ?_
    refine r_cVv [.int y.1] 55 (d - 1) 0 0 (fun h' => fr h3 h' [55, 55 + 1] ∧ Rfs h' 55 (s.2.2.1 ++ [y.1])) d_PG_cancel_31 q_PG_93 HR3.1 rfl rfl (c_Rf_add htr HR3 (fun _ h' f' H' => ⟨rfl, f', H'⟩) (fun e => absurd e (by omega))) (by show d - 1 + 1 ≤ d; omega) (Nat.le_of_ble_eq_true rfl) (Nat.le_of_ble_eq_true rfl) (Nat.le_of_ble_eq_true rfl) (fun h4 e4 => ?_)
    have FF : fr h h4 [2 + 25 * j + 7 + 3 * i, 2 + 25 * j + 7 + 3 * i + 1, 2 + 25 * j + 7 + 3 * i + 2, 55, 56] := fr_tr e3.1 e4.1 (fun x hx => by simp at hx ⊢; omega) (fun x hx => by simp at hx ⊢; omega)
    have HL3 := (H.ln hj).setq hi e3.1 e3.2 (fun x hx => okq x (List.mem_cons_of_mem _ hx))
    have HL4 : Lns h4 (2 + 25 * j) (stQ (lnOf s j) i t) := HL3.pt (fun k hk => e4.1.2 _ (by simp; omega))
    refine r_iload d_PG_cancel_34 rfl ?_
    exact r_iret d_PG_cancel_36 rfl (hb j i y t h4 hj e hi e2 hq (frP_of FF (fun x hx => by simp at hx; show x < 57; omega)) (H.lane hj (frP_of FF (fun x hx => by simp at hx; unfold inL; omega)) HL4 e4.2)) (Nat.le_of_ble_eq_true rfl) (Nat.le_of_ble_eq_true rfl)
