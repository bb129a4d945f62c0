/-! THE LAW'S HELPERS -/
def okV (h : ac_H) (q : sp_A) (r : ac_R) (h' : ac_H) : Prop := r = .inl (some (.int (nI q.1))) ∧ PGs h' q.2.2 ∧ (∀ x, 57 ≤ x → x < 83 → h'[x]? = h[x]?) ∧ ∃ fo', h'[83]? = some (.inl (.inr (.inl (1, fo'))))
def okL (h : ac_H) (q : sp_A) (r : ac_R) (h' : ac_H) : Prop := r = .inl (some (.int (nI q.1))) ∧ PGs h' q.2.2 ∧ (∀ x, 57 ≤ x → x < 83 → h'[x]? = h[x]?) ∧ ∃ fo', h'[83]? = some (.inl (.inr (.inl (1, fo')))) ∧ (q.1 = 0 → fo' 0 = q.2.1.toInt64)
theorem rI_l {q : sp_A} {r : Option Value} (h : Sum.inl r = rI q) : q.1 = 0 ∧ r = some (.int q.2.1) := by
  obtain ⟨k, v, s⟩ := q
  match k, h with
  | 0, h => exact ⟨rfl, Sum.inl.inj h⟩
  | 1, h => cases h
  | 2, h => cases h
  | _ + 3, h => cases h
theorem rI_r {q : sp_A} {E : String} (h : Sum.inr E = rI q) : (q.1 = 1 ∧ E = x_I) ∨ (q.1 = 2 ∧ E = x_A) ∨ (2 < q.1 ∧ E = x_S) := by
  obtain ⟨k, v, s⟩ := q
  match k, h with
  | 0, h => cases h
  | 1, h => exact Or.inl ⟨rfl, Sum.inr.inj h⟩
  | 2, h => exact Or.inr (Or.inl ⟨rfl, Sum.inr.inj h⟩)
  | n + 3, h => exact Or.inr (Or.inr ⟨by show 2 < n + 3; omega, Sum.inr.inj h⟩)
theorem rA_l {q : sp_A} {r : Option Value} (h : Sum.inl r = rA q) : q.1 = 0 ∧ r = some (.int q.2.1) := by
  obtain ⟨k, v, s⟩ := q
  match k, h with
  | 0, h => exact ⟨rfl, Sum.inl.inj h⟩
  | _ + 1, h => cases h
theorem rA_r {q : sp_A} {E : String} (h : Sum.inr E = rA q) : 0 < q.1 ∧ E = x_A := by
  obtain ⟨k, v, s⟩ := q
  match k, h with
  | 0, h => cases h
  | n + 1, h => exact ⟨Nat.succ_pos n, Sum.inr.inj h⟩
theorem rV_l {q : sp_A} {r : Option Value} (h : Sum.inl r = rV q) : q.1 = 0 ∧ r = none := by
  obtain ⟨k, v, s⟩ := q
  match k, h with
  | 0, h => exact ⟨rfl, Sum.inl.inj h⟩
  | _ + 1, h => cases h
theorem rV_r {q : sp_A} {E : String} (h : Sum.inr E = rV q) : 0 < q.1 ∧ E = x_I := by
  obtain ⟨k, v, s⟩ := q
  match k, h with
  | 0, h => cases h
  | n + 1, h => exact ⟨Nat.succ_pos n, Sum.inr.inj h⟩
theorem qle_beams {s : sp_S} {a1 a2 : Int32} : (q_beams s a1 a2).1 ≤ 1 := by
  unfold q_beams
  repeat' split
  all_goals exact Nat.le_of_ble_eq_true rfl
theorem qle_ticks {s : sp_S} {a1 : Int32} : (q_ticks s a1).1 ≤ 1 := by
  unfold q_ticks
  repeat' split
  all_goals exact Nat.le_of_ble_eq_true rfl
theorem qle_token {s : sp_S} {a1 a2 a3 : Int32} : (q_token s a1 a2 a3).1 ≤ 2 := by
  unfold q_token
  repeat' split
  all_goals exact Nat.le_of_ble_eq_true rfl
theorem qle_cancel {s : sp_S} {a1 a2 : Int32} : (q_cancel s a1 a2).1 ≤ 1 := by
  unfold q_cancel
  repeat' split
  all_goals exact Nat.le_of_ble_eq_true rfl
theorem qle_mode {s : sp_S} {a1 a2 : Int32} : (q_mode s a1 a2).1 ≤ 3 := by
  unfold q_mode
  repeat' split
  all_goals exact Nat.le_of_ble_eq_true rfl
theorem qle_body {s : sp_S} {a1 a2 a3 : Int32} : (q_body s a1 a2 a3).1 ≤ 2 := by
  unfold q_body
  repeat' split
  all_goals exact Nat.le_of_ble_eq_true rfl
theorem qle_waiting {s : sp_S} {a1 a2 : Int32} : (q_waiting s a1 a2).1 ≤ 1 := by
  unfold q_waiting
  repeat' split
  all_goals exact Nat.le_of_ble_eq_true rfl
theorem qle_waits {s : sp_S} {a1 a2 a3 : Int32} : (q_waits s a1 a2 a3).1 ≤ 1 := by
  unfold q_waits
  repeat' split
  all_goals exact Nat.le_of_ble_eq_true rfl
theorem qle_count {s : sp_S} {a1 a2 : Int32} : (q_count s a1 a2).1 ≤ 1 := by
  unfold q_count
  repeat' split
  all_goals exact Nat.le_of_ble_eq_true rfl
theorem qle_look {s : sp_S} {a1 : Int32} {v : sp_L → Int32} : (q_look s a1 v).1 ≤ 1 := by
  unfold q_look
  repeat' split
  all_goals exact Nat.le_of_ble_eq_true rfl
theorem c_La_beams {l : Launch} (htr : l.stackTraces = false) {d : Nat} {h : ac_H} {a1 a2 : Int32} {s : sp_S} {fo : Nat → Int64} (hd : 8 ≤ d) (H : PGs h s) (ho : h[83]? = some (.inl (.inr (.inl (1, fo)))))  : ac_MtW l d m_La_beams [.ref 0, .int a1, .int a2] h 3 18 (okV h (q_beams s a1 a2)) := by
  have hle := qle_beams (s := s) (a1 := a1) (a2 := a2)
  refine ac_enterW (by decide) (fun E h9 z => nomatch z.1) (fun _ => Nat.le_of_ble_eq_true rfl) ?_
  refine r_aload_n d_La_beams_0 rfl ?_
  refine r_iload_n d_La_beams_1 rfl ?_
  refine r_iload_n d_La_beams_2 rfl ?_
  refine r_callV [.int a1, .int a2] 0 (d - 1) 3 18 (Ψ := okP h (q_beams s a1 a2) rV) d_La_beams_3 q_La_7 H.2.1 rfl rfl (k_PG_beams htr (by omega) H) (by show d - 1 + 1 ≤ d; omega) (Nat.le_of_ble_eq_true rfl) (Nat.le_of_ble_eq_true rfl) (Nat.le_of_ble_eq_true rfl) (fun r h2 hp _ => ?_) (fun E h2 hp _ => ?_)
  · obtain ⟨e1, f1, H1⟩ := hp
    obtain ⟨q0, e2⟩ := rV_l e1
    subst e2
    have ho2 : h2[83]? = some (.inl (.inr (.inl (1, fo)))) := (f1.2 83 (by show ¬ 83 < 57; omega)).trans ho
    have hk : ∀ x, 57 ≤ x → x < 83 → h2[x]? = h[x]? := fun x hx _ => f1.2 x (by show ¬ x < 57; omega)
    refine r_goto 12 d_La_beams_6 (by decide) ?_
    refine r_iconst 0 d_La_beams_12 (by decide) ?_
    refine r_ri nI_0.symm ?_
    exact r_iret d_La_beams_13 rfl ⟨by rw [q0], H1, hk, fo, ho2⟩ (Nat.le_of_ble_eq_true rfl) (Nat.le_of_ble_eq_true rfl)
  · obtain ⟨e1, f1, H1⟩ := hp
    have ho2 : h2[83]? = some (.inl (.inr (.inl (1, fo)))) := (f1.2 83 (by show ¬ 83 < 57; omega)).trans ho
    have hk : ∀ x, 57 ≤ x → x < 83 → h2[x]? = h[x]? := fun x hx _ => f1.2 x (by show ¬ x < 57; omega)
    obtain ⟨q1, e2⟩ := rV_r e1
    have q1 : (q_beams s a1 a2).1 = 1 := by omega
    subst e2
    refine Or.inr ⟨[], [], (0, 6, 9, 13), x_I, 3, 1, rfl, (fun y hy => nomatch hy), by decide, by decide, el_La_13, by decide +kernel, Or.inl ⟨3, rfl, rfl, d_La_beams_9⟩, (Nat.le_of_ble_eq_true rfl), ?_⟩
    refine r_iconst 1 d_La_beams_10 (by decide) ?_
    refine r_ri nI1 ?_
    exact r_iret d_La_beams_11 rfl ⟨by rw [q1], H1, hk, fo, ho2⟩ (Nat.le_of_ble_eq_true rfl) (Nat.le_of_ble_eq_true rfl)
theorem c_La_ticks {l : Launch} (htr : l.stackTraces = false) {d : Nat} {h : ac_H} {a1 : Int32} {s : sp_S} {fo : Nat → Int64} (hd : 8 ≤ d) (H : PGs h s) (ho : h[83]? = some (.inl (.inr (.inl (1, fo))))) (hcap : cap s ≤ 512) : ac_MtW l d m_La_ticks [.ref 0, .int a1, .ref 83] h 3 18 (okL h (q_ticks s a1)) := by
  have hle := qle_ticks (s := s) (a1 := a1)
  refine ac_enterW (by decide) (fun E h9 z => nomatch z.1) (fun _ => Nat.le_of_ble_eq_true rfl) ?_
  refine r_aload_n d_La_ticks_0 rfl ?_
  refine r_iconst 0 d_La_ticks_1 (by decide) ?_
  refine r_aload_n d_La_ticks_2 rfl ?_
  refine r_iload_n d_La_ticks_3 rfl ?_
  refine r_callV [.int a1] 0 (d - 1) 3 18 (Ψ := okP h (q_ticks s a1) rA) d_La_ticks_4 q_La_15 H.2.1 rfl rfl (k_PG_ticks htr (by omega) H hcap) (by show d - 1 + 1 ≤ d; omega) (Nat.le_of_ble_eq_true rfl) (Nat.le_of_ble_eq_true rfl) (Nat.le_of_ble_eq_true rfl) (fun r h2 hp _ => ?_) (fun E h2 hp _ => ?_)
  · obtain ⟨e1, f1, H1⟩ := hp
    obtain ⟨q0, e2⟩ := rA_l e1
    subst e2
    have ho2 : h2[83]? = some (.inl (.inr (.inl (1, fo)))) := (f1.2 83 (by show ¬ 83 < 57; omega)).trans ho
    have hk : ∀ x, 57 ≤ x → x < 83 → h2[x]? = h[x]? := fun x hx _ => f1.2 x (by show ¬ x < 57; omega)
    refine r_i2l d_La_ticks_7 ?_
    refine r_lastore d_La_ticks_8 ho2 (by unfold vp_in; decide) ?_
    refine r_goto 15 d_La_ticks_9 (by decide) ?_
    refine r_iconst 0 d_La_ticks_15 (by decide) ?_
    refine r_ri nI_0.symm ?_
    refine r_iret d_La_ticks_16 rfl ⟨by rw [q0], H1.pt (fun x hx => List.getElem?_set_ne (by omega)), fun x h1 h2 => (List.getElem?_set_ne (by omega)).trans (hk x h1 h2), _, set_at ho2, fun _ => ?_⟩ (Nat.le_of_ble_eq_true rfl) (Nat.le_of_ble_eq_true rfl)
    rfl
  · obtain ⟨e1, f1, H1⟩ := hp
    have ho2 : h2[83]? = some (.inl (.inr (.inl (1, fo)))) := (f1.2 83 (by show ¬ 83 < 57; omega)).trans ho
    have hk : ∀ x, 57 ≤ x → x < 83 → h2[x]? = h[x]? := fun x hx _ => f1.2 x (by show ¬ x < 57; omega)
    obtain ⟨q1, e2⟩ := rA_r e1
    have q1 : (q_ticks s a1).1 = 1 := by omega
    subst e2
    refine Or.inr ⟨[], [], (0, 9, 12, 19), x_A, 3, 1, rfl, (fun y hy => nomatch hy), by decide, by decide, el_La_19, by decide +kernel, Or.inl ⟨3, rfl, rfl, d_La_ticks_12⟩, (Nat.le_of_ble_eq_true rfl), ?_⟩
    refine r_iconst 1 d_La_ticks_13 (by decide) ?_
    refine r_ri nI1 ?_
    exact r_iret d_La_ticks_14 rfl ⟨by rw [q1], H1, hk, fo, ho2, fun z => by omega⟩ (Nat.le_of_ble_eq_true rfl) (Nat.le_of_ble_eq_true rfl)
theorem c_La_token {l : Launch} (htr : l.stackTraces = false) {d : Nat} {h : ac_H} {a1 a2 a3 : Int32} {s : sp_S} {fo : Nat → Int64} (hd : 8 ≤ d) (H : PGs h s) (ho : h[83]? = some (.inl (.inr (.inl (1, fo))))) (hcap : s.2.1.length < 512) : ac_MtW l d m_La_token [.ref 0, .int a1, .int a2, .int a3, .ref 83] h 3 18 (okL h (q_token s a1 a2 a3)) := by
  have hle := qle_token (s := s) (a1 := a1) (a2 := a2) (a3 := a3)
  refine ac_enterW (by decide) (fun E h9 z => nomatch z.1) (fun _ => Nat.le_of_ble_eq_true rfl) ?_
  refine r_aload d_La_token_0 rfl ?_
  refine r_iconst 0 d_La_token_2 (by decide) ?_
  refine r_aload_n d_La_token_3 rfl ?_
  refine r_iload_n d_La_token_4 rfl ?_
  refine r_iload_n d_La_token_5 rfl ?_
  refine r_iload_n d_La_token_6 rfl ?_
  refine r_callV [.int a1, .int a2, .int a3] 0 (d - 1) 3 18 (Ψ := okP h (q_token s a1 a2 a3) rI) d_La_token_7 q_La_21 H.2.1 rfl rfl (k_PG_token htr (by omega) H hcap) (by show d - 1 + 1 ≤ d; omega) (Nat.le_of_ble_eq_true rfl) (Nat.le_of_ble_eq_true rfl) (Nat.le_of_ble_eq_true rfl) (fun r h2 hp _ => ?_) (fun E h2 hp _ => ?_)
  · obtain ⟨e1, f1, H1⟩ := hp
    obtain ⟨q0, e2⟩ := rI_l e1
    subst e2
    have ho2 : h2[83]? = some (.inl (.inr (.inl (1, fo)))) := (f1.2 83 (by show ¬ 83 < 57; omega)).trans ho
    have hk : ∀ x, 57 ≤ x → x < 83 → h2[x]? = h[x]? := fun x hx _ => f1.2 x (by show ¬ x < 57; omega)
    refine r_i2l d_La_token_10 ?_
    refine r_lastore d_La_token_11 ho2 (by unfold vp_in; decide) ?_
    refine r_goto 23 d_La_token_12 (by decide) ?_
    refine r_iconst 0 d_La_token_23 (by decide) ?_
    refine r_ri nI_0.symm ?_
    refine r_iret d_La_token_24 rfl ⟨by rw [q0], H1.pt (fun x hx => List.getElem?_set_ne (by omega)), fun x h1 h2 => (List.getElem?_set_ne (by omega)).trans (hk x h1 h2), _, set_at ho2, fun _ => ?_⟩ (Nat.le_of_ble_eq_true rfl) (Nat.le_of_ble_eq_true rfl)
    rfl
  · obtain ⟨e1, f1, H1⟩ := hp
    have ho2 : h2[83]? = some (.inl (.inr (.inl (1, fo)))) := (f1.2 83 (by show ¬ 83 < 57; omega)).trans ho
    have hk : ∀ x, 57 ≤ x → x < 83 → h2[x]? = h[x]? := fun x hx _ => f1.2 x (by show ¬ x < 57; omega)
    rcases rI_r e1 with ⟨q1, e2⟩ | ⟨q1, e2⟩ | ⟨q1, e2⟩
    · subst e2
      refine Or.inr ⟨[], [(0, 12, 19, 19)], (0, 12, 15, 13), x_I, 5, 2, rfl, (fun y hy => nomatch hy), by decide, by decide, el_La_13, by decide +kernel, Or.inr ⟨rfl, d_La_token_15⟩, (Nat.le_of_ble_eq_true rfl), ?_⟩
      refine r_iconst 1 d_La_token_17 (by decide) ?_
      refine r_ri nI1 ?_
      exact r_iret d_La_token_18 rfl ⟨by rw [q1], H1, hk, fo, ho2, fun z => by omega⟩ (Nat.le_of_ble_eq_true rfl) (Nat.le_of_ble_eq_true rfl)
    · subst e2
      refine Or.inr ⟨[(0, 12, 15, 13)], [], (0, 12, 19, 19), x_A, 5, 2, rfl, (fun y hy => by
          simp only [tableOf, List.map_cons, List.map_nil, List.mem_cons, List.not_mem_nil, or_false] at hy
          rcases hy with rfl
          · exact Or.inr ⟨by decide, x_I, el_La_13, by decide +kernel⟩), by decide, by decide, el_La_19, by decide +kernel, Or.inr ⟨rfl, d_La_token_19⟩, (Nat.le_of_ble_eq_true rfl), ?_⟩
      refine r_iconst 2 d_La_token_21 (by decide) ?_
      refine r_ri nI2 ?_
      exact r_iret d_La_token_22 rfl ⟨by rw [q1], H1, hk, fo, ho2, fun z => by omega⟩ (Nat.le_of_ble_eq_true rfl) (Nat.le_of_ble_eq_true rfl)
    · exact absurd hle (by omega)
theorem c_La_cancel {l : Launch} (htr : l.stackTraces = false) {d : Nat} {h : ac_H} {a1 a2 : Int32} {s : sp_S} {fo : Nat → Int64} (hd : 8 ≤ d) (H : PGs h s) (ho : h[83]? = some (.inl (.inr (.inl (1, fo))))) (hcap : ∀ j i, j < 2 → i < 2 → s.2.2.1.length + (qOf (lnOf s j) i).length ≤ 512) : ac_MtW l d m_La_cancel [.ref 0, .int a1, .int a2, .ref 83] h 3 18 (okL h (q_cancel s a1 a2)) := by
  have hle := qle_cancel (s := s) (a1 := a1) (a2 := a2)
  refine ac_enterW (by decide) (fun E h9 z => nomatch z.1) (fun _ => Nat.le_of_ble_eq_true rfl) ?_
  refine r_aload_n d_La_cancel_0 rfl ?_
  refine r_iconst 0 d_La_cancel_1 (by decide) ?_
  refine r_aload_n d_La_cancel_2 rfl ?_
  refine r_iload_n d_La_cancel_3 rfl ?_
  refine r_iload_n d_La_cancel_4 rfl ?_
  refine r_callV [.int a1, .int a2] 0 (d - 1) 3 18 (Ψ := okP h (q_cancel s a1 a2) rI) d_La_cancel_5 q_La_25 H.2.1 rfl rfl (k_PG_cancel htr (by omega) H hcap) (by show d - 1 + 1 ≤ d; omega) (Nat.le_of_ble_eq_true rfl) (Nat.le_of_ble_eq_true rfl) (Nat.le_of_ble_eq_true rfl) (fun r h2 hp _ => ?_) (fun E h2 hp _ => ?_)
  · obtain ⟨e1, f1, H1⟩ := hp
    obtain ⟨q0, e2⟩ := rI_l e1
    subst e2
    have ho2 : h2[83]? = some (.inl (.inr (.inl (1, fo)))) := (f1.2 83 (by show ¬ 83 < 57; omega)).trans ho
    have hk : ∀ x, 57 ≤ x → x < 83 → h2[x]? = h[x]? := fun x hx _ => f1.2 x (by show ¬ x < 57; omega)
    refine r_i2l d_La_cancel_8 ?_
    refine r_lastore d_La_cancel_9 ho2 (by unfold vp_in; decide) ?_
    refine r_goto 17 d_La_cancel_10 (by decide) ?_
    refine r_iconst 0 d_La_cancel_17 (by decide) ?_
    refine r_ri nI_0.symm ?_
    refine r_iret d_La_cancel_18 rfl ⟨by rw [q0], H1.pt (fun x hx => List.getElem?_set_ne (by omega)), fun x h1 h2 => (List.getElem?_set_ne (by omega)).trans (hk x h1 h2), _, set_at ho2, fun _ => ?_⟩ (Nat.le_of_ble_eq_true rfl) (Nat.le_of_ble_eq_true rfl)
    rfl
  · obtain ⟨e1, f1, H1⟩ := hp
    have ho2 : h2[83]? = some (.inl (.inr (.inl (1, fo)))) := (f1.2 83 (by show ¬ 83 < 57; omega)).trans ho
    have hk : ∀ x, 57 ≤ x → x < 83 → h2[x]? = h[x]? := fun x hx _ => f1.2 x (by show ¬ x < 57; omega)
    rcases rI_r e1 with ⟨q1, e2⟩ | ⟨q1, e2⟩ | ⟨q1, e2⟩
    · subst e2
      refine Or.inr ⟨[], [], (0, 10, 13, 13), x_I, 4, 2, rfl, (fun y hy => nomatch hy), by decide, by decide, el_La_13, by decide +kernel, Or.inr ⟨rfl, d_La_cancel_13⟩, (Nat.le_of_ble_eq_true rfl), ?_⟩
      refine r_iconst 1 d_La_cancel_15 (by decide) ?_
      refine r_ri nI1 ?_
      exact r_iret d_La_cancel_16 rfl ⟨by rw [q1], H1, hk, fo, ho2, fun z => by omega⟩ (Nat.le_of_ble_eq_true rfl) (Nat.le_of_ble_eq_true rfl)
    · exact absurd hle (by omega)
    · exact absurd hle (by omega)
theorem c_La_mode {l : Launch} (htr : l.stackTraces = false) {d : Nat} {h : ac_H} {a1 a2 : Int32} {s : sp_S} {fo : Nat → Int64} (hd : 8 ≤ d) (H : PGs h s) (ho : h[83]? = some (.inl (.inr (.inl (1, fo))))) (hcap : ∀ j, j < 2 → s.2.2.1.length + (lnOf s j).2.2.1.1.length + (lnOf s j).2.2.1.2.length ≤ 512) : ac_MtW l d m_La_mode [.ref 0, .int a1, .int a2, .ref 83] h 3 18 (okL h (q_mode s a1 a2)) := by
  have hle := qle_mode (s := s) (a1 := a1) (a2 := a2)
  refine ac_enterW (by decide) (fun E h9 z => nomatch z.1) (fun _ => Nat.le_of_ble_eq_true rfl) ?_
  refine r_aload_n d_La_mode_0 rfl ?_
  refine r_iconst 0 d_La_mode_1 (by decide) ?_
  refine r_aload_n d_La_mode_2 rfl ?_
  refine r_iload_n d_La_mode_3 rfl ?_
  refine r_iload_n d_La_mode_4 rfl ?_
  refine r_callV [.int a1, .int a2] 0 (d - 1) 3 18 (Ψ := okP h (q_mode s a1 a2) rI) d_La_mode_5 q_La_29 H.2.1 rfl rfl (k_PG_mode htr (by omega) H hcap) (by show d - 1 + 1 ≤ d; omega) (Nat.le_of_ble_eq_true rfl) (Nat.le_of_ble_eq_true rfl) (Nat.le_of_ble_eq_true rfl) (fun r h2 hp _ => ?_) (fun E h2 hp _ => ?_)
  · obtain ⟨e1, f1, H1⟩ := hp
    obtain ⟨q0, e2⟩ := rI_l e1
    subst e2
    have ho2 : h2[83]? = some (.inl (.inr (.inl (1, fo)))) := (f1.2 83 (by show ¬ 83 < 57; omega)).trans ho
    have hk : ∀ x, 57 ≤ x → x < 83 → h2[x]? = h[x]? := fun x hx _ => f1.2 x (by show ¬ x < 57; omega)
    refine r_i2l d_La_mode_8 ?_
    refine r_lastore d_La_mode_9 ho2 (by unfold vp_in; decide) ?_
    refine r_goto 25 d_La_mode_10 (by decide) ?_
    refine r_iconst 0 d_La_mode_25 (by decide) ?_
    refine r_ri nI_0.symm ?_
    refine r_iret d_La_mode_26 rfl ⟨by rw [q0], H1.pt (fun x hx => List.getElem?_set_ne (by omega)), fun x h1 h2 => (List.getElem?_set_ne (by omega)).trans (hk x h1 h2), _, set_at ho2, fun _ => ?_⟩ (Nat.le_of_ble_eq_true rfl) (Nat.le_of_ble_eq_true rfl)
    rfl
  · obtain ⟨e1, f1, H1⟩ := hp
    have ho2 : h2[83]? = some (.inl (.inr (.inl (1, fo)))) := (f1.2 83 (by show ¬ 83 < 57; omega)).trans ho
    have hk : ∀ x, 57 ≤ x → x < 83 → h2[x]? = h[x]? := fun x hx _ => f1.2 x (by show ¬ x < 57; omega)
    rcases rI_r e1 with ⟨q1, e2⟩ | ⟨q1, e2⟩ | ⟨q1, e2⟩
    · subst e2
      refine Or.inr ⟨[], [(0, 10, 17, 19), (0, 10, 21, 32)], (0, 10, 13, 13), x_I, 4, 2, rfl, (fun y hy => nomatch hy), by decide, by decide, el_La_13, by decide +kernel, Or.inr ⟨rfl, d_La_mode_13⟩, (Nat.le_of_ble_eq_true rfl), ?_⟩
      refine r_iconst 1 d_La_mode_15 (by decide) ?_
      refine r_ri nI1 ?_
      exact r_iret d_La_mode_16 rfl ⟨by rw [q1], H1, hk, fo, ho2, fun z => by omega⟩ (Nat.le_of_ble_eq_true rfl) (Nat.le_of_ble_eq_true rfl)
    · subst e2
      refine Or.inr ⟨[(0, 10, 13, 13)], [(0, 10, 21, 32)], (0, 10, 17, 19), x_A, 4, 2, rfl, (fun y hy => by
          simp only [tableOf, List.map_cons, List.map_nil, List.mem_cons, List.not_mem_nil, or_false] at hy
          rcases hy with rfl
          · exact Or.inr ⟨by decide, x_I, el_La_13, by decide +kernel⟩), by decide, by decide, el_La_19, by decide +kernel, Or.inr ⟨rfl, d_La_mode_17⟩, (Nat.le_of_ble_eq_true rfl), ?_⟩
      refine r_iconst 2 d_La_mode_19 (by decide) ?_
      refine r_ri nI2 ?_
      exact r_iret d_La_mode_20 rfl ⟨by rw [q1], H1, hk, fo, ho2, fun z => by omega⟩ (Nat.le_of_ble_eq_true rfl) (Nat.le_of_ble_eq_true rfl)
    · have q1 : (q_mode s a1 a2).1 = 3 := by omega
      subst e2
      refine Or.inr ⟨[(0, 10, 13, 13), (0, 10, 17, 19)], [], (0, 10, 21, 32), x_S, 4, 2, rfl, (fun y hy => by
          simp only [tableOf, List.map_cons, List.map_nil, List.mem_cons, List.not_mem_nil, or_false] at hy
          rcases hy with rfl | rfl
          · exact Or.inr ⟨by decide, x_I, el_La_13, by decide +kernel⟩
          · exact Or.inr ⟨by decide, x_A, el_La_19, by decide +kernel⟩), by decide, by decide, el_La_32, by decide +kernel, Or.inr ⟨rfl, d_La_mode_21⟩, (Nat.le_of_ble_eq_true rfl), ?_⟩
      refine r_iconst 3 d_La_mode_23 (by decide) ?_
      refine r_ri nI3 ?_
      exact r_iret d_La_mode_24 rfl ⟨by rw [q1], H1, hk, fo, ho2, fun z => by omega⟩ (Nat.le_of_ble_eq_true rfl) (Nat.le_of_ble_eq_true rfl)
theorem c_La_bodies {l : Launch} (htr : l.stackTraces = false) {d : Nat} {h : ac_H} {a1 : Int32} {s : sp_S} {fo : Nat → Int64} (hd : 8 ≤ d) (H : PGs h s) (ho : h[83]? = some (.inl (.inr (.inl (1, fo)))))  : ac_MtW l d m_La_bodies [.ref 0, .int a1, .ref 83] h 3 18 (okL h (q_look s a1 (fun L => nI L.2.2.2.2.2.length))) := by
  have hle := qle_look (s := s) (a1 := a1) (v := fun L => nI L.2.2.2.2.2.length)
  refine ac_enterW (by decide) (fun E h9 z => nomatch z.1) (fun _ => Nat.le_of_ble_eq_true rfl) ?_
  refine r_aload_n d_La_bodies_0 rfl ?_
  refine r_iconst 0 d_La_bodies_1 (by decide) ?_
  refine r_aload_n d_La_bodies_2 rfl ?_
  refine r_iload_n d_La_bodies_3 rfl ?_
  refine r_callV [.int a1] 0 (d - 1) 3 18 (Ψ := okP h (q_look s a1 (fun L => nI L.2.2.2.2.2.length)) rI) d_La_bodies_4 q_La_34 H.2.1 rfl rfl (k_PG_bodies htr (by omega) H) (by show d - 1 + 1 ≤ d; omega) (Nat.le_of_ble_eq_true rfl) (Nat.le_of_ble_eq_true rfl) (Nat.le_of_ble_eq_true rfl) (fun r h2 hp _ => ?_) (fun E h2 hp _ => ?_)
  · obtain ⟨e1, f1, H1⟩ := hp
    obtain ⟨q0, e2⟩ := rI_l e1
    subst e2
    have ho2 : h2[83]? = some (.inl (.inr (.inl (1, fo)))) := (f1.2 83 (by show ¬ 83 < 57; omega)).trans ho
    have hk : ∀ x, 57 ≤ x → x < 83 → h2[x]? = h[x]? := fun x hx _ => f1.2 x (by show ¬ x < 57; omega)
    refine r_i2l d_La_bodies_7 ?_
    refine r_lastore d_La_bodies_8 ho2 (by unfold vp_in; decide) ?_
    refine r_goto 15 d_La_bodies_9 (by decide) ?_
    refine r_iconst 0 d_La_bodies_15 (by decide) ?_
    refine r_ri nI_0.symm ?_
    refine r_iret d_La_bodies_16 rfl ⟨by rw [q0], H1.pt (fun x hx => List.getElem?_set_ne (by omega)), fun x h1 h2 => (List.getElem?_set_ne (by omega)).trans (hk x h1 h2), _, set_at ho2, fun _ => ?_⟩ (Nat.le_of_ble_eq_true rfl) (Nat.le_of_ble_eq_true rfl)
    rfl
  · obtain ⟨e1, f1, H1⟩ := hp
    have ho2 : h2[83]? = some (.inl (.inr (.inl (1, fo)))) := (f1.2 83 (by show ¬ 83 < 57; omega)).trans ho
    have hk : ∀ x, 57 ≤ x → x < 83 → h2[x]? = h[x]? := fun x hx _ => f1.2 x (by show ¬ x < 57; omega)
    rcases rI_r e1 with ⟨q1, e2⟩ | ⟨q1, e2⟩ | ⟨q1, e2⟩
    · subst e2
      refine Or.inr ⟨[], [], (0, 9, 12, 13), x_I, 3, 1, rfl, (fun y hy => nomatch hy), by decide, by decide, el_La_13, by decide +kernel, Or.inl ⟨3, rfl, rfl, d_La_bodies_12⟩, (Nat.le_of_ble_eq_true rfl), ?_⟩
      refine r_iconst 1 d_La_bodies_13 (by decide) ?_
      refine r_ri nI1 ?_
      exact r_iret d_La_bodies_14 rfl ⟨by rw [q1], H1, hk, fo, ho2, fun z => by omega⟩ (Nat.le_of_ble_eq_true rfl) (Nat.le_of_ble_eq_true rfl)
    · exact absurd hle (by omega)
    · exact absurd hle (by omega)
theorem c_La_body {l : Launch} (htr : l.stackTraces = false) {d : Nat} {h : ac_H} {a1 a2 a3 : Int32} {s : sp_S} {fo : Nat → Int64} (hd : 8 ≤ d) (H : PGs h s) (ho : h[83]? = some (.inl (.inr (.inl (1, fo)))))  : ac_MtW l d m_La_body [.ref 0, .int a1, .int a2, .int a3, .ref 83] h 3 18 (okL h (q_body s a1 a2 a3)) := by
  have hle := qle_body (s := s) (a1 := a1) (a2 := a2) (a3 := a3)
  refine ac_enterW (by decide) (fun E h9 z => nomatch z.1) (fun _ => Nat.le_of_ble_eq_true rfl) ?_
  refine r_aload d_La_body_0 rfl ?_
  refine r_iconst 0 d_La_body_2 (by decide) ?_
  refine r_aload_n d_La_body_3 rfl ?_
  refine r_iload_n d_La_body_4 rfl ?_
  refine r_iload_n d_La_body_5 rfl ?_
  refine r_iload_n d_La_body_6 rfl ?_
  refine r_callV [.int a1, .int a2, .int a3] 0 (d - 1) 3 18 (Ψ := okP h (q_body s a1 a2 a3) rI) d_La_body_7 q_La_37 H.2.1 rfl rfl (k_PG_body htr (by omega) H) (by show d - 1 + 1 ≤ d; omega) (Nat.le_of_ble_eq_true rfl) (Nat.le_of_ble_eq_true rfl) (Nat.le_of_ble_eq_true rfl) (fun r h2 hp _ => ?_) (fun E h2 hp _ => ?_)
  · obtain ⟨e1, f1, H1⟩ := hp
    obtain ⟨q0, e2⟩ := rI_l e1
    subst e2
    have ho2 : h2[83]? = some (.inl (.inr (.inl (1, fo)))) := (f1.2 83 (by show ¬ 83 < 57; omega)).trans ho
    have hk : ∀ x, 57 ≤ x → x < 83 → h2[x]? = h[x]? := fun x hx _ => f1.2 x (by show ¬ x < 57; omega)
    refine r_i2l d_La_body_10 ?_
    refine r_lastore d_La_body_11 ho2 (by unfold vp_in; decide) ?_
    refine r_goto 23 d_La_body_12 (by decide) ?_
    refine r_iconst 0 d_La_body_23 (by decide) ?_
    refine r_ri nI_0.symm ?_
    refine r_iret d_La_body_24 rfl ⟨by rw [q0], H1.pt (fun x hx => List.getElem?_set_ne (by omega)), fun x h1 h2 => (List.getElem?_set_ne (by omega)).trans (hk x h1 h2), _, set_at ho2, fun _ => ?_⟩ (Nat.le_of_ble_eq_true rfl) (Nat.le_of_ble_eq_true rfl)
    rfl
  · obtain ⟨e1, f1, H1⟩ := hp
    have ho2 : h2[83]? = some (.inl (.inr (.inl (1, fo)))) := (f1.2 83 (by show ¬ 83 < 57; omega)).trans ho
    have hk : ∀ x, 57 ≤ x → x < 83 → h2[x]? = h[x]? := fun x hx _ => f1.2 x (by show ¬ x < 57; omega)
    rcases rI_r e1 with ⟨q1, e2⟩ | ⟨q1, e2⟩ | ⟨q1, e2⟩
    · subst e2
      refine Or.inr ⟨[], [(0, 12, 19, 19)], (0, 12, 15, 13), x_I, 5, 2, rfl, (fun y hy => nomatch hy), by decide, by decide, el_La_13, by decide +kernel, Or.inr ⟨rfl, d_La_body_15⟩, (Nat.le_of_ble_eq_true rfl), ?_⟩
      refine r_iconst 1 d_La_body_17 (by decide) ?_
      refine r_ri nI1 ?_
      exact r_iret d_La_body_18 rfl ⟨by rw [q1], H1, hk, fo, ho2, fun z => by omega⟩ (Nat.le_of_ble_eq_true rfl) (Nat.le_of_ble_eq_true rfl)
    · subst e2
      refine Or.inr ⟨[(0, 12, 15, 13)], [], (0, 12, 19, 19), x_A, 5, 2, rfl, (fun y hy => by
          simp only [tableOf, List.map_cons, List.map_nil, List.mem_cons, List.not_mem_nil, or_false] at hy
          rcases hy with rfl
          · exact Or.inr ⟨by decide, x_I, el_La_13, by decide +kernel⟩), by decide, by decide, el_La_19, by decide +kernel, Or.inr ⟨rfl, d_La_body_19⟩, (Nat.le_of_ble_eq_true rfl), ?_⟩
      refine r_iconst 2 d_La_body_21 (by decide) ?_
      refine r_ri nI2 ?_
      exact r_iret d_La_body_22 rfl ⟨by rw [q1], H1, hk, fo, ho2, fun z => by omega⟩ (Nat.le_of_ble_eq_true rfl) (Nat.le_of_ble_eq_true rfl)
    · exact absurd hle (by omega)
theorem c_La_waiting {l : Launch} (htr : l.stackTraces = false) {d : Nat} {h : ac_H} {a1 a2 : Int32} {s : sp_S} {fo : Nat → Int64} (hd : 8 ≤ d) (H : PGs h s) (ho : h[83]? = some (.inl (.inr (.inl (1, fo)))))  : ac_MtW l d m_La_waiting [.ref 0, .int a1, .int a2, .ref 83] h 3 18 (okL h (q_waiting s a1 a2)) := by
  have hle := qle_waiting (s := s) (a1 := a1) (a2 := a2)
  refine ac_enterW (by decide) (fun E h9 z => nomatch z.1) (fun _ => Nat.le_of_ble_eq_true rfl) ?_
  refine r_aload_n d_La_waiting_0 rfl ?_
  refine r_iconst 0 d_La_waiting_1 (by decide) ?_
  refine r_aload_n d_La_waiting_2 rfl ?_
  refine r_iload_n d_La_waiting_3 rfl ?_
  refine r_iload_n d_La_waiting_4 rfl ?_
  refine r_callV [.int a1, .int a2] 0 (d - 1) 3 18 (Ψ := okP h (q_waiting s a1 a2) rI) d_La_waiting_5 q_La_40 H.2.1 rfl rfl (k_PG_waiting htr (by omega) H) (by show d - 1 + 1 ≤ d; omega) (Nat.le_of_ble_eq_true rfl) (Nat.le_of_ble_eq_true rfl) (Nat.le_of_ble_eq_true rfl) (fun r h2 hp _ => ?_) (fun E h2 hp _ => ?_)
  · obtain ⟨e1, f1, H1⟩ := hp
    obtain ⟨q0, e2⟩ := rI_l e1
    subst e2
    have ho2 : h2[83]? = some (.inl (.inr (.inl (1, fo)))) := (f1.2 83 (by show ¬ 83 < 57; omega)).trans ho
    have hk : ∀ x, 57 ≤ x → x < 83 → h2[x]? = h[x]? := fun x hx _ => f1.2 x (by show ¬ x < 57; omega)
    refine r_i2l d_La_waiting_8 ?_
    refine r_lastore d_La_waiting_9 ho2 (by unfold vp_in; decide) ?_
    refine r_goto 17 d_La_waiting_10 (by decide) ?_
    refine r_iconst 0 d_La_waiting_17 (by decide) ?_
    refine r_ri nI_0.symm ?_
    refine r_iret d_La_waiting_18 rfl ⟨by rw [q0], H1.pt (fun x hx => List.getElem?_set_ne (by omega)), fun x h1 h2 => (List.getElem?_set_ne (by omega)).trans (hk x h1 h2), _, set_at ho2, fun _ => ?_⟩ (Nat.le_of_ble_eq_true rfl) (Nat.le_of_ble_eq_true rfl)
    rfl
  · obtain ⟨e1, f1, H1⟩ := hp
    have ho2 : h2[83]? = some (.inl (.inr (.inl (1, fo)))) := (f1.2 83 (by show ¬ 83 < 57; omega)).trans ho
    have hk : ∀ x, 57 ≤ x → x < 83 → h2[x]? = h[x]? := fun x hx _ => f1.2 x (by show ¬ x < 57; omega)
    rcases rI_r e1 with ⟨q1, e2⟩ | ⟨q1, e2⟩ | ⟨q1, e2⟩
    · subst e2
      refine Or.inr ⟨[], [], (0, 10, 13, 13), x_I, 4, 2, rfl, (fun y hy => nomatch hy), by decide, by decide, el_La_13, by decide +kernel, Or.inr ⟨rfl, d_La_waiting_13⟩, (Nat.le_of_ble_eq_true rfl), ?_⟩
      refine r_iconst 1 d_La_waiting_15 (by decide) ?_
      refine r_ri nI1 ?_
      exact r_iret d_La_waiting_16 rfl ⟨by rw [q1], H1, hk, fo, ho2, fun z => by omega⟩ (Nat.le_of_ble_eq_true rfl) (Nat.le_of_ble_eq_true rfl)
    · exact absurd hle (by omega)
    · exact absurd hle (by omega)
theorem c_La_waits {l : Launch} (htr : l.stackTraces = false) {d : Nat} {h : ac_H} {a1 a2 a3 : Int32} {s : sp_S} {fo : Nat → Int64} (hd : 8 ≤ d) (H : PGs h s) (ho : h[83]? = some (.inl (.inr (.inl (1, fo)))))  : ac_MtW l d m_La_waits [.ref 0, .int a1, .int a2, .int a3, .ref 83] h 3 18 (okL h (q_waits s a1 a2 a3)) := by
  have hle := qle_waits (s := s) (a1 := a1) (a2 := a2) (a3 := a3)
  refine ac_enterW (by decide) (fun E h9 z => nomatch z.1) (fun _ => Nat.le_of_ble_eq_true rfl) ?_
  refine r_aload d_La_waits_0 rfl ?_
  refine r_iconst 0 d_La_waits_2 (by decide) ?_
  refine r_aload_n d_La_waits_3 rfl ?_
  refine r_iload_n d_La_waits_4 rfl ?_
  refine r_iload_n d_La_waits_5 rfl ?_
  refine r_iload_n d_La_waits_6 rfl ?_
  refine r_callV [.int a1, .int a2, .int a3] 0 (d - 1) 3 18 (Ψ := okP h (q_waits s a1 a2 a3) rI) d_La_waits_7 q_La_43 H.2.1 rfl rfl (k_PG_waits htr (by omega) H) (by show d - 1 + 1 ≤ d; omega) (Nat.le_of_ble_eq_true rfl) (Nat.le_of_ble_eq_true rfl) (Nat.le_of_ble_eq_true rfl) (fun r h2 hp _ => ?_) (fun E h2 hp _ => ?_)
  · obtain ⟨e1, f1, H1⟩ := hp
    obtain ⟨q0, e2⟩ := rI_l e1
    subst e2
    have ho2 : h2[83]? = some (.inl (.inr (.inl (1, fo)))) := (f1.2 83 (by show ¬ 83 < 57; omega)).trans ho
    have hk : ∀ x, 57 ≤ x → x < 83 → h2[x]? = h[x]? := fun x hx _ => f1.2 x (by show ¬ x < 57; omega)
    refine r_i2l d_La_waits_10 ?_
    refine r_lastore d_La_waits_11 ho2 (by unfold vp_in; decide) ?_
    refine r_goto 19 d_La_waits_12 (by decide) ?_
    refine r_iconst 0 d_La_waits_19 (by decide) ?_
    refine r_ri nI_0.symm ?_
    refine r_iret d_La_waits_20 rfl ⟨by rw [q0], H1.pt (fun x hx => List.getElem?_set_ne (by omega)), fun x h1 h2 => (List.getElem?_set_ne (by omega)).trans (hk x h1 h2), _, set_at ho2, fun _ => ?_⟩ (Nat.le_of_ble_eq_true rfl) (Nat.le_of_ble_eq_true rfl)
    rfl
  · obtain ⟨e1, f1, H1⟩ := hp
    have ho2 : h2[83]? = some (.inl (.inr (.inl (1, fo)))) := (f1.2 83 (by show ¬ 83 < 57; omega)).trans ho
    have hk : ∀ x, 57 ≤ x → x < 83 → h2[x]? = h[x]? := fun x hx _ => f1.2 x (by show ¬ x < 57; omega)
    rcases rI_r e1 with ⟨q1, e2⟩ | ⟨q1, e2⟩ | ⟨q1, e2⟩
    · subst e2
      refine Or.inr ⟨[], [], (0, 12, 15, 13), x_I, 5, 2, rfl, (fun y hy => nomatch hy), by decide, by decide, el_La_13, by decide +kernel, Or.inr ⟨rfl, d_La_waits_15⟩, (Nat.le_of_ble_eq_true rfl), ?_⟩
      refine r_iconst 1 d_La_waits_17 (by decide) ?_
      refine r_ri nI1 ?_
      exact r_iret d_La_waits_18 rfl ⟨by rw [q1], H1, hk, fo, ho2, fun z => by omega⟩ (Nat.le_of_ble_eq_true rfl) (Nat.le_of_ble_eq_true rfl)
    · exact absurd hle (by omega)
    · exact absurd hle (by omega)
theorem c_La_count {l : Launch} (htr : l.stackTraces = false) {d : Nat} {h : ac_H} {a1 a2 : Int32} {s : sp_S} {fo : Nat → Int64} (hd : 8 ≤ d) (H : PGs h s) (ho : h[83]? = some (.inl (.inr (.inl (1, fo)))))  : ac_MtW l d m_La_count [.ref 0, .int a1, .int a2, .ref 83] h 3 18 (okL h (q_count s a1 a2)) := by
  have hle := qle_count (s := s) (a1 := a1) (a2 := a2)
  refine ac_enterW (by decide) (fun E h9 z => nomatch z.1) (fun _ => Nat.le_of_ble_eq_true rfl) ?_
  refine r_aload_n d_La_count_0 rfl ?_
  refine r_iconst 0 d_La_count_1 (by decide) ?_
  refine r_aload_n d_La_count_2 rfl ?_
  refine r_iload_n d_La_count_3 rfl ?_
  refine r_iload_n d_La_count_4 rfl ?_
  refine r_callV [.int a1, .int a2] 0 (d - 1) 3 18 (Ψ := okP h (q_count s a1 a2) rI) d_La_count_5 q_La_46 H.2.1 rfl rfl (k_PG_count htr (by omega) H) (by show d - 1 + 1 ≤ d; omega) (Nat.le_of_ble_eq_true rfl) (Nat.le_of_ble_eq_true rfl) (Nat.le_of_ble_eq_true rfl) (fun r h2 hp _ => ?_) (fun E h2 hp _ => ?_)
  · obtain ⟨e1, f1, H1⟩ := hp
    obtain ⟨q0, e2⟩ := rI_l e1
    subst e2
    have ho2 : h2[83]? = some (.inl (.inr (.inl (1, fo)))) := (f1.2 83 (by show ¬ 83 < 57; omega)).trans ho
    have hk : ∀ x, 57 ≤ x → x < 83 → h2[x]? = h[x]? := fun x hx _ => f1.2 x (by show ¬ x < 57; omega)
    refine r_i2l d_La_count_8 ?_
    refine r_lastore d_La_count_9 ho2 (by unfold vp_in; decide) ?_
    refine r_goto 17 d_La_count_10 (by decide) ?_
    refine r_iconst 0 d_La_count_17 (by decide) ?_
    refine r_ri nI_0.symm ?_
    refine r_iret d_La_count_18 rfl ⟨by rw [q0], H1.pt (fun x hx => List.getElem?_set_ne (by omega)), fun x h1 h2 => (List.getElem?_set_ne (by omega)).trans (hk x h1 h2), _, set_at ho2, fun _ => ?_⟩ (Nat.le_of_ble_eq_true rfl) (Nat.le_of_ble_eq_true rfl)
    rfl
  · obtain ⟨e1, f1, H1⟩ := hp
    have ho2 : h2[83]? = some (.inl (.inr (.inl (1, fo)))) := (f1.2 83 (by show ¬ 83 < 57; omega)).trans ho
    have hk : ∀ x, 57 ≤ x → x < 83 → h2[x]? = h[x]? := fun x hx _ => f1.2 x (by show ¬ x < 57; omega)
    rcases rI_r e1 with ⟨q1, e2⟩ | ⟨q1, e2⟩ | ⟨q1, e2⟩
    · subst e2
      refine Or.inr ⟨[], [], (0, 10, 13, 13), x_I, 4, 2, rfl, (fun y hy => nomatch hy), by decide, by decide, el_La_13, by decide +kernel, Or.inr ⟨rfl, d_La_count_13⟩, (Nat.le_of_ble_eq_true rfl), ?_⟩
      refine r_iconst 1 d_La_count_15 (by decide) ?_
      refine r_ri nI1 ?_
      exact r_iret d_La_count_16 rfl ⟨by rw [q1], H1, hk, fo, ho2, fun z => by omega⟩ (Nat.le_of_ble_eq_true rfl) (Nat.le_of_ble_eq_true rfl)
    · exact absurd hle (by omega)
    · exact absurd hle (by omega)
theorem c_La_angle {l : Launch} (htr : l.stackTraces = false) {d : Nat} {h : ac_H} {a1 : Int32} {s : sp_S} {fo : Nat → Int64} (hd : 8 ≤ d) (H : PGs h s) (ho : h[83]? = some (.inl (.inr (.inl (1, fo)))))  : ac_MtW l d m_La_angle [.ref 0, .int a1, .ref 83] h 3 18 (okL h (q_look s a1 (fun L => L.2.1.1))) := by
  have hle := qle_look (s := s) (a1 := a1) (v := fun L => L.2.1.1)
  refine ac_enterW (by decide) (fun E h9 z => nomatch z.1) (fun _ => Nat.le_of_ble_eq_true rfl) ?_
  refine r_aload_n d_La_angle_0 rfl ?_
  refine r_iconst 0 d_La_angle_1 (by decide) ?_
  refine r_aload_n d_La_angle_2 rfl ?_
  refine r_iload_n d_La_angle_3 rfl ?_
  refine r_callV [.int a1] 0 (d - 1) 3 18 (Ψ := okP h (q_look s a1 (fun L => L.2.1.1)) rI) d_La_angle_4 q_La_49 H.2.1 rfl rfl (k_PG_angle htr (by omega) H) (by show d - 1 + 1 ≤ d; omega) (Nat.le_of_ble_eq_true rfl) (Nat.le_of_ble_eq_true rfl) (Nat.le_of_ble_eq_true rfl) (fun r h2 hp _ => ?_) (fun E h2 hp _ => ?_)
  · obtain ⟨e1, f1, H1⟩ := hp
    obtain ⟨q0, e2⟩ := rI_l e1
    subst e2
    have ho2 : h2[83]? = some (.inl (.inr (.inl (1, fo)))) := (f1.2 83 (by show ¬ 83 < 57; omega)).trans ho
    have hk : ∀ x, 57 ≤ x → x < 83 → h2[x]? = h[x]? := fun x hx _ => f1.2 x (by show ¬ x < 57; omega)
    refine r_i2l d_La_angle_7 ?_
    refine r_lastore d_La_angle_8 ho2 (by unfold vp_in; decide) ?_
    refine r_goto 15 d_La_angle_9 (by decide) ?_
    refine r_iconst 0 d_La_angle_15 (by decide) ?_
    refine r_ri nI_0.symm ?_
    refine r_iret d_La_angle_16 rfl ⟨by rw [q0], H1.pt (fun x hx => List.getElem?_set_ne (by omega)), fun x h1 h2 => (List.getElem?_set_ne (by omega)).trans (hk x h1 h2), _, set_at ho2, fun _ => ?_⟩ (Nat.le_of_ble_eq_true rfl) (Nat.le_of_ble_eq_true rfl)
    rfl
  · obtain ⟨e1, f1, H1⟩ := hp
    have ho2 : h2[83]? = some (.inl (.inr (.inl (1, fo)))) := (f1.2 83 (by show ¬ 83 < 57; omega)).trans ho
    have hk : ∀ x, 57 ≤ x → x < 83 → h2[x]? = h[x]? := fun x hx _ => f1.2 x (by show ¬ x < 57; omega)
    rcases rI_r e1 with ⟨q1, e2⟩ | ⟨q1, e2⟩ | ⟨q1, e2⟩
    · subst e2
      refine Or.inr ⟨[], [], (0, 9, 12, 13), x_I, 3, 1, rfl, (fun y hy => nomatch hy), by decide, by decide, el_La_13, by decide +kernel, Or.inl ⟨3, rfl, rfl, d_La_angle_12⟩, (Nat.le_of_ble_eq_true rfl), ?_⟩
      refine r_iconst 1 d_La_angle_13 (by decide) ?_
      refine r_ri nI1 ?_
      exact r_iret d_La_angle_14 rfl ⟨by rw [q1], H1, hk, fo, ho2, fun z => by omega⟩ (Nat.le_of_ble_eq_true rfl) (Nat.le_of_ble_eq_true rfl)
    · exact absurd hle (by omega)
    · exact absurd hle (by omega)
theorem c_La_order {l : Launch} (htr : l.stackTraces = false) {d : Nat} {h : ac_H} {a1 : Int32} {s : sp_S} {fo : Nat → Int64} (hd : 8 ≤ d) (H : PGs h s) (ho : h[83]? = some (.inl (.inr (.inl (1, fo)))))  : ac_MtW l d m_La_order [.ref 0, .int a1, .ref 83] h 3 18 (okL h (q_look s a1 (fun L => L.2.1.2))) := by
  have hle := qle_look (s := s) (a1 := a1) (v := fun L => L.2.1.2)
  refine ac_enterW (by decide) (fun E h9 z => nomatch z.1) (fun _ => Nat.le_of_ble_eq_true rfl) ?_
  refine r_aload_n d_La_order_0 rfl ?_
  refine r_iconst 0 d_La_order_1 (by decide) ?_
  refine r_aload_n d_La_order_2 rfl ?_
  refine r_iload_n d_La_order_3 rfl ?_
  refine r_callV [.int a1] 0 (d - 1) 3 18 (Ψ := okP h (q_look s a1 (fun L => L.2.1.2)) rI) d_La_order_4 q_La_52 H.2.1 rfl rfl (k_PG_order htr (by omega) H) (by show d - 1 + 1 ≤ d; omega) (Nat.le_of_ble_eq_true rfl) (Nat.le_of_ble_eq_true rfl) (Nat.le_of_ble_eq_true rfl) (fun r h2 hp _ => ?_) (fun E h2 hp _ => ?_)
  · obtain ⟨e1, f1, H1⟩ := hp
    obtain ⟨q0, e2⟩ := rI_l e1
    subst e2
    have ho2 : h2[83]? = some (.inl (.inr (.inl (1, fo)))) := (f1.2 83 (by show ¬ 83 < 57; omega)).trans ho
    have hk : ∀ x, 57 ≤ x → x < 83 → h2[x]? = h[x]? := fun x hx _ => f1.2 x (by show ¬ x < 57; omega)
    refine r_i2l d_La_order_7 ?_
    refine r_lastore d_La_order_8 ho2 (by unfold vp_in; decide) ?_
    refine r_goto 15 d_La_order_9 (by decide) ?_
    refine r_iconst 0 d_La_order_15 (by decide) ?_
    refine r_ri nI_0.symm ?_
    refine r_iret d_La_order_16 rfl ⟨by rw [q0], H1.pt (fun x hx => List.getElem?_set_ne (by omega)), fun x h1 h2 => (List.getElem?_set_ne (by omega)).trans (hk x h1 h2), _, set_at ho2, fun _ => ?_⟩ (Nat.le_of_ble_eq_true rfl) (Nat.le_of_ble_eq_true rfl)
    rfl
  · obtain ⟨e1, f1, H1⟩ := hp
    have ho2 : h2[83]? = some (.inl (.inr (.inl (1, fo)))) := (f1.2 83 (by show ¬ 83 < 57; omega)).trans ho
    have hk : ∀ x, 57 ≤ x → x < 83 → h2[x]? = h[x]? := fun x hx _ => f1.2 x (by show ¬ x < 57; omega)
    rcases rI_r e1 with ⟨q1, e2⟩ | ⟨q1, e2⟩ | ⟨q1, e2⟩
    · subst e2
      refine Or.inr ⟨[], [], (0, 9, 12, 13), x_I, 3, 1, rfl, (fun y hy => nomatch hy), by decide, by decide, el_La_13, by decide +kernel, Or.inl ⟨3, rfl, rfl, d_La_order_12⟩, (Nat.le_of_ble_eq_true rfl), ?_⟩
      refine r_iconst 1 d_La_order_13 (by decide) ?_
      refine r_ri nI1 ?_
      exact r_iret d_La_order_14 rfl ⟨by rw [q1], H1, hk, fo, ho2, fun z => by omega⟩ (Nat.le_of_ble_eq_true rfl) (Nat.le_of_ble_eq_true rfl)
    · exact absurd hle (by omega)
    · exact absurd hle (by omega)
theorem c_La_seen {l : Launch} (htr : l.stackTraces = false) {d : Nat} {h : ac_H} {a1 : Int32} {s : sp_S} {fo : Nat → Int64} (hd : 8 ≤ d) (H : PGs h s) (ho : h[83]? = some (.inl (.inr (.inl (1, fo)))))  : ac_MtW l d m_La_seen [.ref 0, .int a1, .ref 83] h 3 18 (okL h (q_look s a1 (fun L => L.1.2.2.2))) := by
  have hle := qle_look (s := s) (a1 := a1) (v := fun L => L.1.2.2.2)
  refine ac_enterW (by decide) (fun E h9 z => nomatch z.1) (fun _ => Nat.le_of_ble_eq_true rfl) ?_
  refine r_aload_n d_La_seen_0 rfl ?_
  refine r_iconst 0 d_La_seen_1 (by decide) ?_
  refine r_aload_n d_La_seen_2 rfl ?_
  refine r_iload_n d_La_seen_3 rfl ?_
  refine r_callV [.int a1] 0 (d - 1) 3 18 (Ψ := okP h (q_look s a1 (fun L => L.1.2.2.2)) rI) d_La_seen_4 q_La_55 H.2.1 rfl rfl (k_PG_seen htr (by omega) H) (by show d - 1 + 1 ≤ d; omega) (Nat.le_of_ble_eq_true rfl) (Nat.le_of_ble_eq_true rfl) (Nat.le_of_ble_eq_true rfl) (fun r h2 hp _ => ?_) (fun E h2 hp _ => ?_)
  · obtain ⟨e1, f1, H1⟩ := hp
    obtain ⟨q0, e2⟩ := rI_l e1
    subst e2
    have ho2 : h2[83]? = some (.inl (.inr (.inl (1, fo)))) := (f1.2 83 (by show ¬ 83 < 57; omega)).trans ho
    have hk : ∀ x, 57 ≤ x → x < 83 → h2[x]? = h[x]? := fun x hx _ => f1.2 x (by show ¬ x < 57; omega)
    refine r_i2l d_La_seen_7 ?_
    refine r_lastore d_La_seen_8 ho2 (by unfold vp_in; decide) ?_
    refine r_goto 15 d_La_seen_9 (by decide) ?_
    refine r_iconst 0 d_La_seen_15 (by decide) ?_
    refine r_ri nI_0.symm ?_
    refine r_iret d_La_seen_16 rfl ⟨by rw [q0], H1.pt (fun x hx => List.getElem?_set_ne (by omega)), fun x h1 h2 => (List.getElem?_set_ne (by omega)).trans (hk x h1 h2), _, set_at ho2, fun _ => ?_⟩ (Nat.le_of_ble_eq_true rfl) (Nat.le_of_ble_eq_true rfl)
    rfl
  · obtain ⟨e1, f1, H1⟩ := hp
    have ho2 : h2[83]? = some (.inl (.inr (.inl (1, fo)))) := (f1.2 83 (by show ¬ 83 < 57; omega)).trans ho
    have hk : ∀ x, 57 ≤ x → x < 83 → h2[x]? = h[x]? := fun x hx _ => f1.2 x (by show ¬ x < 57; omega)
    rcases rI_r e1 with ⟨q1, e2⟩ | ⟨q1, e2⟩ | ⟨q1, e2⟩
    · subst e2
      refine Or.inr ⟨[], [], (0, 9, 12, 13), x_I, 3, 1, rfl, (fun y hy => nomatch hy), by decide, by decide, el_La_13, by decide +kernel, Or.inl ⟨3, rfl, rfl, d_La_seen_12⟩, (Nat.le_of_ble_eq_true rfl), ?_⟩
      refine r_iconst 1 d_La_seen_13 (by decide) ?_
      refine r_ri nI1 ?_
      exact r_iret d_La_seen_14 rfl ⟨by rw [q1], H1, hk, fo, ho2, fun z => by omega⟩ (Nat.le_of_ble_eq_true rfl) (Nat.le_of_ble_eq_true rfl)
    · exact absurd hle (by omega)
    · exact absurd hle (by omega)
