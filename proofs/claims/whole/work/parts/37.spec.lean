/-! WHAT EACH CALL DOES, for both sides: a code (0: an answer), the answer, the new state -/
abbrev sp_A : Type := Nat × Int32 × sp_S
def ix (n : Nat) (x : Int32) : Option Nat := if 0 ≤ x.toInt ∧ x.toInt < n then some x.toInt.toNat else none
theorem ix_in {n i : Nat} {x : Int32} (hn : n < 2 ^ 31) (hi : i < n) (e : x = nI i) : ix n x = some i := by
  subst e
  unfold ix
  rw [nI_toInt (by omega), if_pos ⟨by omega, by omega⟩, Int.toNat_natCast]
theorem ix_out {n : Nat} {x : Int32} (hn : n < 2 ^ 31) (h : out9 x n) : ix n x = none := by
  unfold ix
  refine if_neg (fun ⟨h1, h2⟩ => ?_)
  obtain ⟨i, hi, rfl⟩ : ∃ i : Nat, i < 2 ^ 31 ∧ x = nI i := nI_of (by rw [Int32.lt_iff_toInt_lt, Int32.toInt_zero]; omega)
  rw [nI_toInt hi] at h2
  exact h i (by omega) rfl
def q_beams (s : sp_S) (lane w : Int32) : sp_A := match ix 2 lane with
  | some j => (0, 0, stL s j (sp_tell (lnOf s j) w))
  | none => (1, 0, s)
noncomputable def q_ticks (s : sp_S) (x : Int32) : sp_A := match ix 301 x with
  | some (n + 1) => (0, nI (sp_ticks (n + 1) s 0).2, (sp_ticks (n + 1) s 0).1)
  | _ => (1, 0, s)
noncomputable def q_token (s : sp_S) (lane x a : Int32) : sp_A := match ix 2 lane, ix 2 x with
  | some j, some i => if a < 0 then (2, 0, s) else if sp_tokV s j i a = 0 then (0, nI (sp_tokV s j i a), sp_tokS s j i a) else (0, nI (sp_tokV s j i a), s)
  | _, _ => (1, 0, s)
def q_cancel (s : sp_S) (lane x : Int32) : sp_A := match ix 2 lane, ix 2 x with
  | some j, some i => match qOf (lnOf s j) i with
    | [] => (0, -1, s)
    | y :: t => (0, y.1, sp_canc s j i y t)
  | _, _ => (1, 0, s)
def q_mode (s : sp_S) (lane x : Int32) : sp_A := match ix 2 lane with
  | some j => match ix 4 x with
    | some m => match (lnOf s j).2.2.2.2.2 with
      | [] => (0, nI (sp_modN m (lnOf s j)), sp_modS s j m)
      | _ :: _ => (3, 0, s)
    | none => (2, 0, s)
  | none => (1, 0, s)
def q_look (s : sp_S) (lane : Int32) (v : sp_L → Int32) : sp_A := match ix 2 lane with
  | some j => (0, v (lnOf s j), s)
  | none => (1, 0, s)
def v_body (y : sp_B) : List Int32 := [nI y.1, nI y.2.1, nI y.2.2.1, y.2.2.2.1, nI y.2.2.2.2]
def q_body (s : sp_S) (lane x w : Int32) : sp_A := match ix 2 lane with
  | some j => match ix (lnOf s j).2.2.2.2.2.length x with
    | some i => match (lnOf s j).2.2.2.2.2[i]? with
      | some y => match ix 5 w with
        | some n => (0, (v_body y)[n]?.getD 0, s)
        | none => (2, 0, s)
      | none => (1, 0, s)
    | none => (1, 0, s)
  | none => (1, 0, s)
def q_waiting (s : sp_S) (lane x : Int32) : sp_A := match ix 2 lane, ix 2 x with
  | some j, some i => (0, nI (qOf (lnOf s j) i).length, s)
  | _, _ => (1, 0, s)
def q_waits (s : sp_S) (lane x y : Int32) : sp_A := match ix 2 lane, ix 2 x with
  | some j, some i => (0, (if 0 ≤ y.toInt then (((qOf (lnOf s j) i)[y.toInt.toNat]?).map (·.1)).getD (-1) else -1), s)
  | _, _ => (1, 0, s)
def q_count (s : sp_S) (lane x : Int32) : sp_A := match ix 2 lane with
  | some j => (0, (match ix 5 x with | some i => (lnOf s j).2.2.2.1 i | none => 0), s)
  | none => (1, 0, s)
/-- an answer or a throw -/
def rI (q : sp_A) : ac_R := match q.1 with
  | 0 => .inl (some (.int q.2.1))
  | 1 => .inr x_I
  | 2 => .inr x_A
  | _ => .inr x_S
def rA (q : sp_A) : ac_R := match q.1 with
  | 0 => .inl (some (.int q.2.1))
  | _ => .inr x_A
def rV (q : sp_A) : ac_R := match q.1 with
  | 0 => .inl none
  | _ => .inr x_I
/-- what a call of the component comes to -/
def okP (h : ac_H) (q : sp_A) (R : sp_A → ac_R) (r : ac_R) (h' : ac_H) : Prop := r = R q ∧ frP h h' cmp9 ∧ PGs h' q.2.2
/-- .. of the reference -/
def okM (h : ac_H) (q : sp_A) (r : ac_R) (h' : ac_H) : Prop := r = .inl (some (.int (if q.1 = 0 then q.2.1 else 0))) ∧ frP h h' mod9 ∧ MDs h' q.2.2 q.1
theorem k_PG_beams {l : Launch} (htr : l.stackTraces = false) {d : Nat} {h : ac_H} {lane w : Int32} {s : sp_S} (hd : 7 ≤ d) (H : PGs h s) : ac_Mt l d m_PG_beams [.ref 0, .int lane, .int w] h 3 18 (okP h (q_beams s lane w) rV) := by
  refine c_PG_beams htr hd H (fun ho => ?_) (fun j h' hj e f' H' => ?_)
  · have e : q_beams s lane w = (1, 0, s) := by unfold q_beams; rw [ix_out (by omega) ho]
    rw [e]; exact ⟨rfl, frP_rf, H⟩
  · have e : q_beams s lane w = (0, 0, stL s j (sp_tell (lnOf s j) w)) := by unfold q_beams; rw [ix_in (by omega) hj e]
    rw [e]; exact ⟨rfl, f', H'⟩
theorem k_Mo_beams {l : Launch} (htr : l.stackTraces = false) {d : Nat} {h : ac_H} {lane w : Int32} {s : sp_S} {f : Nat} (hd : 1 ≤ d) (H : MDs h s f) : ac_Mt l d m_Mo_beams [.ref 57, .int lane, .int w] h 0 0 (fun r h' => r = .inl none ∧ frP h h' mod9 ∧ MDs h' (q_beams s lane w).2.2 (q_beams s lane w).1) := by
  refine c_Mo_beams htr hd H (fun h' ho f' H' => ?_) (fun j h' hj e f' H' => ?_)
  · have e : q_beams s lane w = (1, 0, s) := by unfold q_beams; rw [ix_out (by omega) ho]
    rw [e]; exact ⟨rfl, f', H'⟩
  · have e : q_beams s lane w = (0, 0, stL s j (sp_tell (lnOf s j) w)) := by unfold q_beams; rw [ix_in (by omega) hj e]
    rw [e]; exact ⟨rfl, f', H'⟩
theorem ix_ticks {x : Int32} (h : ∀ n, 0 < n → n ≤ 300 → ¬ x = nI n) (s : sp_S) : q_ticks s x = (1, 0, s) := by
  unfold q_ticks
  by_cases c : ∃ n, n < 301 ∧ x = nI n
  · obtain ⟨n, hn, e⟩ := c
    have : n = 0 := by
      rcases Nat.eq_zero_or_pos n with z | z
      · exact z
      · exact absurd e (h n z (by omega))
    subst this
    rw [ix_in (by omega) (by omega) e]
  · rw [ix_out (n := 301) (by omega) (fun n hn e => c ⟨n, hn, e⟩)]
theorem ix_ticks2 {x : Int32} {n : Nat} (n0 : 0 < n) (n3 : n ≤ 300) (e : x = nI n) (s : sp_S) : q_ticks s x = (0, nI (sp_ticks n s 0).2, (sp_ticks n s 0).1) := by
  unfold q_ticks
  obtain ⟨m, rfl⟩ : ∃ m, n = m + 1 := ⟨n - 1, by omega⟩
  rw [ix_in (by omega) (by omega) e]
theorem k_PG_ticks {l : Launch} (htr : l.stackTraces = false) {d : Nat} {h : ac_H} {x : Int32} {s : sp_S} (hd : 7 ≤ d) (H : PGs h s) (hcap : cap s ≤ 512) : ac_Mt l d m_PG_ticks [.ref 0, .int x] h 3 18 (okP h (q_ticks s x) rA) := by
  refine c_PG_ticks htr hd H hcap (fun ho => ?_) (fun n h' n0 n3 e f' H' => ?_)
  · rw [ix_ticks ho]; exact ⟨rfl, frP_rf, H⟩
  · rw [ix_ticks2 n0 n3 e]; exact ⟨rfl, f', H'⟩
theorem k_Mo_ticks {l : Launch} (htr : l.stackTraces = false) {d : Nat} {h : ac_H} {x : Int32} {s : sp_S} {f : Nat} (hd : 4 ≤ d) (H : MDs h s f) (hcap : cap s ≤ 512) : ac_Mt l d m_Mo_ticks [.ref 57, .int x] h 0 0 (okM h (q_ticks s x)) := by
  refine c_Mo_ticks htr hd H hcap (fun h' ho f' H' => ?_) (fun n h' n0 n3 e f' H' => ?_)
  · rw [ix_ticks ho]; exact ⟨rfl, f', H'⟩
  · rw [ix_ticks2 n0 n3 e]; exact ⟨rfl, f', H'⟩
theorem q2_out {lane x : Int32} {α : Type} {f : Nat → Nat → α} {z : α} (h : out9 lane 2 ∨ out9 x 2) : (match ix 2 lane, ix 2 x with | some j, some i => f j i | _, _ => z) = z := by
  rcases h with h | h
  · rw [ix_out (by omega) h]
  · rw [ix_out (x := x) (by omega) h]
    cases ix 2 lane <;> rfl
theorem k_PG_token {l : Launch} (htr : l.stackTraces = false) {d : Nat} {h : ac_H} {lane x a : Int32} {s : sp_S} (hd : 7 ≤ d) (H : PGs h s) (hcap : s.2.1.length < 512) : ac_Mt l d m_PG_token [.ref 0, .int lane, .int x, .int a] h 3 18 (okP h (q_token s lane x a) rI) := by
  refine c_PG_token htr hd H hcap (fun ho => ?_) (fun j i hj e hi e2 ha => ?_) (fun j i hj e hi e2 ha hv => ?_) (fun j i h' hj e hi e2 ha hv f' H' => ?_)
  · have e : q_token s lane x a = (1, 0, s) := q2_out ho
    rw [e]; exact ⟨rfl, frP_rf, H⟩
  · have e : q_token s lane x a = (2, 0, s) := by unfold q_token; rw [ix_in (by omega) hj e, ix_in (by omega) hi e2]; exact if_pos ha
    rw [e]; exact ⟨rfl, frP_rf, H⟩
  · have e : q_token s lane x a = (0, nI (sp_tokV s j i a), s) := by unfold q_token; rw [ix_in (by omega) hj e, ix_in (by omega) hi e2]; exact (if_neg ha).trans (if_neg hv)
    rw [e]; exact ⟨rfl, frP_rf, H⟩
  · have e : q_token s lane x a = (0, nI (sp_tokV s j i a), sp_tokS s j i a) := by unfold q_token; rw [ix_in (by omega) hj e, ix_in (by omega) hi e2]; exact (if_neg ha).trans (if_pos hv)
    rw [e]; exact ⟨rfl, f', H'⟩
theorem k_Mo_token {l : Launch} (htr : l.stackTraces = false) {d : Nat} {h : ac_H} {lane x a : Int32} {s : sp_S} {f : Nat} (hd : 1 ≤ d) (H : MDs h s f) (hcap : s.2.1.length < 512) (ht : tOK s.2.1 s.2.2.2.2) (hn : s.2.2.2.2 < 2 ^ 30) : ac_Mt l d m_Mo_token [.ref 57, .int lane, .int x, .int a] h 0 0 (okM h (q_token s lane x a)) := by
  refine c_Mo_token htr hd H hcap ht hn (fun h' ho f' H' => ?_) (fun j i h' hj e hi e2 ha f' H' => ?_) (fun j i h' hj e hi e2 ha hv f' H' => ?_) (fun j i h' hj e hi e2 ha hv f' H' => ?_)
  · have e : q_token s lane x a = (1, 0, s) := q2_out ho
    rw [e]; exact ⟨rfl, f', H'⟩
  · have e : q_token s lane x a = (2, 0, s) := by unfold q_token; rw [ix_in (by omega) hj e, ix_in (by omega) hi e2]; exact if_pos ha
    rw [e]; exact ⟨rfl, f', H'⟩
  · have e : q_token s lane x a = (0, nI (sp_tokV s j i a), s) := by unfold q_token; rw [ix_in (by omega) hj e, ix_in (by omega) hi e2]; exact (if_neg ha).trans (if_neg hv)
    rw [e]; exact ⟨rfl, f', H'⟩
  · have e : q_token s lane x a = (0, nI (sp_tokV s j i a), sp_tokS s j i a) := by unfold q_token; rw [ix_in (by omega) hj e, ix_in (by omega) hi e2]; exact (if_neg ha).trans (if_pos hv)
    rw [e]; exact ⟨rfl, f', H'⟩
theorem qcn_1 {lane x : Int32} {s : sp_S} (h : out9 lane 2 ∨ out9 x 2) : q_cancel s lane x = (1, 0, s) := by
  unfold q_cancel
  rcases h with h | h
  · rw [ix_out (by omega) h]
  · rw [ix_out (x := x) (by omega) h]
    cases ix 2 lane <;> rfl
theorem k_PG_cancel {l : Launch} (htr : l.stackTraces = false) {d : Nat} {h : ac_H} {lane x : Int32} {s : sp_S} (hd : 7 ≤ d) (H : PGs h s) (hcap : ∀ j i, j < 2 → i < 2 → s.2.2.1.length + (qOf (lnOf s j) i).length ≤ 512) : ac_Mt l d m_PG_cancel [.ref 0, .int lane, .int x] h 3 18 (okP h (q_cancel s lane x) rI) := by
  refine c_PG_cancel htr hd H hcap (fun ho => ?_) (fun j i hj e hi e2 hq => ?_) (fun j i y t h' hj e hi e2 hq f' H' => ?_)
  · have e : q_cancel s lane x = (1, 0, s) := qcn_1 ho
    rw [e]; exact ⟨rfl, frP_rf, H⟩
  · have e : q_cancel s lane x = (0, -1, s) := by unfold q_cancel; rw [ix_in (by omega) hj e, ix_in (by omega) hi e2]; show (match qOf (lnOf s j) i with | [] => ((0, -1, s) : sp_A) | y :: t => (0, y.1, sp_canc s j i y t)) = _; rw [hq]
    rw [e]; exact ⟨rfl, frP_rf, H⟩
  · have e : q_cancel s lane x = (0, y.1, sp_canc s j i y t) := by unfold q_cancel; rw [ix_in (by omega) hj e, ix_in (by omega) hi e2]; show (match qOf (lnOf s j) i with | [] => ((0, -1, s) : sp_A) | y :: t => (0, y.1, sp_canc s j i y t)) = _; rw [hq]
    rw [e]; exact ⟨rfl, f', H'⟩
theorem k_Mo_cancel {l : Launch} (htr : l.stackTraces = false) {d : Nat} {h : ac_H} {lane x : Int32} {s : sp_S} {f : Nat} (hd : 1 ≤ d) (H : MDs h s f) (hcap : ∀ j i, j < 2 → i < 2 → s.2.2.1.length + (qOf (lnOf s j) i).length ≤ 512) : ac_Mt l d m_Mo_cancel [.ref 57, .int lane, .int x] h 0 0 (okM h (q_cancel s lane x)) := by
  refine c_Mo_cancel htr hd H (fun h' ho f' H' => ?_) hcap (fun j i h' hj e hi e2 hq f' H' => ?_) (fun j i y t h' hj e hi e2 hq f' H' => ?_)
  · have e : q_cancel s lane x = (1, 0, s) := qcn_1 ho
    rw [e]; exact ⟨rfl, f', H'⟩
  · have e : q_cancel s lane x = (0, -1, s) := by unfold q_cancel; rw [ix_in (by omega) hj e, ix_in (by omega) hi e2]; show (match qOf (lnOf s j) i with | [] => ((0, -1, s) : sp_A) | y :: t => (0, y.1, sp_canc s j i y t)) = _; rw [hq]
    rw [e]; exact ⟨rfl, f', H'⟩
  · have e : q_cancel s lane x = (0, y.1, sp_canc s j i y t) := by unfold q_cancel; rw [ix_in (by omega) hj e, ix_in (by omega) hi e2]; show (match qOf (lnOf s j) i with | [] => ((0, -1, s) : sp_A) | y :: t => (0, y.1, sp_canc s j i y t)) = _; rw [hq]
    rw [e]; exact ⟨rfl, f', H'⟩
theorem qm_1 {lane x : Int32} {s : sp_S} (ho : out9 lane 2) : q_mode s lane x = (1, 0, s) := by unfold q_mode; rw [ix_out (by omega) ho]
theorem qm_2 {lane x : Int32} {s : sp_S} {j : Nat} (hj : j < 2) (e : lane = nI j) (ho : out9 x 4) : q_mode s lane x = (2, 0, s) := by unfold q_mode; rw [ix_in (by omega) hj e, ix_out (x := x) (by omega) ho]
theorem qm_3 {lane x : Int32} {s : sp_S} {j m : Nat} (hj : j < 2) (e : lane = nI j) (hm : m < 4) (e2 : x = nI m) (h : ¬ (lnOf s j).2.2.2.2.2 = []) : q_mode s lane x = (3, 0, s) := by
  unfold q_mode; rw [ix_in (by omega) hj e, ix_in (by omega) hm e2]
  show (match (lnOf s j).2.2.2.2.2 with | [] => ((0, nI (sp_modN m (lnOf s j)), sp_modS s j m) : sp_A) | _ :: _ => (3, 0, s)) = _
  cases hq : (lnOf s j).2.2.2.2.2 with
  | nil => exact absurd hq h
  | cons y t => rfl
theorem qm_0 {lane x : Int32} {s : sp_S} {j m : Nat} (hj : j < 2) (e : lane = nI j) (hm : m < 4) (e2 : x = nI m) (h : (lnOf s j).2.2.2.2.2 = []) : q_mode s lane x = (0, nI (sp_modN m (lnOf s j)), sp_modS s j m) := by
  unfold q_mode; rw [ix_in (by omega) hj e, ix_in (by omega) hm e2]
  show (match (lnOf s j).2.2.2.2.2 with | [] => ((0, nI (sp_modN m (lnOf s j)), sp_modS s j m) : sp_A) | _ :: _ => (3, 0, s)) = _
  rw [h]
theorem k_PG_mode {l : Launch} (htr : l.stackTraces = false) {d : Nat} {h : ac_H} {lane x : Int32} {s : sp_S} (hd : 7 ≤ d) (H : PGs h s) (hcap : ∀ j, j < 2 → s.2.2.1.length + (lnOf s j).2.2.1.1.length + (lnOf s j).2.2.1.2.length ≤ 512) : ac_Mt l d m_PG_mode [.ref 0, .int lane, .int x] h 3 18 (okP h (q_mode s lane x) rI) := by
  refine c_PG_mode htr hd H hcap (fun ho => ?_) (fun j hj e ho => ?_) (fun j m hj e hm e2 hq => ?_) (fun j m h' hj e hm e2 hq f' H' => ?_)
  · rw [qm_1 ho]; exact ⟨rfl, frP_rf, H⟩
  · rw [qm_2 hj e ho]; exact ⟨rfl, frP_rf, H⟩
  · rw [qm_3 hj e hm e2 hq]; exact ⟨rfl, frP_rf, H⟩
  · rw [qm_0 hj e hm e2 hq]; exact ⟨rfl, f', H'⟩
theorem k_Mo_mode {l : Launch} (htr : l.stackTraces = false) {d : Nat} {h : ac_H} {lane x : Int32} {s : sp_S} {f : Nat} (hd : 1 ≤ d) (H : MDs h s f) (hcap : ∀ j, j < 2 → s.2.2.1.length + (lnOf s j).2.2.1.1.length + (lnOf s j).2.2.1.2.length ≤ 512) : ac_Mt l d m_Mo_mode [.ref 57, .int lane, .int x] h 0 0 (okM h (q_mode s lane x)) := by
  refine c_Mo_mode htr hd H hcap (fun h' ho f' H' => ?_) (fun j h' hj e ho f' H' => ?_) (fun j m h' hj e hm e2 hq f' H' => ?_) (fun j m h' hj e hm e2 hq f' H' => ?_)
  · rw [qm_1 ho]; exact ⟨rfl, f', H'⟩
  · rw [qm_2 hj e ho]; exact ⟨rfl, f', H'⟩
  · rw [qm_3 hj e hm e2 hq]; exact ⟨rfl, f', H'⟩
  · rw [qm_0 hj e hm e2 hq]; exact ⟨rfl, f', H'⟩
theorem ql_1 {lane : Int32} {s : sp_S} {v : sp_L → Int32} (ho : out9 lane 2) : q_look s lane v = (1, 0, s) := by unfold q_look; rw [ix_out (by omega) ho]
theorem ql_0 {lane : Int32} {s : sp_S} {v : sp_L → Int32} {j : Nat} (hj : j < 2) (e : lane = nI j) : q_look s lane v = (0, v (lnOf s j), s) := by unfold q_look; rw [ix_in (by omega) hj e]
theorem k_PG_bodies {l : Launch} (htr : l.stackTraces = false) {d : Nat} {h : ac_H} {lane : Int32} {s : sp_S} (hd : 7 ≤ d) (H : PGs h s) : ac_Mt l d m_PG_bodies [.ref 0, .int lane] h 3 18 (okP h (q_look s lane (fun L => nI L.2.2.2.2.2.length)) rI) := by
  refine c_PG_bodies htr hd H (fun ho => ?_) (fun j hj e => ?_)
  · rw [ql_1 ho]; exact ⟨rfl, frP_rf, H⟩
  · rw [ql_0 hj e]; exact ⟨rfl, frP_rf, H⟩
theorem k_Mo_bodies {l : Launch} (htr : l.stackTraces = false) {d : Nat} {h : ac_H} {lane : Int32} {s : sp_S} {f : Nat} (hd : 1 ≤ d) (H : MDs h s f) : ac_Mt l d m_Mo_bodies [.ref 57, .int lane] h 0 0 (okM h (q_look s lane (fun L => nI L.2.2.2.2.2.length))) := by
  refine c_Mo_bodies htr hd H (fun h' ho f' H' => ?_) (fun j h' hj e f' H' => ?_)
  · rw [ql_1 ho]; exact ⟨rfl, f', H'⟩
  · rw [ql_0 hj e]; exact ⟨rfl, f', H'⟩
theorem k_PG_angle {l : Launch} (htr : l.stackTraces = false) {d : Nat} {h : ac_H} {lane : Int32} {s : sp_S} (hd : 7 ≤ d) (H : PGs h s) : ac_Mt l d m_PG_angle [.ref 0, .int lane] h 3 18 (okP h (q_look s lane (fun L => L.2.1.1)) rI) := by
  refine c_PG_angle htr hd H (fun ho => ?_) (fun j hj e => ?_)
  · rw [ql_1 ho]; exact ⟨rfl, frP_rf, H⟩
  · rw [ql_0 hj e]; exact ⟨rfl, frP_rf, H⟩
theorem k_Mo_angle {l : Launch} (htr : l.stackTraces = false) {d : Nat} {h : ac_H} {lane : Int32} {s : sp_S} {f : Nat} (hd : 1 ≤ d) (H : MDs h s f) : ac_Mt l d m_Mo_angle [.ref 57, .int lane] h 0 0 (okM h (q_look s lane (fun L => L.2.1.1))) := by
  refine c_Mo_angle htr hd H (fun h' ho f' H' => ?_) (fun j h' hj e f' H' => ?_)
  · rw [ql_1 ho]; exact ⟨rfl, f', H'⟩
  · rw [ql_0 hj e]; exact ⟨rfl, f', H'⟩
theorem k_PG_order {l : Launch} (htr : l.stackTraces = false) {d : Nat} {h : ac_H} {lane : Int32} {s : sp_S} (hd : 7 ≤ d) (H : PGs h s) : ac_Mt l d m_PG_order [.ref 0, .int lane] h 3 18 (okP h (q_look s lane (fun L => L.2.1.2)) rI) := by
  refine c_PG_order htr hd H (fun ho => ?_) (fun j hj e => ?_)
  · rw [ql_1 ho]; exact ⟨rfl, frP_rf, H⟩
  · rw [ql_0 hj e]; exact ⟨rfl, frP_rf, H⟩
theorem k_Mo_order {l : Launch} (htr : l.stackTraces = false) {d : Nat} {h : ac_H} {lane : Int32} {s : sp_S} {f : Nat} (hd : 1 ≤ d) (H : MDs h s f) : ac_Mt l d m_Mo_order [.ref 57, .int lane] h 0 0 (okM h (q_look s lane (fun L => L.2.1.2))) := by
  refine c_Mo_order htr hd H (fun h' ho f' H' => ?_) (fun j h' hj e f' H' => ?_)
  · rw [ql_1 ho]; exact ⟨rfl, f', H'⟩
  · rw [ql_0 hj e]; exact ⟨rfl, f', H'⟩
theorem k_PG_seen {l : Launch} (htr : l.stackTraces = false) {d : Nat} {h : ac_H} {lane : Int32} {s : sp_S} (hd : 7 ≤ d) (H : PGs h s) : ac_Mt l d m_PG_seen [.ref 0, .int lane] h 3 18 (okP h (q_look s lane (fun L => L.1.2.2.2)) rI) := by
  refine c_PG_seen htr hd H (fun ho => ?_) (fun j hj e => ?_)
  · rw [ql_1 ho]; exact ⟨rfl, frP_rf, H⟩
  · rw [ql_0 hj e]; exact ⟨rfl, frP_rf, H⟩
theorem k_Mo_seen {l : Launch} (htr : l.stackTraces = false) {d : Nat} {h : ac_H} {lane : Int32} {s : sp_S} {f : Nat} (hd : 1 ≤ d) (H : MDs h s f) : ac_Mt l d m_Mo_seen [.ref 57, .int lane] h 0 0 (okM h (q_look s lane (fun L => L.1.2.2.2))) := by
  refine c_Mo_seen htr hd H (fun h' ho f' H' => ?_) (fun j h' hj e f' H' => ?_)
  · rw [ql_1 ho]; exact ⟨rfl, f', H'⟩
  · rw [ql_0 hj e]; exact ⟨rfl, f', H'⟩
theorem k_PG_waiting {l : Launch} (htr : l.stackTraces = false) {d : Nat} {h : ac_H} {lane x : Int32} {s : sp_S} (hd : 7 ≤ d) (H : PGs h s) : ac_Mt l d m_PG_waiting [.ref 0, .int lane, .int x] h 3 18 (okP h (q_waiting s lane x) rI) := by
  refine c_PG_waiting htr hd H (fun ho => ?_) (fun j i hj e hi e2 => ?_)
  · have e : q_waiting s lane x = (1, 0, s) := q2_out ho
    rw [e]; exact ⟨rfl, frP_rf, H⟩
  · have e : q_waiting s lane x = (0, nI (qOf (lnOf s j) i).length, s) := by unfold q_waiting; rw [ix_in (by omega) hj e, ix_in (by omega) hi e2]
    rw [e]; exact ⟨rfl, frP_rf, H⟩
theorem k_Mo_waiting {l : Launch} (htr : l.stackTraces = false) {d : Nat} {h : ac_H} {lane x : Int32} {s : sp_S} {f : Nat} (hd : 1 ≤ d) (H : MDs h s f) : ac_Mt l d m_Mo_waiting [.ref 57, .int lane, .int x] h 0 0 (okM h (q_waiting s lane x)) := by
  refine c_Mo_waiting htr hd H (fun h' ho f' H' => ?_) (fun j i h' hj e hi e2 f' H' => ?_)
  · have e : q_waiting s lane x = (1, 0, s) := q2_out ho
    rw [e]; exact ⟨rfl, f', H'⟩
  · have e : q_waiting s lane x = (0, nI (qOf (lnOf s j) i).length, s) := by unfold q_waiting; rw [ix_in (by omega) hj e, ix_in (by omega) hi e2]
    rw [e]; exact ⟨rfl, f', H'⟩
theorem k_PG_waits {l : Launch} (htr : l.stackTraces = false) {d : Nat} {h : ac_H} {lane x y : Int32} {s : sp_S} (hd : 7 ≤ d) (H : PGs h s) : ac_Mt l d m_PG_waits [.ref 0, .int lane, .int x, .int y] h 3 18 (okP h (q_waits s lane x y) rI) := by
  refine c_PG_waits htr hd H (fun ho => ?_) (fun j i hj e hi e2 => ?_)
  · have e : q_waits s lane x y = (1, 0, s) := q2_out ho
    rw [e]; exact ⟨rfl, frP_rf, H⟩
  · have e : q_waits s lane x y = (0, (if 0 ≤ y.toInt then (((qOf (lnOf s j) i)[y.toInt.toNat]?).map (·.1)).getD (-1) else -1), s) := by unfold q_waits; rw [ix_in (by omega) hj e, ix_in (by omega) hi e2]
    rw [e]; exact ⟨rfl, frP_rf, H⟩
theorem k_Mo_waits {l : Launch} (htr : l.stackTraces = false) {d : Nat} {h : ac_H} {lane x y : Int32} {s : sp_S} {f : Nat} (hd : 1 ≤ d) (H : MDs h s f) : ac_Mt l d m_Mo_waits [.ref 57, .int lane, .int x, .int y] h 0 0 (okM h (q_waits s lane x y)) := by
  refine c_Mo_waits htr hd H (fun h' ho f' H' => ?_) (fun j i h' hj e hi e2 f' H' => ?_)
  · have e : q_waits s lane x y = (1, 0, s) := q2_out ho
    rw [e]; exact ⟨rfl, f', H'⟩
  · have e : q_waits s lane x y = (0, (if 0 ≤ y.toInt then (((qOf (lnOf s j) i)[y.toInt.toNat]?).map (·.1)).getD (-1) else -1), s) := by unfold q_waits; rw [ix_in (by omega) hj e, ix_in (by omega) hi e2]
    rw [e]; exact ⟨rfl, f', H'⟩
theorem qc_1 {lane x : Int32} {s : sp_S} (ho : out9 lane 2) : q_count s lane x = (1, 0, s) := by unfold q_count; rw [ix_out (by omega) ho]
theorem qc_0 {lane x : Int32} {s : sp_S} {j i : Nat} (hj : j < 2) (e : lane = nI j) (hi : i < 5) (e2 : x = nI i) : q_count s lane x = (0, (lnOf s j).2.2.2.1 i, s) := by unfold q_count; rw [ix_in (by omega) hj e, ix_in (by omega) hi e2]
theorem qc_2 {lane x : Int32} {s : sp_S} {j : Nat} (hj : j < 2) (e : lane = nI j) (ho : out9 x 5) : q_count s lane x = (0, 0, s) := by unfold q_count; rw [ix_in (by omega) hj e, ix_out (x := x) (by omega) ho]
theorem k_PG_count {l : Launch} (htr : l.stackTraces = false) {d : Nat} {h : ac_H} {lane x : Int32} {s : sp_S} (hd : 7 ≤ d) (H : PGs h s) : ac_Mt l d m_PG_count [.ref 0, .int lane, .int x] h 3 18 (okP h (q_count s lane x) rI) := by
  refine c_PG_count htr hd H (fun ho => ?_) (fun j i hj e hi e2 => ?_) (fun j hj e ho => ?_)
  · rw [qc_1 ho]; exact ⟨rfl, frP_rf, H⟩
  · rw [qc_0 hj e hi e2]; exact ⟨rfl, frP_rf, H⟩
  · rw [qc_2 hj e ho]; exact ⟨rfl, frP_rf, H⟩
theorem k_Mo_count {l : Launch} (htr : l.stackTraces = false) {d : Nat} {h : ac_H} {lane x : Int32} {s : sp_S} {f : Nat} (hd : 1 ≤ d) (H : MDs h s f) : ac_Mt l d m_Mo_count [.ref 57, .int lane, .int x] h 0 0 (okM h (q_count s lane x)) := by
  refine c_Mo_count htr hd H (fun h' ho f' H' => ?_) (fun j i h' hj e hi e2 f' H' => ?_) (fun j h' hj e ho f' H' => ?_)
  · rw [qc_1 ho]; exact ⟨rfl, f', H'⟩
  · rw [qc_0 hj e hi e2]; exact ⟨rfl, f', H'⟩
  · rw [qc_2 hj e ho]; exact ⟨rfl, f', H'⟩
theorem qb_1 {lane x w : Int32} {s : sp_S} (hl4 : ∀ j, (lnOf s j).2.2.2.2.2.length < 2 ^ 31) (h : out9 lane 2 ∨ ∃ j, j < 2 ∧ lane = nI j ∧ out9 x (lnOf s j).2.2.2.2.2.length) : q_body s lane x w = (1, 0, s) := by
  unfold q_body
  rcases h with h | ⟨j, hj, e, ho⟩
  · rw [ix_out (by omega) h]
  · rw [ix_in (by omega) hj e]
    show (match ix (lnOf s j).2.2.2.2.2.length x with | some i => (match (lnOf s j).2.2.2.2.2[i]? with | some y => (match ix 5 w with | some n => ((0, (v_body y)[n]?.getD 0, s) : sp_A) | none => (2, 0, s)) | none => (1, 0, s)) | none => (1, 0, s)) = _
    rw [ix_out (hl4 j) ho]
theorem qb_s {lane x w : Int32} {s : sp_S} {j i : Nat} {y : sp_B} (hl4 : ∀ j, (lnOf s j).2.2.2.2.2.length < 2 ^ 31) (hj : j < 2) (e : lane = nI j) (hy : (lnOf s j).2.2.2.2.2[i]? = some y) (e2 : x = nI i) : q_body s lane x w = (match ix 5 w with | some n => (0, (v_body y)[n]?.getD 0, s) | none => (2, 0, s)) := by
  unfold q_body
  rw [ix_in (by omega) hj e]
  show (match ix (lnOf s j).2.2.2.2.2.length x with | some i => (match (lnOf s j).2.2.2.2.2[i]? with | some y => (match ix 5 w with | some n => ((0, (v_body y)[n]?.getD 0, s) : sp_A) | none => (2, 0, s)) | none => (1, 0, s)) | none => (1, 0, s)) = _
  rw [ix_in (hl4 j) (List.getElem?_eq_some_iff.mp hy).1 e2]
  show (match (lnOf s j).2.2.2.2.2[i]? with | some y => (match ix 5 w with | some n => ((0, (v_body y)[n]?.getD 0, s) : sp_A) | none => (2, 0, s)) | none => (1, 0, s)) = _
  rw [hy]
theorem qb_2 {lane x w : Int32} {s : sp_S} {j i : Nat} {y : sp_B} (hl4 : ∀ j, (lnOf s j).2.2.2.2.2.length < 2 ^ 31) (hj : j < 2) (e : lane = nI j) (hy : (lnOf s j).2.2.2.2.2[i]? = some y) (e2 : x = nI i) (ho : out9 w 5) : q_body s lane x w = (2, 0, s) := by
  rw [qb_s hl4 hj e hy e2, ix_out (by omega) ho]
theorem qb_0 {lane x w : Int32} {s : sp_S} {j i n : Nat} {y : sp_B} {v : Int32} (hl4 : ∀ j, (lnOf s j).2.2.2.2.2.length < 2 ^ 31) (hj : j < 2) (e : lane = nI j) (hy : (lnOf s j).2.2.2.2.2[i]? = some y) (e2 : x = nI i) (e3 : w = nI n) (hv : [nI y.1, nI y.2.1, nI y.2.2.1, y.2.2.2.1, nI y.2.2.2.2][n]? = some v) : q_body s lane x w = (0, v, s) := by
  have hn : n < 5 := (List.getElem?_eq_some_iff.mp hv).1
  rw [qb_s hl4 hj e hy e2, ix_in (by omega) hn e3]
  show (0, (v_body y)[n]?.getD 0, s) = _
  unfold v_body
  rw [hv]; rfl
theorem PGs.l4 {h : ac_H} {s : sp_S} (H : PGs h s) (j : Nat) : (lnOf s j).2.2.2.2.2.length < 2 ^ 31 := by
  unfold lnOf
  by_cases c : j = 0
  · rw [if_pos c]; have := (H.ln (j := 0) (by omega)).eye; obtain ⟨r, r', -, -, -, -, h4, -⟩ := this; exact Nat.lt_of_le_of_lt h4 (by omega)
  · rw [if_neg c]; have := (H.ln (j := 1) (by omega)).eye; obtain ⟨r, r', -, -, -, -, h4, -⟩ := this; exact Nat.lt_of_le_of_lt h4 (by omega)
theorem k_PG_body {l : Launch} (htr : l.stackTraces = false) {d : Nat} {h : ac_H} {lane x w : Int32} {s : sp_S} (hd : 7 ≤ d) (H : PGs h s) : ac_Mt l d m_PG_body [.ref 0, .int lane, .int x, .int w] h 3 18 (okP h (q_body s lane x w) rI) := by
  refine c_PG_body htr hd H (fun ho => ?_) (fun j i y hj e hy e2 ho => ?_) (fun j i y n v hj e hy e2 e3 hv => ?_)
  · rw [qb_1 H.l4 ho]; exact ⟨rfl, frP_rf, H⟩
  · rw [qb_2 H.l4 hj e hy e2 ho]; exact ⟨rfl, frP_rf, H⟩
  · rw [qb_0 H.l4 hj e hy e2 e3 hv]; exact ⟨rfl, frP_rf, H⟩
theorem k_Mo_body {l : Launch} (htr : l.stackTraces = false) {d : Nat} {h : ac_H} {lane x w : Int32} {s : sp_S} {f : Nat} (hd : 1 ≤ d) (hl4 : ∀ j, (lnOf s j).2.2.2.2.2.length < 2 ^ 31) (H : MDs h s f) : ac_Mt l d m_Mo_body [.ref 57, .int lane, .int x, .int w] h 0 0 (okM h (q_body s lane x w)) := by
  refine c_Mo_body htr hd H (fun h' ho f' H' => ?_) (fun j i y h' hj e hy e2 ho f' H' => ?_) (fun j i y n v h' hj e hy e2 e3 hv f' H' => ?_)
  · rw [qb_1 hl4 ho]; exact ⟨rfl, f', H'⟩
  · rw [qb_2 hl4 hj e hy e2 ho]; exact ⟨rfl, f', H'⟩
  · rw [qb_0 hl4 hj e hy e2 e3 hv]; exact ⟨rfl, f', H'⟩
