/-! WHAT HOLDS AFTER c CALLS -/
def Inv (s : sp_S) (c : Nat) : Prop := cap s ≤ s.2.1.length ∧ s.2.1.length ≤ c ∧ tOK s.2.1 s.2.2.2.2 ∧ s.2.2.2.2 ≤ 300 * c
theorem Inv.mo {s : sp_S} {c : Nat} (h : Inv s c) : Inv s (c + 1) := ⟨h.1, by have := h.2.1; omega, h.2.2.1, by have := h.2.2.2; omega⟩
theorem Inv_0 : Inv S0 0 := ⟨Nat.le_refl _, Nat.le_refl _, ⟨fun _ => 0, fun i x hx => by (cases hx), fun i k _ hk => by (cases hk)⟩, Nat.le_refl _⟩
theorem cap_st {s : sp_S} {j : Nat} (hj : j < 2) (L : sp_L) (A : sp_Q) (R : List Int32) (y : Int32 × Nat) : cap ((stL s j L).1, A, R, y) + s.2.2.1.length + capL (lnOf s j) = cap s + R.length + capL L := by
  unfold cap stL lnOf
  rcases (show j = 0 ∨ j = 1 by omega) with q | q <;> subst q
  · show R.length + capL L + capL s.1.2 + s.2.2.1.length + capL s.1.1 = s.2.2.1.length + capL s.1.1 + capL s.1.2 + R.length + capL L; omega
  · show R.length + capL s.1.1 + capL L + s.2.2.1.length + capL s.1.2 = s.2.2.1.length + capL s.1.1 + capL s.1.2 + R.length + capL L; omega
theorem capL_st {L : sp_L} {i : Nat} (hi : i < 2) (q : sp_Q) : capL (stQ L i q) + (qOf L i).length = capL L + q.length := by
  unfold capL stQ qOf
  rcases (show i = 0 ∨ i = 1 by omega) with e | e <;> subst e
  · show q.length + L.2.2.1.2.length + ownN L.2.2.2.2.2 + L.2.2.1.1.length = L.2.2.1.1.length + L.2.2.1.2.length + ownN L.2.2.2.2.2 + q.length; omega
  · show L.2.2.1.1.length + q.length + ownN L.2.2.2.2.2 + L.2.2.1.2.length = L.2.2.1.1.length + L.2.2.1.2.length + ownN L.2.2.2.2.2 + q.length; omega
theorem ix_lt {n i : Nat} {x : Int32} (h : ix n x = some i) : i < n := by
  unfold ix at h
  by_cases c : 0 ≤ x.toInt ∧ x.toInt < n
  · rw [if_pos c] at h; cases h; omega
  · rw [if_neg c] at h; cases h
theorem inv_beams {s : sp_S} {c : Nat} {a1 a2 : Int32} (h : Inv s c) : Inv (q_beams s a1 a2).2.2 (c + 1) := by
  unfold q_beams
  cases hj : ix 2 a1 with
  | none => exact h.mo
  | some j =>
    have e := cap_st (s := s) (ix_lt hj) (sp_tell (lnOf s j) a2) s.2.1 s.2.2.1 s.2.2.2
    have e2 : capL (sp_tell (lnOf s j) a2) = capL (lnOf s j) := rfl
    have h1 := h.mo
    refine ⟨?_, h1.2.1, h1.2.2.1, h1.2.2.2⟩
    show cap (stL s j (sp_tell (lnOf s j) a2)) ≤ s.2.1.length
    have e3 : cap (stL s j (sp_tell (lnOf s j) a2)) = cap ((stL s j (sp_tell (lnOf s j) a2)).1, s.2.1, s.2.2.1, s.2.2.2) := rfl
    have := h.1
    omega
theorem ticks_inv : ∀ (n : Nat) (s : sp_S) (d : Nat), cap (sp_ticks n s d).1 ≤ cap s ∧ (sp_ticks n s d).1.2.1 = s.2.1 ∧ (sp_ticks n s d).1.2.2.2.2 = s.2.2.2.2 + n
  | 0, s, d => ⟨Nat.le_refl _, rfl, rfl⟩
  | n + 1, s, d => by
    obtain ⟨h1, h2, h3⟩ := ticks_inv n (sp_step s) (d + sp_left s)
    have := step_cap s
    rw [sp_ticks]
    refine ⟨by omega, h2, ?_⟩
    rw [h3]
    show s.2.2.2.2 + 1 + n = _
    omega
theorem inv_ticks {s : sp_S} {c : Nat} {a1 : Int32} (h : Inv s c) : Inv (q_ticks s a1).2.2 (c + 1) := by
  by_cases hx : ∃ n, 0 < n ∧ n ≤ 300 ∧ a1 = nI n
  · obtain ⟨n, n0, n3, e⟩ := hx
    rw [ix_ticks2 n0 n3 e]
    obtain ⟨h1, h2, h3⟩ := ticks_inv n s 0
    obtain ⟨i1, i2, i3, i4⟩ := h
    refine ⟨?_, ?_, ?_, ?_⟩
    · show cap (sp_ticks n s 0).1 ≤ (sp_ticks n s 0).1.2.1.length
      rw [h2]; omega
    · show (sp_ticks n s 0).1.2.1.length ≤ c + 1
      rw [h2]; omega
    · show tOK (sp_ticks n s 0).1.2.1 (sp_ticks n s 0).1.2.2.2.2
      rw [h2, h3]; exact tOK_mo i3 (by omega)
    · show (sp_ticks n s 0).1.2.2.2.2 ≤ 300 * (c + 1)
      rw [h3]; omega
  · rw [ix_ticks (fun n n0 n3 e => hx ⟨n, n0, n3, e⟩)]; exact h.mo
theorem inv_token {s : sp_S} {c : Nat} {a1 a2 a3 : Int32} (h : Inv s c) : Inv (q_token s a1 a2 a3).2.2 (c + 1) := by
  unfold q_token
  cases hj : ix 2 a1 with
  | none => exact h.mo
  | some j =>
    cases hi : ix 2 a2 with
    | none => exact h.mo
    | some i =>
      show Inv (if a3 < 0 then ((2, 0, s) : sp_A) else if sp_tokV s j i a3 = 0 then (0, nI (sp_tokV s j i a3), sp_tokS s j i a3) else (0, nI (sp_tokV s j i a3), s)).2.2 (c + 1)
      by_cases c1 : a3 < 0
      · rw [if_pos c1]; exact h.mo
      · rw [if_neg c1]
        by_cases c2 : sp_tokV s j i a3 = 0
        · rw [if_pos c2]
          have e := cap_st (s := s) (ix_lt hj) (stQ (lnOf s j) i (qOf (lnOf s j) i ++ [(a3, nI s.2.2.2.2)])) (s.2.1 ++ [(a3, nI s.2.2.2.2)]) s.2.2.1 s.2.2.2
          have e2 := capL_st (L := lnOf s j) (ix_lt hi) (qOf (lnOf s j) i ++ [(a3, nI s.2.2.2.2)])
          rw [List.length_append] at e2
          have e4 : [(a3, nI s.2.2.2.2)].length = 1 := rfl
          obtain ⟨i1, i2, i3, i4⟩ := h
          have e5 : (s.2.1 ++ [(a3, nI s.2.2.2.2)]).length = s.2.1.length + 1 := by rw [List.length_append]; rfl
          refine ⟨?_, ?_, tOK_add i3, by show s.2.2.2.2 ≤ 300 * (c + 1); omega⟩
          · show cap (sp_tokS s j i a3) ≤ (s.2.1 ++ [(a3, nI s.2.2.2.2)]).length
            have e3 : cap (sp_tokS s j i a3) = cap ((stL s j (stQ (lnOf s j) i (qOf (lnOf s j) i ++ [(a3, nI s.2.2.2.2)]))).1, s.2.1 ++ [(a3, nI s.2.2.2.2)], s.2.2.1, s.2.2.2) := rfl
            omega
          · show (s.2.1 ++ [(a3, nI s.2.2.2.2)]).length ≤ c + 1
            omega
        · rw [if_neg c2]; exact h.mo
theorem inv_cancel {s : sp_S} {c : Nat} {a1 a2 : Int32} (h : Inv s c) : Inv (q_cancel s a1 a2).2.2 (c + 1) := by
  unfold q_cancel
  cases hj : ix 2 a1 with
  | none => exact h.mo
  | some j =>
    cases hi : ix 2 a2 with
    | none => exact h.mo
    | some i =>
      show Inv (match qOf (lnOf s j) i with | [] => ((0, -1, s) : sp_A) | y :: t => (0, y.1, sp_canc s j i y t)).2.2 (c + 1)
      cases hq : qOf (lnOf s j) i with
      | nil => exact h.mo
      | cons y t =>
        have e := cap_st (s := s) (ix_lt hj) (stQ (lnOf s j) i t) s.2.1 (s.2.2.1 ++ [y.1]) s.2.2.2
        have e2 := capL_st (L := lnOf s j) (ix_lt hi) t
        rw [hq, List.length_cons] at e2
        rw [List.length_append] at e
        have e4 : [y.1].length = 1 := rfl
        have h1 := h.mo
        refine ⟨?_, h1.2.1, h1.2.2.1, h1.2.2.2⟩
        show cap (sp_canc s j i y t) ≤ s.2.1.length
        have e3 : cap (sp_canc s j i y t) = cap ((stL s j (stQ (lnOf s j) i t)).1, s.2.1, s.2.2.1 ++ [y.1], s.2.2.2) := rfl
        have := h.1
        omega
theorem inv_mode {s : sp_S} {c : Nat} {a1 a2 : Int32} (h : Inv s c) : Inv (q_mode s a1 a2).2.2 (c + 1) := by
  unfold q_mode
  cases hj : ix 2 a1 with
  | none => exact h.mo
  | some j =>
    show Inv (match ix 4 a2 with | some m => (match (lnOf s j).2.2.2.2.2 with | [] => ((0, nI (sp_modN m (lnOf s j)), sp_modS s j m) : sp_A) | _ :: _ => (3, 0, s)) | none => (2, 0, s)).2.2 (c + 1)
    cases hm : ix 4 a2 with
    | none => exact h.mo
    | some m =>
      show Inv (match (lnOf s j).2.2.2.2.2 with | [] => ((0, nI (sp_modN m (lnOf s j)), sp_modS s j m) : sp_A) | _ :: _ => (3, 0, s)).2.2 (c + 1)
      cases hr : (lnOf s j).2.2.2.2.2 with
      | cons y t => exact h.mo
      | nil =>
        have e := cap_st (s := s) (ix_lt hj) (sp_mode m (lnOf s j)) s.2.1 (sp_modR m (lnOf s j) s.2.2.1) s.2.2.2
        have hl : ∀ i q, (sp_mq m i q).length + (sp_mr m i q).length = q.length := fun i q => by
          unfold sp_mq sp_mr
          by_cases c9 : m = 0 ∨ m = i + 1
          · rw [if_pos c9, if_pos c9]; rfl
          · rw [if_neg c9, if_neg c9, List.length_map]; exact Nat.zero_add _
        have l0 := hl 0 (lnOf s j).2.2.1.1
        have l1 := hl 1 (lnOf s j).2.2.1.2
        have e2 : capL (sp_mode m (lnOf s j)) = (sp_mq m 0 (lnOf s j).2.2.1.1).length + (sp_mq m 1 (lnOf s j).2.2.1.2).length + ownN (lnOf s j).2.2.2.2.2 := rfl
        have e3 : capL (lnOf s j) = (lnOf s j).2.2.1.1.length + (lnOf s j).2.2.1.2.length + ownN (lnOf s j).2.2.2.2.2 := rfl
        have e4 : (sp_modR m (lnOf s j) s.2.2.1).length = s.2.2.1.length + (sp_mr m 0 (lnOf s j).2.2.1.1).length + (sp_mr m 1 (lnOf s j).2.2.1.2).length := by unfold sp_modR; rw [List.length_append, List.length_append]
        have h1 := h.mo
        refine ⟨?_, h1.2.1, h1.2.2.1, h1.2.2.2⟩
        show cap (sp_modS s j m) ≤ s.2.1.length
        have e5 : cap (sp_modS s j m) = cap ((stL s j (sp_mode m (lnOf s j))).1, s.2.1, sp_modR m (lnOf s j) s.2.2.1, s.2.2.2) := rfl
        have := h.1
        omega
theorem same_look {s : sp_S} {a1 : Int32} {v : sp_L → Int32} : (q_look s a1 v).2.2 = s := by unfold q_look; split <;> rfl
theorem same_body {s : sp_S} {a1 a2 a3 : Int32} : (q_body s a1 a2 a3).2.2 = s := by
  unfold q_body
  repeat' split
  all_goals rfl
theorem same_waiting {s : sp_S} {a1 a2 : Int32} : (q_waiting s a1 a2).2.2 = s := by
  unfold q_waiting
  repeat' split
  all_goals rfl
theorem same_waits {s : sp_S} {a1 a2 a3 : Int32} : (q_waits s a1 a2 a3).2.2 = s := by
  unfold q_waits
  split <;> rfl
theorem same_count {s : sp_S} {a1 a2 : Int32} : (q_count s a1 a2).2.2 = s := by
  unfold q_count
  split <;> rfl
theorem inv_look {s : sp_S} {c : Nat} {a1 : Int32} {v : sp_L → Int32} (h : Inv s c) : Inv (q_look s a1 v).2.2 (c + 1) := by rw [same_look]; exact h.mo
theorem inv_body {s : sp_S} {c : Nat} {a1 a2 a3 : Int32} (h : Inv s c) : Inv (q_body s a1 a2 a3).2.2 (c + 1) := by rw [same_body]; exact h.mo
theorem inv_waiting {s : sp_S} {c : Nat} {a1 a2 : Int32} (h : Inv s c) : Inv (q_waiting s a1 a2).2.2 (c + 1) := by rw [same_waiting]; exact h.mo
theorem inv_waits {s : sp_S} {c : Nat} {a1 a2 a3 : Int32} (h : Inv s c) : Inv (q_waits s a1 a2 a3).2.2 (c + 1) := by rw [same_waits]; exact h.mo
theorem inv_count {s : sp_S} {c : Nat} {a1 a2 : Int32} (h : Inv s c) : Inv (q_count s a1 a2).2.2 (c + 1) := by rw [same_count]; exact h.mo
theorem Inv.capm {s : sp_S} {c : Nat} (h : Inv s c) (hc : c < 512) : ∀ j, j < 2 → s.2.2.1.length + (lnOf s j).2.2.1.1.length + (lnOf s j).2.2.1.2.length ≤ 512 := fun j hj => by
  have h1 := h.1
  have h2 := h.2.1
  unfold cap capL at h1
  rcases (show j = 0 ∨ j = 1 by omega) with q | q <;> subst q
  · show s.2.2.1.length + s.1.1.2.2.1.1.length + s.1.1.2.2.1.2.length ≤ 512; omega
  · show s.2.2.1.length + s.1.2.2.2.1.1.length + s.1.2.2.2.1.2.length ≤ 512; omega
theorem Inv.capc {s : sp_S} {c : Nat} (h : Inv s c) (hc : c < 512) : ∀ j i, j < 2 → i < 2 → s.2.2.1.length + (qOf (lnOf s j) i).length ≤ 512 := fun j i hj hi => by
  have := h.capm hc j hj
  unfold qOf
  split <;> omega
theorem Inv.capt {s : sp_S} {c : Nat} (h : Inv s c) (hc : c < 512) : cap s ≤ 512 := by have := h.1; have := h.2.1; omega
theorem Inv.capa {s : sp_S} {c : Nat} (h : Inv s c) (hc : c < 512) : s.2.1.length < 512 := by have := h.2.1; omega
theorem Inv.now {s : sp_S} {c : Nat} (h : Inv s c) (hc : c < 512) : s.2.2.2.2 < 2 ^ 30 := by have := h.2.2.2; omega
