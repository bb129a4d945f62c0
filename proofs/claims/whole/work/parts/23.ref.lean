/-! THE REFERENCE: its object at 57, its arrays at 58 .. 82 -/
theorem r_pc {g : ac_P} {pc : Nat} {L : List (Nat × Value)} {S : List Value} {h : ac_H} {k z : Nat} (pc' : Nat) (he : pc = pc') (kk : ac_G g pc' L S h k z) : ac_G g pc L S h k z := by rw [he]; exact kk
def mlen (j : Nat) : Nat := [2, 2, 2, 2, 2, 2, 2, 10, 2, 10, 10, 10, 10, 10, 10, 10, 10, 5, 5, 4, 24, 24, 600, 600, 600].getD j 0
def moF (V : Nat → Int32) : List Value := [.int (V 0), .int (V 1), .int (V 2), .ref 58, .ref 59, .ref 60, .ref 61, .ref 62, .ref 63, .ref 64, .ref 65, .ref 66, .ref 67, .ref 68, .ref 69, .ref 70, .ref 71, .ref 72, .ref 73, .ref 74, .int (V 3), .ref 75, .ref 76, .ref 77, .ref 78, .ref 79, .int (V 4), .ref 80, .ref 81, .int (V 5), .ref 82]
def MD (h : ac_H) (F : Nat → Nat → Int32) (V : Nat → Int32) : Prop := h[57]? = some (.inr (8, moF V)) ∧ ∀ j, j < 25 → h[58 + j]? = some (.inl (.inl (mlen j, F j)))
abbrev mod9 (x : Nat) : Prop := 57 ≤ x ∧ x < 83
def up2 (F : Nat → Nat → Int32) (j i : Nat) (x : Int32) : Nat → Nat → Int32 := fun j' i' => if j' = j ∧ i' = i then x else F j' i'
theorem up2_row (F : Nat → Nat → Int32) (j i : Nat) (x : Int32) : up2 F j i x j = upd (F j) i x := by
  funext k
  unfold up2 upd
  by_cases e : k = i
  · rw [if_pos ⟨rfl, e⟩, if_pos e]
  · rw [if_neg (fun z => e z.2), if_neg e]
theorem up2_ne {F : Nat → Nat → Int32} {j i j' i' : Nat} {x : Int32} (h : ¬ (j' = j ∧ i' = i)) : up2 F j i x j' i' = F j' i' := if_neg h
theorem up2_eq {F : Nat → Nat → Int32} {j i : Nat} {x : Int32} : up2 F j i x j i = x := if_pos ⟨rfl, rfl⟩
theorem up2_rne {F : Nat → Nat → Int32} {j i j' : Nat} {x : Int32} (h : ¬ j' = j) : up2 F j i x j' = F j' := by
  funext k; exact if_neg (fun z => h z.1)
theorem MD.set {h h' : ac_H} {F : Nat → Nat → Int32} {V : Nat → Int32} {j i : Nat} {x : Int32} (M : MD h F V) (Fr : fr h h' [58 + j]) (g : h'[58 + j]? = some (.inl (.inl (mlen j, upd (F j) i x)))) : MD h' (up2 F j i x) V := by
  refine ⟨fr_at Fr (by simp; omega) M.1, fun k hk => ?_⟩
  by_cases e : k = j
  · subst e; rw [up2_row]; exact g
  · rw [up2_rne e]; exact fr_at Fr (by simp; omega) (M.2 k hk)
theorem r_mst {g : ac_P} {pc : Nat} {L : List (Nat × Value)} {S : List Value} {h : ac_H} {k z : Nat} {F : Nat → Nat → Int32} {V : Nat → Int32} {i : Nat} {x : Int32} (j : Nat) (hd : decode (ac_cc g) pc = .ok (.iastore, 1)) (hj : j < 25) (hi : i < mlen j) (M : MD h F V) (kk : ∀ h', frP h h' mod9 → MD h' (up2 F j i x) V → ac_G g (pc + 1) L S h' k z) : ac_G g pc L (.int x :: .int (nI i) :: .ref (58 + j) :: S) h k z := by
  have hm : mlen j < 2 ^ 31 := by
    have : ∀ j, j < 25 → mlen j < 1000 := by decide
    have := this j hj
    omega
  refine r_iastoreN hd (M.2 j hj) hi hm (fun h' Fr g => kk h' (frP_of Fr (fun x hx => by simp at hx; show 57 ≤ x ∧ x < 83; omega)) (M.set Fr g))
theorem MD.out {h h' : ac_H} {F : Nat → Nat → Int32} {V : Nat → Int32} (M : MD h F V) (hp : ∀ x, 57 ≤ x → x < 83 → h'[x]? = h[x]?) : MD h' F V := ⟨(hp 57 (by omega) (by omega)).trans M.1, fun j hj => (hp _ (by omega) (by omega)).trans (M.2 j hj)⟩
theorem md_told {h : ac_H} {F : Nat → Nat → Int32} {V : Nat → Int32} (M : MD h F V) : h[58]? = some (.inl (.inl (2, F 0))) := M.2 0 (by omega)
theorem md_before {h : ac_H} {F : Nat → Nat → Int32} {V : Nat → Int32} (M : MD h F V) : h[59]? = some (.inl (.inl (2, F 1))) := M.2 1 (by omega)
theorem md_earlier {h : ac_H} {F : Nat → Nat → Int32} {V : Nat → Int32} (M : MD h F V) : h[60]? = some (.inl (.inl (2, F 2))) := M.2 2 (by omega)
theorem md_seen {h : ac_H} {F : Nat → Nat → Int32} {V : Nat → Int32} (M : MD h F V) : h[61]? = some (.inl (.inl (2, F 3))) := M.2 3 (by omega)
theorem md_modes {h : ac_H} {F : Nat → Nat → Int32} {V : Nat → Int32} (M : MD h F V) : h[62]? = some (.inl (.inl (2, F 4))) := M.2 4 (by omega)
theorem md_angle {h : ac_H} {F : Nat → Nat → Int32} {V : Nat → Int32} (M : MD h F V) : h[63]? = some (.inl (.inl (2, F 5))) := M.2 5 (by omega)
theorem md_order {h : ac_H} {F : Nat → Nat → Int32} {V : Nat → Int32} (M : MD h F V) : h[64]? = some (.inl (.inl (2, F 6))) := M.2 6 (by omega)
theorem md_counts {h : ac_H} {F : Nat → Nat → Int32} {V : Nat → Int32} (M : MD h F V) : h[65]? = some (.inl (.inl (10, F 7))) := M.2 7 (by omega)
theorem md_bodies {h : ac_H} {F : Nat → Nat → Int32} {V : Nat → Int32} (M : MD h F V) : h[66]? = some (.inl (.inl (2, F 8))) := M.2 8 (by omega)
theorem md_first {h : ac_H} {F : Nat → Nat → Int32} {V : Nat → Int32} (M : MD h F V) : h[67]? = some (.inl (.inl (10, F 9))) := M.2 9 (by omega)
theorem md_last {h : ac_H} {F : Nat → Nat → Int32} {V : Nat → Int32} (M : MD h F V) : h[68]? = some (.inl (.inl (10, F 10))) := M.2 10 (by omega)
theorem md_side {h : ac_H} {F : Nat → Nat → Int32} {V : Nat → Int32} (M : MD h F V) : h[69]? = some (.inl (.inl (10, F 11))) := M.2 11 (by omega)
theorem md_owns {h : ac_H} {F : Nat → Nat → Int32} {V : Nat → Int32} (M : MD h F V) : h[70]? = some (.inl (.inl (10, F 12))) := M.2 12 (by omega)
theorem md_length {h : ac_H} {F : Nat → Nat → Int32} {V : Nat → Int32} (M : MD h F V) : h[71]? = some (.inl (.inl (10, F 13))) := M.2 13 (by omega)
theorem md_blobOf {h : ac_H} {F : Nat → Nat → Int32} {V : Nat → Int32} (M : MD h F V) : h[72]? = some (.inl (.inl (10, F 14))) := M.2 14 (by omega)
theorem md_oldFirst {h : ac_H} {F : Nat → Nat → Int32} {V : Nat → Int32} (M : MD h F V) : h[73]? = some (.inl (.inl (10, F 15))) := M.2 15 (by omega)
theorem md_oldLast {h : ac_H} {F : Nat → Nat → Int32} {V : Nat → Int32} (M : MD h F V) : h[74]? = some (.inl (.inl (10, F 16))) := M.2 16 (by omega)
theorem md_blobFirst {h : ac_H} {F : Nat → Nat → Int32} {V : Nat → Int32} (M : MD h F V) : h[75]? = some (.inl (.inl (5, F 17))) := M.2 17 (by omega)
theorem md_blobLast {h : ac_H} {F : Nat → Nat → Int32} {V : Nat → Int32} (M : MD h F V) : h[76]? = some (.inl (.inl (5, F 18))) := M.2 18 (by omega)
theorem md_waiting {h : ac_H} {F : Nat → Nat → Int32} {V : Nat → Int32} (M : MD h F V) : h[77]? = some (.inl (.inl (4, F 19))) := M.2 19 (by omega)
theorem md_account {h : ac_H} {F : Nat → Nat → Int32} {V : Nat → Int32} (M : MD h F V) : h[78]? = some (.inl (.inl (24, F 20))) := M.2 20 (by omega)
theorem md_since {h : ac_H} {F : Nat → Nat → Int32} {V : Nat → Int32} (M : MD h F V) : h[79]? = some (.inl (.inl (24, F 21))) := M.2 21 (by omega)
theorem md_takenOf {h : ac_H} {F : Nat → Nat → Int32} {V : Nat → Int32} (M : MD h F V) : h[80]? = some (.inl (.inl (600, F 22))) := M.2 22 (by omega)
theorem md_takenAt {h : ac_H} {F : Nat → Nat → Int32} {V : Nat → Int32} (M : MD h F V) : h[81]? = some (.inl (.inl (600, F 23))) := M.2 23 (by omega)
theorem md_refund {h : ac_H} {F : Nat → Nat → Int32} {V : Nat → Int32} (M : MD h F V) : h[82]? = some (.inl (.inl (600, F 24))) := M.2 24 (by omega)
theorem r_mpf_fault {g : ac_P} {pc idx : Nat} {L : List (Nat × Value)} {S : List Value} {h : ac_H} {k z : Nat} {F : Nat → Nat → Int32} {V : Nat → Int32} {x : Int32} (hd : decode (ac_cc g) pc = .ok (.putfield idx, 3)) (hf : ac_F (ac_y g).cls idx 8 0 .int false) (M : MD h F V) (kk : ∀ h', frP h h' mod9 → MD h' F (upd V 0 x) → ac_G g (pc + 3) L S h' k z) : ac_G g pc L (.int x :: .ref 57 :: S) h k z := by
  refine r_putfieldN hd hf M.1 (Nat.le_of_ble_eq_true rfl) (fun _ => rfl) (fun _ => rfl) (fun h' Fr g => kk h' (frP_of Fr (fun x hx => by simp at hx; show 57 ≤ x ∧ x < 83; omega)) ⟨g, fun j hj => fr_at Fr (by simp; omega) (M.2 j hj)⟩)
theorem r_mpf_time {g : ac_P} {pc idx : Nat} {L : List (Nat × Value)} {S : List Value} {h : ac_H} {k z : Nat} {F : Nat → Nat → Int32} {V : Nat → Int32} {x : Int32} (hd : decode (ac_cc g) pc = .ok (.putfield idx, 3)) (hf : ac_F (ac_y g).cls idx 8 1 .int false) (M : MD h F V) (kk : ∀ h', frP h h' mod9 → MD h' F (upd V 1 x) → ac_G g (pc + 3) L S h' k z) : ac_G g pc L (.int x :: .ref 57 :: S) h k z := by
  refine r_putfieldN hd hf M.1 (Nat.le_of_ble_eq_true rfl) (fun _ => rfl) (fun _ => rfl) (fun h' Fr g => kk h' (frP_of Fr (fun x hx => by simp at hx; show 57 ≤ x ∧ x < 83; omega)) ⟨g, fun j hj => fr_at Fr (by simp; omega) (M.2 j hj)⟩)
theorem r_mpf_blobs {g : ac_P} {pc idx : Nat} {L : List (Nat × Value)} {S : List Value} {h : ac_H} {k z : Nat} {F : Nat → Nat → Int32} {V : Nat → Int32} {x : Int32} (hd : decode (ac_cc g) pc = .ok (.putfield idx, 3)) (hf : ac_F (ac_y g).cls idx 8 20 .int false) (M : MD h F V) (kk : ∀ h', frP h h' mod9 → MD h' F (upd V 3 x) → ac_G g (pc + 3) L S h' k z) : ac_G g pc L (.int x :: .ref 57 :: S) h k z := by
  refine r_putfieldN hd hf M.1 (Nat.le_of_ble_eq_true rfl) (fun _ => rfl) (fun _ => rfl) (fun h' Fr g => kk h' (frP_of Fr (fun x hx => by simp at hx; show 57 ≤ x ∧ x < 83; omega)) ⟨g, fun j hj => fr_at Fr (by simp; omega) (M.2 j hj)⟩)
theorem r_mpf_accepted {g : ac_P} {pc idx : Nat} {L : List (Nat × Value)} {S : List Value} {h : ac_H} {k z : Nat} {F : Nat → Nat → Int32} {V : Nat → Int32} {x : Int32} (hd : decode (ac_cc g) pc = .ok (.putfield idx, 3)) (hf : ac_F (ac_y g).cls idx 8 26 .int false) (M : MD h F V) (kk : ∀ h', frP h h' mod9 → MD h' F (upd V 4 x) → ac_G g (pc + 3) L S h' k z) : ac_G g pc L (.int x :: .ref 57 :: S) h k z := by
  refine r_putfieldN hd hf M.1 (Nat.le_of_ble_eq_true rfl) (fun _ => rfl) (fun _ => rfl) (fun h' Fr g => kk h' (frP_of Fr (fun x hx => by simp at hx; show 57 ≤ x ∧ x < 83; omega)) ⟨g, fun j hj => fr_at Fr (by simp; omega) (M.2 j hj)⟩)
theorem r_mpf_refunds {g : ac_P} {pc idx : Nat} {L : List (Nat × Value)} {S : List Value} {h : ac_H} {k z : Nat} {F : Nat → Nat → Int32} {V : Nat → Int32} {x : Int32} (hd : decode (ac_cc g) pc = .ok (.putfield idx, 3)) (hf : ac_F (ac_y g).cls idx 8 29 .int false) (M : MD h F V) (kk : ∀ h', frP h h' mod9 → MD h' F (upd V 5 x) → ac_G g (pc + 3) L S h' k z) : ac_G g pc L (.int x :: .ref 57 :: S) h k z := by
  refine r_putfieldN hd hf M.1 (Nat.le_of_ble_eq_true rfl) (fun _ => rfl) (fun _ => rfl) (fun h' Fr g => kk h' (frP_of Fr (fun x hx => by simp at hx; show 57 ≤ x ∧ x < 83; omega)) ⟨g, fun j hj => fr_at Fr (by simp; omega) (M.2 j hj)⟩)
/-- F' is F where D does not hold -/
def ch (D : Nat → Nat → Prop) (F F' : Nat → Nat → Int32) : Prop := ∀ j i, ¬ D j i → F' j i = F j i
theorem ch_rf {D : Nat → Nat → Prop} {F : Nat → Nat → Int32} : ch D F F := fun _ _ _ => rfl
theorem ch_tr {D : Nat → Nat → Prop} {F F1 F2 : Nat → Nat → Int32} (a : ch D F F1) (b : ch D F1 F2) : ch D F F2 := fun j i h => (b j i h).trans (a j i h)
theorem ch_mo {D D' : Nat → Nat → Prop} {F F1 : Nat → Nat → Int32} (a : ch D F F1) (h : ∀ j i, D j i → D' j i) : ch D' F F1 := fun j i hn => a j i (fun z => hn (h j i z))
theorem ch_up {D : Nat → Nat → Prop} {F : Nat → Nat → Int32} {j i : Nat} {x : Int32} (h : D j i) : ch D F (up2 F j i x) := fun j' i' hn => up2_ne (fun z => hn (by rw [z.1, z.2]; exact h))
/-- a queue -/
def Mqu (F : Nat → Nat → Int32) (q : Nat) (Q : sp_Q) : Prop := F 19 q = nI Q.length ∧ Q.length ≤ 6 ∧ ∀ (i : Nat) (x : Int32 × Int32), Q[i]? = some x → F 20 (6 * q + i) = x.1 ∧ F 21 (6 * q + i) = x.2
def Dq (q j i : Nat) : Prop := (j = 19 ∧ i = q) ∨ ((j = 20 ∨ j = 21) ∧ 6 * q ≤ i ∧ i < 6 * q + 6)
theorem Mqu.ch {F F' : Nat → Nat → Int32} {q : Nat} {Q : sp_Q} {D : Nat → Nat → Prop} (H : Mqu F q Q) (C : ch D F F') (hd : ∀ j i, Dq q j i → ¬ D j i) : Mqu F' q Q := by
  obtain ⟨a1, a2, a3⟩ := H
  refine ⟨(C 19 q (hd _ _ (Or.inl ⟨rfl, rfl⟩))).trans a1, a2, fun i x hx => ?_⟩
  have hi : i < Q.length := (List.getElem?_eq_some_iff.mp hx).1
  obtain ⟨b1, b2⟩ := a3 i x hx
  exact ⟨(C 20 _ (hd _ _ (Or.inr ⟨Or.inl rfl, by omega, by omega⟩))).trans b1, (C 21 _ (hd _ _ (Or.inr ⟨Or.inr rfl, by omega, by omega⟩))).trans b2⟩
/-- the refunds -/
def MR (F : Nat → Nat → Int32) (V : Nat → Int32) (R : List Int32) : Prop := V 5 = nI R.length ∧ R.length ≤ 512 ∧ ∀ (i : Nat) (x : Int32), R[i]? = some x → F 24 i = x
def Dr (j : Nat) (_ : Nat) : Prop := j = 24
theorem MR.ch {F F' : Nat → Nat → Int32} {V V' : Nat → Int32} {R : List Int32} {D : Nat → Nat → Prop} (H : MR F V R) (C : ch D F F') (hv : V' 5 = V 5) (hd : ∀ i, ¬ D 24 i) : MR F' V' R := ⟨hv.trans H.1, H.2.1, fun i x hx => (C 24 i (hd i)).trans (H.2.2 i x hx)⟩
theorem c_Mo_isTwo {l : Launch} (htr : l.stackTraces = false) {d : Nat} {h : ac_H} {Φ : ac_R → ac_H → Prop} {x : Int32} (hΦ : Φ (.inl (some (.int (b01 (∃ j, j < 2 ∧ x = nI j))))) h) : ac_Mt l d m_Mo_isTwo [.int x] h 0 0 Φ := by
  refine ac_enter (by decide) rfl htr (fun _ => Nat.le_of_ble_eq_true rfl) ?_
  have yes : (∃ j, j < 2 ∧ x = nI j) → ac_G (l, d, m_Mo_isTwo, 0, 0, Φ, h.length, none) 9 [(0, .int x)] [] h 0 0 := by
    intro e
    rw [b01_t e] at hΦ
    refine r_iconst 1 d_Mo_isTwo_9 (by decide) ?_
    refine r_goto 14 d_Mo_isTwo_10 (by decide) ?_
    exact r_zret d_Mo_isTwo_14 rfl (Or.inr rfl) hΦ (Nat.le_refl _) (Nat.le_refl _)
  refine r_iload_n d_Mo_isTwo_0 rfl ?_
  refine r_if_eq 9 d_Mo_isTwo_1 (by decide) (fun c => yes ⟨0, by omega, c.trans nI_0.symm⟩) (fun c => ?_)
  refine r_iload_n d_Mo_isTwo_4 rfl ?_
  refine r_iconst 1 d_Mo_isTwo_5 (by decide) ?_
  refine r_icmp_ne 13 d_Mo_isTwo_6 (by decide) (fun c2 => ?_) (fun c2 => yes ⟨1, by omega, c2.trans nI1⟩)
  rw [b01_f (fun ⟨j, hj, e⟩ => by
    rcases (show j = 0 ∨ j = 1 by omega) with q | q <;> subst q
    · exact c (e.trans nI_0)
    · exact c2 (e.trans nI1.symm))] at hΦ
  refine r_iconst 0 d_Mo_isTwo_13 (by decide) ?_
  exact r_zret d_Mo_isTwo_14 rfl (Or.inl rfl) hΦ (Nat.le_refl _) (Nat.le_refl _)
theorem c_Mo_refused {l : Launch} (htr : l.stackTraces = false) {d : Nat} {h : ac_H} {Φ : ac_R → ac_H → Prop} {w : Nat} {F : Nat → Nat → Int32} {V : Nat → Int32} (hw : w < 10) (M : MD h F V) (hΦ : ∀ h', frP h h' mod9 → MD h' F (upd V 0 (nI w)) → Φ (.inl (some (.int (if w = 0 then 0 else 1)))) h') : ac_Mt l d m_Mo_refused [.ref 57, .int (nI w)] h 0 0 Φ := by
  refine ac_enter (by decide) rfl htr (fun _ => Nat.le_of_ble_eq_true rfl) ?_
  refine r_aload_n d_Mo_refused_0 rfl ?_
  refine r_iload_n d_Mo_refused_1 rfl ?_
  refine r_mpf_fault d_Mo_refused_2 f_Mo_85 M (fun h2 Fr2 M2 => ?_)
  have hΦ := hΦ h2 Fr2 M2
  refine r_iload_n d_Mo_refused_5 rfl ?_
  refine r_if_le 13 d_Mo_refused_6 (by decide) (fun c => ?_) (fun c => ?_)
  · have : w = 0 := by
      rcases Nat.eq_zero_or_pos w with z | z
      · exact z
      · exact absurd c (nI_nle z (by omega))
    rw [if_pos this] at hΦ
    refine r_iconst 0 d_Mo_refused_13 (by decide) ?_
    exact r_zret d_Mo_refused_14 rfl (Or.inl rfl) hΦ (Nat.le_refl _) (Nat.le_refl _)
  · have : ¬ w = 0 := fun z => c (by rw [z]; decide)
    rw [if_neg this] at hΦ
    refine r_iconst 1 d_Mo_refused_9 (by decide) ?_
    refine r_goto 14 d_Mo_refused_10 (by decide) ?_
    exact r_zret d_Mo_refused_14 rfl (Or.inr rfl) hΦ (Nat.le_refl _) (Nat.le_refl _)
theorem c_Mo_thrown {l : Launch} (htr : l.stackTraces = false) {d : Nat} {h : ac_H} {Φ : ac_R → ac_H → Prop} {F : Nat → Nat → Int32} {V : Nat → Int32} (M : MD h F V) (hΦ : Φ (.inl (some (.int (V 0)))) h) : ac_Mt l d m_Mo_thrown [.ref 57] h 0 0 Φ := by
  refine ac_enter (by decide) rfl htr (fun _ => Nat.le_of_ble_eq_true rfl) ?_
  refine r_aload_n d_Mo_thrown_0 rfl ?_
  refine r_getfield d_Mo_thrown_1 f_Mo_85 M.1 rfl ?_
  exact r_iret d_Mo_thrown_4 rfl hΦ (Nat.le_refl _) (Nat.le_refl _)
theorem c_Mo_giveBack {l : Launch} (htr : l.stackTraces = false) {d : Nat} {h : ac_H} {Φ : ac_R → ac_H → Prop} {x : Int32} {F : Nat → Nat → Int32} {V : Nat → Int32} {R : List Int32} (M : MD h F V) (HR : MR F V R) (hc : R.length < 512) (hΦ : ∀ h' F', frP h h' mod9 → MD h' F' (upd V 5 (nI (R.length + 1))) → ch Dr F F' → MR F' (upd V 5 (nI (R.length + 1))) (R ++ [x]) → Φ (.inl none) h') : ac_Mt l d m_Mo_giveBack [.ref 57, .int x] h 0 0 Φ := by
  obtain ⟨a1, a2, a3⟩ := HR
  refine ac_enter (by decide) rfl htr (fun _ => Nat.le_of_ble_eq_true rfl) ?_
  refine r_aload_n d_Mo_giveBack_0 rfl ?_
  refine r_getfield d_Mo_giveBack_1 f_Mo_82 M.1 rfl ?_
  refine r_aload_n d_Mo_giveBack_4 rfl ?_
  refine r_getfield d_Mo_giveBack_5 f_Mo_89 M.1 rfl ?_
  refine r_ri a1 ?_
  refine r_iload_n d_Mo_giveBack_8 rfl ?_
  refine r_mst 24 d_Mo_giveBack_9 (by omega) (show R.length < 600 by omega) M (fun h9_ fr9 M9 => ?_)
  refine r_aload_n d_Mo_giveBack_10 rfl ?_
  refine r_dup d_Mo_giveBack_11 rfl ?_
  refine r_getfield d_Mo_giveBack_12 f_Mo_89 M9.1 rfl ?_
  refine r_ri a1 ?_
  refine r_iconst 1 d_Mo_giveBack_15 (by decide) ?_
  refine r_ri (show (1 : Int32) = nI 1 by decide) ?_
  refine r_iadd d_Mo_giveBack_16 ?_
  refine r_ri (nI_add _ _) ?_
  refine r_mpf_refunds d_Mo_giveBack_17 f_Mo_89 M9 (fun h2 Fr2 M2 => ?_)
  refine r_vret d_Mo_giveBack_20 rfl (hΦ _ _ (frP_tr fr9 Fr2) M2 (ch_up rfl) ⟨by rw [List.length_append]; rfl, by rw [List.length_append]; exact hc, fun i y hy => ?_⟩) (Nat.le_refl _) (Nat.le_refl _)
  rw [up2_row]
  exact in1_add (f := F 24) (q := R) a3 i y hy
