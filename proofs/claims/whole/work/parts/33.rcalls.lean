/-! THE REFERENCE'S CALLS -/
def MA (F : Nat → Nat → Int32) (V : Nat → Int32) (A : sp_Q) : Prop := V 4 = nI A.length ∧ A.length ≤ 512 ∧ in2 A (F 22) (F 23)
def MDS (F : Nat → Nat → Int32) (V : Nat → Int32) (s : sp_S) : Prop := MLn F 0 s.1.1 ∧ MLn F 1 s.1.2 ∧ MA F V s.2.1 ∧ MR F V s.2.2.1 ∧ V 2 = s.2.2.2.1 ∧ V 1 = nI s.2.2.2.2
/-- the reference is in state s, its last call was refused with f -/
def MDs (h : ac_H) (s : sp_S) (f : Nat) : Prop := ∃ F V, MD h F V ∧ MDS F V s ∧ V 0 = nI f
theorem MDs.pt {h h' : ac_H} {s : sp_S} {f : Nat} (H : MDs h s f) (hp : ∀ x, 57 ≤ x → x < 83 → h'[x]? = h[x]?) : MDs h' s f := by
  obtain ⟨F, V, M, H1, H2⟩ := H
  exact ⟨F, V, M.out hp, H1, H2⟩
theorem MDS.ln {F : Nat → Nat → Int32} {V : Nat → Int32} {s : sp_S} (H : MDS F V s) {j : Nat} (hj : j < 2) : MLn F j (lnOf s j) := by
  rcases (show j = 0 ∨ j = 1 by omega) with q | q <;> subst q
  · exact H.1
  · exact H.2.1
theorem MDS.v {F : Nat → Nat → Int32} {V V' : Nat → Int32} {s : sp_S} (H : MDS F V s) (h1 : V' 1 = V 1) (h2 : V' 2 = V 2) (h4 : V' 4 = V 4) (h5 : V' 5 = V 5) : MDS F V' s := by
  obtain ⟨a1, a2, a3, a4, a5, a6⟩ := H
  exact ⟨a1, a2, ⟨h4.trans a3.1, a3.2⟩, ⟨h5.trans a4.1, a4.2⟩, h2.trans a5, h1.trans a6⟩
theorem own_no {ln j i : Nat} (hl : ln < 2) (z : own9 (1 - ln) j i) : ¬ Dl ln j i := by
  intro y
  rcases (show ln = 0 ∨ ln = 1 by omega) with q | q <;> subst q
  · rcases y with (y | y | y | y | y | y) | y | y | y <;> rcases z with z | z | z | z | z | z <;> (first | unfold Dbo at * | skip) <;> (first | unfold Dq at * | skip) <;> omega
  · rcases y with (y | y | y | y | y | y) | y | y | y <;> rcases z with z | z | z | z | z | z <;> (first | unfold Dbo at * | skip) <;> (first | unfold Dq at * | skip) <;> omega
theorem MDS.lane {F F' : Nat → Nat → Int32} {V V' : Nat → Int32} {s : sp_S} (H : MDS F V s) {j : Nat} (hj : j < 2) {L : sp_L} {R : List Int32} (C : ch (Dl j) F F') (HL : MLn F' j L) (HR : MR F' V' R) (h1 : V' 1 = V 1) (h2 : V' 2 = V 2) (h4 : V' 4 = V 4) : MDS F' V' ((stL s j L).1, s.2.1, R, s.2.2.2) := by
  obtain ⟨a1, a2, a3, a4, a5, a6⟩ := H
  have hA : MA F' V' s.2.1 := ⟨h4.trans a3.1, a3.2.1, fun i x hx => ⟨(C 22 i (by unfold Dl own9 Dbo Dq; omega)).trans (a3.2.2 i x hx).1, (C 23 i (by unfold Dl own9 Dbo Dq; omega)).trans (a3.2.2 i x hx).2⟩⟩
  rcases (show j = 0 ∨ j = 1 by omega) with q | q <;> subst q
  · exact ⟨HL, a2.ch C (fun j i z => own_no (ln := 0) (by omega) z), hA, HR, h2.trans a5, h1.trans a6⟩
  · exact ⟨a1.ch C (fun j i z => own_no (ln := 1) (by omega) z), HL, hA, HR, h2.trans a5, h1.trans a6⟩
section MCALLS
variable {g : ac_P} {pc : Nat} {L : List (Nat × Value)} {S : List Value} {h : ac_H} {k z : Nat}
theorem r_two {x : Int32} (htr : (ac_l g).stackTraces = false) (hcl : (ac_y g).cls = "PairedGatesModel") (hd : decode (ac_cc g) pc = .ok (.invokestatic 139, 3)) (hdd : 1 ≤ ac_d g) (h1 : k ≤ ac_mc g) (h2 : z ≤ ac_ms g) (hs : (S.map fun v => v.category).sum ≤ 8) (ka : ∀ j, j < 2 → x = nI j → ac_G g (pc + 3) L (.int 1 :: S) h k z) (kb : out9 x 2 → ac_G g (pc + 3) L (.int 0 :: S) h k z) : ac_G g pc L (.int x :: S) h k z := by
  refine r_cSi [.int x] (ac_d g - 1) 0 0 (b01 (∃ j, j < 2 ∧ x = nI j)) (fun h' => h = h') hd (by rw [hcl]; exact q_Mo_139) rfl (c_Mo_isTwo htr ⟨rfl, rfl⟩) (by omega) h1 h2 hs (fun h' e => ?_)
  subst e
  by_cases c : ∃ j, j < 2 ∧ x = nI j
  · rw [b01_t c]
    obtain ⟨j, hj, e⟩ := c
    exact ka j hj e
  · rw [b01_f c]; exact kb (fun j hj e => c ⟨j, hj, e⟩)
theorem r_refu {F : Nat → Nat → Int32} {V : Nat → Int32} {w : Nat} (htr : (ac_l g).stackTraces = false) (hcl : (ac_y g).cls = "PairedGatesModel") (hd : decode (ac_cc g) pc = .ok (.invokevirtual 143, 3)) (hdd : 1 ≤ ac_d g) (hw : w < 10) (M : MD h F V) (h1 : k ≤ ac_mc g) (h2 : z ≤ ac_ms g) (hs : (S.map fun v => v.category).sum ≤ 8) (kk : ∀ h', frP h h' mod9 → MD h' F (upd V 0 (nI w)) → ac_G g (pc + 3) L (.int (if w = 0 then 0 else 1) :: S) h' k z) : ac_G g pc L (.int (nI w) :: .ref 57 :: S) h k z := by
  refine r_cVi [.int (nI w)] 57 (ac_d g - 1) 0 0 (if w = 0 then 0 else 1) (fun h' => frP h h' mod9 ∧ MD h' F (upd V 0 (nI w))) hd (by rw [hcl]; exact q_Mo_143) M.1 rfl rfl (c_Mo_refused htr hw M (fun h' f' G => ⟨rfl, f', G⟩)) (by omega) h1 h2 hs (fun h' e => ?_)
  exact kk h' e.1 e.2
end MCALLS
theorem MDS.f {F : Nat → Nat → Int32} {V : Nat → Int32} {s : sp_S} {x : Int32} (H : MDS F V s) : MDS F (upd V 0 x) s := H.v rfl rfl rfl rfl
theorem c_Mo_bodies {l : Launch} (htr : l.stackTraces = false) {d : Nat} {h : ac_H} {Φ : ac_R → ac_H → Prop} {lane : Int32} {s : sp_S} {f : Nat} (hd : 1 ≤ d) (H : MDs h s f) (hx : ∀ h', out9 lane 2 → frP h h' mod9 → MDs h' s 1 → Φ (.inl (some (.int 0))) h') (ha : ∀ j h', j < 2 → lane = nI j → frP h h' mod9 → MDs h' s 0 → Φ (.inl (some (.int (nI (lnOf s j).2.2.2.2.2.length)))) h') : ac_Mt l d m_Mo_bodies [.ref 57, .int lane] h 0 0 Φ := by
  obtain ⟨F, V, M, H1, H2⟩ := H
  refine ac_enter (by decide) rfl htr (fun _ => Nat.le_of_ble_eq_true rfl) ?_
  refine r_aload_n d_Mo_bodies_0 rfl ?_
  refine r_iload_n d_Mo_bodies_1 rfl ?_
  refine r_two htr rfl d_Mo_bodies_2 hd (Nat.le_of_ble_eq_true rfl) (Nat.le_of_ble_eq_true rfl) (Nat.le_of_ble_eq_true rfl) (fun j hj e => ?_) (fun ho => ?_)
  · refine r_if_eq 12 d_Mo_bodies_5 (by decide) (fun c => absurd c (by decide)) (fun _ => ?_)
    refine r_iconst 0 d_Mo_bodies_8 (by decide) ?_
    refine r_ri nI_0.symm ?_
    refine r_goto 13 d_Mo_bodies_9 (by decide) ?_
    refine r_refu htr rfl d_Mo_bodies_13 hd (by omega) M (Nat.le_of_ble_eq_true rfl) (Nat.le_of_ble_eq_true rfl) (Nat.le_of_ble_eq_true rfl) (fun h2 Fr2 M2 => ?_)
    refine r_if_eq 23 d_Mo_bodies_16 (by decide) (fun _ => ?_) (fun c => absurd rfl c)
    have ef := (H1.ln hj).2.2.2.2.2.2.1.1
    subst e
    refine r_aload_n d_Mo_bodies_23 rfl ?_
    refine r_getfield d_Mo_bodies_24 f_Mo_34 M2.1 rfl ?_
    refine r_iload_n d_Mo_bodies_27 rfl ?_
    refine r_ialoadN d_Mo_bodies_28 (md_bodies M2) (show j < 2 by omega) (by omega) ?_
    refine r_ri ef ?_
    exact r_iret d_Mo_bodies_29 rfl (ha j h2 hj rfl Fr2 ⟨F, _, M2, H1.f, rfl⟩) (Nat.le_of_ble_eq_true rfl) (Nat.le_of_ble_eq_true rfl)
  · refine r_if_eq 12 d_Mo_bodies_5 (by decide) (fun _ => ?_) (fun c => absurd rfl c)
    refine r_iconst 1 d_Mo_bodies_12 (by decide) ?_
    refine r_ri nI1 ?_
    refine r_refu htr rfl d_Mo_bodies_13 hd (by omega) M (Nat.le_of_ble_eq_true rfl) (Nat.le_of_ble_eq_true rfl) (Nat.le_of_ble_eq_true rfl) (fun h2 Fr2 M2 => ?_)
    refine r_if_eq 23 d_Mo_bodies_16 (by decide) (fun c => absurd c (by decide)) (fun _ => ?_)
    refine r_iconst 0 d_Mo_bodies_19 (by decide) ?_
    refine r_goto 29 d_Mo_bodies_20 (by decide) ?_
    exact r_iret d_Mo_bodies_29 rfl (hx h2 ho Fr2 ⟨F, _, M2, H1.f, rfl⟩) (Nat.le_of_ble_eq_true rfl) (Nat.le_of_ble_eq_true rfl)
theorem c_Mo_angle {l : Launch} (htr : l.stackTraces = false) {d : Nat} {h : ac_H} {Φ : ac_R → ac_H → Prop} {lane : Int32} {s : sp_S} {f : Nat} (hd : 1 ≤ d) (H : MDs h s f) (hx : ∀ h', out9 lane 2 → frP h h' mod9 → MDs h' s 1 → Φ (.inl (some (.int 0))) h') (ha : ∀ j h', j < 2 → lane = nI j → frP h h' mod9 → MDs h' s 0 → Φ (.inl (some (.int ((lnOf s j).2.1.1)))) h') : ac_Mt l d m_Mo_angle [.ref 57, .int lane] h 0 0 Φ := by
  obtain ⟨F, V, M, H1, H2⟩ := H
  refine ac_enter (by decide) rfl htr (fun _ => Nat.le_of_ble_eq_true rfl) ?_
  refine r_aload_n d_Mo_angle_0 rfl ?_
  refine r_iload_n d_Mo_angle_1 rfl ?_
  refine r_two htr rfl d_Mo_angle_2 hd (Nat.le_of_ble_eq_true rfl) (Nat.le_of_ble_eq_true rfl) (Nat.le_of_ble_eq_true rfl) (fun j hj e => ?_) (fun ho => ?_)
  · refine r_if_eq 12 d_Mo_angle_5 (by decide) (fun c => absurd c (by decide)) (fun _ => ?_)
    refine r_iconst 0 d_Mo_angle_8 (by decide) ?_
    refine r_ri nI_0.symm ?_
    refine r_goto 13 d_Mo_angle_9 (by decide) ?_
    refine r_refu htr rfl d_Mo_angle_13 hd (by omega) M (Nat.le_of_ble_eq_true rfl) (Nat.le_of_ble_eq_true rfl) (Nat.le_of_ble_eq_true rfl) (fun h2 Fr2 M2 => ?_)
    refine r_if_eq 23 d_Mo_angle_16 (by decide) (fun _ => ?_) (fun c => absurd rfl c)
    have ef := (H1.ln hj).2.1.1
    subst e
    refine r_aload_n d_Mo_angle_23 rfl ?_
    refine r_getfield d_Mo_angle_24 f_Mo_25 M2.1 rfl ?_
    refine r_iload_n d_Mo_angle_27 rfl ?_
    refine r_ialoadN d_Mo_angle_28 (md_angle M2) (show j < 2 by omega) (by omega) ?_
    refine r_ri ef ?_
    exact r_iret d_Mo_angle_29 rfl (ha j h2 hj rfl Fr2 ⟨F, _, M2, H1.f, rfl⟩) (Nat.le_of_ble_eq_true rfl) (Nat.le_of_ble_eq_true rfl)
  · refine r_if_eq 12 d_Mo_angle_5 (by decide) (fun _ => ?_) (fun c => absurd rfl c)
    refine r_iconst 1 d_Mo_angle_12 (by decide) ?_
    refine r_ri nI1 ?_
    refine r_refu htr rfl d_Mo_angle_13 hd (by omega) M (Nat.le_of_ble_eq_true rfl) (Nat.le_of_ble_eq_true rfl) (Nat.le_of_ble_eq_true rfl) (fun h2 Fr2 M2 => ?_)
    refine r_if_eq 23 d_Mo_angle_16 (by decide) (fun c => absurd c (by decide)) (fun _ => ?_)
    refine r_iconst 0 d_Mo_angle_19 (by decide) ?_
    refine r_goto 29 d_Mo_angle_20 (by decide) ?_
    exact r_iret d_Mo_angle_29 rfl (hx h2 ho Fr2 ⟨F, _, M2, H1.f, rfl⟩) (Nat.le_of_ble_eq_true rfl) (Nat.le_of_ble_eq_true rfl)
theorem c_Mo_order {l : Launch} (htr : l.stackTraces = false) {d : Nat} {h : ac_H} {Φ : ac_R → ac_H → Prop} {lane : Int32} {s : sp_S} {f : Nat} (hd : 1 ≤ d) (H : MDs h s f) (hx : ∀ h', out9 lane 2 → frP h h' mod9 → MDs h' s 1 → Φ (.inl (some (.int 0))) h') (ha : ∀ j h', j < 2 → lane = nI j → frP h h' mod9 → MDs h' s 0 → Φ (.inl (some (.int ((lnOf s j).2.1.2)))) h') : ac_Mt l d m_Mo_order [.ref 57, .int lane] h 0 0 Φ := by
  obtain ⟨F, V, M, H1, H2⟩ := H
  refine ac_enter (by decide) rfl htr (fun _ => Nat.le_of_ble_eq_true rfl) ?_
  refine r_aload_n d_Mo_order_0 rfl ?_
  refine r_iload_n d_Mo_order_1 rfl ?_
  refine r_two htr rfl d_Mo_order_2 hd (Nat.le_of_ble_eq_true rfl) (Nat.le_of_ble_eq_true rfl) (Nat.le_of_ble_eq_true rfl) (fun j hj e => ?_) (fun ho => ?_)
  · refine r_if_eq 12 d_Mo_order_5 (by decide) (fun c => absurd c (by decide)) (fun _ => ?_)
    refine r_iconst 0 d_Mo_order_8 (by decide) ?_
    refine r_ri nI_0.symm ?_
    refine r_goto 13 d_Mo_order_9 (by decide) ?_
    refine r_refu htr rfl d_Mo_order_13 hd (by omega) M (Nat.le_of_ble_eq_true rfl) (Nat.le_of_ble_eq_true rfl) (Nat.le_of_ble_eq_true rfl) (fun h2 Fr2 M2 => ?_)
    refine r_if_eq 23 d_Mo_order_16 (by decide) (fun _ => ?_) (fun c => absurd rfl c)
    have ef := (H1.ln hj).2.1.2
    subst e
    refine r_aload_n d_Mo_order_23 rfl ?_
    refine r_getfield d_Mo_order_24 f_Mo_28 M2.1 rfl ?_
    refine r_iload_n d_Mo_order_27 rfl ?_
    refine r_ialoadN d_Mo_order_28 (md_order M2) (show j < 2 by omega) (by omega) ?_
    refine r_ri ef ?_
    exact r_iret d_Mo_order_29 rfl (ha j h2 hj rfl Fr2 ⟨F, _, M2, H1.f, rfl⟩) (Nat.le_of_ble_eq_true rfl) (Nat.le_of_ble_eq_true rfl)
  · refine r_if_eq 12 d_Mo_order_5 (by decide) (fun _ => ?_) (fun c => absurd rfl c)
    refine r_iconst 1 d_Mo_order_12 (by decide) ?_
    refine r_ri nI1 ?_
    refine r_refu htr rfl d_Mo_order_13 hd (by omega) M (Nat.le_of_ble_eq_true rfl) (Nat.le_of_ble_eq_true rfl) (Nat.le_of_ble_eq_true rfl) (fun h2 Fr2 M2 => ?_)
    refine r_if_eq 23 d_Mo_order_16 (by decide) (fun c => absurd c (by decide)) (fun _ => ?_)
    refine r_iconst 0 d_Mo_order_19 (by decide) ?_
    refine r_goto 29 d_Mo_order_20 (by decide) ?_
    exact r_iret d_Mo_order_29 rfl (hx h2 ho Fr2 ⟨F, _, M2, H1.f, rfl⟩) (Nat.le_of_ble_eq_true rfl) (Nat.le_of_ble_eq_true rfl)
theorem c_Mo_seen {l : Launch} (htr : l.stackTraces = false) {d : Nat} {h : ac_H} {Φ : ac_R → ac_H → Prop} {lane : Int32} {s : sp_S} {f : Nat} (hd : 1 ≤ d) (H : MDs h s f) (hx : ∀ h', out9 lane 2 → frP h h' mod9 → MDs h' s 1 → Φ (.inl (some (.int 0))) h') (ha : ∀ j h', j < 2 → lane = nI j → frP h h' mod9 → MDs h' s 0 → Φ (.inl (some (.int ((lnOf s j).1.2.2.2)))) h') : ac_Mt l d m_Mo_seen [.ref 57, .int lane] h 0 0 Φ := by
  obtain ⟨F, V, M, H1, H2⟩ := H
  refine ac_enter (by decide) rfl htr (fun _ => Nat.le_of_ble_eq_true rfl) ?_
  refine r_aload_n d_Mo_seen_0 rfl ?_
  refine r_iload_n d_Mo_seen_1 rfl ?_
  refine r_two htr rfl d_Mo_seen_2 hd (Nat.le_of_ble_eq_true rfl) (Nat.le_of_ble_eq_true rfl) (Nat.le_of_ble_eq_true rfl) (fun j hj e => ?_) (fun ho => ?_)
  · refine r_if_eq 12 d_Mo_seen_5 (by decide) (fun c => absurd c (by decide)) (fun _ => ?_)
    refine r_iconst 0 d_Mo_seen_8 (by decide) ?_
    refine r_ri nI_0.symm ?_
    refine r_goto 13 d_Mo_seen_9 (by decide) ?_
    refine r_refu htr rfl d_Mo_seen_13 hd (by omega) M (Nat.le_of_ble_eq_true rfl) (Nat.le_of_ble_eq_true rfl) (Nat.le_of_ble_eq_true rfl) (fun h2 Fr2 M2 => ?_)
    refine r_if_eq 23 d_Mo_seen_16 (by decide) (fun _ => ?_) (fun c => absurd rfl c)
    have ef := (H1.ln hj).1.2.2.2
    subst e
    refine r_aload_n d_Mo_seen_23 rfl ?_
    refine r_getfield d_Mo_seen_24 f_Mo_19 M2.1 rfl ?_
    refine r_iload_n d_Mo_seen_27 rfl ?_
    refine r_ialoadN d_Mo_seen_28 (md_seen M2) (show j < 2 by omega) (by omega) ?_
    refine r_ri ef ?_
    exact r_iret d_Mo_seen_29 rfl (ha j h2 hj rfl Fr2 ⟨F, _, M2, H1.f, rfl⟩) (Nat.le_of_ble_eq_true rfl) (Nat.le_of_ble_eq_true rfl)
  · refine r_if_eq 12 d_Mo_seen_5 (by decide) (fun _ => ?_) (fun c => absurd rfl c)
    refine r_iconst 1 d_Mo_seen_12 (by decide) ?_
    refine r_ri nI1 ?_
    refine r_refu htr rfl d_Mo_seen_13 hd (by omega) M (Nat.le_of_ble_eq_true rfl) (Nat.le_of_ble_eq_true rfl) (Nat.le_of_ble_eq_true rfl) (fun h2 Fr2 M2 => ?_)
    refine r_if_eq 23 d_Mo_seen_16 (by decide) (fun c => absurd c (by decide)) (fun _ => ?_)
    refine r_iconst 0 d_Mo_seen_19 (by decide) ?_
    refine r_goto 29 d_Mo_seen_20 (by decide) ?_
    exact r_iret d_Mo_seen_29 rfl (hx h2 ho Fr2 ⟨F, _, M2, H1.f, rfl⟩) (Nat.le_of_ble_eq_true rfl) (Nat.le_of_ble_eq_true rfl)
theorem c_Mo_beams {l : Launch} (htr : l.stackTraces = false) {d : Nat} {h : ac_H} {Φ : ac_R → ac_H → Prop} {lane w : Int32} {s : sp_S} {f : Nat} (hd : 1 ≤ d) (H : MDs h s f) (hx : ∀ h', out9 lane 2 → frP h h' mod9 → MDs h' s 1 → Φ (.inl none) h') (ha : ∀ j h', j < 2 → lane = nI j → frP h h' mod9 → MDs h' (stL s j (sp_tell (lnOf s j) w)) 0 → Φ (.inl none) h') : ac_Mt l d m_Mo_beams [.ref 57, .int lane, .int w] h 0 0 Φ := by
  obtain ⟨F, V, M, H1, H2⟩ := H
  refine ac_enter (by decide) rfl htr (fun _ => Nat.le_of_ble_eq_true rfl) ?_
  refine r_aload_n d_Mo_beams_0 rfl ?_
  refine r_iload_n d_Mo_beams_1 rfl ?_
  refine r_two htr rfl d_Mo_beams_2 hd (Nat.le_of_ble_eq_true rfl) (Nat.le_of_ble_eq_true rfl) (Nat.le_of_ble_eq_true rfl) (fun j hj e => ?_) (fun ho => ?_)
  · refine r_if_eq 12 d_Mo_beams_5 (by decide) (fun c => absurd c (by decide)) (fun _ => ?_)
    refine r_iconst 0 d_Mo_beams_8 (by decide) ?_
    refine r_ri nI_0.symm ?_
    refine r_goto 13 d_Mo_beams_9 (by decide) ?_
    refine r_refu htr rfl d_Mo_beams_13 hd (by omega) M (Nat.le_of_ble_eq_true rfl) (Nat.le_of_ble_eq_true rfl) (Nat.le_of_ble_eq_true rfl) (fun h2 Fr2 M2 => ?_)
    refine r_if_ne 30 d_Mo_beams_16 (by decide) (fun c => absurd rfl c) (fun _ => ?_)
    subst e
    refine r_aload_n d_Mo_beams_19 rfl ?_
    refine r_getfield d_Mo_beams_20 f_Mo_7 M2.1 rfl ?_
    refine r_iload_n d_Mo_beams_23 rfl ?_
    refine r_iload_n d_Mo_beams_24 rfl ?_
    refine r_sipush 1023 d_Mo_beams_25 (by decide) ?_
    refine r_iand d_Mo_beams_28 ?_
    refine r_mst 0 d_Mo_beams_29 (by omega) hj M2 (fun h3 Fr3 M3 => ?_)
    have C3 : ch (fun j' i => j' = 0 ∧ i = j) F (up2 F 0 j (w &&& 1023)) := ch_up ⟨rfl, rfl⟩
    obtain ⟨a1, a2, ⟨a4, a5⟩, a6, a7, a8, a10, a11⟩ := H1.ln hj
    have HL : MLn (up2 F 0 j (w &&& 1023)) j (sp_tell (lnOf s j) w) := ⟨⟨up2_eq, (up2_ne (by omega)).trans a1.2.1, (up2_ne (by omega)).trans a1.2.2.1, (up2_ne (by omega)).trans a1.2.2.2⟩, ⟨(up2_ne (by omega)).trans a2.1, (up2_ne (by omega)).trans a2.2⟩, ⟨a4.ch C3 (fun j i z1 z2 => by unfold Dq at z1; omega), a5.ch C3 (fun j i z1 z2 => by unfold Dq at z1; omega)⟩, a6, a7.ch C3 (fun i _ _ z => by omega), ⟨(up2_ne (by omega)).trans a8.1, a8.2⟩, a10.ch C3 (by omega) (fun j i _ _ _ _ z => by omega), a11⟩
    exact r_vret d_Mo_beams_30 rfl (ha j h3 hj rfl (frP_tr Fr2 Fr3) ⟨_, _, M3, H1.lane hj (ch_mo C3 (fun j' i z => Or.inl (Or.inl ⟨by omega, z.2⟩))) HL (H1.2.2.2.1.ch C3 rfl (fun i z => by omega)) rfl rfl rfl, rfl⟩) (Nat.le_of_ble_eq_true rfl) (Nat.le_of_ble_eq_true rfl)
  · refine r_if_eq 12 d_Mo_beams_5 (by decide) (fun _ => ?_) (fun c => absurd rfl c)
    refine r_iconst 1 d_Mo_beams_12 (by decide) ?_
    refine r_ri nI1 ?_
    refine r_refu htr rfl d_Mo_beams_13 hd (by omega) M (Nat.le_of_ble_eq_true rfl) (Nat.le_of_ble_eq_true rfl) (Nat.le_of_ble_eq_true rfl) (fun h2 Fr2 M2 => ?_)
    refine r_if_ne 30 d_Mo_beams_16 (by decide) (fun _ => ?_) (fun c => absurd c (by decide))
    exact r_vret d_Mo_beams_30 rfl (hx h2 ho Fr2 ⟨F, _, M2, H1.f, rfl⟩) (Nat.le_of_ble_eq_true rfl) (Nat.le_of_ble_eq_true rfl)
theorem c_Mo_count {l : Launch} (htr : l.stackTraces = false) {d : Nat} {h : ac_H} {Φ : ac_R → ac_H → Prop} {lane x : Int32} {s : sp_S} {f : Nat} (hd : 1 ≤ d) (H : MDs h s f) (hx : ∀ h', out9 lane 2 → frP h h' mod9 → MDs h' s 1 → Φ (.inl (some (.int 0))) h') (ha : ∀ j i h', j < 2 → lane = nI j → i < 5 → x = nI i → frP h h' mod9 → MDs h' s 0 → Φ (.inl (some (.int ((lnOf s j).2.2.2.1 i)))) h') (hb : ∀ j h', j < 2 → lane = nI j → out9 x 5 → frP h h' mod9 → MDs h' s 0 → Φ (.inl (some (.int 0))) h') : ac_Mt l d m_Mo_count [.ref 57, .int lane, .int x] h 0 0 Φ := by
  obtain ⟨F, V, M, H1, H2⟩ := H
  refine ac_enter (by decide) rfl htr (fun _ => Nat.le_of_ble_eq_true rfl) ?_
  refine r_aload_n d_Mo_count_0 rfl ?_
  refine r_iload_n d_Mo_count_1 rfl ?_
  refine r_two htr rfl d_Mo_count_2 hd (Nat.le_of_ble_eq_true rfl) (Nat.le_of_ble_eq_true rfl) (Nat.le_of_ble_eq_true rfl) (fun j hj e => ?_) (fun ho => ?_)
  · refine r_if_eq 12 d_Mo_count_5 (by decide) (fun c => absurd c (by decide)) (fun _ => ?_)
    refine r_iconst 0 d_Mo_count_8 (by decide) ?_
    refine r_ri nI_0.symm ?_
    refine r_goto 13 d_Mo_count_9 (by decide) ?_
    refine r_refu htr rfl d_Mo_count_13 hd (by omega) M (Nat.le_of_ble_eq_true rfl) (Nat.le_of_ble_eq_true rfl) (Nat.le_of_ble_eq_true rfl) (fun h2 Fr2 M2 => ?_)
    refine r_if_eq 21 d_Mo_count_16 (by decide) (fun _ => ?_) (fun c => absurd rfl c)
    subst e
    have bad : out9 x 5 → ac_G (l, d, m_Mo_count, 0, 0, Φ, h.length, none) 30 [(0, .ref 57), (1, .int (nI j)), (2, .int x)] [] h2 0 0 := by
      intro z
      refine r_iconst 0 d_Mo_count_30 (by decide) ?_
      refine r_goto 44 d_Mo_count_31 (by decide) ?_
      exact r_iret d_Mo_count_44 rfl (hb j h2 hj rfl z Fr2 ⟨F, _, M2, H1.f, rfl⟩) (Nat.le_of_ble_eq_true rfl) (Nat.le_of_ble_eq_true rfl)
    refine r_iload_n d_Mo_count_21 rfl ?_
    refine r_if_lt 30 d_Mo_count_22 (by decide) (fun c => bad (out_neg (by omega) c)) (fun c => ?_)
    obtain ⟨i, hi, rfl⟩ := nI_of c
    refine r_iload_n d_Mo_count_25 rfl ?_
    refine r_iconst 4 d_Mo_count_26 (by decide) ?_
    refine r_ri nI4 ?_
    refine r_icmp_le 34 d_Mo_count_27 (by decide) (fun c2 => ?_) (fun c2 => bad (out_big (by omega) (nI_le (by
      rcases Nat.lt_or_ge i 5 with z | z
      · exact absurd ((nI_leI (by omega) (by omega)).mpr (by omega)) c2
      · exact z) hi)))
    have hi5 : i ≤ 4 := (nI_leI (by omega) (by omega)).mp c2
    have ef := (H1.ln hj).2.2.2.2.1 i (by omega)
    refine r_aload_n d_Mo_count_34 rfl ?_
    refine r_getfield d_Mo_count_35 f_Mo_31 M2.1 rfl ?_
    refine r_iconst 5 d_Mo_count_38 (by decide) ?_
    refine r_iload_n d_Mo_count_39 rfl ?_
    refine r_ri2 (show (5 : Int32) = nI 5 by decide) ?_
    refine r_imul d_Mo_count_40 ?_
    refine r_ri (pk_mul _ _) ?_
    refine r_iload_n d_Mo_count_41 rfl ?_
    refine r_iadd d_Mo_count_42 ?_
    refine r_ri (nI_add _ _) ?_
    refine r_ialoadN d_Mo_count_43 (md_counts M2) (show 5 * j + i < 10 by omega) (by omega) ?_
    refine r_ri ef ?_
    exact r_iret d_Mo_count_44 rfl (ha j i h2 hj rfl (by omega) rfl Fr2 ⟨F, _, M2, H1.f, rfl⟩) (Nat.le_of_ble_eq_true rfl) (Nat.le_of_ble_eq_true rfl)
  · refine r_if_eq 12 d_Mo_count_5 (by decide) (fun _ => ?_) (fun c => absurd rfl c)
    refine r_iconst 1 d_Mo_count_12 (by decide) ?_
    refine r_ri nI1 ?_
    refine r_refu htr rfl d_Mo_count_13 hd (by omega) M (Nat.le_of_ble_eq_true rfl) (Nat.le_of_ble_eq_true rfl) (Nat.le_of_ble_eq_true rfl) (fun h2 Fr2 M2 => ?_)
    refine r_if_eq 21 d_Mo_count_16 (by decide) (fun c => absurd c (by decide)) (fun _ => ?_)
    refine r_iconst 0 d_Mo_count_19 (by decide) ?_
    exact r_iret d_Mo_count_20 rfl (hx h2 ho Fr2 ⟨F, _, M2, H1.f, rfl⟩) (Nat.le_of_ble_eq_true rfl) (Nat.le_of_ble_eq_true rfl)
theorem c_Mo_time {l : Launch} (htr : l.stackTraces = false) {d : Nat} {h : ac_H} {Φ : ac_R → ac_H → Prop} {s : sp_S} {f : Nat} (H : MDs h s f) (ha : ∀ h', frP h h' mod9 → MDs h' s 0 → Φ (.inl (some (.int (nI s.2.2.2.2)))) h') : ac_Mt l d m_Mo_time [.ref 57] h 0 0 Φ := by
  obtain ⟨F, V, M, H1, H2⟩ := H
  refine ac_enter (by decide) rfl htr (fun _ => Nat.le_of_ble_eq_true rfl) ?_
  refine r_aload_n d_Mo_time_0 rfl ?_
  refine r_iconst 0 d_Mo_time_1 (by decide) ?_
  refine r_mpf_fault d_Mo_time_2 f_Mo_85 M (fun h2_ fr2 M2 => ?_)
  refine r_aload_n d_Mo_time_5 rfl ?_
  refine r_getfield d_Mo_time_6 f_Mo_121 M2.1 rfl ?_
  refine r_ri H1.2.2.2.2.2 ?_
  exact r_iret d_Mo_time_9 rfl (ha _ fr2 ⟨F, _, M2, H1.f, rfl⟩) (Nat.le_of_ble_eq_true rfl) (Nat.le_of_ble_eq_true rfl)
theorem c_Mo_accepted {l : Launch} (htr : l.stackTraces = false) {d : Nat} {h : ac_H} {Φ : ac_R → ac_H → Prop} {s : sp_S} {f : Nat} (H : MDs h s f) (ha : ∀ h', frP h h' mod9 → MDs h' s 0 → Φ (.inl (some (.int (nI s.2.1.length)))) h') : ac_Mt l d m_Mo_accepted [.ref 57] h 0 0 Φ := by
  obtain ⟨F, V, M, H1, H2⟩ := H
  refine ac_enter (by decide) rfl htr (fun _ => Nat.le_of_ble_eq_true rfl) ?_
  refine r_aload_n d_Mo_accepted_0 rfl ?_
  refine r_iconst 0 d_Mo_accepted_1 (by decide) ?_
  refine r_mpf_fault d_Mo_accepted_2 f_Mo_85 M (fun h2_ fr2 M2 => ?_)
  refine r_aload_n d_Mo_accepted_5 rfl ?_
  refine r_getfield d_Mo_accepted_6 f_Mo_149 M2.1 rfl ?_
  refine r_ri H1.2.2.1.1 ?_
  exact r_iret d_Mo_accepted_9 rfl (ha _ fr2 ⟨F, _, M2, H1.f, rfl⟩) (Nat.le_of_ble_eq_true rfl) (Nat.le_of_ble_eq_true rfl)
theorem c_Mo_refunds {l : Launch} (htr : l.stackTraces = false) {d : Nat} {h : ac_H} {Φ : ac_R → ac_H → Prop} {s : sp_S} {f : Nat} (H : MDs h s f) (ha : ∀ h', frP h h' mod9 → MDs h' s 0 → Φ (.inl (some (.int (nI s.2.2.1.length)))) h') : ac_Mt l d m_Mo_refunds [.ref 57] h 0 0 Φ := by
  obtain ⟨F, V, M, H1, H2⟩ := H
  refine ac_enter (by decide) rfl htr (fun _ => Nat.le_of_ble_eq_true rfl) ?_
  refine r_aload_n d_Mo_refunds_0 rfl ?_
  refine r_iconst 0 d_Mo_refunds_1 (by decide) ?_
  refine r_mpf_fault d_Mo_refunds_2 f_Mo_85 M (fun h2_ fr2 M2 => ?_)
  refine r_aload_n d_Mo_refunds_5 rfl ?_
  refine r_getfield d_Mo_refunds_6 f_Mo_89 M2.1 rfl ?_
  refine r_ri H1.2.2.2.1.1 ?_
  exact r_iret d_Mo_refunds_9 rfl (ha _ fr2 ⟨F, _, M2, H1.f, rfl⟩) (Nat.le_of_ble_eq_true rfl) (Nat.le_of_ble_eq_true rfl)
theorem c_Mo_refund {l : Launch} (htr : l.stackTraces = false) {d : Nat} {h : ac_H} {Φ : ac_R → ac_H → Prop} {i : Int32} {s : sp_S} {f : Nat} (H : MDs h s f) (ha : ∀ h', frP h h' mod9 → MDs h' s 0 → Φ (.inl (some (.int (if 0 ≤ i.toInt then (s.2.2.1[i.toInt.toNat]?).getD (-1) else -1)))) h') : ac_Mt l d m_Mo_refund [.ref 57, .int i] h 0 0 Φ := by
  obtain ⟨F, V, M, H1, H2⟩ := H
  obtain ⟨r1, r2, r3⟩ := H1.2.2.2.1
  refine ac_enter (by decide) rfl htr (fun _ => Nat.le_of_ble_eq_true rfl) ?_
  refine r_aload_n d_Mo_refund_0 rfl ?_
  refine r_iconst 0 d_Mo_refund_1 (by decide) ?_
  refine r_mpf_fault d_Mo_refund_2 f_Mo_85 M (fun h2_ fr2 M2 => ?_)
  have ha := ha _ fr2 ⟨F, _, M2, H1.f, rfl⟩
  refine r_iload_n d_Mo_refund_5 rfl ?_
  refine r_if_lt 17 d_Mo_refund_6 (by decide) (fun c1 => ?_) (fun c1 => ?_)
  · have h9 : ¬ 0 ≤ i.toInt := by have := Int32.lt_iff_toInt_lt.mp c1; rw [Int32.toInt_zero] at this; omega
    rw [if_neg h9] at ha
    refine r_iconst (-1) d_Mo_refund_17 (by decide) ?_
    refine r_goto 27 d_Mo_refund_18 (by decide) ?_
    exact r_iret d_Mo_refund_27 rfl ha (Nat.le_of_ble_eq_true rfl) (Nat.le_of_ble_eq_true rfl)
  · obtain ⟨j, hj, rfl⟩ := nI_of c1
    rw [nI_toInt hj, if_pos (by omega), Int.toNat_natCast] at ha
    refine r_iload_n d_Mo_refund_9 rfl ?_
    refine r_aload_n d_Mo_refund_10 rfl ?_
    refine r_getfield d_Mo_refund_11 f_Mo_89 M2.1 rfl ?_
    refine r_ri r1 ?_
    refine r_icmp_lt 21 d_Mo_refund_14 (by decide) (fun c2 => ?_) (fun c2 => ?_)
    · have hlt : j < s.2.2.1.length := (nI_ltI (by omega) (by omega)).mp c2
      rw [List.getElem?_eq_getElem hlt] at ha
      refine r_aload_n d_Mo_refund_21 rfl ?_
      refine r_getfield d_Mo_refund_22 f_Mo_82 M2.1 rfl ?_
      refine r_iload_n d_Mo_refund_25 rfl ?_
      refine r_ialoadN d_Mo_refund_26 (md_refund M2) (show j < 600 by omega) (by omega) ?_
      refine r_ri (r3 j _ (List.getElem?_eq_getElem hlt)) ?_
      exact r_iret d_Mo_refund_27 rfl ha (Nat.le_of_ble_eq_true rfl) (Nat.le_of_ble_eq_true rfl)
    · have hge : s.2.2.1.length ≤ j := by
        rcases Nat.lt_or_ge j s.2.2.1.length with z | z
        · exact absurd ((nI_ltI (by omega) (by omega)).mpr z) c2
        · exact z
      rw [List.getElem?_eq_none hge] at ha
      refine r_iconst (-1) d_Mo_refund_17 (by decide) ?_
      refine r_goto 27 d_Mo_refund_18 (by decide) ?_
      exact r_iret d_Mo_refund_27 rfl ha (Nat.le_of_ble_eq_true rfl) (Nat.le_of_ble_eq_true rfl)
theorem c_Mo_alarm {l : Launch} (htr : l.stackTraces = false) {d : Nat} {h : ac_H} {Φ : ac_R → ac_H → Prop} {x : Int32} {s : sp_S} {f : Nat} (hx : x = 0 ∨ x = 1) (H : MDs h s f) (ha : ∀ h', frP h h' mod9 → MDs h' (s.1, s.2.1, s.2.2.1, x, s.2.2.2.2) 0 → Φ (.inl none) h') : ac_Mt l d m_Mo_alarm [.ref 57, .int x] h 0 0 Φ := by
  obtain ⟨F, V, M, H1, H2⟩ := H
  refine ac_enter (by decide) rfl htr (fun _ => Nat.le_of_ble_eq_true rfl) ?_
  refine r_aload_n d_Mo_alarm_0 rfl ?_
  refine r_iconst 0 d_Mo_alarm_1 (by decide) ?_
  refine r_mpf_fault d_Mo_alarm_2 f_Mo_85 M (fun h2_ fr2 M2 => ?_)
  refine r_aload_n d_Mo_alarm_5 rfl ?_
  refine r_iload_n d_Mo_alarm_6 rfl ?_
  refine r_putfieldN d_Mo_alarm_7 f_Mo_117 M2.1 (Nat.le_of_ble_eq_true rfl) (fun _ => by rcases hx with q | q <;> subst q <;> rfl) (fun _ => by rcases hx with q | q <;> subst q <;> rfl) (fun h3 Fr3 g3 => ?_)
  refine r_vret d_Mo_alarm_10 rfl (ha h3 (frP_tr fr2 (frP_of Fr3 (fun x hx => by simp at hx; show 57 ≤ x ∧ x < 83; omega))) ⟨F, upd (upd V 0 0) 2 x, ⟨g3, fun j hj => fr_at Fr3 (by simp; omega) (M2.2 j hj)⟩, ?_, rfl⟩) (Nat.le_of_ble_eq_true rfl) (Nat.le_of_ble_eq_true rfl)
  obtain ⟨a1, a2, a3, a4, a5, a6⟩ := H1
  exact ⟨a1, a2, a3, a4, rfl, a6⟩
/-- a queue of a lane -/
theorem MLn.q {F : Nat → Nat → Int32} {ln : Nat} {L : sp_L} (H : MLn F ln L) {i : Nat} (hi : i < 2) : Mqu F (2 * ln + i) (qOf L i) ∧ okQ (qOf L i) := by
  rcases (show i = 0 ∨ i = 1 by omega) with q | q <;> subst q
  · exact ⟨H.2.2.1.1, H.2.2.2.1.1⟩
  · exact ⟨H.2.2.1.2, H.2.2.2.1.2⟩
theorem MLn_setq {F F' : Nat → Nat → Int32} {ln : Nat} {L : sp_L} (H : MLn F ln L) {i : Nat} (hi : i < 2) {q : sp_Q} (C : ch (fun j k => Dq (2 * ln + i) j k ∨ j = 22 ∨ j = 23 ∨ j = 24) F F') (HQ : Mqu F' (2 * ln + i) q) (ok : okQ q) : MLn F' ln (stQ L i q) := by
  obtain ⟨a1, ⟨a2, a3⟩, ⟨a4, a5⟩, ⟨a6, a6'⟩, a7, ⟨a8, a9⟩, a10, a11⟩ := H
  have b1 := a1.ch C (fun j hj => by unfold Dq; omega)
  have b2 := (C 5 ln (by unfold Dq; omega)).trans a2
  have b3 := (C 6 ln (by unfold Dq; omega)).trans a3
  have b7 := a7.ch C (fun i _ _ => by unfold Dq; omega)
  have b8 := (C 4 ln (by unfold Dq; omega)).trans a8
  have b10 := a10.ch C (by unfold Dq; omega) (fun j i _ _ _ _ => by unfold Dq; omega)
  rcases (show i = 0 ∨ i = 1 by omega) with e | e <;> subst e
  · exact ⟨b1, ⟨b2, b3⟩, ⟨HQ, a5.ch C (fun j i z1 z2 => by unfold Dq at z1 z2; omega)⟩, ⟨ok, a6'⟩, b7, ⟨b8, a9⟩, b10, a11⟩
  · exact ⟨b1, ⟨b2, b3⟩, ⟨a4.ch C (fun j i z1 z2 => by unfold Dq at z1 z2; omega), HQ⟩, ⟨a6, ok⟩, b7, ⟨b8, a9⟩, b10, a11⟩
theorem in_q {ln i j k : Nat} (hi : i < 2) (z : Dq (2 * ln + i) j k) : Dl ln j k := by
  rcases (show i = 0 ∨ i = 1 by omega) with e | e <;> subst e
  · exact in_q0 z
  · exact in_q1 z
theorem c_Mo_waiting {l : Launch} (htr : l.stackTraces = false) {d : Nat} {h : ac_H} {Φ : ac_R → ac_H → Prop} {lane x : Int32} {s : sp_S} {f : Nat} (hd : 1 ≤ d) (H : MDs h s f) (hx : ∀ h', (out9 lane 2 ∨ out9 x 2) → frP h h' mod9 → MDs h' s 1 → Φ (.inl (some (.int 0))) h') (ha : ∀ j i h', j < 2 → lane = nI j → i < 2 → x = nI i → frP h h' mod9 → MDs h' s 0 → Φ (.inl (some (.int (nI (qOf (lnOf s j) i).length)))) h') : ac_Mt l d m_Mo_waiting [.ref 57, .int lane, .int x] h 0 0 Φ := by
  obtain ⟨F, V, M, H1, H2⟩ := H
  refine ac_enter (by decide) rfl htr (fun _ => Nat.le_of_ble_eq_true rfl) ?_
  have bad : (out9 lane 2 ∨ out9 x 2) → ac_G (l, d, m_Mo_waiting, 0, 0, Φ, h.length, none) 19 (lv_args 0 [.ref 57, .int lane, .int x]) [.ref 57] h 0 0 := by
    intro ho
    refine r_iconst 1 d_Mo_waiting_19 (by decide) ?_
    refine r_ri nI1 ?_
    refine r_refu htr rfl d_Mo_waiting_20 hd (by omega) M (Nat.le_of_ble_eq_true rfl) (Nat.le_of_ble_eq_true rfl) (Nat.le_of_ble_eq_true rfl) (fun h2 Fr2 M2 => ?_)
    refine r_if_eq 30 d_Mo_waiting_23 (by decide) (fun c => absurd c (by decide)) (fun _ => ?_)
    refine r_iconst 0 d_Mo_waiting_26 (by decide) ?_
    refine r_goto 40 d_Mo_waiting_27 (by decide) ?_
    exact r_iret d_Mo_waiting_40 rfl (hx h2 ho Fr2 ⟨F, _, M2, H1.f, rfl⟩) (Nat.le_of_ble_eq_true rfl) (Nat.le_of_ble_eq_true rfl)
  refine r_aload_n d_Mo_waiting_0 rfl ?_
  refine r_iload_n d_Mo_waiting_1 rfl ?_
  refine r_two htr rfl d_Mo_waiting_2 hd (Nat.le_of_ble_eq_true rfl) (Nat.le_of_ble_eq_true rfl) (Nat.le_of_ble_eq_true rfl) (fun j hj e => ?_) (fun ho => r_if_eq 19 d_Mo_waiting_5 (by decide) (fun _ => bad (Or.inl ho)) (fun c => absurd rfl c))
  refine r_if_eq 19 d_Mo_waiting_5 (by decide) (fun c => absurd c (by decide)) (fun _ => ?_)
  refine r_iload_n d_Mo_waiting_8 rfl ?_
  refine r_two htr rfl d_Mo_waiting_9 hd (Nat.le_of_ble_eq_true rfl) (Nat.le_of_ble_eq_true rfl) (Nat.le_of_ble_eq_true rfl) (fun i hi e2 => ?_) (fun ho => r_if_eq 19 d_Mo_waiting_12 (by decide) (fun _ => bad (Or.inr ho)) (fun c => absurd rfl c))
  refine r_if_eq 19 d_Mo_waiting_12 (by decide) (fun c => absurd c (by decide)) (fun _ => ?_)
  refine r_iconst 0 d_Mo_waiting_15 (by decide) ?_
  refine r_ri nI_0.symm ?_
  refine r_goto 20 d_Mo_waiting_16 (by decide) ?_
  refine r_refu htr rfl d_Mo_waiting_20 hd (by omega) M (Nat.le_of_ble_eq_true rfl) (Nat.le_of_ble_eq_true rfl) (Nat.le_of_ble_eq_true rfl) (fun h2 Fr2 M2 => ?_)
  refine r_if_eq 30 d_Mo_waiting_23 (by decide) (fun _ => ?_) (fun c => absurd rfl c)
  subst e
  subst e2
  obtain ⟨TQ, okq⟩ := (H1.ln hj).q hi
  have q6 := TQ.2.1
  refine r_aload_n d_Mo_waiting_30 rfl ?_
  refine r_getfield d_Mo_waiting_31 f_Mo_67 M2.1 rfl ?_
  refine r_iconst 2 d_Mo_waiting_34 (by decide) ?_
  refine r_iload_n d_Mo_waiting_35 rfl ?_
  refine r_ri2 (show (2 : Int32) = nI 2 by decide) ?_
  refine r_imul d_Mo_waiting_36 ?_
  refine r_ri (pk_mul _ _) ?_
  refine r_iload_n d_Mo_waiting_37 rfl ?_
  refine r_iadd d_Mo_waiting_38 ?_
  refine r_ri (nI_add _ _) ?_
  refine r_ialoadN d_Mo_waiting_39 (md_waiting M2) (show 2 * j + i < 4 by omega) (by omega) ?_
  refine r_ri TQ.1 ?_
  exact r_iret d_Mo_waiting_40 rfl (ha j i h2 hj rfl hi rfl Fr2 ⟨F, _, M2, H1.f, rfl⟩) (Nat.le_of_ble_eq_true rfl) (Nat.le_of_ble_eq_true rfl)
theorem c_Mo_waits {l : Launch} (htr : l.stackTraces = false) {d : Nat} {h : ac_H} {Φ : ac_R → ac_H → Prop} {lane x : Int32} {y : Int32} {s : sp_S} {f : Nat} (hd : 1 ≤ d) (H : MDs h s f) (hx : ∀ h', (out9 lane 2 ∨ out9 x 2) → frP h h' mod9 → MDs h' s 1 → Φ (.inl (some (.int 0))) h') (ha : ∀ j i h', j < 2 → lane = nI j → i < 2 → x = nI i → frP h h' mod9 → MDs h' s 0 → Φ (.inl (some (.int (if 0 ≤ y.toInt then (((qOf (lnOf s j) i)[y.toInt.toNat]?).map (·.1)).getD (-1) else -1)))) h') : ac_Mt l d m_Mo_waits [.ref 57, .int lane, .int x, .int y] h 0 0 Φ := by
  obtain ⟨F, V, M, H1, H2⟩ := H
  refine ac_enter (by decide) rfl htr (fun _ => Nat.le_of_ble_eq_true rfl) ?_
  have bad : (out9 lane 2 ∨ out9 x 2) → ac_G (l, d, m_Mo_waits, 0, 0, Φ, h.length, none) 19 (lv_args 0 [.ref 57, .int lane, .int x, .int y]) [.ref 57] h 0 0 := by
    intro ho
    refine r_iconst 1 d_Mo_waits_19 (by decide) ?_
    refine r_ri nI1 ?_
    refine r_refu htr rfl d_Mo_waits_20 hd (by omega) M (Nat.le_of_ble_eq_true rfl) (Nat.le_of_ble_eq_true rfl) (Nat.le_of_ble_eq_true rfl) (fun h2 Fr2 M2 => ?_)
    refine r_if_eq 28 d_Mo_waits_23 (by decide) (fun c => absurd c (by decide)) (fun _ => ?_)
    refine r_iconst 0 d_Mo_waits_26 (by decide) ?_
    exact r_iret d_Mo_waits_27 rfl (hx h2 ho Fr2 ⟨F, _, M2, H1.f, rfl⟩) (Nat.le_of_ble_eq_true rfl) (Nat.le_of_ble_eq_true rfl)
  refine r_aload_n d_Mo_waits_0 rfl ?_
  refine r_iload_n d_Mo_waits_1 rfl ?_
  refine r_two htr rfl d_Mo_waits_2 hd (Nat.le_of_ble_eq_true rfl) (Nat.le_of_ble_eq_true rfl) (Nat.le_of_ble_eq_true rfl) (fun j hj e => ?_) (fun ho => r_if_eq 19 d_Mo_waits_5 (by decide) (fun _ => bad (Or.inl ho)) (fun c => absurd rfl c))
  refine r_if_eq 19 d_Mo_waits_5 (by decide) (fun c => absurd c (by decide)) (fun _ => ?_)
  refine r_iload_n d_Mo_waits_8 rfl ?_
  refine r_two htr rfl d_Mo_waits_9 hd (Nat.le_of_ble_eq_true rfl) (Nat.le_of_ble_eq_true rfl) (Nat.le_of_ble_eq_true rfl) (fun i hi e2 => ?_) (fun ho => r_if_eq 19 d_Mo_waits_12 (by decide) (fun _ => bad (Or.inr ho)) (fun c => absurd rfl c))
  refine r_if_eq 19 d_Mo_waits_12 (by decide) (fun c => absurd c (by decide)) (fun _ => ?_)
  refine r_iconst 0 d_Mo_waits_15 (by decide) ?_
  refine r_ri nI_0.symm ?_
  refine r_goto 20 d_Mo_waits_16 (by decide) ?_
  refine r_refu htr rfl d_Mo_waits_20 hd (by omega) M (Nat.le_of_ble_eq_true rfl) (Nat.le_of_ble_eq_true rfl) (Nat.le_of_ble_eq_true rfl) (fun h2 Fr2 M2 => ?_)
  refine r_if_eq 28 d_Mo_waits_23 (by decide) (fun _ => ?_) (fun c => absurd rfl c)
  subst e
  subst e2
  obtain ⟨TQ, okq⟩ := (H1.ln hj).q hi
  have q6 := TQ.2.1
  have ha := ha j i h2 hj rfl hi rfl Fr2 ⟨F, _, M2, H1.f, rfl⟩
  refine r_iconst 2 d_Mo_waits_28 (by decide) ?_
  refine r_iload_n d_Mo_waits_29 rfl ?_
  refine r_ri2 (show (2 : Int32) = nI 2 by decide) ?_
  refine r_imul d_Mo_waits_30 ?_
  refine r_ri (pk_mul _ _) ?_
  refine r_iload_n d_Mo_waits_31 rfl ?_
  refine r_iadd d_Mo_waits_32 ?_
  refine r_ri (nI_add _ _) ?_
  refine r_istore d_Mo_waits_33 (Nat.le_of_ble_eq_true rfl) ?_
  refine r_iload_n d_Mo_waits_35 rfl ?_
  refine r_if_lt 50 d_Mo_waits_36 (by decide) (fun c1 => ?_) (fun c1 => ?_)
  · have h9 : ¬ 0 ≤ y.toInt := by have := Int32.lt_iff_toInt_lt.mp c1; rw [Int32.toInt_zero] at this; omega
    rw [if_neg h9] at ha
    refine r_iconst (-1) d_Mo_waits_50 (by decide) ?_
    refine r_goto 66 d_Mo_waits_51 (by decide) ?_
    exact r_iret d_Mo_waits_66 rfl ha (Nat.le_of_ble_eq_true rfl) (Nat.le_of_ble_eq_true rfl)
  · obtain ⟨k, hk, rfl⟩ := nI_of c1
    rw [nI_toInt hk, if_pos (by omega), Int.toNat_natCast] at ha
    refine r_iload_n d_Mo_waits_39 rfl ?_
    refine r_aload_n d_Mo_waits_40 rfl ?_
    refine r_getfield d_Mo_waits_41 f_Mo_67 M2.1 rfl ?_
    refine r_iload d_Mo_waits_44 rfl ?_
    refine r_ialoadN d_Mo_waits_46 (md_waiting M2) (show 2*j+i < 4 by omega) (by omega) ?_
    refine r_ri TQ.1 ?_
    refine r_icmp_lt 54 d_Mo_waits_47 (by decide) (fun c2 => ?_) (fun c2 => ?_)
    · have hlt : k < (qOf (lnOf s j) i).length := (nI_ltI (by omega) (by omega)).mp c2
      have eq := (TQ.2.2 k _ (List.getElem?_eq_getElem hlt)).1
      rw [List.getElem?_eq_getElem hlt] at ha
      refine r_aload_n d_Mo_waits_54 rfl ?_
      refine r_getfield d_Mo_waits_55 f_Mo_70 M2.1 rfl ?_
      refine r_bipush 6 d_Mo_waits_58 (by decide) ?_
      refine r_iload d_Mo_waits_60 rfl ?_
      refine r_ri2 (show (6 : Int32) = nI 6 by decide) ?_
      refine r_imul d_Mo_waits_62 ?_
      refine r_ri (pk_mul _ _) ?_
      refine r_iload_n d_Mo_waits_63 rfl ?_
      refine r_iadd d_Mo_waits_64 ?_
      refine r_ri (nI_add _ _) ?_
      refine r_ialoadN d_Mo_waits_65 (md_account M2) (show 6 * ((2*j+i)) + k < 24 by omega) (by omega) ?_
      refine r_ri eq ?_
      exact r_iret d_Mo_waits_66 rfl ha (Nat.le_of_ble_eq_true rfl) (Nat.le_of_ble_eq_true rfl)
    · have hge : (qOf (lnOf s j) i).length ≤ k := by
        rcases Nat.lt_or_ge k (qOf (lnOf s j) i).length with z | z
        · exact absurd ((nI_ltI (by omega) (by omega)).mpr z) c2
        · exact z
      rw [List.getElem?_eq_none hge] at ha
      refine r_iconst (-1) d_Mo_waits_50 (by decide) ?_
      refine r_goto 66 d_Mo_waits_51 (by decide) ?_
      exact r_iret d_Mo_waits_66 rfl ha (Nat.le_of_ble_eq_true rfl) (Nat.le_of_ble_eq_true rfl)
theorem c_Mo_cancel {l : Launch} (htr : l.stackTraces = false) {d : Nat} {h : ac_H} {Φ : ac_R → ac_H → Prop} {lane x : Int32} {s : sp_S} {f : Nat} (hd : 1 ≤ d) (H : MDs h s f) (hx : ∀ h', (out9 lane 2 ∨ out9 x 2) → frP h h' mod9 → MDs h' s 1 → Φ (.inl (some (.int 0))) h') (hcap : ∀ j i, j < 2 → i < 2 → s.2.2.1.length + (qOf (lnOf s j) i).length ≤ 512) (ha : ∀ j i h', j < 2 → lane = nI j → i < 2 → x = nI i → qOf (lnOf s j) i = [] → frP h h' mod9 → MDs h' s 0 → Φ (.inl (some (.int (-1)))) h') (hb : ∀ j i y t h', j < 2 → lane = nI j → i < 2 → x = nI i → qOf (lnOf s j) i = y :: t → frP h h' mod9 → MDs h' (sp_canc s j i y t) 0 → Φ (.inl (some (.int y.1))) h') : ac_Mt l d m_Mo_cancel [.ref 57, .int lane, .int x] h 0 0 Φ := by
  obtain ⟨F, V, M, H1, H2⟩ := H
  refine ac_enter (by decide) rfl htr (fun _ => Nat.le_of_ble_eq_true rfl) ?_
  have bad : (out9 lane 2 ∨ out9 x 2) → ac_G (l, d, m_Mo_cancel, 0, 0, Φ, h.length, none) 19 (lv_args 0 [.ref 57, .int lane, .int x]) [.ref 57] h 0 0 := by
    intro ho
    refine r_iconst 1 d_Mo_cancel_19 (by decide) ?_
    refine r_ri nI1 ?_
    refine r_refu htr rfl d_Mo_cancel_20 hd (by omega) M (Nat.le_of_ble_eq_true rfl) (Nat.le_of_ble_eq_true rfl) (Nat.le_of_ble_eq_true rfl) (fun h2 Fr2 M2 => ?_)
    refine r_if_eq 28 d_Mo_cancel_23 (by decide) (fun c => absurd c (by decide)) (fun _ => ?_)
    refine r_iconst 0 d_Mo_cancel_26 (by decide) ?_
    exact r_iret d_Mo_cancel_27 rfl (hx h2 ho Fr2 ⟨F, _, M2, H1.f, rfl⟩) (Nat.le_of_ble_eq_true rfl) (Nat.le_of_ble_eq_true rfl)
  refine r_aload_n d_Mo_cancel_0 rfl ?_
  refine r_iload_n d_Mo_cancel_1 rfl ?_
  refine r_two htr rfl d_Mo_cancel_2 hd (Nat.le_of_ble_eq_true rfl) (Nat.le_of_ble_eq_true rfl) (Nat.le_of_ble_eq_true rfl) (fun j hj e => ?_) (fun ho => r_if_eq 19 d_Mo_cancel_5 (by decide) (fun _ => bad (Or.inl ho)) (fun c => absurd rfl c))
  refine r_if_eq 19 d_Mo_cancel_5 (by decide) (fun c => absurd c (by decide)) (fun _ => ?_)
  refine r_iload_n d_Mo_cancel_8 rfl ?_
  refine r_two htr rfl d_Mo_cancel_9 hd (Nat.le_of_ble_eq_true rfl) (Nat.le_of_ble_eq_true rfl) (Nat.le_of_ble_eq_true rfl) (fun i hi e2 => ?_) (fun ho => r_if_eq 19 d_Mo_cancel_12 (by decide) (fun _ => bad (Or.inr ho)) (fun c => absurd rfl c))
  refine r_if_eq 19 d_Mo_cancel_12 (by decide) (fun c => absurd c (by decide)) (fun _ => ?_)
  refine r_iconst 0 d_Mo_cancel_15 (by decide) ?_
  refine r_ri nI_0.symm ?_
  refine r_goto 20 d_Mo_cancel_16 (by decide) ?_
  refine r_refu htr rfl d_Mo_cancel_20 hd (by omega) M (Nat.le_of_ble_eq_true rfl) (Nat.le_of_ble_eq_true rfl) (Nat.le_of_ble_eq_true rfl) (fun h2 Fr2 M2 => ?_)
  refine r_if_eq 28 d_Mo_cancel_23 (by decide) (fun _ => ?_) (fun c => absurd rfl c)
  subst e
  subst e2
  obtain ⟨TQ, okq⟩ := (H1.ln hj).q hi
  have q6 := TQ.2.1
  have hc := hcap j i hj hi
  refine r_iconst 2 d_Mo_cancel_28 (by decide) ?_
  refine r_iload_n d_Mo_cancel_29 rfl ?_
  refine r_ri2 (show (2 : Int32) = nI 2 by decide) ?_
  refine r_imul d_Mo_cancel_30 ?_
  refine r_ri (pk_mul _ _) ?_
  refine r_iload_n d_Mo_cancel_31 rfl ?_
  refine r_iadd d_Mo_cancel_32 ?_
  refine r_ri (nI_add _ _) ?_
  refine r_istore_n d_Mo_cancel_33 (Nat.le_of_ble_eq_true rfl) ?_
  refine r_aload_n d_Mo_cancel_34 rfl ?_
  refine r_getfield d_Mo_cancel_35 f_Mo_67 M2.1 rfl ?_
  refine r_iload_n d_Mo_cancel_38 rfl ?_
  refine r_ialoadN d_Mo_cancel_39 (md_waiting M2) (show 2 * j + i < 4 by omega) (by omega) ?_
  refine r_ri TQ.1 ?_
  cases hq : qOf (lnOf s j) i with
  | nil =>
    refine r_if_ne 45 d_Mo_cancel_40 (by decide) (fun c1 => absurd (by decide) c1) (fun c1 => ?_)
    refine r_iconst (-1) d_Mo_cancel_43 (by decide) ?_
    exact r_iret d_Mo_cancel_44 rfl (ha j i h2 hj rfl hi rfl hq Fr2 ⟨F, _, M2, H1.f, rfl⟩) (Nat.le_of_ble_eq_true rfl) (Nat.le_of_ble_eq_true rfl)
  | cons y t =>
    rw [hq] at TQ hc okq q6
    rw [List.length_cons] at hc q6
    refine r_if_ne 45 d_Mo_cancel_40 (by decide) (fun c1 => ?_) (fun c1 => absurd c1 (nI_ne0 (by rw [List.length_cons]; omega) (by rw [List.length_cons]; omega)))
    refine r_aload_n d_Mo_cancel_45 rfl ?_
    refine r_iload_n d_Mo_cancel_46 rfl ?_
    refine r_cVi [.int (nI (2 * j + i))] 57 (d - 1) 0 0 y.1 (fun h' => ∃ F', frP h2 h' mod9 ∧ MD h' F' (upd V 0 (nI 0)) ∧ ch (Dq (2 * j + i)) F F' ∧ Mqu F' (2 * j + i) t) d_Mo_cancel_47 q_Mo_113 M2.1 rfl rfl (c_Mo_takeOldest htr (by omega) M2 TQ (fun h' F' f' G1 G2 G3 => ⟨rfl, F', f', G1, G2, G3⟩)) (by show d - 1 + 1 ≤ d; omega) (Nat.le_of_ble_eq_true rfl) (Nat.le_of_ble_eq_true rfl) (Nat.le_of_ble_eq_true rfl) (fun h3 e3 => ?_)
    obtain ⟨F3, Fr3, M3, C3, T3⟩ := e3
    have HR3 : MR F3 (upd V 0 (nI 0)) s.2.2.1 := H1.2.2.2.1.ch C3 rfl (fun i => by unfold Dq; omega)
    refine r_istore d_Mo_cancel_50 (Nat.le_of_ble_eq_true rfl) ?_
    refine r_aload_n d_Mo_cancel_52 rfl ?_
    refine r_iload d_Mo_cancel_53 rfl ?_
    refine r_cVv [.int y.1] 57 (d - 1) 0 0 (fun h' => ∃ F', frP h3 h' mod9 ∧ MD h' F' (upd (upd V 0 (nI 0)) 5 (nI (s.2.2.1.length + 1))) ∧ ch Dr F3 F' ∧ MR F' (upd (upd V 0 (nI 0)) 5 (nI (s.2.2.1.length + 1))) (s.2.2.1 ++ [y.1])) d_Mo_cancel_55 q_Mo_95 M3.1 rfl rfl (c_Mo_giveBack htr M3 HR3 (by omega) (fun h' F' f' G1 G2 G3 => ⟨rfl, F', f', G1, G2, G3⟩)) (by show d - 1 + 1 ≤ d; omega) (Nat.le_of_ble_eq_true rfl) (Nat.le_of_ble_eq_true rfl) (Nat.le_of_ble_eq_true rfl) (fun h4 e4 => ?_)
    obtain ⟨F4, Fr4, M4, C4, HR4⟩ := e4
    have CC : ch (fun a b => Dq (2 * j + i) a b ∨ a = 22 ∨ a = 23 ∨ a = 24) F F4 := ch_tr (ch_mo C3 (fun a b z => Or.inl z)) (ch_mo C4 (fun a b z => Or.inr (Or.inr (Or.inr z))))
    have CD : ch (Dl j) F F4 := ch_tr (ch_mo C3 (fun a b z => in_q hi z)) (ch_mo C4 (fun a b z => in_24 z))
    have HL := MLn_setq (H1.ln hj) hi CC (T3.ch C4 (fun a b z1 z2 => by unfold Dq at z1; unfold Dr at z2; omega)) (fun v hv => okq v (List.mem_cons_of_mem _ hv))
    refine r_iload d_Mo_cancel_58 rfl ?_
    exact r_iret d_Mo_cancel_60 rfl (hb j i y t h4 hj rfl hi rfl hq (frP_tr (frP_tr Fr2 Fr3) Fr4) ⟨F4, _, M4, H1.lane hj CD HL HR4 rfl rfl rfl, rfl⟩) (Nat.le_of_ble_eq_true rfl) (Nat.le_of_ble_eq_true rfl)
