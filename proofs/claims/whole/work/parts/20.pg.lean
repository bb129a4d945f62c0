/-! THE COMPONENT'S CALLS -/
def lnOf (s : sp_S) (j : Nat) : sp_L := if j = 0 then s.1.1 else s.1.2
def stL (s : sp_S) (j : Nat) (L : sp_L) : sp_S := (if j = 0 then (L, s.1.2) else (s.1.1, L), s.2)
def qOf (L : sp_L) (i : Nat) : sp_Q := if i = 0 then L.2.2.1.1 else L.2.2.1.2
def stQ (L : sp_L) (i : Nat) (q : sp_Q) : sp_L := (L.1, L.2.1, if i = 0 then (q, L.2.2.1.2) else (L.2.2.1.1, q), L.2.2.2)
theorem PGs.ln {h : ac_H} {s : sp_S} (H : PGs h s) {j : Nat} (hj : j < 2) : Lns h (2 + 25 * j) (lnOf s j) := by
  rcases (show j = 0 ∨ j = 1 by omega) with q | q <;> subst q
  · exact H.2.2.1
  · exact H.2.2.2.1
theorem PGs.lane {h h' : ac_H} {s : sp_S} (H : PGs h s) {j : Nat} (hj : j < 2) {L : sp_L} {R : List Int32} (F : frP h h' (inL (2 + 25 * j) 55)) (HL : Lns h' (2 + 25 * j) L) (HR : Rfs h' 55 R) : PGs h' ((stL s j L).1, s.2.1, R, s.2.2.2) := by
  obtain ⟨⟨gl, a1, a2, a3⟩, a4, a5, a6, a7, a8, a9⟩ := H
  have k : ∀ x, ¬ inL (2 + 25 * j) 55 x → h'[x]? = h[x]? := F.2
  rcases (show j = 0 ∨ j = 1 by omega) with q | q <;> subst q
  · exact ⟨⟨gl, (k 1 (by unfold inL; omega)).trans a1, a2, a3⟩, (k 0 (by unfold inL; omega)).trans a4, HL, a6.pt (fun i hi => k _ (by unfold inL; omega)), a7.pt (fun i hi => k _ (by unfold inL; omega)), HR, a9⟩
  · exact ⟨⟨gl, (k 1 (by unfold inL; omega)).trans a1, a2, a3⟩, (k 0 (by unfold inL; omega)).trans a4, a5.pt (fun i hi => k _ (by unfold inL; omega)), HL, a7.pt (fun i hi => k _ (by unfold inL; omega)), HR, a9⟩
theorem PGs.acc {h h' : ac_H} {s : sp_S} (H : PGs h s) {q : sp_Q} (F : fr h h' [52, 53, 54]) (HT : TLs h' 52 512 q) : PGs h' (s.1, q, s.2.2) := by
  obtain ⟨⟨gl, a1, a2, a3⟩, a4, a5, a6, a7, a8, a9⟩ := H
  have k : ∀ x, x < 52 ∨ 54 < x → h'[x]? = h[x]? := fun x hx => F.2 x (by simp; omega)
  exact ⟨⟨gl, (k 1 (by omega)).trans a1, a2, a3⟩, (k 0 (by omega)).trans a4, a5.pt (fun i hi => k _ (by omega)), a6.pt (fun i hi => k _ (by omega)), HT, a8.pt (fun i hi => k _ (by omega)), a9⟩
theorem PGs.obj {h h' : ac_H} {s : sp_S} (H : PGs h s) {al : Int32} {n : Nat} (ha : al = 0 ∨ al = 1) (F : fr h h' [0]) (HO : h'[0]? = some (.inr (7, [.ref 1, .ref 52, .ref 55, .int al, .int (nI n)]))) : PGs h' (s.1, s.2.1, s.2.2.1, al, n) := by
  obtain ⟨⟨gl, a1, a2, a3⟩, a4, a5, a6, a7, a8, a9⟩ := H
  have k : ∀ x, 0 < x → h'[x]? = h[x]? := fun x hx => F.2 x (by simp; omega)
  exact ⟨⟨gl, (k 1 (by omega)).trans a1, a2, a3⟩, HO, a5.pt (fun i hi => k _ (by omega)), a6.pt (fun i hi => k _ (by omega)), a7.pt (fun i hi => k _ (by omega)), a8.pt (fun i hi => k _ (by omega)), ha⟩
theorem Lns.q {h : ac_H} {b : Nat} {L : sp_L} (H : Lns h b L) {i : Nat} (hi : i < 2) : TLs h (b + 7 + 3 * i) 6 (qOf L i) ∧ okQ (qOf L i) := by
  obtain ⟨x1, x2, x3, r, r', RW, NR, B, gl, gq, a0, a1, a2, a3, a4, ⟨a5, a6, a7⟩, a8, a9, a10, a11, a12, a13, a14⟩ := H
  rcases (show i = 0 ∨ i = 1 by omega) with q | q <;> subst q
  · exact ⟨a8, x2⟩
  · exact ⟨a9, x3⟩
theorem Lns.qs {h : ac_H} {b : Nat} {L : sp_L} (H : Lns h b L) : ∃ r r' gq, h[b]? = some (lnO b r r' L.2.2.2.2.1 L.2.2.2.2.2.length) ∧ h[b + 6]? = some (.inl (.inr (.inr (1, 2, gq)))) ∧ ∀ i, i < 2 → gq i = some (b + 7 + 3 * i) := by
  obtain ⟨x1, x2, x3, r, r', RW, NR, B, gl, gq, a0, a1, a2, a3, a4, ⟨a5, a6, a7⟩, a8, a9, a10, a11, a12, a13, a14⟩ := H
  refine ⟨r, r', gq, a1, a5, fun i hi => ?_⟩
  rcases (show i = 0 ∨ i = 1 by omega) with q | q <;> subst q
  · exact a6
  · exact a7
theorem Lns.setq {h h' : ac_H} {b : Nat} {L : sp_L} (H : Lns h b L) {i : Nat} {q : sp_Q} (hi : i < 2) (F : fr h h' [b + 7 + 3 * i, b + 7 + 3 * i + 1, b + 7 + 3 * i + 2]) (HT : TLs h' (b + 7 + 3 * i) 6 q) (ok : okQ q) : Lns h' b (stQ L i q) := by
  obtain ⟨x1, x2, x3, r, r', RW, NR, B, gl, gq, a0, a1, a2, a3, a4, ⟨a5, a6, a7⟩, a8, a9, a10, a11, a12, a13, a14⟩ := H
  have k : ∀ x, (x < b + 7 + 3 * i ∨ b + 7 + 3 * i + 2 < x) → h'[x]? = h[x]? := fun x hx => F.2 x (by simp; omega)
  rcases (show i = 0 ∨ i = 1 by omega) with e | e <;> subst e
  · exact ⟨x1, ok, x3, r, r', RW, NR, B, gl, gq, a0, (k _ (by omega)).trans a1, (k _ (by omega)).trans a2, a3.pt (fun i hi => k _ (by omega)), (k _ (by omega)).trans a4, ⟨(k _ (by omega)).trans a5, a6, a7⟩, HT, a9.pt (fun i hi => k _ (by omega)), (k _ (by omega)).trans a10, (k _ (by omega)).trans a11, a12.pt (fun i hi => k _ (by omega)), a13, a14.pt (fun i hi => k _ (by omega))⟩
  · exact ⟨x1, x2, ok, r, r', RW, NR, B, gl, gq, a0, (k _ (by omega)).trans a1, (k _ (by omega)).trans a2, a3.pt (fun i hi => k _ (by omega)), (k _ (by omega)).trans a4, ⟨(k _ (by omega)).trans a5, a6, a7⟩, a8.pt (fun i hi => k _ (by omega)), HT, (k _ (by omega)).trans a10, (k _ (by omega)).trans a11, a12.pt (fun i hi => k _ (by omega)), a13, a14.pt (fun i hi => k _ (by omega))⟩
/-- not one of 0 .. n - 1 -/
def out9 (x : Int32) (n : Nat) : Prop := ∀ j, j < n → ¬ x = nI j
theorem out_neg {x : Int32} {n : Nat} (hn : n < 2 ^ 31) (c : x < 0) : out9 x n := fun j hj e => by subst e; exact nI_pos (by omega) c
theorem out_big {x : Int32} {n : Nat} (hn : n < 2 ^ 31) (c : nI n ≤ x) : out9 x n := fun j hj e => by subst e; exact absurd ((nI_leI (by omega) (by omega)).mp c) (by omega)
theorem c_PG_laneAt {l : Launch} (htr : l.stackTraces = false) {d : Nat} {h : ac_H} {Φ : ac_R → ac_H → Prop} {lane : Int32} {s : sp_S} (hd : 6 ≤ d) (H : PGs h s) (ha : ∀ j, j < 2 → lane = nI j → Φ (.inl (some (.ref (2 + 25 * j)))) h) (hx : out9 lane 2 → Φ (.inr x_I) h) : ac_Mt l d m_PG_laneAt [.ref 0, .int lane] h 1 6 Φ := by
  obtain ⟨⟨gl, a1, a2, a3⟩, a4, -⟩ := id H
  refine ac_enter (by decide) rfl htr (fun _ => Nat.le_of_ble_eq_true rfl) ?_
  have bad : out9 lane 2 → ac_G (l, d, m_PG_laneAt, 1, 6, Φ, h.length, none) 13 [(0, .ref 0), (1, .int lane)] [] h 0 0 := fun z =>
    r_throw x_I (x_thr rfl (by decide +kernel) el_PG_155 ei_IndexOutOfBoundsException (text := "there is no such lane") (by decide +kernel) x_I_in d_PG_laneAt_13 d_PG_laneAt_16 d_PG_laneAt_17 d_PG_laneAt_19 d_PG_laneAt_22 hd) rfl (hx z) (Nat.le_of_ble_eq_true rfl) (Nat.le_of_ble_eq_true rfl) (Nat.le_of_ble_eq_true rfl)
  refine r_iload_n d_PG_laneAt_0 rfl ?_
  refine r_if_lt 13 d_PG_laneAt_1 (by decide) (fun c => bad (out_neg (by omega) c)) (fun c => ?_)
  refine r_iload_n d_PG_laneAt_4 rfl ?_
  refine r_aload_n d_PG_laneAt_5 rfl ?_
  refine r_getfield d_PG_laneAt_6 f_PG_10 a4 rfl ?_
  refine r_alenR d_PG_laneAt_9 a1 rfl ?_
  refine r_icmp_lt 23 d_PG_laneAt_10 (by decide) (fun c2 => ?_) (fun c2 => bad (out_big (by omega) (by rw [Int32.le_iff_toInt_le]; rw [Int32.lt_iff_toInt_lt] at c2; omega)))
  obtain ⟨j, hj, rfl⟩ := nI_of c
  have hj2 : j < 2 := (nI_ltI (by omega) (by omega)).mp c2
  have hg : gl j = some (2 + 25 * j) := by
    rcases (show j = 0 ∨ j = 1 by omega) with q | q <;> subst q
    · exact a2
    · exact a3
  refine r_aload_n d_PG_laneAt_23 rfl ?_
  refine r_getfield d_PG_laneAt_24 f_PG_10 a4 rfl ?_
  refine r_iload_n d_PG_laneAt_27 rfl ?_
  refine r_aaloadN d_PG_laneAt_28 a1 rfl hj2 (by omega) hg ?_
  exact r_aret d_PG_laneAt_29 rfl (ha j hj2 rfl) (Nat.le_of_ble_eq_true rfl) (Nat.le_of_ble_eq_true rfl)
theorem c_PG_queueAt {l : Launch} (htr : l.stackTraces = false) {d : Nat} {h : ac_H} {Φ : ac_R → ac_H → Prop} {b : Nat} {x : Int32} {L : sp_L} (hd : 6 ≤ d) (H : Lns h b L) (ha : ∀ i, i < 2 → x = nI i → Φ (.inl (some (.ref (b + 7 + 3 * i)))) h) (hx : out9 x 2 → Φ (.inr x_I) h) : ac_Mt l d m_PG_queueAt [.ref b, .int x] h 1 6 Φ := by
  obtain ⟨r, r', gq, a4, a1, a2⟩ := H.qs
  refine ac_enter (by decide) rfl htr (fun _ => Nat.le_of_ble_eq_true rfl) ?_
  have bad : out9 x 2 → ac_G (l, d, m_PG_queueAt, 1, 6, Φ, h.length, none) 13 [(0, .ref b), (1, .int x)] [] h 0 0 := fun z =>
    r_throw x_I (x_thr rfl (by decide +kernel) el_PG_155 ei_IndexOutOfBoundsException (text := "there is no such side") (by decide +kernel) x_I_in d_PG_queueAt_13 d_PG_queueAt_16 d_PG_queueAt_17 d_PG_queueAt_19 d_PG_queueAt_22 hd) rfl (hx z) (Nat.le_of_ble_eq_true rfl) (Nat.le_of_ble_eq_true rfl) (Nat.le_of_ble_eq_true rfl)
  refine r_iload_n d_PG_queueAt_0 rfl ?_
  refine r_if_lt 13 d_PG_queueAt_1 (by decide) (fun c => bad (out_neg (by omega) c)) (fun c => ?_)
  refine r_iload_n d_PG_queueAt_4 rfl ?_
  refine r_aload_n d_PG_queueAt_5 rfl ?_
  refine r_getfield d_PG_queueAt_6 f_PG_160 a4 rfl ?_
  refine r_alenR d_PG_queueAt_9 a1 rfl ?_
  refine r_icmp_lt 23 d_PG_queueAt_10 (by decide) (fun c2 => ?_) (fun c2 => bad (out_big (by omega) (by rw [Int32.le_iff_toInt_le]; rw [Int32.lt_iff_toInt_lt] at c2; omega)))
  obtain ⟨j, hj, rfl⟩ := nI_of c
  have hj2 : j < 2 := (nI_ltI (by omega) (by omega)).mp c2
  refine r_aload_n d_PG_queueAt_23 rfl ?_
  refine r_getfield d_PG_queueAt_24 f_PG_160 a4 rfl ?_
  refine r_iload_n d_PG_queueAt_27 rfl ?_
  refine r_aaloadN d_PG_queueAt_28 a1 rfl hj2 (by omega) (a2 j hj2) ?_
  exact r_aret d_PG_queueAt_29 rfl (ha j hj2 rfl) (Nat.le_of_ble_eq_true rfl) (Nat.le_of_ble_eq_true rfl)
theorem c_PG_bodyAt {l : Launch} (htr : l.stackTraces = false) {d : Nat} {h : ac_H} {Φ : ac_R → ac_H → Prop} {b : Nat} {x : Int32} {L : sp_L} (hd : 6 ≤ d) (H : Lns h b L) (ha : ∀ i y a, L.2.2.2.2.2[i]? = some y → x = nI i → h[a]? = some (bo y) → Φ (.inl (some (.ref a))) h) (hx : out9 x L.2.2.2.2.2.length → Φ (.inr x_I) h) : ac_Mt l d m_PG_bodyAt [.ref b, .int x] h 1 6 Φ := by
  obtain ⟨x1, x2, x3, r, r', RW, NR, B, gl, gq, a0, a1, a2, a3, a4, ⟨a5, a6, a7⟩, a8, a9, a10, a11, ⟨⟨gr, a12, a13⟩, a14⟩, a15, a16⟩ := H
  have h4 := a15.1
  refine ac_enter (by decide) rfl htr (fun _ => Nat.le_of_ble_eq_true rfl) ?_
  have bad : out9 x L.2.2.2.2.2.length → ac_G (l, d, m_PG_bodyAt, 1, 6, Φ, h.length, none) 12 [(0, .ref b), (1, .int x)] [] h 0 0 := fun z =>
    r_throw x_I (x_thr rfl (by decide +kernel) el_PG_155 ei_IndexOutOfBoundsException (text := "there is no such body") (by decide +kernel) x_I_in d_PG_bodyAt_12 d_PG_bodyAt_15 d_PG_bodyAt_16 d_PG_bodyAt_18 d_PG_bodyAt_21 hd) rfl (hx z) (Nat.le_of_ble_eq_true rfl) (Nat.le_of_ble_eq_true rfl) (Nat.le_of_ble_eq_true rfl)
  refine r_iload_n d_PG_bodyAt_0 rfl ?_
  refine r_if_lt 12 d_PG_bodyAt_1 (by decide) (fun c => bad (out_neg (by omega) c)) (fun c => ?_)
  refine r_iload_n d_PG_bodyAt_4 rfl ?_
  refine r_aload_n d_PG_bodyAt_5 rfl ?_
  refine r_getfield d_PG_bodyAt_6 f_PG_97 a1 rfl ?_
  refine r_icmp_lt 22 d_PG_bodyAt_9 (by decide) (fun c2 => ?_) (fun c2 => bad (out_big (by omega) (by rw [Int32.le_iff_toInt_le]; rw [Int32.lt_iff_toInt_lt] at c2; omega)))
  obtain ⟨j, hj, rfl⟩ := nI_of c
  have hj2 : j < L.2.2.2.2.2.length := (nI_ltI (by omega) (by omega)).mp c2
  have hy := List.getElem?_eq_getElem hj2
  have hc := a14 j (by omega)
  rw [(a15.2 _ _ hy).1] at hc
  refine r_aload_n d_PG_bodyAt_22 rfl ?_
  refine r_getfield d_PG_bodyAt_23 f_PG_168 a1 rfl ?_
  refine r_iload_n d_PG_bodyAt_26 rfl ?_
  refine r_aaloadN d_PG_bodyAt_27 a12 rfl (by omega) (by omega) (a13 j (by omega)) ?_
  exact r_aret d_PG_bodyAt_28 rfl (ha j _ _ hy rfl hc) (Nat.le_of_ble_eq_true rfl) (Nat.le_of_ble_eq_true rfl)
section PGCALLS
variable {g : ac_P} {pc : Nat} {L : List (Nat × Value)} {S : List Value} {h : ac_H} {k z : Nat} {s : sp_S}
theorem r_lane {lane : Int32} (htr : (ac_l g).stackTraces = false) (hcl : (ac_y g).cls = "PairedGates") (hd : decode (ac_cc g) pc = .ok (.invokevirtual 40, 3)) (H : PGs h s) (hdd : 7 ≤ ac_d g) (hh : ac_hh g = []) (h1 : k + 1 ≤ ac_mc g) (h2 : z + 6 ≤ ac_ms g) (hs : (S.map fun v => v.category).sum ≤ 8) (hx : out9 lane 2 → ac_ph g (.inr x_I) h) (kk : ∀ j, j < 2 → lane = nI j → ac_G g (pc + 3) L (.ref (2 + 25 * j) :: S) h (k + 1) (z + 6)) : ac_G g pc L (.int lane :: .ref 0 :: S) h k z := by
  refine r_callV [.int lane] 0 (ac_d g - 1) 1 6 (Ψ := fun r h' => h = h' ∧ ((∃ j, j < 2 ∧ lane = nI j ∧ r = .inl (some (.ref (2 + 25 * j)))) ∨ (r = .inr x_I ∧ out9 lane 2))) hd (by rw [hcl]; exact q_PG_40) H.2.1 rfl rfl (c_PG_laneAt htr (by omega) H (fun j hj e => ⟨rfl, Or.inl ⟨j, hj, e, rfl⟩⟩) (fun z => ⟨rfl, Or.inr ⟨rfl, z⟩⟩)) (by omega) h1 h2 hs (fun r h' hp _ => ?_) (fun E h' hp _ => ?_)
  · obtain ⟨rfl, ⟨j, hj, e, e2⟩ | ⟨e2, -⟩⟩ := hp
    · cases e2; exact kk j hj e
    · cases e2
  · obtain ⟨rfl, ⟨j, hj, e, e2⟩ | ⟨e2, zz⟩⟩ := hp
    · cases e2
    · cases e2; exact Or.inl ⟨hh, hx zz, h1, h2⟩
theorem r_queue {x : Int32} {b : Nat} {Ln : sp_L} (htr : (ac_l g).stackTraces = false) (hcl : (ac_y g).cls = "PairedGates") (hd : decode (ac_cc g) pc = .ok (.invokestatic 64, 3)) (H : Lns h b Ln) (hdd : 7 ≤ ac_d g) (hh : ac_hh g = []) (h1 : k + 1 ≤ ac_mc g) (h2 : z + 6 ≤ ac_ms g) (hs : (S.map fun v => v.category).sum ≤ 8) (hx : out9 x 2 → ac_ph g (.inr x_I) h) (kk : ∀ j, j < 2 → x = nI j → ac_G g (pc + 3) L (.ref (b + 7 + 3 * j) :: S) h (k + 1) (z + 6)) : ac_G g pc L (.int x :: .ref b :: S) h k z := by
  refine r_callS [.ref b, .int x] (ac_d g - 1) 1 6 (Ψ := fun r h' => h = h' ∧ ((∃ j, j < 2 ∧ x = nI j ∧ r = .inl (some (.ref (b + 7 + 3 * j)))) ∨ (r = .inr x_I ∧ out9 x 2))) hd (by rw [hcl]; exact q_PG_64) rfl (c_PG_queueAt htr (by omega) H (fun j hj e => ⟨rfl, Or.inl ⟨j, hj, e, rfl⟩⟩) (fun z => ⟨rfl, Or.inr ⟨rfl, z⟩⟩)) (by omega) h1 h2 hs (fun r h' hp _ => ?_) (fun E h' hp _ => ?_)
  · obtain ⟨rfl, ⟨j, hj, e, e2⟩ | ⟨e2, -⟩⟩ := hp
    · cases e2; exact kk j hj e
    · cases e2
  · obtain ⟨rfl, ⟨j, hj, e, e2⟩ | ⟨e2, zz⟩⟩ := hp
    · cases e2
    · cases e2; exact Or.inl ⟨hh, hx zz, h1, h2⟩
theorem r_body {x : Int32} {b : Nat} {Ln : sp_L} (htr : (ac_l g).stackTraces = false) (hcl : (ac_y g).cls = "PairedGates") (hd : decode (ac_cc g) pc = .ok (.invokestatic 107, 3)) (H : Lns h b Ln) (hdd : 7 ≤ ac_d g) (hh : ac_hh g = []) (h1 : k + 1 ≤ ac_mc g) (h2 : z + 6 ≤ ac_ms g) (hs : (S.map fun v => v.category).sum ≤ 8) (hx : out9 x Ln.2.2.2.2.2.length → ac_ph g (.inr x_I) h) (kk : ∀ i y a, Ln.2.2.2.2.2[i]? = some y → x = nI i → h[a]? = some (bo y) → ac_G g (pc + 3) L (.ref a :: S) h (k + 1) (z + 6)) : ac_G g pc L (.int x :: .ref b :: S) h k z := by
  refine r_callS [.ref b, .int x] (ac_d g - 1) 1 6 (Ψ := fun r h' => h = h' ∧ ((∃ i y a, Ln.2.2.2.2.2[i]? = some y ∧ x = nI i ∧ h[a]? = some (bo y) ∧ r = .inl (some (.ref a))) ∨ (r = .inr x_I ∧ out9 x Ln.2.2.2.2.2.length))) hd (by rw [hcl]; exact q_PG_107) rfl (c_PG_bodyAt htr (by omega) H (fun i y a e1 e2 e3 => ⟨rfl, Or.inl ⟨i, y, a, e1, e2, e3, rfl⟩⟩) (fun z => ⟨rfl, Or.inr ⟨rfl, z⟩⟩)) (by omega) h1 h2 hs (fun r h' hp _ => ?_) (fun E h' hp _ => ?_)
  · obtain ⟨rfl, ⟨i, y, a, e1, e2, e3, e4⟩ | ⟨e2, -⟩⟩ := hp
    · cases e4; exact kk i y a e1 e2 e3
    · cases e2
  · obtain ⟨rfl, ⟨i, y, a, e1, e2, e3, e4⟩ | ⟨e2, zz⟩⟩ := hp
    · cases e4
    · cases e2; exact Or.inl ⟨hh, hx zz, h1, h2⟩
end PGCALLS
