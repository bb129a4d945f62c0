/-! COMMON WORDS of the contracts: which cells may have changed; numbers; lists in arrays -/
/-- h' is h but at the places as -/
def fr (h h' : ac_H) (as : List Nat) : Prop := h'.length = h.length ∧ ∀ b, b ∉ as → h'[b]? = h[b]?
theorem fr_rf {h : ac_H} {as : List Nat} : fr h h as := ⟨rfl, fun _ _ => rfl⟩
theorem fr_tr {h h1 h2 : ac_H} {as bs cs : List Nat} (a : fr h h1 as) (b : fr h1 h2 bs) (ha : ∀ x ∈ as, x ∈ cs) (hb : ∀ x ∈ bs, x ∈ cs) : fr h h2 cs := ⟨b.1.trans a.1, fun x hx => (b.2 x (fun q => hx (hb x q))).trans (a.2 x (fun q => hx (ha x q)))⟩
theorem fr_mo {h h1 : ac_H} {as cs : List Nat} (a : fr h h1 as) (ha : ∀ x ∈ as, x ∈ cs) : fr h h1 cs := ⟨a.1, fun x hx => a.2 x (fun q => hx (ha x q))⟩
theorem fr_at {h h' : ac_H} {as : List Nat} (a : fr h h' as) {b : Nat} {e : ac_E} (hb : b ∉ as) (he : h[b]? = some e) : h'[b]? = some e := (a.2 b hb).trans he
theorem fr_set {h : ac_H} {a : Nat} {e : ac_E} : fr h (h.set a e) [a] := ⟨List.length_set, fun b hb => List.getElem?_set_ne (fun q => hb (by rw [q]; exact List.mem_cons_self))⟩
theorem set_at {h : ac_H} {a : Nat} {e e0 : ac_E} (h0 : h[a]? = some e0) : (h.set a e)[a]? = some e := List.getElem?_set_self (ac_lt h0)
theorem r_ri {g : ac_P} {pc : Nat} {L : List (Nat × Value)} {S : List Value} {h : ac_H} {k z : Nat} {x y : Int32} (he : x = y) (kk : ac_G g pc L (.int y :: S) h k z) : ac_G g pc L (.int x :: S) h k z := by rw [he]; exact kk
theorem r_ri2 {g : ac_P} {pc : Nat} {L : List (Nat × Value)} {S : List Value} {v : Value} {h : ac_H} {k z : Nat} {x y : Int32} (he : x = y) (kk : ac_G g pc L (v :: .int y :: S) h k z) : ac_G g pc L (v :: .int x :: S) h k z := by rw [he]; exact kk
theorem r_putfieldN {g : ac_P} {pc : Nat} {L : List (Nat × Value)} {S : List Value} {h : ac_H} {k z : Nat} {a idx ci j : Nat} {ty : FieldType} {fs : List Value} {v : Value} (hd : decode (ac_cc g) pc = .ok (.putfield idx, 3)) (hf : ac_F (ac_y g).cls idx ci j ty false) (hh : h[a]? = some (.inr (ci, fs))) (hj : j < fs.length) (hn : ∀ σ, narrow ty (ac_v σ v) = ac_v σ v) (hfit : ∀ σ, fits ty (ac_v σ v) = true) (kk : ∀ h', fr h h' [a] → h'[a]? = some (.inr (ci, fs.set j v)) → ac_G g (pc + 3) L S h' k z) : ac_G g pc L (v :: .ref a :: S) h k z :=
  r_putfield hd hf hh hj hn hfit (kk _ fr_set (set_at hh))
theorem r_ialoadN {g : ac_P} {pc : Nat} {L : List (Nat × Value)} {S : List Value} {h : ac_H} {k z : Nat} {a n j : Nat} {f : Nat → Int32} (hd : decode (ac_cc g) pc = .ok (.iaload, 1)) (hh : h[a]? = some (.inl (.inl (n, f)))) (hj : j < n) (hn : n < 2 ^ 31) (kk : ac_G g (pc + 1) L (.int (f j) :: S) h k z) : ac_G g pc L (.int (nI j) :: .ref a :: S) h k z := by
  refine r_iaload hd hh (vp_in_nI hj hn) ?_
  rw [nI_clamp (by omega)]; exact kk
theorem r_iastoreN {g : ac_P} {pc : Nat} {L : List (Nat × Value)} {S : List Value} {h : ac_H} {k z : Nat} {a n j : Nat} {f : Nat → Int32} {x : Int32} (hd : decode (ac_cc g) pc = .ok (.iastore, 1)) (hh : h[a]? = some (.inl (.inl (n, f)))) (hj : j < n) (hn : n < 2 ^ 31) (kk : ∀ h', fr h h' [a] → h'[a]? = some (.inl (.inl (n, upd f j x))) → ac_G g (pc + 1) L S h' k z) : ac_G g pc L (.int x :: .int (nI j) :: .ref a :: S) h k z := by
  refine r_iastore hd hh (vp_in_nI hj hn) ?_
  rw [nI_clamp (by omega)]; exact kk _ fr_set (set_at hh)
theorem r_aaloadN {g : ac_P} {pc : Nat} {L : List (Nat × Value)} {S : List Value} {h : ac_H} {k z : Nat} {a n kd b j : Nat} {C9 : String} {f : Nat → Option Nat} (hd : decode (ac_cc g) pc = .ok (.aaload, 1)) (hh : h[a]? = some (.inl (.inr (.inr (kd, n, f))))) (hk9 : ac_kn[kd]? = some C9) (hj : j < n) (hn : n < 2 ^ 31) (hf : f j = some b) (kk : ac_G g (pc + 1) L (.ref b :: S) h k z) : ac_G g pc L (.int (nI j) :: .ref a :: S) h k z := by
  refine r_aaload hd hh hk9 (vp_in_nI hj hn) (b := b) ?_ kk
  rw [nI_clamp (by omega)]; exact hf
theorem r_iincP {g : ac_P} {pc : Nat} {L : List (Nat × Value)} {S : List Value} {h : ac_H} {k z : Nat} {i : Nat} {x : Int32} (hd : decode (ac_cc g) pc = .ok (.iinc i 1, 3)) (hl0 : ac_get L i = some (.int x)) (hn : i < ac_ml g) (kk : ac_G g (pc + 3) (ac_put L i (.int (x + 1))) S h k z) : ac_G g pc L S h k z := r_iinc (x + 1) hd hl0 rfl hn kk
theorem r_iincM {g : ac_P} {pc : Nat} {L : List (Nat × Value)} {S : List Value} {h : ac_H} {k z : Nat} {i : Nat} {x : Int32} (hd : decode (ac_cc g) pc = .ok (.iinc i (-1), 3)) (hl0 : ac_get L i = some (.int x)) (hn : i < ac_ml g) (kk : ac_G g (pc + 3) (ac_put L i (.int (x - 1))) S h k z) : ac_G g pc L S h k z := r_iinc (x - 1) hd hl0 (by
  have e : Int32.ofInt (-1) = -1 := by decide
  rw [e, Int32.sub_eq_add_neg]) hn kk
/-- another list of locals that says the same -/
theorem r_L {g : ac_P} {pc : Nat} {L L' : List (Nat × Value)} {S : List Value} {h : ac_H} {k z : Nat} (he : L = L') (kk : ac_G g pc L' S h k z) : ac_G g pc L S h k z := by rw [he]; exact kk
/-- the list q lies in the arrays f, g -/
def in2 (q : List (Int32 × Int32)) (f g : Nat → Int32) : Prop := ∀ (i : Nat) (x : Int32 × Int32), q[i]? = some x → f i = x.1 ∧ g i = x.2
def in1 (q : List Int32) (f : Nat → Int32) : Prop := ∀ (i : Nat) (x : Int32), q[i]? = some x → f i = x
/-- a list of tokens at t: the object, its accounts, its times -/
def TLs (h : ac_H) (t N : Nat) (q : List (Int32 × Int32)) : Prop := h[t]? = some (.inr (6, [.ref (t + 1), .ref (t + 2), .int (nI q.length)])) ∧ q.length ≤ N ∧ N < 1000 ∧ ∃ f g, h[t + 1]? = some (.inl (.inl (N, f))) ∧ h[t + 2]? = some (.inl (.inl (N, g))) ∧ in2 q f g
theorem TLs.fr {h h' : ac_H} {t N : Nat} {q : List (Int32 × Int32)} {as : List Nat} (H : TLs h t N q) (F : fr h h' as) (h0 : t ∉ as) (h1 : t + 1 ∉ as) (h2 : t + 2 ∉ as) : TLs h' t N q := by
  obtain ⟨a1, a2, a3, f, g, a4, a5, a6⟩ := H
  exact ⟨fr_at F h0 a1, a2, a3, f, g, fr_at F h1 a4, fr_at F h2 a5, a6⟩
/-- the refunds at r: the object, its accounts -/
def Rfs (h : ac_H) (r : Nat) (q : List Int32) : Prop := h[r]? = some (.inr (5, [.ref (r + 1), .int (nI q.length)])) ∧ q.length ≤ 512 ∧ ∃ f, h[r + 1]? = some (.inl (.inl (512, f))) ∧ in1 q f
theorem Rfs.fr {h h' : ac_H} {r : Nat} {q : List Int32} {as : List Nat} (H : Rfs h r q) (F : fr h h' as) (h0 : r ∉ as) (h1 : r + 1 ∉ as) : Rfs h' r q := by
  obtain ⟨a1, a2, f, a4, a6⟩ := H
  exact ⟨fr_at F h0 a1, a2, f, fr_at F h1 a4, a6⟩
theorem in1_add {q : List Int32} {f : Nat → Int32} {x : Int32} (h : in1 q f) : in1 (q ++ [x]) (upd f q.length x) := by
  intro i y hy
  unfold upd
  by_cases hi : i < q.length
  · rw [List.getElem?_append_left hi] at hy
    rw [if_neg (by omega)]; exact h i y hy
  · rw [List.getElem?_append_right (by omega)] at hy
    have : i - q.length < 1 := (List.getElem?_eq_some_iff.mp hy).1
    have e : i = q.length := by omega
    subst e
    rw [Nat.sub_self] at hy
    cases hy
    rw [if_pos rfl]
theorem in2_add {q : List (Int32 × Int32)} {f g : Nat → Int32} {x y : Int32} (h : in2 q f g) : in2 (q ++ [(x, y)]) (upd f q.length x) (upd g q.length y) := by
  intro i w hw
  unfold upd
  by_cases hi : i < q.length
  · rw [List.getElem?_append_left hi] at hw
    rw [if_neg (by omega), if_neg (by omega)]; exact h i w hw
  · rw [List.getElem?_append_right (by omega)] at hw
    have : i - q.length < 1 := (List.getElem?_eq_some_iff.mp hw).1
    have e : i = q.length := by omega
    subst e
    rw [Nat.sub_self] at hw
    cases hw
    rw [if_pos rfl, if_pos rfl]; exact ⟨rfl, rfl⟩
/-! calls whose end is known -/
section CALLS
variable {g : ac_P} {pc : Nat} {L : List (Nat × Value)} {S : List Value} {h : ac_H} {k z : Nat} {mi : ac_I} {n idx : Nat}
theorem r_cVi (as : List Value) (b : Nat) {ci : Nat} {fs : List Value} (d' mc ms : Nat) (v : Int32) (P : ac_H → Prop) (hd : decode (ac_cc g) pc = .ok (.invokevirtual idx, 3)) (hk9 : ac_KV (ac_y g).cls idx mi n) (hb9 : h[b]? = some (.inr (ci, fs))) {T9 : u_T} {N9 : Nat} (hc9 : ac_cl[ci]? = some (mi.1.cls, T9, N9)) (hn : as.length = n) (hM : ac_Mt (ac_l g) d' mi (.ref b :: as) h mc ms (fun r h' => r = .inl (some (.int v)) ∧ P h')) (hdd : d' + 1 ≤ ac_d g) (h1 : k + mc ≤ ac_mc g) (h2 : z + ms ≤ ac_ms g) (hs : (S.map fun v => v.category).sum ≤ 8) (kk : ∀ h', P h' → ac_G g (pc + 3) L (.int v :: S) h' (k + mc) (z + ms)) : ac_G g pc L (as.reverse ++ .ref b :: S) h k z :=
  r_callV as b d' mc ms hd hk9 hb9 hc9 hn hM hdd h1 h2 hs (fun r h' hp _ => by obtain ⟨e, hp⟩ := hp; cases e; exact kk h' hp) (fun E h' hp _ => nomatch hp.1)
theorem r_cVv (as : List Value) (b : Nat) {ci : Nat} {fs : List Value} (d' mc ms : Nat) (P : ac_H → Prop) (hd : decode (ac_cc g) pc = .ok (.invokevirtual idx, 3)) (hk9 : ac_KV (ac_y g).cls idx mi n) (hb9 : h[b]? = some (.inr (ci, fs))) {T9 : u_T} {N9 : Nat} (hc9 : ac_cl[ci]? = some (mi.1.cls, T9, N9)) (hn : as.length = n) (hM : ac_Mt (ac_l g) d' mi (.ref b :: as) h mc ms (fun r h' => r = .inl none ∧ P h')) (hdd : d' + 1 ≤ ac_d g) (h1 : k + mc ≤ ac_mc g) (h2 : z + ms ≤ ac_ms g) (hs : (S.map fun v => v.category).sum ≤ 8) (kk : ∀ h', P h' → ac_G g (pc + 3) L S h' (k + mc) (z + ms)) : ac_G g pc L (as.reverse ++ .ref b :: S) h k z :=
  r_callV as b d' mc ms hd hk9 hb9 hc9 hn hM hdd h1 h2 hs (fun r h' hp _ => by obtain ⟨e, hp⟩ := hp; cases e; exact kk h' hp) (fun E h' hp _ => nomatch hp.1)
theorem r_cVr (as : List Value) (b : Nat) {ci : Nat} {fs : List Value} (d' mc ms : Nat) (v : Nat) (P : ac_H → Prop) (hd : decode (ac_cc g) pc = .ok (.invokevirtual idx, 3)) (hk9 : ac_KV (ac_y g).cls idx mi n) (hb9 : h[b]? = some (.inr (ci, fs))) {T9 : u_T} {N9 : Nat} (hc9 : ac_cl[ci]? = some (mi.1.cls, T9, N9)) (hn : as.length = n) (hM : ac_Mt (ac_l g) d' mi (.ref b :: as) h mc ms (fun r h' => r = .inl (some (.ref v)) ∧ P h')) (hdd : d' + 1 ≤ ac_d g) (h1 : k + mc ≤ ac_mc g) (h2 : z + ms ≤ ac_ms g) (hs : (S.map fun v => v.category).sum ≤ 8) (kk : ∀ h', P h' → ac_G g (pc + 3) L (.ref v :: S) h' (k + mc) (z + ms)) : ac_G g pc L (as.reverse ++ .ref b :: S) h k z :=
  r_callV as b d' mc ms hd hk9 hb9 hc9 hn hM hdd h1 h2 hs (fun r h' hp _ => by obtain ⟨e, hp⟩ := hp; cases e; exact kk h' hp) (fun E h' hp _ => nomatch hp.1)
theorem r_cSr (as : List Value) (d' mc ms : Nat) (v : Nat) (P : ac_H → Prop) (hd : decode (ac_cc g) pc = .ok (.invokestatic idx, 3)) (hk9 : ac_KS (ac_y g).cls idx mi n) (hn : as.length = n) (hM : ac_Mt (ac_l g) d' mi as h mc ms (fun r h' => r = .inl (some (.ref v)) ∧ P h')) (hdd : d' + 1 ≤ ac_d g) (h1 : k + mc ≤ ac_mc g) (h2 : z + ms ≤ ac_ms g) (hs : (S.map fun v => v.category).sum ≤ 8) (kk : ∀ h', P h' → ac_G g (pc + 3) L (.ref v :: S) h' (k + mc) (z + ms)) : ac_G g pc L (as.reverse ++ S) h k z :=
  r_callS as d' mc ms hd hk9 hn hM hdd h1 h2 hs (fun r h' hp _ => by obtain ⟨e, hp⟩ := hp; cases e; exact kk h' hp) (fun E h' hp _ => nomatch hp.1)
theorem r_cSi (as : List Value) (d' mc ms : Nat) (v : Int32) (P : ac_H → Prop) (hd : decode (ac_cc g) pc = .ok (.invokestatic idx, 3)) (hk9 : ac_KS (ac_y g).cls idx mi n) (hn : as.length = n) (hM : ac_Mt (ac_l g) d' mi as h mc ms (fun r h' => r = .inl (some (.int v)) ∧ P h')) (hdd : d' + 1 ≤ ac_d g) (h1 : k + mc ≤ ac_mc g) (h2 : z + ms ≤ ac_ms g) (hs : (S.map fun v => v.category).sum ≤ 8) (kk : ∀ h', P h' → ac_G g (pc + 3) L (.int v :: S) h' (k + mc) (z + ms)) : ac_G g pc L (as.reverse ++ S) h k z :=
  r_callS as d' mc ms hd hk9 hn hM hdd h1 h2 hs (fun r h' hp _ => by obtain ⟨e, hp⟩ := hp; cases e; exact kk h' hp) (fun E h' hp _ => nomatch hp.1)
end CALLS
theorem lt_of_nle {a b : Nat} (hb : b < 2 ^ 31) (c : ¬ nI b ≤ nI a) (ha : a < 2 ^ 31) : a < b := by
  rcases Nat.lt_or_ge a b with z | z
  · exact z
  · exact absurd ((nI_leI hb ha).mpr z) c
