/-! THE ABSTRACT MACHINE: heaps as lists of cells (an address is a place in the list), values whose references are such places. -/
abbrev ac_E : Type := ((Nat × (Nat → Int32)) ⊕ (Nat × (Nat → Int64)) ⊕ (Nat × Nat × (Nat → Option Nat))) ⊕ (Nat × List Value)
abbrev ac_H : Type := List ac_E
/-- an answer, or the class that was thrown -/
abbrev ac_R : Type := Option Value ⊕ String
/-- where the script lies, and where each abstract address lies -/
abbrev ac_A : Type := Nat × (Nat → Nat)
def ac_v (σ : ac_A) : Value → Value
  | .ref a => .ref (σ.2 a)
  | .retAddr _ => .ref σ.1
  | v => v
theorem ac_v_cat (σ : ac_A) (v : Value) : (ac_v σ v).category = v.category := by cases v <;> rfl
def ac_lv (σ : ac_A) (q : Nat × Value) : Nat × Value := (q.1, ac_v σ q.2)
def ac_c (σ : ac_A) (dA : Nat → ClassId) : ac_E → va_E
  | .inl (.inl (n, f)) => .inl (dA 0, n, .inl f)
  | .inl (.inr (.inl (n, f))) => .inl (dA 1, n, .inr (.inl f))
  | .inl (.inr (.inr (k, n, g))) => .inl (dA (k + 2), n, .inr (.inr (.inr (.inr (fun j => (g j).map σ.2)))))
  | .inr (ci, fs) => .inr (ci, fs.map (ac_v σ))
def ac_w (σ : ac_A) (dA : Nat → ClassId) (h : ac_H) : va_W := h.mapIdx (fun i e => (σ.2 i, ac_c σ dA e))
/-- references lie in the heap -/
def ac_ok (n : Nat) (v : Value) : Prop := ∀ a, v = .ref a → a < n
def ac_okE (n : Nat) (e : ac_E) : Prop := match e with
  | .inl (.inl _) => True
  | .inl (.inr (.inl _)) => True
  | .inl (.inr (.inr (_, _, g))) => ∀ j a, g j = some a → a < n
  | .inr (_, fs) => ∀ v ∈ fs, ac_ok n v
def ac_okH (h : ac_H) : Prop := ∀ (i : Nat) (e : ac_E), h[i]? = some e → ac_okE h.length e
def ac_ag (n : Nat) (σ τ : ac_A) : Prop := σ.1 = τ.1 ∧ ∀ i, i < n → σ.2 i = τ.2 i
theorem ac_ag_rf {n : Nat} {σ : ac_A} : ac_ag n σ σ := ⟨rfl, fun _ _ => rfl⟩
theorem ac_ag_tr {n k : Nat} {σ τ ρ : ac_A} (h1 : ac_ag k σ τ) (h2 : ac_ag n τ ρ) (h : n ≤ k) : ac_ag n σ ρ := ⟨h1.1.trans h2.1, fun i hi => (h1.2 i (Nat.lt_of_lt_of_le hi h)).trans (h2.2 i hi)⟩
theorem ac_v_ag {n : Nat} {σ τ : ac_A} (h : ac_ag n σ τ) {v : Value} (hv : ac_ok n v) : ac_v σ v = ac_v τ v := by
  cases v with
  | ref a => exact congrArg Value.ref (h.2 a (hv a rfl))
  | retAddr p => exact congrArg Value.ref h.1
  | _ => rfl
theorem ac_S_ag {n : Nat} {σ τ : ac_A} (h : ac_ag n σ τ) {S : List Value} (hS : ∀ v ∈ S, ac_ok n v) : S.map (ac_v σ) = S.map (ac_v τ) := List.map_congr_left fun v hv => ac_v_ag h (hS v hv)
theorem ac_L_ag {n : Nat} {σ τ : ac_A} (h : ac_ag n σ τ) {L : List (Nat × Value)} (hL : ∀ q ∈ L, ac_ok n q.2) : L.map (ac_lv σ) = L.map (ac_lv τ) := List.map_congr_left fun q hq => by
  show (q.1, ac_v σ q.2) = (q.1, ac_v τ q.2)
  rw [ac_v_ag h (hL q hq)]
theorem ac_c_ag {n : Nat} {σ τ : ac_A} (dA : Nat → ClassId) (h : ac_ag n σ τ) {e : ac_E} (he : ac_okE n e) : ac_c σ dA e = ac_c τ dA e := by
  match e, he with
  | .inl (.inl (_, _)), _ => rfl
  | .inl (.inr (.inl (_, _))), _ => rfl
  | .inl (.inr (.inr (k, m, g))), he =>
    have : (fun j => (g j).map σ.2) = (fun j => (g j).map τ.2) := by
      funext j
      cases hj : g j with
      | none => rfl
      | some a => exact congrArg some (h.2 a (he j a hj))
    simp only [ac_c, this]
  | .inr (ci, fs), he => simp only [ac_c, ac_S_ag h he]
theorem ac_w_get (σ : ac_A) (dA : Nat → ClassId) (h : ac_H) (i : Nat) : (ac_w σ dA h)[i]? = (h[i]?).map (fun e => (σ.2 i, ac_c σ dA e)) := by simp [ac_w]
theorem ac_w_at {σ : ac_A} {dA : Nat → ClassId} {h : ac_H} {i : Nat} {e : ac_E} (he : h[i]? = some e) : (ac_w σ dA h)[i]? = some (σ.2 i, ac_c σ dA e) := by rw [ac_w_get, he]; rfl
theorem ac_w_set (σ : ac_A) (dA : Nat → ClassId) (h : ac_H) (i : Nat) (e : ac_E) : ac_w σ dA (h.set i e) = (ac_w σ dA h).set i (σ.2 i, ac_c σ dA e) := by
  apply List.ext_getElem?
  intro j
  rw [ac_w_get, List.getElem?_set, List.getElem?_set, ac_w_get]
  have hl : (ac_w σ dA h).length = h.length := by simp [ac_w]
  rw [hl]
  by_cases hij : i = j
  · subst hij
    by_cases hi : i < h.length <;> simp [hi]
  · simp [hij]
theorem ac_w_ag {σ τ : ac_A} (dA : Nat → ClassId) {h : ac_H} (ha : ac_ag h.length σ τ) (ho : ac_okH h) : ac_w σ dA h = ac_w τ dA h := by
  apply List.ext_getElem?
  intro j
  rw [ac_w_get, ac_w_get]
  cases hj : h[j]? with
  | none => rfl
  | some e =>
    have hl : j < h.length := (List.getElem?_eq_some_iff.mp hj).1
    show some (σ.2 j, ac_c σ dA e) = some (τ.2 j, ac_c τ dA e)
    rw [ha.2 j hl, ac_c_ag dA ha (ho j e hj)]
theorem ac_w_push (σ : ac_A) (dA : Nat → ClassId) (h : ac_H) (e : ac_E) : ac_w σ dA (h ++ [e]) = ac_w σ dA h ++ [(σ.2 h.length, ac_c σ dA e)] := by
  simp [ac_w, List.mapIdx_append]
theorem ac_ok_mono {n k : Nat} {v : Value} (h : ac_ok n v) (hk : n ≤ k) : ac_ok k v := fun a ha => Nat.lt_of_lt_of_le (h a ha) hk
theorem ac_okE_mono {n k : Nat} {e : ac_E} (h : ac_okE n e) (hk : n ≤ k) : ac_okE k e := by
  match e, h with
  | .inl (.inl _), _ => trivial
  | .inl (.inr (.inl _)), _ => trivial
  | .inl (.inr (.inr (_, _, _))), h => exact fun j a hj => Nat.lt_of_lt_of_le (h j a hj) hk
  | .inr (_, _), h => exact fun v hv => ac_ok_mono (h v hv) hk
theorem ac_okH_set {h : ac_H} (ho : ac_okH h) {i : Nat} {e : ac_E} (he : ac_okE h.length e) : ac_okH (h.set i e) := by
  intro j x hj
  rw [List.length_set]
  rw [List.getElem?_set] at hj
  by_cases hij : i = j
  · rw [if_pos hij] at hj
    by_cases hi : i < h.length
    · rw [if_pos hi] at hj
      cases hj
      exact he
    · rw [if_neg hi] at hj
      cases hj
  · rw [if_neg hij] at hj
    exact ho j x hj
theorem ac_okH_push {h : ac_H} (ho : ac_okH h) {e : ac_E} (he : ac_okE (h.length + 1) e) : ac_okH (h ++ [e]) := by
  intro j x hj
  have hl : (h ++ [e]).length = h.length + 1 := by simp
  rw [hl]
  by_cases hjl : j < h.length
  · rw [List.getElem?_append_left hjl] at hj
    exact ac_okE_mono (ho j x hj) (Nat.le_succ _)
  · rw [List.getElem?_append_right (by omega)] at hj
    have h0 : j - h.length < [e].length := (List.getElem?_eq_some_iff.mp hj).1
    have h1 : j - h.length = 0 := by
      have : [e].length = 1 := rfl
      omega
    rw [h1] at hj
    cases hj
    exact he
theorem ac_ok_int {n : Nat} {x : Int32} : ac_ok n (.int x) := fun _ h => nomatch h
theorem ac_ok_long {n : Nat} {x : Int64} : ac_ok n (.long x) := fun _ h => nomatch h
theorem ac_ok_scr {n k : Nat} : ac_ok n (.retAddr k) := fun _ h => nomatch h
theorem ac_ok_ref {n a : Nat} (h : a < n) : ac_ok n (.ref a) := fun b e => by cases e; exact h
theorem ac_okc {n : Nat} {v : Value} {S : List Value} (hv : ac_ok n v) (hS : ∀ x ∈ S, ac_ok n x) : ∀ x ∈ v :: S, ac_ok n x := fun x hx => (List.mem_cons.mp hx).elim (fun e => by rw [e]; exact hv) (hS x)
theorem ac_oku {n : Nat} {v : Value} {S : List Value} (hS : ∀ x ∈ v :: S, ac_ok n x) : ac_ok n v ∧ ∀ x ∈ S, ac_ok n x := ⟨hS v List.mem_cons_self, fun x hx => hS x (List.mem_cons_of_mem _ hx)⟩
theorem ac_lt {h : ac_H} {a : Nat} {e : ac_E} (he : h[a]? = some e) : a < h.length := (List.getElem?_eq_some_iff.mp he).1
/-- locals -/
def ac_get : List (Nat × Value) → Nat → Option Value
  | [], _ => none
  | (i, v) :: t, k => if i = k then some v else ac_get t k
def ac_del (L : List (Nat × Value)) (k : Nat) : List (Nat × Value) := L.filter (fun q => !(q.1 == k) && !(q.1 + 1 == k && q.2.category == 2))
def ac_put (L : List (Nat × Value)) (k : Nat) (v : Value) : List (Nat × Value) := (k, v) :: ac_del L k
theorem ac_get_mem : ∀ {L : List (Nat × Value)} {k : Nat} {v : Value}, ac_get L k = some v → (k, v) ∈ L
  | [], _, _, h => nomatch h
  | (i, w) :: t, k, v, h => by
    unfold ac_get at h
    by_cases e : i = k
    · rw [if_pos e] at h
      cases h
      rw [e]
      exact List.mem_cons_self
    · rw [if_neg e] at h
      exact List.mem_cons_of_mem _ (ac_get_mem h)
theorem ac_look {σ : ac_A} {ls : Array Slot} {n : Nat} {L : List (Nat × Value)} (h : lv_has ls n (L.map (ac_lv σ))) {k : Nat} {v : Value} (hl : ac_get L k = some v) : ls[k]? = some (.val (ac_v σ v)) := h.2.2 (k, ac_v σ v) (List.mem_map.mpr ⟨(k, v), ac_get_mem hl, rfl⟩)
theorem ac_del_map (σ : ac_A) (L : List (Nat × Value)) (k : Nat) : (ac_del L k).map (ac_lv σ) = (L.map (ac_lv σ)).filter (fun q => !(q.1 == k) && !(q.1 + 1 == k && q.2.category == 2)) := by
  unfold ac_del
  rw [List.filter_map]
  congr 1
  apply List.filter_congr
  intro q _
  simp [ac_lv, ac_v_cat]
theorem ac_put_map (σ : ac_A) (L : List (Nat × Value)) (k : Nat) (v : Value) : (k, ac_v σ v) :: (L.map (ac_lv σ)).filter (fun q => !(q.1 == k) && !(q.1 + 1 == k && q.2.category == 2)) = (ac_put L k v).map (ac_lv σ) := by
  rw [← ac_del_map]; rfl
theorem ac_okL_del {n k : Nat} {L : List (Nat × Value)} (h : ∀ q ∈ L, ac_ok n q.2) : ∀ q ∈ ac_del L k, ac_ok n q.2 := fun q hq => h q (List.mem_filter.mp hq).1
theorem ac_okL_put {n k : Nat} {v : Value} {L : List (Nat × Value)} (hv : ac_ok n v) (h : ∀ q ∈ L, ac_ok n q.2) : ∀ q ∈ ac_put L k v, ac_ok n q.2 := fun q hq => by
  rcases List.mem_cons.mp hq with e | e
  · rw [e]; exact hv
  · exact ac_okL_del h q e
theorem ac_args_map (σ : ac_A) : ∀ (i : Nat) (a : List Value), lv_args i (a.map (ac_v σ)) = (lv_args i a).map (ac_lv σ)
  | _, [] => rfl
  | i, v :: a => by
    simp only [List.map_cons, lv_args, ac_v_cat]
    rw [ac_args_map σ _ a]
    rfl
theorem ac_args_ok {n : Nat} : ∀ (i : Nat) (a : List Value), (∀ v ∈ a, ac_ok n v) → ∀ q ∈ lv_args i a, ac_ok n q.2
  | _, [], _, q, hq => nomatch hq
  | i, v :: a, h, q, hq => by
    rcases List.mem_cons.mp hq with e | e
    · rw [e]; exact h v List.mem_cons_self
    · exact ac_args_ok _ a (fun x hx => h x (List.mem_cons_of_mem _ hx)) q e
theorem ac_cats (σ : ac_A) (S : List Value) : ((S.map (ac_v σ)).map fun v => v.category) = (S.map fun v => v.category) := by
  rw [List.map_map]
  exact List.map_congr_left fun v _ => ac_v_cat σ v
/-- the array classes: ints, longs, then the kinds of objects -/
def ac_tys (dA : Nat → ClassId) : List (ClassId × FieldType) := (dA 0, .int) :: (dA 1, .long) :: ac_kn.mapIdx (fun k C => (dA (k + 2), .object C))
theorem ac_tys_k {dA : Nat → ClassId} {k : Nat} {C : String} (h : ac_kn[k]? = some C) : (ac_tys dA)[k + 2]? = some (dA (k + 2), .object C) := by
  simp [ac_tys, h]
/-- what stands outside the world: statics of Throwable, links of nest mates, arrays' classes, text constants, what can't be cast -/
def ac_X (A : Nat → Prop) (U : State) (H : Heap) : Prop := (∀ w ∈ xq_sw, xq_Z w A U H) ∧ (∀ w ∈ ac_ow, va_Nw w U) ∧ (∀ C ∈ ac_kn, va_AO C U) ∧ (∀ q ∈ ac_str, ∃ a, vk_R q.1 q.2.1 q.2.2 a U) ∧ (∀ q ∈ ac_nc, va_Nc q.1 q.2 U)
theorem ac_X.at {A B : Nat → Prop} {s U : State} {H H1 : Heap} (hW : s.WarmedH U.vm) (h : ac_X A s H) (hq : ∀ a : Nat, a < H.size → ¬ A a → H1[a]? = H[a]?) (hAB : ∀ q, B q → A q) : ac_X B U H1 :=
  ⟨fun w hw => (h.1 w hw).at hW.alike hq hAB, fun w hw => ac_ow_warm w hw hW (h.2.1 w hw), fun C hC => va_AO.moved hW.alike (h.2.2.1 C hC), fun q hq => by
    obtain ⟨a, ha⟩ := h.2.2.2.1 q hq
    exact ⟨a, ha.warm hW⟩, fun q hq => va_Nc.moved hW.alike (h.2.2.2.2 q hq)⟩
theorem ac_X.call {A : Nat → Prop} {U : State} {H : Heap} (g : JFrame) (mk : MethodId) (a : Array Value) (h : ac_X A U H) : ac_X A (U.calling g mk a) H :=
  ⟨fun w hw => (h.1 w hw).at (Vm.Alike.refl U.vm) (fun _ _ _ => rfl) (fun _ z9 => z9), fun w hw => va_Nw.same (u := U) (ac_ow_tab w hw) rfl (h.2.1 w hw), fun C hC => va_AO.moved (Vm.Alike.refl U.vm) (h.2.2.1 C hC), fun q hq => by
    obtain ⟨a', ha⟩ := h.2.2.2.1 q hq
    exact ⟨a', vk_R.same rfl ha⟩, fun q hq => va_Nc.moved (Vm.Alike.refl U.vm) (h.2.2.2.2 q hq)⟩
/-- the world at a point of a frame -/
def ac_Wd (D : va_G) (dA : Nat → ClassId) (A : Nat → Prop) (s : State) (n0 : Nat) (σ0 σ : ac_A) (h : ac_H) (H : Heap) (locs : List Loc) : Prop :=
  ac_okH h ∧ n0 ≤ h.length ∧ ac_ag n0 σ σ0 ∧ va_P D ac_cl (ac_w σ dA h) H ∧ va_D A (ac_w σ dA h) ∧ va_S A s.heap H locs
/-- launch, depth, method, cells, slots, what is owed at its end, how long the heap was, the script -/
abbrev ac_P : Type := Launch × Nat × ac_I × Nat × Nat × (ac_R → ac_H → Prop) × Nat × Option (Nat × (Nat → Int32))
abbrev ac_l (g : ac_P) : Launch := g.1
abbrev ac_d (g : ac_P) : Nat := g.2.1
abbrev ac_y (g : ac_P) : MethodName := g.2.2.1.1
abbrev ac_cc (g : ac_P) : ByteArray := g.2.2.1.2.1
abbrev ac_ml (g : ac_P) : Nat := g.2.2.1.2.2.1
abbrev ac_rt (g : ac_P) : Option FieldType := g.2.2.1.2.2.2.1
abbrev ac_hh (g : ac_P) : List (Nat × Nat × Nat × Nat) := g.2.2.1.2.2.2.2
abbrev ac_mc (g : ac_P) : Nat := g.2.2.2.1
abbrev ac_ms (g : ac_P) : Nat := g.2.2.2.2.1
abbrev ac_ph (g : ac_P) : ac_R → ac_H → Prop := g.2.2.2.2.2.1
abbrev ac_n0 (g : ac_P) : Nat := g.2.2.2.2.2.2.1
abbrev ac_sc (g : ac_P) : Option (Nat × (Nat → Int32)) := g.2.2.2.2.2.2.2
/-- how a method goes back with r at pc -/
def ac_back (g : ac_P) (pc : Nat) (r : Option Value) : Prop :=
  (∃ v, r = some (.int v) ∧ decode (ac_cc g) pc = .ok (.ireturn, 1) ∧ ∃ ty, ac_rt g = some ty ∧ narrow ty (.int v) = .int v) ∨
  (∃ a n, r = some (.ref a) ∧ decode (ac_cc g) pc = .ok (.areturn, 1) ∧ ac_rt g = some (.object n)) ∨
  (∃ a t, r = some (.ref a) ∧ decode (ac_cc g) pc = .ok (.areturn, 1) ∧ ac_rt g = some (.array t)) ∨
  (r = none ∧ decode (ac_cc g) pc = .ok (.return_, 1) ∧ ac_rt g = none)
/-- 'throw new E("..")' at pc: numbers of the class, of the text, of the constructor -/
def ac_thr (g : ac_P) (pc : Nat) (E : String) : Prop := ∃ (names : List String) (ik is ic : Nat) (text : String),
  Bundle.fit E = true ∧ (∀ n ∈ names, Bundle.fit n = true) ∧ Cond.classLink (ac_y g).cls ik E ∈ ac_U ∧ Cond.initialized E ∈ ac_U ∧ ((ac_y g).cls, is, text) ∈ ac_str ∧ (∀ w ∈ Bundle.ownAtoms (ac_y g).cls ic E names, (w ∈ ac_U ∧ w.onTables = true) ∨ w ∈ ac_ow ∨ w ∈ xq_sw) ∧
  decode (ac_cc g) pc = .ok (.new ik, 3) ∧ decode (ac_cc g) (pc + 3) = .ok (.dup, 1) ∧ decode (ac_cc g) (pc + 4) = .ok (.ldc is, 2) ∧ decode (ac_cc g) (pc + 6) = .ok (.invokespecial ic, 3) ∧ decode (ac_cc g) (pc + 9) = .ok (.athrow, 1) ∧ names.length + 3 < ac_d g ∧ 13 * (names.length + 1) + 51 ≤ 35 * ac_d g
/-- what a frame stands on: the machine, the tables, its room, and how it may end -/
def ac_C (g : ac_P) (p : Program) (e : Env) (R : Room) (s : State) (m : MethodId) (args : Array Value) (below : List Frame) (meth : Method) (c : Code) (D : va_G) (dA : Nat → ClassId) (A : Nat → Prop) (σ0 : ac_A) (Qf : State → Prop) : Prop :=
  (p.tables.exec = Jvm.exec ∧ c.code = ac_cc g ∧ c.maxLocals = ac_ml g ∧ s.vm.findClass (ac_y g).cls = some m.cls ∧ meth.name = (ac_y g).name ∧ (∀ w ∈ ac_U, w.before args s = true) ∧ c.exceptionTable.toList = tableOf (ac_hh g)) ∧
  (va_K D ac_cl (ac_tys dA) s ∧ ac_X A s s.heap ∧ (∀ q, s.heap.size ≤ q → A q) ∧ (ac_d g ≤ R.frames ∧ 35 * ac_d g ≤ R.locals ∧ R.cells = ac_mc g ∧ R.slots = ac_ms g)) ∧
  ((∀ (σ : ac_A) (h : ac_H) (H : Heap) (locs : List Loc) (k z : Nat) (r : Option Value) (pc : Nat) (ls : Array Slot), ac_Wd D dA A s (ac_n0 g) σ0 σ h H locs → ac_ph g (.inl r) h → k ≤ ac_mc g → z ≤ ac_ms g → (∀ v ∈ r.toList, ac_ok h.length v) → ac_back g pc r → W p (ac_l g) e R s m args below meth c H locs k z Qf (F0 m pc ls (r.toList.map (ac_v σ)))) ∧
   (∀ (σ : ac_A) (h : ac_H) (H : Heap) (locs : List Loc) (k z : Nat) (E : String) (ce : Cell) (q pc : Nat) (ls : Array Slot) (rest : List Value), ac_Wd D dA A s (ac_n0 g) σ0 σ h H locs → ac_ph g (.inr E) h → k ≤ ac_mc g → z ≤ ac_ms g → H[q]? = some ce → ce.vm = .none → s.vm.findClass E = some ce.cls → ac_hh g = [] → xq_W p (ac_l g) e R s m args below meth c H locs k z Qf (F0 m pc ls rest) q) ∧
   (∀ (σ : ac_A) (h : ac_H) (H : Heap) (locs : List Loc) (k z : Nat) (E : String) (pc : Nat) (ls : Array Slot) (rest : List Value), ac_Wd D dA A s (ac_n0 g) σ0 σ h H locs → ac_ph g (.inr E) h → k + 1 ≤ ac_mc g → z + 6 ≤ ac_ms g → ls.size = ac_ml g → (rest.map fun v => v.category).sum ≤ 8 → ac_hh g = [] → ac_thr g pc E → W p (ac_l g) e R s m args below meth c H locs k z Qf (F0 m pc ls rest))) ∧
  (∀ (L : Nat) (xs : Nat → Int32), ac_sc g = some (L, xs) → va_X σ0.1 L xs s s.heap ∧ σ0.1 < s.heap.size ∧ ¬ A σ0.1)
/-- from here the frame comes to an end that it owes, in every concrete heap that holds h -/
def ac_G (g : ac_P) (pc : Nat) (L : List (Nat × Value)) (S : List Value) (h : ac_H) (k z : Nat) : Prop :=
  ∀ (p : Program) (e : Env) (R : Room) (s : State) (m : MethodId) (args : Array Value) (below : List Frame) (meth : Method) (c : Code) (D : va_G) (dA : Nat → ClassId) (A : Nat → Prop) (σ0 : ac_A) (Qf : State → Prop), ac_C g p e R s m args below meth c D dA A σ0 Qf → ∀ (σ : ac_A) (H : Heap) (locs : List Loc) (ls : Array Slot), ac_Wd D dA A s (ac_n0 g) σ0 σ h H locs → (∀ q ∈ L, ac_ok h.length q.2) → (∀ v ∈ S, ac_ok h.length v) → lv_has ls (ac_ml g) (L.map (ac_lv σ)) → W p (ac_l g) e R s m args below meth c H locs k z Qf (F0 m pc ls (S.map (ac_v σ)))
theorem r_iconst {g : ac_P} {pc : Nat} {L : List (Nat × Value)} {S : List Value} {h : ac_H} {k z : Nat} {n : Int} (v : Int32) (hd : decode (ac_cc g) pc = .ok (.iconst n, 1)) (hv : Int32.ofInt n = v) (kk : ac_G g (pc + 1) L (.int v :: S) h k z) : ac_G g pc L S h k z := by
  intro p e R s m args below meth c D dA A σ0 Qf C σ H locs ls hW hL hS hl
  obtain ⟨⟨hx, hb, hml, hown, hnm, hts, htb⟩, ⟨hK, hX, hA, hR⟩, hend, hsc⟩ := id C
  exact lv_iconst hx hb hd hv (kk p e R s m args below meth c D dA A σ0 Qf C σ H locs ls hW hL (ac_okc ac_ok_int hS) hl)
theorem r_bipush {g : ac_P} {pc : Nat} {L : List (Nat × Value)} {S : List Value} {h : ac_H} {k z : Nat} {n : Int} (v : Int32) (hd : decode (ac_cc g) pc = .ok (.bipush n, 2)) (hv : (Int8.ofInt n).toInt32 = v) (kk : ac_G g (pc + 2) L (.int v :: S) h k z) : ac_G g pc L S h k z := by
  intro p e R s m args below meth c D dA A σ0 Qf C σ H locs ls hW hL hS hl
  obtain ⟨⟨hx, hb, hml, hown, hnm, hts, htb⟩, ⟨hK, hX, hA, hR⟩, hend, hsc⟩ := id C
  exact lv_bipush hx hb hd hv (kk p e R s m args below meth c D dA A σ0 Qf C σ H locs ls hW hL (ac_okc ac_ok_int hS) hl)
theorem r_sipush {g : ac_P} {pc : Nat} {L : List (Nat × Value)} {S : List Value} {h : ac_H} {k z : Nat} {n : Int} (v : Int32) (hd : decode (ac_cc g) pc = .ok (.sipush n, 3)) (hv : (Int16.ofInt n).toInt32 = v) (kk : ac_G g (pc + 3) L (.int v :: S) h k z) : ac_G g pc L S h k z := by
  intro p e R s m args below meth c D dA A σ0 Qf C σ H locs ls hW hL hS hl
  obtain ⟨⟨hx, hb, hml, hown, hnm, hts, htb⟩, ⟨hK, hX, hA, hR⟩, hend, hsc⟩ := id C
  exact lv_sipush hx hb hd hv (kk p e R s m args below meth c D dA A σ0 Qf C σ H locs ls hW hL (ac_okc ac_ok_int hS) hl)
theorem r_lconst {g : ac_P} {pc : Nat} {L : List (Nat × Value)} {S : List Value} {h : ac_H} {k z : Nat} {n : Fin 2} (v : Int64) (hd : decode (ac_cc g) pc = .ok (.lconst n, 1)) (hv : Int64.ofNat (n : Nat) = v) (kk : ac_G g (pc + 1) L (.long v :: S) h k z) : ac_G g pc L S h k z := by
  intro p e R s m args below meth c D dA A σ0 Qf C σ H locs ls hW hL hS hl
  obtain ⟨⟨hx, hb, hml, hown, hnm, hts, htb⟩, ⟨hK, hX, hA, hR⟩, hend, hsc⟩ := id C
  exact lv_lconst hx hb hd hv (kk p e R s m args below meth c D dA A σ0 Qf C σ H locs ls hW hL (ac_okc ac_ok_long hS) hl)
theorem r_ldc {g : ac_P} {pc : Nat} {L : List (Nat × Value)} {S : List Value} {h : ac_H} {k z : Nat} {index : Nat} (v : Int32) (hd : decode (ac_cc g) pc = .ok (.ldc index, 2)) (hc : Jvm.Cond.constant (ac_y g).cls index v ∈ ac_U) (kk : ac_G g (pc + 2) L (.int v :: S) h k z) : ac_G g pc L S h k z := by
  intro p e R s m args below meth c D dA A σ0 Qf C σ H locs ls hW hL hS hl
  obtain ⟨⟨hx, hb, hml, hown, hnm, hts, htb⟩, ⟨hK, hX, hA, hR⟩, hend, hsc⟩ := id C
  exact lv_ldc hx hb hown (hts _ hc) hd (kk p e R s m args below meth c D dA A σ0 Qf C σ H locs ls hW hL (ac_okc ac_ok_int hS) hl)
theorem r_iload_n {g : ac_P} {pc : Nat} {L : List (Nat × Value)} {S : List Value} {h : ac_H} {k z : Nat} {i : Fin 4} {x : Int32} (hd : decode (ac_cc g) pc = .ok (.iload_n i, 1)) (hl0 : ac_get L (i : Nat) = some (.int x)) (kk : ac_G g (pc + 1) L (.int x :: S) h k z) : ac_G g pc L S h k z := by
  intro p e R s m args below meth c D dA A σ0 Qf C σ H locs ls hW hL hS hl
  obtain ⟨⟨hx, hb, hml, hown, hnm, hts, htb⟩, ⟨hK, hX, hA, hR⟩, hend, hsc⟩ := id C
  exact lv_iload_n hx hb hd rfl (ac_look hl hl0) (kk p e R s m args below meth c D dA A σ0 Qf C σ H locs ls hW hL (ac_okc ac_ok_int hS) hl)
theorem r_iload {g : ac_P} {pc : Nat} {L : List (Nat × Value)} {S : List Value} {h : ac_H} {k z : Nat} {i : Nat} {x : Int32} (hd : decode (ac_cc g) pc = .ok (.iload i, 2)) (hl0 : ac_get L i = some (.int x)) (kk : ac_G g (pc + 2) L (.int x :: S) h k z) : ac_G g pc L S h k z := by
  intro p e R s m args below meth c D dA A σ0 Qf C σ H locs ls hW hL hS hl
  obtain ⟨⟨hx, hb, hml, hown, hnm, hts, htb⟩, ⟨hK, hX, hA, hR⟩, hend, hsc⟩ := id C
  exact lv_iload hx hb hd (ac_look hl hl0) (kk p e R s m args below meth c D dA A σ0 Qf C σ H locs ls hW hL (ac_okc ac_ok_int hS) hl)
theorem r_aload_n {g : ac_P} {pc : Nat} {L : List (Nat × Value)} {S : List Value} {h : ac_H} {k z : Nat} {i : Fin 4} {a : Nat} (hd : decode (ac_cc g) pc = .ok (.aload_n i, 1)) (hl0 : ac_get L (i : Nat) = some (.ref a)) (kk : ac_G g (pc + 1) L (.ref a :: S) h k z) : ac_G g pc L S h k z := by
  intro p e R s m args below meth c D dA A σ0 Qf C σ H locs ls hW hL hS hl
  obtain ⟨⟨hx, hb, hml, hown, hnm, hts, htb⟩, ⟨hK, hX, hA, hR⟩, hend, hsc⟩ := id C
  exact lv_aload_n hx hb hd rfl (ac_look hl hl0) (kk p e R s m args below meth c D dA A σ0 Qf C σ H locs ls hW hL (ac_okc (hL _ (ac_get_mem hl0)) hS) hl)
theorem r_aload {g : ac_P} {pc : Nat} {L : List (Nat × Value)} {S : List Value} {h : ac_H} {k z : Nat} {i : Nat} {a : Nat} (hd : decode (ac_cc g) pc = .ok (.aload i, 2)) (hl0 : ac_get L i = some (.ref a)) (kk : ac_G g (pc + 2) L (.ref a :: S) h k z) : ac_G g pc L S h k z := by
  intro p e R s m args below meth c D dA A σ0 Qf C σ H locs ls hW hL hS hl
  obtain ⟨⟨hx, hb, hml, hown, hnm, hts, htb⟩, ⟨hK, hX, hA, hR⟩, hend, hsc⟩ := id C
  exact lv_aload hx hb hd (ac_look hl hl0) (kk p e R s m args below meth c D dA A σ0 Qf C σ H locs ls hW hL (ac_okc (hL _ (ac_get_mem hl0)) hS) hl)
theorem r_aload_nS {g : ac_P} {pc : Nat} {L : List (Nat × Value)} {S : List Value} {h : ac_H} {k z : Nat} {i : Fin 4} {a : Nat} (hd : decode (ac_cc g) pc = .ok (.aload_n i, 1)) (hl0 : ac_get L (i : Nat) = some (.retAddr a)) (kk : ac_G g (pc + 1) L (.retAddr a :: S) h k z) : ac_G g pc L S h k z := by
  intro p e R s m args below meth c D dA A σ0 Qf C σ H locs ls hW hL hS hl
  obtain ⟨⟨hx, hb, hml, hown, hnm, hts, htb⟩, ⟨hK, hX, hA, hR⟩, hend, hsc⟩ := id C
  exact lv_aload_n hx hb hd rfl (ac_look hl hl0) (kk p e R s m args below meth c D dA A σ0 Qf C σ H locs ls hW hL (ac_okc (hL _ (ac_get_mem hl0)) hS) hl)
theorem r_aloadS {g : ac_P} {pc : Nat} {L : List (Nat × Value)} {S : List Value} {h : ac_H} {k z : Nat} {i : Nat} {a : Nat} (hd : decode (ac_cc g) pc = .ok (.aload i, 2)) (hl0 : ac_get L i = some (.retAddr a)) (kk : ac_G g (pc + 2) L (.retAddr a :: S) h k z) : ac_G g pc L S h k z := by
  intro p e R s m args below meth c D dA A σ0 Qf C σ H locs ls hW hL hS hl
  obtain ⟨⟨hx, hb, hml, hown, hnm, hts, htb⟩, ⟨hK, hX, hA, hR⟩, hend, hsc⟩ := id C
  exact lv_aload hx hb hd (ac_look hl hl0) (kk p e R s m args below meth c D dA A σ0 Qf C σ H locs ls hW hL (ac_okc (hL _ (ac_get_mem hl0)) hS) hl)
theorem r_istore_n {g : ac_P} {pc : Nat} {L : List (Nat × Value)} {S : List Value} {h : ac_H} {k z : Nat} {i : Fin 4} {x : Int32} (hd : decode (ac_cc g) pc = .ok (.istore_n i, 1)) (hn : (i : Nat) < ac_ml g) (kk : ac_G g (pc + 1) (ac_put L (i : Nat) (.int x)) S h k z) : ac_G g pc L (.int x :: S) h k z := by
  intro p e R s m args below meth c D dA A σ0 Qf C σ H locs ls hW hL hS hl
  obtain ⟨⟨hx, hb, hml, hown, hnm, hts, htb⟩, ⟨hK, hX, hA, hR⟩, hend, hsc⟩ := id C
  exact lv_istore_n hx hb hd rfl hl hn (ac_put_map σ L (i : Nat) (.int x)) (fun ls' hl' => kk p e R s m args below meth c D dA A σ0 Qf C σ H locs ls' hW (ac_okL_put (ac_oku hS).1 hL) (ac_oku hS).2 hl')
theorem r_istore {g : ac_P} {pc : Nat} {L : List (Nat × Value)} {S : List Value} {h : ac_H} {k z : Nat} {i : Nat} {x : Int32} (hd : decode (ac_cc g) pc = .ok (.istore i, 2)) (hn : i < ac_ml g) (kk : ac_G g (pc + 2) (ac_put L i (.int x)) S h k z) : ac_G g pc L (.int x :: S) h k z := by
  intro p e R s m args below meth c D dA A σ0 Qf C σ H locs ls hW hL hS hl
  obtain ⟨⟨hx, hb, hml, hown, hnm, hts, htb⟩, ⟨hK, hX, hA, hR⟩, hend, hsc⟩ := id C
  exact lv_istore hx hb hd hl hn (ac_put_map σ L i (.int x)) (fun ls' hl' => kk p e R s m args below meth c D dA A σ0 Qf C σ H locs ls' hW (ac_okL_put (ac_oku hS).1 hL) (ac_oku hS).2 hl')
theorem r_astore_n {g : ac_P} {pc : Nat} {L : List (Nat × Value)} {S : List Value} {h : ac_H} {k z : Nat} {i : Fin 4} {x : Nat} (hd : decode (ac_cc g) pc = .ok (.astore_n i, 1)) (hn : (i : Nat) < ac_ml g) (kk : ac_G g (pc + 1) (ac_put L (i : Nat) (.ref x)) S h k z) : ac_G g pc L (.ref x :: S) h k z := by
  intro p e R s m args below meth c D dA A σ0 Qf C σ H locs ls hW hL hS hl
  obtain ⟨⟨hx, hb, hml, hown, hnm, hts, htb⟩, ⟨hK, hX, hA, hR⟩, hend, hsc⟩ := id C
  exact lv_astore_n hx hb hd rfl hl hn (ac_put_map σ L (i : Nat) (.ref x)) (fun ls' hl' => kk p e R s m args below meth c D dA A σ0 Qf C σ H locs ls' hW (ac_okL_put (ac_oku hS).1 hL) (ac_oku hS).2 hl')
theorem r_astore {g : ac_P} {pc : Nat} {L : List (Nat × Value)} {S : List Value} {h : ac_H} {k z : Nat} {i : Nat} {x : Nat} (hd : decode (ac_cc g) pc = .ok (.astore i, 2)) (hn : i < ac_ml g) (kk : ac_G g (pc + 2) (ac_put L i (.ref x)) S h k z) : ac_G g pc L (.ref x :: S) h k z := by
  intro p e R s m args below meth c D dA A σ0 Qf C σ H locs ls hW hL hS hl
  obtain ⟨⟨hx, hb, hml, hown, hnm, hts, htb⟩, ⟨hK, hX, hA, hR⟩, hend, hsc⟩ := id C
  exact lv_astore hx hb hd hl hn (ac_put_map σ L i (.ref x)) (fun ls' hl' => kk p e R s m args below meth c D dA A σ0 Qf C σ H locs ls' hW (ac_okL_put (ac_oku hS).1 hL) (ac_oku hS).2 hl')
theorem ac_get_at : ∀ {L : List (Nat × Value)} {k : Nat} {v : Value}, ac_get L k = some v → ∃ j : Nat, L[j]? = some (k, v) := fun h => List.getElem?_of_mem (ac_get_mem h)
theorem r_iinc {g : ac_P} {pc : Nat} {L : List (Nat × Value)} {S : List Value} {h : ac_H} {k z : Nat} {i : Nat} {n : Int} {x : Int32} (v : Int32) (hd : decode (ac_cc g) pc = .ok (.iinc i n, 3)) (hl0 : ac_get L i = some (.int x)) (hv : x + Int32.ofInt n = v) (hn : i < ac_ml g) (kk : ac_G g (pc + 3) (ac_put L i (.int v)) S h k z) : ac_G g pc L S h k z := by
  intro p e R s m args below meth c D dA A σ0 Qf C σ H locs ls hW hL hS hl
  obtain ⟨⟨hx, hb, hml, hown, hnm, hts, htb⟩, ⟨hK, hX, hA, hR⟩, hend, hsc⟩ := id C
  obtain ⟨j, hj⟩ := ac_get_at hl0
  exact lv_iinc (k := j) hx hb hd hl (by rw [List.getElem?_map, hj]; rfl) hv hn (ac_put_map σ L i (.int v)) (fun ls' hl' => kk p e R s m args below meth c D dA A σ0 Qf C σ H locs ls' hW (ac_okL_put ac_ok_int hL) hS hl')
theorem r_iadd {g : ac_P} {pc : Nat} {L : List (Nat × Value)} {S : List Value} {h : ac_H} {k z : Nat} {x y : Int32} (hd : decode (ac_cc g) pc = .ok (.iadd, 1)) (kk : ac_G g (pc + 1) L (.int (x + y) :: S) h k z) : ac_G g pc L (.int y :: .int x :: S) h k z := by
  intro p e R s m args below meth c D dA A σ0 Qf C σ H locs ls hW hL hS hl
  obtain ⟨⟨hx, hb, hml, hown, hnm, hts, htb⟩, ⟨hK, hX, hA, hR⟩, hend, hsc⟩ := id C
  exact lv_iadd hx hb hd (kk p e R s m args below meth c D dA A σ0 Qf C σ H locs ls hW hL (ac_okc ac_ok_int (ac_oku (ac_oku hS).2).2) hl)
theorem r_isub {g : ac_P} {pc : Nat} {L : List (Nat × Value)} {S : List Value} {h : ac_H} {k z : Nat} {x y : Int32} (hd : decode (ac_cc g) pc = .ok (.isub, 1)) (kk : ac_G g (pc + 1) L (.int (x - y) :: S) h k z) : ac_G g pc L (.int y :: .int x :: S) h k z := by
  intro p e R s m args below meth c D dA A σ0 Qf C σ H locs ls hW hL hS hl
  obtain ⟨⟨hx, hb, hml, hown, hnm, hts, htb⟩, ⟨hK, hX, hA, hR⟩, hend, hsc⟩ := id C
  exact lv_isub hx hb hd (kk p e R s m args below meth c D dA A σ0 Qf C σ H locs ls hW hL (ac_okc ac_ok_int (ac_oku (ac_oku hS).2).2) hl)
theorem r_imul {g : ac_P} {pc : Nat} {L : List (Nat × Value)} {S : List Value} {h : ac_H} {k z : Nat} {x y : Int32} (hd : decode (ac_cc g) pc = .ok (.imul, 1)) (kk : ac_G g (pc + 1) L (.int (x * y) :: S) h k z) : ac_G g pc L (.int y :: .int x :: S) h k z := by
  intro p e R s m args below meth c D dA A σ0 Qf C σ H locs ls hW hL hS hl
  obtain ⟨⟨hx, hb, hml, hown, hnm, hts, htb⟩, ⟨hK, hX, hA, hR⟩, hend, hsc⟩ := id C
  exact lv_imul hx hb hd (kk p e R s m args below meth c D dA A σ0 Qf C σ H locs ls hW hL (ac_okc ac_ok_int (ac_oku (ac_oku hS).2).2) hl)
theorem r_iand {g : ac_P} {pc : Nat} {L : List (Nat × Value)} {S : List Value} {h : ac_H} {k z : Nat} {x y : Int32} (hd : decode (ac_cc g) pc = .ok (.iand, 1)) (kk : ac_G g (pc + 1) L (.int (x &&& y) :: S) h k z) : ac_G g pc L (.int y :: .int x :: S) h k z := by
  intro p e R s m args below meth c D dA A σ0 Qf C σ H locs ls hW hL hS hl
  obtain ⟨⟨hx, hb, hml, hown, hnm, hts, htb⟩, ⟨hK, hX, hA, hR⟩, hend, hsc⟩ := id C
  exact lv_iand hx hb hd (kk p e R s m args below meth c D dA A σ0 Qf C σ H locs ls hW hL (ac_okc ac_ok_int (ac_oku (ac_oku hS).2).2) hl)
theorem r_ior {g : ac_P} {pc : Nat} {L : List (Nat × Value)} {S : List Value} {h : ac_H} {k z : Nat} {x y : Int32} (hd : decode (ac_cc g) pc = .ok (.ior, 1)) (kk : ac_G g (pc + 1) L (.int (x ||| y) :: S) h k z) : ac_G g pc L (.int y :: .int x :: S) h k z := by
  intro p e R s m args below meth c D dA A σ0 Qf C σ H locs ls hW hL hS hl
  obtain ⟨⟨hx, hb, hml, hown, hnm, hts, htb⟩, ⟨hK, hX, hA, hR⟩, hend, hsc⟩ := id C
  exact lv_ior hx hb hd (kk p e R s m args below meth c D dA A σ0 Qf C σ H locs ls hW hL (ac_okc ac_ok_int (ac_oku (ac_oku hS).2).2) hl)
theorem r_ixor {g : ac_P} {pc : Nat} {L : List (Nat × Value)} {S : List Value} {h : ac_H} {k z : Nat} {x y : Int32} (hd : decode (ac_cc g) pc = .ok (.ixor, 1)) (kk : ac_G g (pc + 1) L (.int (x ^^^ y) :: S) h k z) : ac_G g pc L (.int y :: .int x :: S) h k z := by
  intro p e R s m args below meth c D dA A σ0 Qf C σ H locs ls hW hL hS hl
  obtain ⟨⟨hx, hb, hml, hown, hnm, hts, htb⟩, ⟨hK, hX, hA, hR⟩, hend, hsc⟩ := id C
  exact lv_ixor hx hb hd (kk p e R s m args below meth c D dA A σ0 Qf C σ H locs ls hW hL (ac_okc ac_ok_int (ac_oku (ac_oku hS).2).2) hl)
theorem r_ishr {g : ac_P} {pc : Nat} {L : List (Nat × Value)} {S : List Value} {h : ac_H} {k z : Nat} {x y : Int32} (hd : decode (ac_cc g) pc = .ok (.ishr, 1)) (kk : ac_G g (pc + 1) L (.int (x >>> (y &&& 31)) :: S) h k z) : ac_G g pc L (.int y :: .int x :: S) h k z := by
  intro p e R s m args below meth c D dA A σ0 Qf C σ H locs ls hW hL hS hl
  obtain ⟨⟨hx, hb, hml, hown, hnm, hts, htb⟩, ⟨hK, hX, hA, hR⟩, hend, hsc⟩ := id C
  exact lv_ishr hx hb hd (kk p e R s m args below meth c D dA A σ0 Qf C σ H locs ls hW hL (ac_okc ac_ok_int (ac_oku (ac_oku hS).2).2) hl)
theorem r_ishl {g : ac_P} {pc : Nat} {L : List (Nat × Value)} {S : List Value} {h : ac_H} {k z : Nat} {x y : Int32} (hd : decode (ac_cc g) pc = .ok (.ishl, 1)) (kk : ac_G g (pc + 1) L (.int (x <<< (y &&& 31)) :: S) h k z) : ac_G g pc L (.int y :: .int x :: S) h k z := by
  intro p e R s m args below meth c D dA A σ0 Qf C σ H locs ls hW hL hS hl
  obtain ⟨⟨hx, hb, hml, hown, hnm, hts, htb⟩, ⟨hK, hX, hA, hR⟩, hend, hsc⟩ := id C
  exact lv_ishl hx hb hd (kk p e R s m args below meth c D dA A σ0 Qf C σ H locs ls hW hL (ac_okc ac_ok_int (ac_oku (ac_oku hS).2).2) hl)
theorem r_idiv {g : ac_P} {pc : Nat} {L : List (Nat × Value)} {S : List Value} {h : ac_H} {k z : Nat} {x y : Int32} (hd : decode (ac_cc g) pc = .ok (.idiv, 1)) (hne : ¬ y = 0) (kk : ac_G g (pc + 1) L (.int (x / y) :: S) h k z) : ac_G g pc L (.int y :: .int x :: S) h k z := by
  intro p e R s m args below meth c D dA A σ0 Qf C σ H locs ls hW hL hS hl
  obtain ⟨⟨hx, hb, hml, hown, hnm, hts, htb⟩, ⟨hK, hX, hA, hR⟩, hend, hsc⟩ := id C
  exact lv_idiv hx hb hd hne (kk p e R s m args below meth c D dA A σ0 Qf C σ H locs ls hW hL (ac_okc ac_ok_int (ac_oku (ac_oku hS).2).2) hl)
theorem r_irem {g : ac_P} {pc : Nat} {L : List (Nat × Value)} {S : List Value} {h : ac_H} {k z : Nat} {x y : Int32} (hd : decode (ac_cc g) pc = .ok (.irem, 1)) (hne : ¬ y = 0) (kk : ac_G g (pc + 1) L (.int (x - x / y * y) :: S) h k z) : ac_G g pc L (.int y :: .int x :: S) h k z := by
  intro p e R s m args below meth c D dA A σ0 Qf C σ H locs ls hW hL hS hl
  obtain ⟨⟨hx, hb, hml, hown, hnm, hts, htb⟩, ⟨hK, hX, hA, hR⟩, hend, hsc⟩ := id C
  exact lv_irem hx hb hd hne (kk p e R s m args below meth c D dA A σ0 Qf C σ H locs ls hW hL (ac_okc ac_ok_int (ac_oku (ac_oku hS).2).2) hl)
theorem r_ineg {g : ac_P} {pc : Nat} {L : List (Nat × Value)} {S : List Value} {h : ac_H} {k z : Nat} {x : Int32} (hd : decode (ac_cc g) pc = .ok (.ineg, 1)) (kk : ac_G g (pc + 1) L (.int (-x) :: S) h k z) : ac_G g pc L (.int x :: S) h k z := by
  intro p e R s m args below meth c D dA A σ0 Qf C σ H locs ls hW hL hS hl
  obtain ⟨⟨hx, hb, hml, hown, hnm, hts, htb⟩, ⟨hK, hX, hA, hR⟩, hend, hsc⟩ := id C
  exact lv_ineg hx hb hd (kk p e R s m args below meth c D dA A σ0 Qf C σ H locs ls hW hL (ac_okc ac_ok_int (ac_oku hS).2) hl)
theorem r_i2l {g : ac_P} {pc : Nat} {L : List (Nat × Value)} {S : List Value} {h : ac_H} {k z : Nat} {x : Int32} (hd : decode (ac_cc g) pc = .ok (.i2l, 1)) (kk : ac_G g (pc + 1) L (.long x.toInt64 :: S) h k z) : ac_G g pc L (.int x :: S) h k z := by
  intro p e R s m args below meth c D dA A σ0 Qf C σ H locs ls hW hL hS hl
  obtain ⟨⟨hx, hb, hml, hown, hnm, hts, htb⟩, ⟨hK, hX, hA, hR⟩, hend, hsc⟩ := id C
  exact lv_i2l hx hb hd rfl (kk p e R s m args below meth c D dA A σ0 Qf C σ H locs ls hW hL (ac_okc ac_ok_long (ac_oku hS).2) hl)
theorem r_lcmp {g : ac_P} {pc : Nat} {L : List (Nat × Value)} {S : List Value} {h : ac_H} {k z : Nat} {x y : Int64} (hd : decode (ac_cc g) pc = .ok (.lcmp, 1)) (kk : ac_G g (pc + 1) L (.int (lg_cmp x y) :: S) h k z) : ac_G g pc L (.long y :: .long x :: S) h k z := by
  intro p e R s m args below meth c D dA A σ0 Qf C σ H locs ls hW hL hS hl
  obtain ⟨⟨hx, hb, hml, hown, hnm, hts, htb⟩, ⟨hK, hX, hA, hR⟩, hend, hsc⟩ := id C
  exact W.lcmp hx hb hd (kk p e R s m args below meth c D dA A σ0 Qf C σ H locs ls hW hL (ac_okc ac_ok_int (ac_oku (ac_oku hS).2).2) hl)
theorem r_topi {g : ac_P} {pc : Nat} {L : List (Nat × Value)} {S : List Value} {h : ac_H} {k z : Nat} {x : Int32} (kk : ∀ y : Int32, y = x → ac_G g pc L (.int y :: S) h k z) : ac_G g pc L (.int x :: S) h k z := kk x rfl
theorem r_dup {g : ac_P} {pc : Nat} {L : List (Nat × Value)} {S : List Value} {h : ac_H} {k z : Nat} {v : Value} (hd : decode (ac_cc g) pc = .ok (.dup, 1)) (hc : v.category = 1) (kk : ac_G g (pc + 1) L (v :: v :: S) h k z) : ac_G g pc L (v :: S) h k z := by
  intro p e R s m args below meth c D dA A σ0 Qf C σ H locs ls hW hL hS hl
  obtain ⟨⟨hx, hb, hml, hown, hnm, hts, htb⟩, ⟨hK, hX, hA, hR⟩, hend, hsc⟩ := id C
  exact lv_dup hx hb hd ((ac_v_cat σ v).trans hc) (kk p e R s m args below meth c D dA A σ0 Qf C σ H locs ls hW hL (ac_okc (ac_oku hS).1 hS) hl)
theorem r_pop {g : ac_P} {pc : Nat} {L : List (Nat × Value)} {S : List Value} {h : ac_H} {k z : Nat} {v : Value} (hd : decode (ac_cc g) pc = .ok (.pop, 1)) (hc : v.category = 1) (kk : ac_G g (pc + 1) L S h k z) : ac_G g pc L (v :: S) h k z := by
  intro p e R s m args below meth c D dA A σ0 Qf C σ H locs ls hW hL hS hl
  obtain ⟨⟨hx, hb, hml, hown, hnm, hts, htb⟩, ⟨hK, hX, hA, hR⟩, hend, hsc⟩ := id C
  exact lv_pop hx hb hd ((ac_v_cat σ v).trans hc) (kk p e R s m args below meth c D dA A σ0 Qf C σ H locs ls hW hL (ac_oku hS).2 hl)
theorem r_dup_x1 {g : ac_P} {pc : Nat} {L : List (Nat × Value)} {S : List Value} {h : ac_H} {k z : Nat} {v w : Value} (hd : decode (ac_cc g) pc = .ok (.dup_x1, 1)) (hc : v.category = 1) (hc2 : w.category = 1) (kk : ac_G g (pc + 1) L (v :: w :: v :: S) h k z) : ac_G g pc L (v :: w :: S) h k z := by
  intro p e R s m args below meth c D dA A σ0 Qf C σ H locs ls hW hL hS hl
  obtain ⟨⟨hx, hb, hml, hown, hnm, hts, htb⟩, ⟨hK, hX, hA, hR⟩, hend, hsc⟩ := id C
  exact lv_dup_x1 hx hb hd ((ac_v_cat σ v).trans hc) ((ac_v_cat σ w).trans hc2) (kk p e R s m args below meth c D dA A σ0 Qf C σ H locs ls hW hL (ac_okc (ac_oku hS).1 (ac_okc (ac_oku (ac_oku hS).2).1 (ac_okc (ac_oku hS).1 (ac_oku (ac_oku hS).2).2))) hl)
theorem r_dup_x2 {g : ac_P} {pc : Nat} {L : List (Nat × Value)} {S : List Value} {h : ac_H} {k z : Nat} {v w u : Value} (hd : decode (ac_cc g) pc = .ok (.dup_x2, 1)) (hc : v.category = 1) (hc2 : w.category = 1) (hc3 : u.category = 1) (kk : ac_G g (pc + 1) L (v :: w :: u :: v :: S) h k z) : ac_G g pc L (v :: w :: u :: S) h k z := by
  intro p e R s m args below meth c D dA A σ0 Qf C σ H locs ls hW hL hS hl
  obtain ⟨⟨hx, hb, hml, hown, hnm, hts, htb⟩, ⟨hK, hX, hA, hR⟩, hend, hsc⟩ := id C
  exact lv_dup_x2 hx hb hd ((ac_v_cat σ v).trans hc) ((ac_v_cat σ w).trans hc2) ((ac_v_cat σ u).trans hc3) (kk p e R s m args below meth c D dA A σ0 Qf C σ H locs ls hW hL (ac_okc (ac_oku hS).1 (ac_okc (ac_oku (ac_oku hS).2).1 (ac_okc (ac_oku (ac_oku (ac_oku hS).2).2).1 (ac_okc (ac_oku hS).1 (ac_oku (ac_oku (ac_oku hS).2).2).2)))) hl)
theorem r_dup2 {g : ac_P} {pc : Nat} {L : List (Nat × Value)} {S : List Value} {h : ac_H} {k z : Nat} {v w : Value} (hd : decode (ac_cc g) pc = .ok (.dup2, 1)) (hc : v.category = 1) (hc2 : w.category = 1) (kk : ac_G g (pc + 1) L (v :: w :: v :: w :: S) h k z) : ac_G g pc L (v :: w :: S) h k z := by
  intro p e R s m args below meth c D dA A σ0 Qf C σ H locs ls hW hL hS hl
  obtain ⟨⟨hx, hb, hml, hown, hnm, hts, htb⟩, ⟨hK, hX, hA, hR⟩, hend, hsc⟩ := id C
  exact lv_dup2_11 hx hb hd ((ac_v_cat σ v).trans hc) ((ac_v_cat σ w).trans hc2) (kk p e R s m args below meth c D dA A σ0 Qf C σ H locs ls hW hL (ac_okc (ac_oku hS).1 (ac_okc (ac_oku (ac_oku hS).2).1 hS)) hl)
theorem r_if_eq {g : ac_P} {pc : Nat} {L : List (Nat × Value)} {S : List Value} {h : ac_H} {k z : Nat} {x : Int32} {off : Int} (tgt : Nat) (hd : decode (ac_cc g) pc = .ok (.ifCond .eq off, 3)) (ht : (pc : Int) + off = (tgt : Int)) (kt : (x = 0) → ac_G g tgt L S h k z) (kf : ¬ (x = 0) → ac_G g (pc + 3) L S h k z) : ac_G g pc L (.int x :: S) h k z := by
  intro p e R s m args below meth c D dA A σ0 Qf C σ H locs ls hW hL hS hl
  obtain ⟨⟨hx, hb, hml, hown, hnm, hts, htb⟩, ⟨hK, hX, hA, hR⟩, hend, hsc⟩ := id C
  exact lv_if_eq (tgt := tgt) hx hb hd ht (fun q => kt q p e R s m args below meth c D dA A σ0 Qf C σ H locs ls hW hL (ac_oku hS).2 hl) (fun q => kf q p e R s m args below meth c D dA A σ0 Qf C σ H locs ls hW hL (ac_oku hS).2 hl)
theorem r_icmp_eq {g : ac_P} {pc : Nat} {L : List (Nat × Value)} {S : List Value} {h : ac_H} {k z : Nat} {x y : Int32} {off : Int} (tgt : Nat) (hd : decode (ac_cc g) pc = .ok (.if_icmp .eq off, 3)) (ht : (pc : Int) + off = (tgt : Int)) (kt : (x = y) → ac_G g tgt L S h k z) (kf : ¬ (x = y) → ac_G g (pc + 3) L S h k z) : ac_G g pc L (.int y :: .int x :: S) h k z := by
  intro p e R s m args below meth c D dA A σ0 Qf C σ H locs ls hW hL hS hl
  obtain ⟨⟨hx, hb, hml, hown, hnm, hts, htb⟩, ⟨hK, hX, hA, hR⟩, hend, hsc⟩ := id C
  exact lv_icmp_eq (tgt := tgt) hx hb hd ht (fun q => kt q p e R s m args below meth c D dA A σ0 Qf C σ H locs ls hW hL (ac_oku (ac_oku hS).2).2 hl) (fun q => kf q p e R s m args below meth c D dA A σ0 Qf C σ H locs ls hW hL (ac_oku (ac_oku hS).2).2 hl)
theorem r_if_lt {g : ac_P} {pc : Nat} {L : List (Nat × Value)} {S : List Value} {h : ac_H} {k z : Nat} {x : Int32} {off : Int} (tgt : Nat) (hd : decode (ac_cc g) pc = .ok (.ifCond .lt off, 3)) (ht : (pc : Int) + off = (tgt : Int)) (kt : (x < 0) → ac_G g tgt L S h k z) (kf : ¬ (x < 0) → ac_G g (pc + 3) L S h k z) : ac_G g pc L (.int x :: S) h k z := by
  intro p e R s m args below meth c D dA A σ0 Qf C σ H locs ls hW hL hS hl
  obtain ⟨⟨hx, hb, hml, hown, hnm, hts, htb⟩, ⟨hK, hX, hA, hR⟩, hend, hsc⟩ := id C
  exact lv_if_lt (tgt := tgt) hx hb hd ht (fun q => kt q p e R s m args below meth c D dA A σ0 Qf C σ H locs ls hW hL (ac_oku hS).2 hl) (fun q => kf q p e R s m args below meth c D dA A σ0 Qf C σ H locs ls hW hL (ac_oku hS).2 hl)
theorem r_icmp_lt {g : ac_P} {pc : Nat} {L : List (Nat × Value)} {S : List Value} {h : ac_H} {k z : Nat} {x y : Int32} {off : Int} (tgt : Nat) (hd : decode (ac_cc g) pc = .ok (.if_icmp .lt off, 3)) (ht : (pc : Int) + off = (tgt : Int)) (kt : (x < y) → ac_G g tgt L S h k z) (kf : ¬ (x < y) → ac_G g (pc + 3) L S h k z) : ac_G g pc L (.int y :: .int x :: S) h k z := by
  intro p e R s m args below meth c D dA A σ0 Qf C σ H locs ls hW hL hS hl
  obtain ⟨⟨hx, hb, hml, hown, hnm, hts, htb⟩, ⟨hK, hX, hA, hR⟩, hend, hsc⟩ := id C
  exact lv_icmp_lt (tgt := tgt) hx hb hd ht (fun q => kt q p e R s m args below meth c D dA A σ0 Qf C σ H locs ls hW hL (ac_oku (ac_oku hS).2).2 hl) (fun q => kf q p e R s m args below meth c D dA A σ0 Qf C σ H locs ls hW hL (ac_oku (ac_oku hS).2).2 hl)
theorem r_if_ge {g : ac_P} {pc : Nat} {L : List (Nat × Value)} {S : List Value} {h : ac_H} {k z : Nat} {x : Int32} {off : Int} (tgt : Nat) (hd : decode (ac_cc g) pc = .ok (.ifCond .ge off, 3)) (ht : (pc : Int) + off = (tgt : Int)) (kt : (0 ≤ x) → ac_G g tgt L S h k z) (kf : ¬ (0 ≤ x) → ac_G g (pc + 3) L S h k z) : ac_G g pc L (.int x :: S) h k z := by
  intro p e R s m args below meth c D dA A σ0 Qf C σ H locs ls hW hL hS hl
  obtain ⟨⟨hx, hb, hml, hown, hnm, hts, htb⟩, ⟨hK, hX, hA, hR⟩, hend, hsc⟩ := id C
  exact lv_if_ge (tgt := tgt) hx hb hd ht (fun q => kt q p e R s m args below meth c D dA A σ0 Qf C σ H locs ls hW hL (ac_oku hS).2 hl) (fun q => kf q p e R s m args below meth c D dA A σ0 Qf C σ H locs ls hW hL (ac_oku hS).2 hl)
theorem r_icmp_ge {g : ac_P} {pc : Nat} {L : List (Nat × Value)} {S : List Value} {h : ac_H} {k z : Nat} {x y : Int32} {off : Int} (tgt : Nat) (hd : decode (ac_cc g) pc = .ok (.if_icmp .ge off, 3)) (ht : (pc : Int) + off = (tgt : Int)) (kt : (y ≤ x) → ac_G g tgt L S h k z) (kf : ¬ (y ≤ x) → ac_G g (pc + 3) L S h k z) : ac_G g pc L (.int y :: .int x :: S) h k z := by
  intro p e R s m args below meth c D dA A σ0 Qf C σ H locs ls hW hL hS hl
  obtain ⟨⟨hx, hb, hml, hown, hnm, hts, htb⟩, ⟨hK, hX, hA, hR⟩, hend, hsc⟩ := id C
  exact lv_icmp_ge (tgt := tgt) hx hb hd ht (fun q => kt q p e R s m args below meth c D dA A σ0 Qf C σ H locs ls hW hL (ac_oku (ac_oku hS).2).2 hl) (fun q => kf q p e R s m args below meth c D dA A σ0 Qf C σ H locs ls hW hL (ac_oku (ac_oku hS).2).2 hl)
theorem r_if_gt {g : ac_P} {pc : Nat} {L : List (Nat × Value)} {S : List Value} {h : ac_H} {k z : Nat} {x : Int32} {off : Int} (tgt : Nat) (hd : decode (ac_cc g) pc = .ok (.ifCond .gt off, 3)) (ht : (pc : Int) + off = (tgt : Int)) (kt : (0 < x) → ac_G g tgt L S h k z) (kf : ¬ (0 < x) → ac_G g (pc + 3) L S h k z) : ac_G g pc L (.int x :: S) h k z := by
  intro p e R s m args below meth c D dA A σ0 Qf C σ H locs ls hW hL hS hl
  obtain ⟨⟨hx, hb, hml, hown, hnm, hts, htb⟩, ⟨hK, hX, hA, hR⟩, hend, hsc⟩ := id C
  exact lv_if_gt (tgt := tgt) hx hb hd ht (fun q => kt q p e R s m args below meth c D dA A σ0 Qf C σ H locs ls hW hL (ac_oku hS).2 hl) (fun q => kf q p e R s m args below meth c D dA A σ0 Qf C σ H locs ls hW hL (ac_oku hS).2 hl)
theorem r_icmp_gt {g : ac_P} {pc : Nat} {L : List (Nat × Value)} {S : List Value} {h : ac_H} {k z : Nat} {x y : Int32} {off : Int} (tgt : Nat) (hd : decode (ac_cc g) pc = .ok (.if_icmp .gt off, 3)) (ht : (pc : Int) + off = (tgt : Int)) (kt : (y < x) → ac_G g tgt L S h k z) (kf : ¬ (y < x) → ac_G g (pc + 3) L S h k z) : ac_G g pc L (.int y :: .int x :: S) h k z := by
  intro p e R s m args below meth c D dA A σ0 Qf C σ H locs ls hW hL hS hl
  obtain ⟨⟨hx, hb, hml, hown, hnm, hts, htb⟩, ⟨hK, hX, hA, hR⟩, hend, hsc⟩ := id C
  exact lv_icmp_gt (tgt := tgt) hx hb hd ht (fun q => kt q p e R s m args below meth c D dA A σ0 Qf C σ H locs ls hW hL (ac_oku (ac_oku hS).2).2 hl) (fun q => kf q p e R s m args below meth c D dA A σ0 Qf C σ H locs ls hW hL (ac_oku (ac_oku hS).2).2 hl)
theorem r_if_le {g : ac_P} {pc : Nat} {L : List (Nat × Value)} {S : List Value} {h : ac_H} {k z : Nat} {x : Int32} {off : Int} (tgt : Nat) (hd : decode (ac_cc g) pc = .ok (.ifCond .le off, 3)) (ht : (pc : Int) + off = (tgt : Int)) (kt : (x ≤ 0) → ac_G g tgt L S h k z) (kf : ¬ (x ≤ 0) → ac_G g (pc + 3) L S h k z) : ac_G g pc L (.int x :: S) h k z := by
  intro p e R s m args below meth c D dA A σ0 Qf C σ H locs ls hW hL hS hl
  obtain ⟨⟨hx, hb, hml, hown, hnm, hts, htb⟩, ⟨hK, hX, hA, hR⟩, hend, hsc⟩ := id C
  exact lv_if_le (tgt := tgt) hx hb hd ht (fun q => kt q p e R s m args below meth c D dA A σ0 Qf C σ H locs ls hW hL (ac_oku hS).2 hl) (fun q => kf q p e R s m args below meth c D dA A σ0 Qf C σ H locs ls hW hL (ac_oku hS).2 hl)
theorem r_icmp_le {g : ac_P} {pc : Nat} {L : List (Nat × Value)} {S : List Value} {h : ac_H} {k z : Nat} {x y : Int32} {off : Int} (tgt : Nat) (hd : decode (ac_cc g) pc = .ok (.if_icmp .le off, 3)) (ht : (pc : Int) + off = (tgt : Int)) (kt : (x ≤ y) → ac_G g tgt L S h k z) (kf : ¬ (x ≤ y) → ac_G g (pc + 3) L S h k z) : ac_G g pc L (.int y :: .int x :: S) h k z := by
  intro p e R s m args below meth c D dA A σ0 Qf C σ H locs ls hW hL hS hl
  obtain ⟨⟨hx, hb, hml, hown, hnm, hts, htb⟩, ⟨hK, hX, hA, hR⟩, hend, hsc⟩ := id C
  exact lv_icmp_le (tgt := tgt) hx hb hd ht (fun q => kt q p e R s m args below meth c D dA A σ0 Qf C σ H locs ls hW hL (ac_oku (ac_oku hS).2).2 hl) (fun q => kf q p e R s m args below meth c D dA A σ0 Qf C σ H locs ls hW hL (ac_oku (ac_oku hS).2).2 hl)
theorem r_if_ne {g : ac_P} {pc : Nat} {L : List (Nat × Value)} {S : List Value} {h : ac_H} {k z : Nat} {x : Int32} {off : Int} (tgt : Nat) (hd : decode (ac_cc g) pc = .ok (.ifCond .ne off, 3)) (ht : (pc : Int) + off = (tgt : Int)) (kt : ¬ (x = 0) → ac_G g tgt L S h k z) (kf : (x = 0) → ac_G g (pc + 3) L S h k z) : ac_G g pc L (.int x :: S) h k z := by
  intro p e R s m args below meth c D dA A σ0 Qf C σ H locs ls hW hL hS hl
  obtain ⟨⟨hx, hb, hml, hown, hnm, hts, htb⟩, ⟨hK, hX, hA, hR⟩, hend, hsc⟩ := id C
  exact lv_if_ne (tgt := tgt) hx hb hd ht (fun q => kt q p e R s m args below meth c D dA A σ0 Qf C σ H locs ls hW hL (ac_oku hS).2 hl) (fun q => kf q p e R s m args below meth c D dA A σ0 Qf C σ H locs ls hW hL (ac_oku hS).2 hl)
theorem r_icmp_ne {g : ac_P} {pc : Nat} {L : List (Nat × Value)} {S : List Value} {h : ac_H} {k z : Nat} {x y : Int32} {off : Int} (tgt : Nat) (hd : decode (ac_cc g) pc = .ok (.if_icmp .ne off, 3)) (ht : (pc : Int) + off = (tgt : Int)) (kt : ¬ (x = y) → ac_G g tgt L S h k z) (kf : (x = y) → ac_G g (pc + 3) L S h k z) : ac_G g pc L (.int y :: .int x :: S) h k z := by
  intro p e R s m args below meth c D dA A σ0 Qf C σ H locs ls hW hL hS hl
  obtain ⟨⟨hx, hb, hml, hown, hnm, hts, htb⟩, ⟨hK, hX, hA, hR⟩, hend, hsc⟩ := id C
  exact lv_icmp_ne (tgt := tgt) hx hb hd ht (fun q => kt q p e R s m args below meth c D dA A σ0 Qf C σ H locs ls hW hL (ac_oku (ac_oku hS).2).2 hl) (fun q => kf q p e R s m args below meth c D dA A σ0 Qf C σ H locs ls hW hL (ac_oku (ac_oku hS).2).2 hl)
theorem r_goto {g : ac_P} {pc : Nat} {L : List (Nat × Value)} {S : List Value} {h : ac_H} {k z : Nat} {off : Int} (tgt : Nat) (hd : decode (ac_cc g) pc = .ok (.goto off, 3)) (ht : (pc : Int) + off = (tgt : Int)) (kk : ac_G g tgt L S h k z) : ac_G g pc L S h k z := by
  intro p e R s m args below meth c D dA A σ0 Qf C σ H locs ls hW hL hS hl
  obtain ⟨⟨hx, hb, hml, hown, hnm, hts, htb⟩, ⟨hK, hX, hA, hR⟩, hend, hsc⟩ := id C
  exact lv_goto (tgt := tgt) hx hb hd ht (kk p e R s m args below meth c D dA A σ0 Qf C σ H locs ls hW hL hS hl)
theorem r_tableIn {g : ac_P} {pc : Nat} {L : List (Nat × Value)} {S : List Value} {h : ac_H} {k z : Nat} {dflt lo hi : Int} {offs : Array Int} {len : Nat} {x : Int32} {off : Int} (tgt : Nat) (hd : decode (ac_cc g) pc = .ok (.tableswitch dflt lo hi offs, len)) (h1 : ¬ x.toInt < lo) (h2 : ¬ hi < x.toInt) (ho : offs[(x.toInt - lo).toNat]? = some off) (ht : (pc : Int) + off = (tgt : Int)) (kk : ac_G g tgt L S h k z) : ac_G g pc L (.int x :: S) h k z := by
  intro p e R s m args below meth c D dA A σ0 Qf C σ H locs ls hW hL hS hl
  obtain ⟨⟨hx, hb, hml, hown, hnm, hts, htb⟩, ⟨hK, hX, hA, hR⟩, hend, hsc⟩ := id C
  exact lv_tableIn (tgt := tgt) hx hb hd h1 h2 ho ht (kk p e R s m args below meth c D dA A σ0 Qf C σ H locs ls hW hL (ac_oku hS).2 hl)
theorem r_tableOut {g : ac_P} {pc : Nat} {L : List (Nat × Value)} {S : List Value} {h : ac_H} {k z : Nat} {dflt lo hi : Int} {offs : Array Int} {len : Nat} {x : Int32} (tgt : Nat) (hd : decode (ac_cc g) pc = .ok (.tableswitch dflt lo hi offs, len)) (h1 : x.toInt < lo ∨ hi < x.toInt) (ht : (pc : Int) + dflt = (tgt : Int)) (kk : ac_G g tgt L S h k z) : ac_G g pc L (.int x :: S) h k z := by
  intro p e R s m args below meth c D dA A σ0 Qf C σ H locs ls hW hL hS hl
  obtain ⟨⟨hx, hb, hml, hown, hnm, hts, htb⟩, ⟨hK, hX, hA, hR⟩, hend, hsc⟩ := id C
  exact lv_tableOut (tgt := tgt) hx hb hd h1 ht (kk p e R s m args below meth c D dA A σ0 Qf C σ H locs ls hW hL (ac_oku hS).2 hl)
/-- fewer locals, in another order -/
theorem r_loc {g : ac_P} {pc : Nat} {L : List (Nat × Value)} {S : List Value} {h : ac_H} {k z : Nat} (L' : List (Nat × Value)) (hp : ∀ q ∈ L', ac_get L q.1 = some q.2) (kk : ac_G g pc L' S h k z) : ac_G g pc L S h k z := by
  intro p e R s m args below meth c D dA A σ0 Qf C σ H locs ls hW hL hS hl
  obtain ⟨⟨hx, hb, hml, hown, hnm, hts, htb⟩, ⟨hK, hX, hA, hR⟩, hend, hsc⟩ := id C
  exact kk p e R s m args below meth c D dA A σ0 Qf C σ H locs ls hW (fun q hq => hL q (ac_get_mem (hp q hq))) hS ⟨hl.1, hl.2.1, fun q hq => by
    obtain ⟨q', hq', rfl⟩ := List.mem_map.mp hq
    exact ac_look hl (hp q' hq')⟩
theorem r_widen {g : ac_P} {pc : Nat} {L : List (Nat × Value)} {S : List Value} {h : ac_H} {k z : Nat} (k' z' : Nat) (h1 : k ≤ k') (h2 : z ≤ z') (kk : ac_G g pc L S h k' z') : ac_G g pc L S h k z := by
  intro p e R s m args below meth c D dA A σ0 Qf C σ H locs ls hW hL hS hl
  obtain ⟨⟨hx, hb, hml, hown, hnm, hts, htb⟩, ⟨hK, hX, hA, hR⟩, hend, hsc⟩ := id C
  exact W.widen h1 h2 (kk p e R s m args below meth c D dA A σ0 Qf C σ H locs ls hW hL hS hl)
/-- the method goes back -/
theorem r_back {g : ac_P} {pc : Nat} {L : List (Nat × Value)} {S : List Value} {h : ac_H} {k z : Nat} (r : Option Value) (hr : S = r.toList) (hp : ac_ph g (.inl r) h) (h1 : k ≤ ac_mc g) (h2 : z ≤ ac_ms g) (hb9 : ac_back g pc r) : ac_G g pc L S h k z := by
  intro p e R s m args below meth c D dA A σ0 Qf C σ H locs ls hW hL hS hl
  obtain ⟨⟨hx, hb, hml, hown, hnm, hts, htb⟩, ⟨hK, hX, hA, hR⟩, hend, hsc⟩ := id C
  subst hr
  exact hend.1 σ h H locs k z r pc ls hW hp h1 h2 hS hb9
theorem r_iret {g : ac_P} {pc : Nat} {L : List (Nat × Value)} {h : ac_H} {k z : Nat} {v : Int32} (hd : decode (ac_cc g) pc = .ok (.ireturn, 1)) (hr : ac_rt g = some .int) (hp : ac_ph g (.inl (some (.int v))) h) (h1 : k ≤ ac_mc g) (h2 : z ≤ ac_ms g) : ac_G g pc L [.int v] h k z := r_back (some (.int v)) rfl hp h1 h2 (Or.inl ⟨v, rfl, hd, .int, hr, rfl⟩)
theorem r_zret {g : ac_P} {pc : Nat} {L : List (Nat × Value)} {h : ac_H} {k z : Nat} {v : Int32} (hd : decode (ac_cc g) pc = .ok (.ireturn, 1)) (hr : ac_rt g = some .boolean) (hv : v = 0 ∨ v = 1) (hp : ac_ph g (.inl (some (.int v))) h) (h1 : k ≤ ac_mc g) (h2 : z ≤ ac_ms g) : ac_G g pc L [.int v] h k z := r_back (some (.int v)) rfl hp h1 h2 (Or.inl ⟨v, rfl, hd, .boolean, hr, by rcases hv with e | e <;> rw [e] <;> rfl⟩)
theorem r_aret {g : ac_P} {pc : Nat} {L : List (Nat × Value)} {h : ac_H} {k z : Nat} {a : Nat} {n : String} (hd : decode (ac_cc g) pc = .ok (.areturn, 1)) (hr : ac_rt g = some (.object n)) (hp : ac_ph g (.inl (some (.ref a))) h) (h1 : k ≤ ac_mc g) (h2 : z ≤ ac_ms g) : ac_G g pc L [.ref a] h k z := r_back (some (.ref a)) rfl hp h1 h2 (Or.inr (Or.inl ⟨a, n, rfl, hd, hr⟩))
theorem r_aretA {g : ac_P} {pc : Nat} {L : List (Nat × Value)} {h : ac_H} {k z : Nat} {a : Nat} {t : FieldType} (hd : decode (ac_cc g) pc = .ok (.areturn, 1)) (hr : ac_rt g = some (.array t)) (hp : ac_ph g (.inl (some (.ref a))) h) (h1 : k ≤ ac_mc g) (h2 : z ≤ ac_ms g) : ac_G g pc L [.ref a] h k z := r_back (some (.ref a)) rfl hp h1 h2 (Or.inr (Or.inr (Or.inl ⟨a, t, rfl, hd, hr⟩)))
theorem r_vret {g : ac_P} {pc : Nat} {L : List (Nat × Value)} {h : ac_H} {k z : Nat} (hd : decode (ac_cc g) pc = .ok (.return_, 1)) (hr : ac_rt g = none) (hp : ac_ph g (.inl none) h) (h1 : k ≤ ac_mc g) (h2 : z ≤ ac_ms g) : ac_G g pc L [] h k z := r_back none rfl hp h1 h2 (Or.inr (Or.inr (Or.inr ⟨rfl, hd, hr⟩)))
theorem r_throw {g : ac_P} {pc : Nat} {L : List (Nat × Value)} {S : List Value} {h : ac_H} {k z : Nat} (E : String) (ht : ac_thr g pc E) (hh : ac_hh g = []) (hp : ac_ph g (.inr E) h) (h1 : k + 1 ≤ ac_mc g) (h2 : z + 6 ≤ ac_ms g) (hs : (S.map fun v => v.category).sum ≤ 8) : ac_G g pc L S h k z := by
  intro p e R s m args below meth c D dA A σ0 Qf C σ H locs ls hW hL hS hl
  obtain ⟨⟨hx, hb, hml, hown, hnm, hts, htb⟩, ⟨hK, hX, hA, hR⟩, hend, hsc⟩ := id C
  exact hend.2.2 σ h H locs k z E pc ls (S.map (ac_v σ)) hW hp h1 h2 hl.1 (by rw [ac_cats]; exact hs) hh ht
/-- a field: own text's number idx names field j of the objects of kind ci -/
def ac_F (own : String) (idx ci j : Nat) (ty : FieldType) (fin : Bool) : Prop := ∃ (C : String) (T : u_T) (N : Nat) (ty0 : Nat → FieldType), ac_cl[ci]? = some (C, T, N) ∧ (∀ w ∈ u_ws C T N, w ∈ ac_U) ∧ j < N ∧ Cond.fieldLink own idx (T j).1 (T j).2.1 (T j).2.2.1 ∈ ac_U ∧ (T j).2.2.2 = fin ∧ parseFieldDescriptor (T j).2.2.1 = some ty ∧ (∀ i, i < N → parseFieldDescriptor (T i).2.2.1 = some (ty0 i)) ∧ (∀ a, a < N → ∀ b, b < N → a ≠ b → (T a).2.1 ≠ (T b).2.1)
theorem ac_w_obj {σ : ac_A} {dA : Nat → ClassId} {h : ac_H} {i ci : Nat} {fs : List Value} (he : h[i]? = some (.inr (ci, fs))) : (ac_w σ dA h)[i]? = some (σ.2 i, .inr (ci, fs.map (ac_v σ))) := ac_w_at he
theorem ac_w_ints {σ : ac_A} {dA : Nat → ClassId} {h : ac_H} {i n : Nat} {f : Nat → Int32} (he : h[i]? = some (.inl (.inl (n, f)))) : (ac_w σ dA h)[i]? = some (σ.2 i, .inl (dA 0, n, .inl f)) := ac_w_at he
theorem ac_w_longs {σ : ac_A} {dA : Nat → ClassId} {h : ac_H} {i n : Nat} {f : Nat → Int64} (he : h[i]? = some (.inl (.inr (.inl (n, f))))) : (ac_w σ dA h)[i]? = some (σ.2 i, .inl (dA 1, n, .inr (.inl f))) := ac_w_at he
theorem ac_w_refs {σ : ac_A} {dA : Nat → ClassId} {h : ac_H} {i n kd : Nat} {f : Nat → Option Nat} (he : h[i]? = some (.inl (.inr (.inr (kd, n, f))))) : (ac_w σ dA h)[i]? = some (σ.2 i, .inl (dA (kd + 2), n, .inr (.inr (.inr (.inr (fun j => (f j).map σ.2)))))) := ac_w_at he
/-- the same world, but for one cell -/
theorem ac_Wd.put {D : va_G} {dA : Nat → ClassId} {A : Nat → Prop} {s : State} {n0 : Nat} {σ0 σ : ac_A} {h : ac_H} {H H1 : Heap} {locs locs1 : List Loc} (hW : ac_Wd D dA A s n0 σ0 σ h H locs) {a : Nat} {e : ac_E} {e' : va_E} (he : ac_c σ dA e = e') (ho : ac_okE h.length e) (hP : va_P D ac_cl ((ac_w σ dA h).set a (σ.2 a, e')) H1) (hD : va_D A ((ac_w σ dA h).set a (σ.2 a, e'))) (hS : va_S A s.heap H1 locs1) : ac_Wd D dA A s n0 σ0 σ (h.set a e) H1 locs1 := by
  obtain ⟨w1, w2, w3, -, -, -⟩ := hW
  subst he
  exact ⟨ac_okH_set w1 ho, by rw [List.length_set]; exact w2, w3, by rw [ac_w_set]; exact hP, by rw [ac_w_set]; exact hD, hS⟩
theorem r_getfield {g : ac_P} {pc : Nat} {L : List (Nat × Value)} {S : List Value} {h : ac_H} {k z : Nat} {a idx ci j : Nat} {ty : FieldType} {fin : Bool} {fs : List Value} {v : Value} (hd : decode (ac_cc g) pc = .ok (.getfield idx, 3)) (hf : ac_F (ac_y g).cls idx ci j ty fin) (hh : h[a]? = some (.inr (ci, fs))) (hv : fs[j]? = some v) (kk : ac_G g (pc + 3) L (v :: S) h k z) : ac_G g pc L (.ref a :: S) h k z := by
  intro p e R s m args below meth c D dA A σ0 Qf C σ H locs ls hW hL hS hl
  obtain ⟨⟨hx, hb, hml, hown, hnm, hts, htb⟩, ⟨hK, hX, hA, hR⟩, hend, hsc⟩ := id C
  obtain ⟨w1, w2, w3, hP, hD, hSS⟩ := id hW
  obtain ⟨C9, T, N, ty0, f1, f2, f3, f4, f5, f6, f7, f8⟩ := hf
  exact va_get (D := D) (C := C9) (T := T) (N := N) hx hb hts f2 hown hK hP a (ac_w_obj hh) f1 j f3 (hts _ f4) (fun _ q => q) (by rw [List.getElem?_map, hv]; rfl) hd (kk p e R s m args below meth c D dA A σ0 Qf C σ H locs ls hW hL (ac_okc (w1 a _ hh v (List.mem_of_getElem? hv)) (ac_oku hS).2) hl)
theorem r_putfield {g : ac_P} {pc : Nat} {L : List (Nat × Value)} {S : List Value} {h : ac_H} {k z : Nat} {a idx ci j : Nat} {ty : FieldType} {fs : List Value} {v : Value} (hd : decode (ac_cc g) pc = .ok (.putfield idx, 3)) (hf : ac_F (ac_y g).cls idx ci j ty false) (hh : h[a]? = some (.inr (ci, fs))) (hj : j < fs.length) (hn : ∀ σ, narrow ty (ac_v σ v) = ac_v σ v) (hfit : ∀ σ, fits ty (ac_v σ v) = true) (kk : ac_G g (pc + 3) L S (h.set a (.inr (ci, fs.set j v))) k z) : ac_G g pc L (v :: .ref a :: S) h k z := by
  intro p e R s m args below meth c D dA A σ0 Qf C σ H locs ls hW hL hS hl
  obtain ⟨⟨hx, hb, hml, hown, hnm, hts, htb⟩, ⟨hK, hX, hA, hR⟩, hend, hsc⟩ := id C
  obtain ⟨w1, w2, w3, hP, hD, hSS⟩ := id hW
  obtain ⟨C9, T, N, ty0, f1, f2, f3, f4, f5, f6, f7, f8⟩ := hf
  have ho : ac_okE h.length (.inr (ci, fs.set j v)) := fun x hx9 => by
    rcases List.mem_or_eq_of_mem_set hx9 with q | q
    · exact w1 a _ hh x q
    · rw [q]; exact (ac_oku hS).1
  exact va_put (D := D) (C := C9) (T := T) (N := N) hx hb hts f2 ty0 f7 f8 hown hK hP hD hSS a (ac_w_obj hh) f1 j f3 (hts _ f4) (fun _ q => q) f5 f6 (hn σ) (hfit σ) (by rw [List.length_map]; exact hj) hd (fun H1 locs1 hP1 hD1 hS1 => kk p e R s m args below meth c D dA A σ0 Qf C σ H1 locs1 ls (hW.put (e := .inr (ci, fs.set j v)) (by simp only [ac_c, List.map_set]) ho hP1 hD1 hS1) (by rw [List.length_set]; exact hL) (by rw [List.length_set]; exact (ac_oku (ac_oku hS).2).2) hl)
theorem r_putfieldF {g : ac_P} {pc : Nat} {L : List (Nat × Value)} {S : List Value} {h : ac_H} {k z : Nat} {a idx ci j : Nat} {ty : FieldType} {fs : List Value} {v : Value} (hd : decode (ac_cc g) pc = .ok (.putfield idx, 3)) (hf : ac_F (ac_y g).cls idx ci j ty true) (hh : h[a]? = some (.inr (ci, fs))) (hj : j < fs.length) (hn : ∀ σ, narrow ty (ac_v σ v) = ac_v σ v) (hfit : ∀ σ, fits ty (ac_v σ v) = true) (hin9 : (ac_y g).name = "<init>") (hdc : ∀ (C : String) (T : u_T) (N : Nat), ac_cl[ci]? = some (C, T, N) → (T j).1 = (ac_y g).cls) (kk : ac_G g (pc + 3) L S (h.set a (.inr (ci, fs.set j v))) k z) : ac_G g pc L (v :: .ref a :: S) h k z := by
  intro p e R s m args below meth c D dA A σ0 Qf C σ H locs ls hW hL hS hl
  obtain ⟨⟨hx, hb, hml, hown, hnm, hts, htb⟩, ⟨hK, hX, hA, hR⟩, hend, hsc⟩ := id C
  obtain ⟨w1, w2, w3, hP, hD, hSS⟩ := id hW
  obtain ⟨C9, T, N, ty0, f1, f2, f3, f4, f5, f6, f7, f8⟩ := hf
  have ho : ac_okE h.length (.inr (ci, fs.set j v)) := fun x hx9 => by
    rcases List.mem_or_eq_of_mem_set hx9 with q | q
    · exact w1 a _ hh x q
    · rw [q]; exact (ac_oku hS).1
  exact va_putF (D := D) (C := C9) (T := T) (N := N) hx hb hts f2 ty0 f7 f8 hown hK hP hD hSS a (ac_w_obj hh) f1 j f3 (hts _ f4) (fun _ q => q) f5 (hnm.trans hin9) (hdc _ _ _ f1) f6 (hn σ) (hfit σ) (by rw [List.length_map]; exact hj) hd (fun H1 locs1 hP1 hD1 hS1 => kk p e R s m args below meth c D dA A σ0 Qf C σ H1 locs1 ls (hW.put (e := .inr (ci, fs.set j v)) (by simp only [ac_c, List.map_set]) ho hP1 hD1 hS1) (by rw [List.length_set]; exact hL) (by rw [List.length_set]; exact (ac_oku (ac_oku hS).2).2) hl)
theorem r_iaload {g : ac_P} {pc : Nat} {L : List (Nat × Value)} {S : List Value} {h : ac_H} {k z : Nat} {a n : Nat} {f : Nat → Int32} {i : Int32} (hd : decode (ac_cc g) pc = .ok (.iaload, 1)) (hh : h[a]? = some (.inl (.inl (n, f)))) (hin : vp_in i n) (kk : ac_G g (pc + 1) L (.int (f i.toNatClampNeg) :: S) h k z) : ac_G g pc L (.int i :: .ref a :: S) h k z := by
  intro p e R s m args below meth c D dA A σ0 Qf C σ H locs ls hW hL hS hl
  obtain ⟨⟨hx, hb, hml, hown, hnm, hts, htb⟩, ⟨hK, hX, hA, hR⟩, hend, hsc⟩ := id C
  obtain ⟨w1, w2, w3, hP, hD, hSS⟩ := id hW
  exact va_iald hx hb hK hP a 0 (ac_w_ints hh) rfl hin hd (kk p e R s m args below meth c D dA A σ0 Qf C σ H locs ls hW hL (ac_okc ac_ok_int (ac_oku (ac_oku hS).2).2) hl)
theorem r_laload {g : ac_P} {pc : Nat} {L : List (Nat × Value)} {S : List Value} {h : ac_H} {k z : Nat} {a n : Nat} {f : Nat → Int64} {i : Int32} (hd : decode (ac_cc g) pc = .ok (.laload, 1)) (hh : h[a]? = some (.inl (.inr (.inl (n, f))))) (hin : vp_in i n) (kk : ac_G g (pc + 1) L (.long (f i.toNatClampNeg) :: S) h k z) : ac_G g pc L (.int i :: .ref a :: S) h k z := by
  intro p e R s m args below meth c D dA A σ0 Qf C σ H locs ls hW hL hS hl
  obtain ⟨⟨hx, hb, hml, hown, hnm, hts, htb⟩, ⟨hK, hX, hA, hR⟩, hend, hsc⟩ := id C
  obtain ⟨w1, w2, w3, hP, hD, hSS⟩ := id hW
  exact va_lald hx hb hK hP a 1 (ac_w_longs hh) rfl hin hd (kk p e R s m args below meth c D dA A σ0 Qf C σ H locs ls hW hL (ac_okc ac_ok_long (ac_oku (ac_oku hS).2).2) hl)
theorem r_iastore {g : ac_P} {pc : Nat} {L : List (Nat × Value)} {S : List Value} {h : ac_H} {k z : Nat} {a n : Nat} {f : Nat → Int32} {i x : Int32} (hd : decode (ac_cc g) pc = .ok (.iastore, 1)) (hh : h[a]? = some (.inl (.inl (n, f)))) (hin : vp_in i n) (kk : ac_G g (pc + 1) L S (h.set a (.inl (.inl (n, upd f i.toNatClampNeg x)))) k z) : ac_G g pc L (.int x :: .int i :: .ref a :: S) h k z := by
  intro p e R s m args below meth c D dA A σ0 Qf C σ H locs ls hW hL hS hl
  obtain ⟨⟨hx, hb, hml, hown, hnm, hts, htb⟩, ⟨hK, hX, hA, hR⟩, hend, hsc⟩ := id C
  obtain ⟨w1, w2, w3, hP, hD, hSS⟩ := id hW
  exact va_iast hx hb hK hP hD hSS a 0 (ac_w_ints hh) rfl hin hd (fun H1 locs1 hP1 hD1 hS1 => kk p e R s m args below meth c D dA A σ0 Qf C σ H1 locs1 ls (hW.put (e := .inl (.inl (n, upd f i.toNatClampNeg x))) rfl trivial hP1 hD1 hS1) (by rw [List.length_set]; exact hL) (by rw [List.length_set]; exact (ac_oku (ac_oku (ac_oku hS).2).2).2) hl)
theorem r_lastore {g : ac_P} {pc : Nat} {L : List (Nat × Value)} {S : List Value} {h : ac_H} {k z : Nat} {a n : Nat} {f : Nat → Int64} {i : Int32} {x : Int64} (hd : decode (ac_cc g) pc = .ok (.lastore, 1)) (hh : h[a]? = some (.inl (.inr (.inl (n, f))))) (hin : vp_in i n) (kk : ac_G g (pc + 1) L S (h.set a (.inl (.inr (.inl (n, vp_updL f i.toNatClampNeg x))))) k z) : ac_G g pc L (.long x :: .int i :: .ref a :: S) h k z := by
  intro p e R s m args below meth c D dA A σ0 Qf C σ H locs ls hW hL hS hl
  obtain ⟨⟨hx, hb, hml, hown, hnm, hts, htb⟩, ⟨hK, hX, hA, hR⟩, hend, hsc⟩ := id C
  obtain ⟨w1, w2, w3, hP, hD, hSS⟩ := id hW
  exact va_last hx hb hK hP hD hSS a 1 (ac_w_longs hh) rfl hin hd (fun H1 locs1 hP1 hD1 hS1 => kk p e R s m args below meth c D dA A σ0 Qf C σ H1 locs1 ls (hW.put (e := .inl (.inr (.inl (n, vp_updL f i.toNatClampNeg x)))) rfl trivial hP1 hD1 hS1) (by rw [List.length_set]; exact hL) (by rw [List.length_set]; exact (ac_oku (ac_oku (ac_oku hS).2).2).2) hl)
theorem r_aaload {g : ac_P} {pc : Nat} {L : List (Nat × Value)} {S : List Value} {h : ac_H} {k z : Nat} {a n kd b : Nat} {C9 : String} {f : Nat → Option Nat} {i : Int32} (hd : decode (ac_cc g) pc = .ok (.aaload, 1)) (hh : h[a]? = some (.inl (.inr (.inr (kd, n, f))))) (hk9 : ac_kn[kd]? = some C9) (hin : vp_in i n) (hf : f i.toNatClampNeg = some b) (kk : ac_G g (pc + 1) L (.ref b :: S) h k z) : ac_G g pc L (.int i :: .ref a :: S) h k z := by
  intro p e R s m args below meth c D dA A σ0 Qf C σ H locs ls hW hL hS hl
  obtain ⟨⟨hx, hb, hml, hown, hnm, hts, htb⟩, ⟨hK, hX, hA, hR⟩, hend, hsc⟩ := id C
  obtain ⟨w1, w2, w3, hP, hD, hSS⟩ := id hW
  refine va_aldq hx hb hK hP a (kd + 2) (ac_w_refs hh) (ac_tys_k hk9) hin hd ?_
  have e9 : va_rf ((fun j => (f j).map σ.2) i.toNatClampNeg) = .ref (σ.2 b) := by
    show va_rf ((f i.toNatClampNeg).map σ.2) = _
    rw [hf]; rfl
  rw [e9]
  exact kk p e R s m args below meth c D dA A σ0 Qf C σ H locs ls hW hL (ac_okc (ac_ok_ref (w1 a _ hh _ _ hf)) (ac_oku (ac_oku hS).2).2) hl
theorem r_aastore {g : ac_P} {pc : Nat} {L : List (Nat × Value)} {S : List Value} {h : ac_H} {k z : Nat} {a n kd b ci : Nat} {r9 : vw_C} {f : Nat → Option Nat} {i : Int32} {fs : List Value} (hd : decode (ac_cc g) pc = .ok (.aastore, 1)) (hh : h[a]? = some (.inl (.inr (.inr (kd, n, f))))) (hb9 : h[b]? = some (.inr (ci, fs))) (hc9 : ac_cl[ci]? = some r9) (hk9 : ac_kn[kd]? = some r9.1) (hin : vp_in i n) (kk : ac_G g (pc + 1) L S (h.set a (.inl (.inr (.inr (kd, n, va_up f i.toNatClampNeg (some b)))))) k z) : ac_G g pc L (.ref b :: .int i :: .ref a :: S) h k z := by
  intro p e R s m args below meth c D dA A σ0 Qf C σ H locs ls hW hL hS hl
  obtain ⟨⟨hx, hb, hml, hown, hnm, hts, htb⟩, ⟨hK, hX, hA, hR⟩, hend, hsc⟩ := id C
  obtain ⟨w1, w2, w3, hP, hD, hSS⟩ := id hW
  have e9 : va_up (fun j => (f j).map σ.2) i.toNatClampNeg (some (σ.2 b)) = fun j => (va_up f i.toNatClampNeg (some b) j).map σ.2 := by
    funext j
    unfold va_up
    by_cases q : j = i.toNatClampNeg
    · rw [if_pos q, if_pos q]; rfl
    · rw [if_neg q, if_neg q]
  have ho : ac_okE h.length (.inl (.inr (.inr (kd, n, va_up f i.toNatClampNeg (some b))))) := fun j x hj => by
    unfold va_up at hj
    by_cases q : j = i.toNatClampNeg
    · rw [if_pos q] at hj
      cases hj
      exact ac_lt hb9
    · rw [if_neg q] at hj
      exact w1 a _ hh j x hj
  exact va_astq hx hb hK hP hD hSS a (kd + 2) b ci (ac_w_refs hh) (ac_tys_k hk9) (ac_w_obj hb9) hc9 hin hd (fun H1 locs1 hP1 hD1 hS1 => kk p e R s m args below meth c D dA A σ0 Qf C σ H1 locs1 ls (hW.put (e := .inl (.inr (.inr (kd, n, va_up f i.toNatClampNeg (some b))))) (by rw [e9]; rfl) ho hP1 hD1 hS1) (by rw [List.length_set]; exact hL) (by rw [List.length_set]; exact (ac_oku (ac_oku (ac_oku hS).2).2).2) hl)
theorem r_alenI {g : ac_P} {pc : Nat} {L : List (Nat × Value)} {S : List Value} {h : ac_H} {k z : Nat} {a n : Nat} {f : Nat → Int32} (hd : decode (ac_cc g) pc = .ok (.arraylength, 1)) (hh : h[a]? = some (.inl (.inl (n, f)))) (kk : ac_G g (pc + 1) L (.int (nI n) :: S) h k z) : ac_G g pc L (.ref a :: S) h k z := by
  intro p e R s m args below meth c D dA A σ0 Qf C σ H locs ls hW hL hS hl
  obtain ⟨⟨hx, hb, hml, hown, hnm, hts, htb⟩, ⟨hK, hX, hA, hR⟩, hend, hsc⟩ := id C
  obtain ⟨w1, w2, w3, hP, hD, hSS⟩ := id hW
  exact va_alen hx hb hK hP a 0 (ac_w_ints hh) (ty := .int) rfl (v := nI n) rfl hd (kk p e R s m args below meth c D dA A σ0 Qf C σ H locs ls hW hL (ac_okc ac_ok_int (ac_oku hS).2) hl)
theorem r_alenR {g : ac_P} {pc : Nat} {L : List (Nat × Value)} {S : List Value} {h : ac_H} {k z : Nat} {a n kd : Nat} {C9 : String} {f : Nat → Option Nat} (hd : decode (ac_cc g) pc = .ok (.arraylength, 1)) (hh : h[a]? = some (.inl (.inr (.inr (kd, n, f))))) (hk9 : ac_kn[kd]? = some C9) (kk : ac_G g (pc + 1) L (.int (nI n) :: S) h k z) : ac_G g pc L (.ref a :: S) h k z := by
  intro p e R s m args below meth c D dA A σ0 Qf C σ H locs ls hW hL hS hl
  obtain ⟨⟨hx, hb, hml, hown, hnm, hts, htb⟩, ⟨hK, hX, hA, hR⟩, hend, hsc⟩ := id C
  obtain ⟨w1, w2, w3, hP, hD, hSS⟩ := id hW
  exact va_alen hx hb hK hP a (kd + 2) (ac_w_refs hh) (ac_tys_k hk9) (v := nI n) rfl hd (kk p e R s m args below meth c D dA A σ0 Qf C σ H locs ls hW hL (ac_okc ac_ok_int (ac_oku hS).2) hl)
theorem r_sload {g : ac_P} {pc : Nat} {L : List (Nat × Value)} {S : List Value} {h : ac_H} {k z : Nat} {n q9 : Nat} {xs : Nat → Int32} {i : Int32} (hd : decode (ac_cc g) pc = .ok (.iaload, 1)) (hs9 : ac_sc g = some (n, xs)) (hin : vp_in i n) (kk : ac_G g (pc + 1) L (.int (xs i.toNatClampNeg) :: S) h k z) : ac_G g pc L (.int i :: .retAddr q9 :: S) h k z := by
  intro p e R s m args below meth c D dA A σ0 Qf C σ H locs ls hW hL hS hl
  obtain ⟨⟨hx, hb, hml, hown, hnm, hts, htb⟩, ⟨hK, hX, hA, hR⟩, hend, hsc⟩ := id C
  obtain ⟨w1, w2, w3, hP, hD, hSS⟩ := id hW
  obtain ⟨x1, x2, x3⟩ := hsc n xs hs9
  have e1 : σ.1 = σ0.1 := w3.1
  rw [← e1] at x1 x2 x3
  exact va_sld hx hb x1 x2 x3 hSS hin hd (kk p e R s m args below meth c D dA A σ0 Qf C σ H locs ls hW hL (ac_okc ac_ok_int (ac_oku (ac_oku hS).2).2) hl)
theorem r_slen {g : ac_P} {pc : Nat} {L : List (Nat × Value)} {S : List Value} {h : ac_H} {k z : Nat} {n q9 : Nat} {xs : Nat → Int32} (hd : decode (ac_cc g) pc = .ok (.arraylength, 1)) (hs9 : ac_sc g = some (n, xs)) (kk : ac_G g (pc + 1) L (.int (nI n) :: S) h k z) : ac_G g pc L (.retAddr q9 :: S) h k z := by
  intro p e R s m args below meth c D dA A σ0 Qf C σ H locs ls hW hL hS hl
  obtain ⟨⟨hx, hb, hml, hown, hnm, hts, htb⟩, ⟨hK, hX, hA, hR⟩, hend, hsc⟩ := id C
  obtain ⟨w1, w2, w3, hP, hD, hSS⟩ := id hW
  obtain ⟨x1, x2, x3⟩ := hsc n xs hs9
  have e1 : σ.1 = σ0.1 := w3.1
  rw [← e1] at x1 x2 x3
  exact va_slen hx hb x1 x2 x3 hSS hd (kk p e R s m args below meth c D dA A σ0 Qf C σ H locs ls hW hL (ac_okc ac_ok_int (ac_oku hS).2) hl)
/-- a cell more: the address map grows -/
theorem ac_Wd.more {D : va_G} {dA : Nat → ClassId} {A : Nat → Prop} {s : State} {n0 : Nat} {σ0 σ : ac_A} {h : ac_H} {H H1 : Heap} {locs locs1 : List Loc} (hW : ac_Wd D dA A s n0 σ0 σ h H locs) (q : Nat) {e : ac_E} {e' : va_E} (he : ∀ τ, ac_c τ dA e = e') (ho : ac_okE (h.length + 1) e) (hP : va_P D ac_cl (ac_w σ dA h ++ [(q, e')]) H1) (hD : va_D A (ac_w σ dA h ++ [(q, e')])) (hS : va_S A s.heap H1 locs1) :
    ac_ag h.length (σ.1, va_up σ.2 h.length q) σ ∧ ac_Wd D dA A s n0 σ0 (σ.1, va_up σ.2 h.length q) (h ++ [e]) H1 locs1 := by
  obtain ⟨w1, w2, w3, -, -, -⟩ := hW
  have ha : ac_ag h.length (σ.1, va_up σ.2 h.length q) σ := ⟨rfl, fun i hi => va_up_ne _ _ (Nat.ne_of_lt hi)⟩
  have e9 : ac_w (σ.1, va_up σ.2 h.length q) dA (h ++ [e]) = ac_w σ dA h ++ [(q, e')] := by
    rw [ac_w_push, ac_w_ag dA ha w1, he]
    show ac_w σ dA h ++ [(va_up σ.2 h.length q h.length, e')] = _
    rw [va_up_self]
  exact ⟨ha, ac_okH_push w1 ho, by rw [List.length_append]; exact Nat.le_trans w2 (Nat.le_add_right _ _), ac_ag_tr ha w3 w2, by rw [e9]; exact hP, by rw [e9]; exact hD, hS⟩
theorem ac_okL_mono {n m : Nat} {L : List (Nat × Value)} (h : ∀ q ∈ L, ac_ok n q.2) (hm : n ≤ m) : ∀ q ∈ L, ac_ok m q.2 := fun q hq => ac_ok_mono (h q hq) hm
theorem ac_okS_mono {n m : Nat} {S : List Value} (h : ∀ v ∈ S, ac_ok n v) (hm : n ≤ m) : ∀ v ∈ S, ac_ok m v := fun v hv => ac_ok_mono (h v hv) hm
theorem r_newarrayI {g : ac_P} {pc : Nat} {L : List (Nat × Value)} {S : List Value} {h : ac_H} {k z : Nat} {n : Nat} (hd : decode (ac_cc g) pc = .ok (.newarray .int, 2)) (hw9 : Cond.arrayClass .int ∈ ac_U) (hn : n < 1000000) (h1 : k + 1 ≤ ac_mc g) (h2 : z + n ≤ ac_ms g) (kk : ac_G g (pc + 2) L (.ref h.length :: S) (h ++ [.inl (.inl (n, fun _ => 0))]) (k + 1) (z + n)) : ac_G g pc L (.int (nI n) :: S) h k z := by
  intro p e R s m args below meth c D dA A σ0 Qf C σ H locs ls hW hL hS hl
  obtain ⟨⟨hx, hb, hml, hown, hnm, hts, htb⟩, ⟨hK, hX, hA, hR⟩, hend, hsc⟩ := id C
  obtain ⟨w1, w2, w3, hP, hD, hSS⟩ := id hW
  refine va_newa (atype := .int) (ty := .int) (a0 := (n, .inl (fun _ => 0))) hx hb (hts _ hw9) rfl hK hP hD hSS hA (fun _ => rfl) (nI_pos (by omega)) (nI_clamp (by omega)) (by show n * _ ≤ _; simp only [componentBytes]; omega) (by omega) (by omega) hd (fun q9 cA H1 hK1 hP1 hD1 hS1 => ?_)
  have hc9 : cA = dA 0 := by
    have a1 := (hK1.2 (ac_tys dA).length (cA, .int) (by simp)).2
    have a2 := (hK.2 0 (dA 0, .int) rfl).2
    exact Option.some.inj (Eq.trans (Eq.symm a1) a2)
  subst hc9
  obtain ⟨ha, hW2⟩ := hW.more q9 (e := .inl (.inl (n, fun _ => 0))) (fun _ => rfl) trivial hP1 hD1 hS1
  have hlen : h.length ≤ (h ++ [(.inl (.inl (n, fun _ => 0)) : ac_E)]).length := by rw [List.length_append]; exact Nat.le_add_right _ _
  have hself : ac_v (σ.1, va_up σ.2 h.length q9) (.ref h.length) = .ref q9 := by
    show Value.ref (va_up σ.2 h.length q9 h.length) = _
    rw [va_up_self]
  have k9 := kk p e R s m args below meth c D dA A σ0 Qf C (σ.1, va_up σ.2 h.length q9) H1 locs ls hW2 (ac_okL_mono hL hlen) (ac_okc (ac_ok_ref (by rw [List.length_append]; exact Nat.lt_succ_self _)) (ac_okS_mono (ac_oku hS).2 hlen)) (by rw [ac_L_ag ha hL]; exact hl)
  rw [List.map_cons, hself, ac_S_ag ha (ac_oku hS).2] at k9
  exact k9
theorem r_newarrayL {g : ac_P} {pc : Nat} {L : List (Nat × Value)} {S : List Value} {h : ac_H} {k z : Nat} {n : Nat} (hd : decode (ac_cc g) pc = .ok (.newarray .long, 2)) (hw9 : Cond.arrayClass .long ∈ ac_U) (hn : n < 1000000) (h1 : k + 1 ≤ ac_mc g) (h2 : z + n ≤ ac_ms g) (kk : ac_G g (pc + 2) L (.ref h.length :: S) (h ++ [.inl (.inr (.inl (n, fun _ => 0)))]) (k + 1) (z + n)) : ac_G g pc L (.int (nI n) :: S) h k z := by
  intro p e R s m args below meth c D dA A σ0 Qf C σ H locs ls hW hL hS hl
  obtain ⟨⟨hx, hb, hml, hown, hnm, hts, htb⟩, ⟨hK, hX, hA, hR⟩, hend, hsc⟩ := id C
  obtain ⟨w1, w2, w3, hP, hD, hSS⟩ := id hW
  refine va_newa (atype := .long) (ty := .long) (a0 := (n, .inr (.inl (fun _ => 0)))) hx hb (hts _ hw9) rfl hK hP hD hSS hA (fun _ => rfl) (nI_pos (by omega)) (nI_clamp (by omega)) (by show n * _ ≤ _; simp only [componentBytes]; omega) (by omega) (by omega) hd (fun q9 cA H1 hK1 hP1 hD1 hS1 => ?_)
  have hc9 : cA = dA 1 := by
    have a1 := (hK1.2 (ac_tys dA).length (cA, .long) (by simp)).2
    have a2 := (hK.2 1 (dA 1, .long) rfl).2
    exact Option.some.inj (Eq.trans (Eq.symm a1) a2)
  subst hc9
  obtain ⟨ha, hW2⟩ := hW.more q9 (e := .inl (.inr (.inl (n, fun _ => 0)))) (fun _ => rfl) trivial hP1 hD1 hS1
  have hlen : h.length ≤ (h ++ [(.inl (.inr (.inl (n, fun _ => 0))) : ac_E)]).length := by rw [List.length_append]; exact Nat.le_add_right _ _
  have hself : ac_v (σ.1, va_up σ.2 h.length q9) (.ref h.length) = .ref q9 := by
    show Value.ref (va_up σ.2 h.length q9 h.length) = _
    rw [va_up_self]
  have k9 := kk p e R s m args below meth c D dA A σ0 Qf C (σ.1, va_up σ.2 h.length q9) H1 locs ls hW2 (ac_okL_mono hL hlen) (ac_okc (ac_ok_ref (by rw [List.length_append]; exact Nat.lt_succ_self _)) (ac_okS_mono (ac_oku hS).2 hlen)) (by rw [ac_L_ag ha hL]; exact hl)
  rw [List.map_cons, hself, ac_S_ag ha (ac_oku hS).2] at k9
  exact k9
theorem r_anewarray {g : ac_P} {pc : Nat} {L : List (Nat × Value)} {S : List Value} {h : ac_H} {k z : Nat} {n kd idx : Nat} {C9 : String} (hd : decode (ac_cc g) pc = .ok (.anewarray idx, 3)) (hk9 : ac_kn[kd]? = some C9) (hw9 : Cond.classLink (ac_y g).cls idx C9 ∈ ac_U) (hn : n < 1000000) (h1 : k + 1 ≤ ac_mc g) (h2 : z + n ≤ ac_ms g) (kk : ac_G g (pc + 3) L (.ref h.length :: S) (h ++ [.inl (.inr (.inr (kd, n, fun _ => none)))]) (k + 1) (z + n)) : ac_G g pc L (.int (nI n) :: S) h k z := by
  intro p e R s m args below meth c D dA A σ0 Qf C σ H locs ls hW hL hS hl
  obtain ⟨⟨hx, hb, hml, hown, hnm, hts, htb⟩, ⟨hK, hX, hA, hR⟩, hend, hsc⟩ := id C
  obtain ⟨w1, w2, w3, hP, hD, hSS⟩ := id hW
  refine va_newq hx hb hown (hts _ hw9) (hX.2.2.1 _ (List.mem_of_getElem? hk9)) hK hP hD hSS hA (N' := n) (nI_pos (by omega)) (nI_clamp (by omega)) (by omega) (by omega) (by omega) hd (fun q9 cA H1 hK1 hP1 hD1 hS1 => ?_)
  have hc9 : cA = dA (kd + 2) := by
    obtain ⟨kA, comp, b1, b2, b3, a1⟩ := (hK1.2 (ac_tys dA).length (cA, .object C9) (by simp)).2
    obtain ⟨kA', comp', b1', b2', b3', a2⟩ := (hK.2 (kd + 2) (dA (kd + 2), .object C9) (ac_tys_k hk9)).2
    exact Option.some.inj (Eq.trans (Eq.symm a1) a2)
  subst hc9
  obtain ⟨ha, hW2⟩ := hW.more q9 (e := .inl (.inr (.inr (kd, n, fun _ => none)))) (fun _ => rfl) (fun _ _ hj => nomatch hj) hP1 hD1 hS1
  have hlen : h.length ≤ (h ++ [(.inl (.inr (.inr (kd, n, fun _ => none))) : ac_E)]).length := by rw [List.length_append]; exact Nat.le_add_right _ _
  have hself : ac_v (σ.1, va_up σ.2 h.length q9) (.ref h.length) = .ref q9 := by
    show Value.ref (va_up σ.2 h.length q9 h.length) = _
    rw [va_up_self]
  have k9 := kk p e R s m args below meth c D dA A σ0 Qf C (σ.1, va_up σ.2 h.length q9) H1 locs ls hW2 (ac_okL_mono hL hlen) (ac_okc (ac_ok_ref (by rw [List.length_append]; exact Nat.lt_succ_self _)) (ac_okS_mono (ac_oku hS).2 hlen)) (by rw [ac_L_ag ha hL]; exact hl)
  rw [List.map_cons, hself, ac_S_ag ha (ac_oku hS).2] at k9
  exact k9
/-- objects of kind ci may be made at idx; fs: the fields of a new one -/
def ac_N (own : String) (idx ci N : Nat) (fs : List Value) : Prop := ∃ (C : String) (T : u_T) (ty0 : Nat → FieldType), ac_cl[ci]? = some (C, T, N) ∧ (∀ w ∈ u_ws C T N, w ∈ ac_U) ∧ (∀ i, i < N → parseFieldDescriptor (T i).2.2.1 = some (ty0 i)) ∧ Cond.classLink own idx C ∈ ac_U ∧ Cond.instantiable C N ∈ ac_U ∧ Cond.initialized C ∈ ac_U ∧ (∀ j, j < N → defaultValue (ty0 j) = vp_V fs j) ∧ (∀ (τ : ac_A), fs.map (ac_v τ) = fs) ∧ (∀ v ∈ fs, ∀ a, v ≠ .ref a)
theorem r_new {g : ac_P} {pc : Nat} {L : List (Nat × Value)} {S : List Value} {h : ac_H} {k z : Nat} {idx ci N : Nat} {fs : List Value} (hd : decode (ac_cc g) pc = .ok (.new idx, 3)) (hf : ac_N (ac_y g).cls idx ci N fs) (h1 : k + 1 ≤ ac_mc g) (h2 : z + N ≤ ac_ms g) (kk : ac_G g (pc + 3) L (.ref h.length :: S) (h ++ [.inr (ci, fs)]) (k + 1) (z + N)) : ac_G g pc L S h k z := by
  intro p e R s m args below meth c D dA A σ0 Qf C σ H locs ls hW hL hS hl
  obtain ⟨⟨hx, hb, hml, hown, hnm, hts, htb⟩, ⟨hK, hX, hA, hR⟩, hend, hsc⟩ := id C
  obtain ⟨w1, w2, w3, hP, hD, hSS⟩ := id hW
  obtain ⟨C9, T, ty0, f1, f2, f3, f4, f5, f6, f7, f8, f9⟩ := hf
  refine va_new (fs := fs) (C := C9) (T := T) (N := N) hx hb hts f2 ty0 f3 hown (hts _ f4) (hts _ f5) (hts _ f6) hK hP hD hSS hA f1 f7 (by omega) (by omega) hd (fun q9 H1 hP1 hD1 hS1 => ?_)
  obtain ⟨ha, hW2⟩ := hW.more q9 (e := .inr (ci, fs)) (fun _ => by simp only [ac_c, f8]) (fun v hv a9 ha9 => absurd ha9 (f9 v hv a9)) hP1 hD1 hS1
  have hlen : h.length ≤ (h ++ [(.inr (ci, fs) : ac_E)]).length := by rw [List.length_append]; exact Nat.le_add_right _ _
  have hself : ac_v (σ.1, va_up σ.2 h.length q9) (.ref h.length) = .ref q9 := by
    show Value.ref (va_up σ.2 h.length q9 h.length) = _
    rw [va_up_self]
  have k9 := kk p e R s m args below meth c D dA A σ0 Qf C (σ.1, va_up σ.2 h.length q9) H1 locs ls hW2 (ac_okL_mono hL hlen) (ac_okc (ac_ok_ref (by rw [List.length_append]; exact Nat.lt_succ_self _)) (ac_okS_mono hS hlen)) (by rw [ac_L_ag ha hL]; exact hl)
  rw [List.map_cons, hself, ac_S_ag ha hS] at k9
  exact k9
theorem r_objInit {g : ac_P} {pc : Nat} {L : List (Nat × Value)} {S : List Value} {h : ac_H} {k z : Nat} {a idx : Nat} (hd : decode (ac_cc g) pc = .ok (.invokespecial idx, 3)) (hw1 : Cond.methodLink (ac_y g).cls idx Lib.objectInit ∈ ac_U) (hw2 : Cond.instanceMethod Lib.objectInit ∈ ac_U) (hw3 : Cond.code Lib.objectInit ⟨#[0xb1]⟩ 1 none ∈ ac_U) (hd1 : 1 ≤ ac_d g) (hs : (S.map fun v => v.category).sum ≤ 8) (kk : ac_G g (pc + 3) L S h k z) : ac_G g pc L (.ref a :: S) h k z := by
  intro p e R s m args below meth c D dA A σ0 Qf C σ H locs ls hW hL hS hl
  obtain ⟨⟨hx, hb, hml, hown, hnm, hts, htb⟩, ⟨hK, hX, hA, hR⟩, hend, hsc⟩ := id C
  refine W.objInit hx hb hown (hts _ hw1) (hts _ hw2) (hts _ hw3) rfl (by rw [hml]; exact hl.1) (a := σ.2 a) (rest := S.map (ac_v σ)) rfl hd (by omega) (by rw [ac_cats]; show 2 * 0 + _ + 12 ≤ _; omega) ?_
  exact kk p e R s m args below meth c D dA A σ0 Qf C σ H locs ls hW hL (ac_oku hS).2 hl
theorem r_max {g : ac_P} {pc : Nat} {L : List (Nat × Value)} {S : List Value} {h : ac_H} {k z : Nat} {idx : Nat} {x y : Int32} (hd : decode (ac_cc g) pc = .ok (.invokestatic idx, 3)) (hw1 : Cond.methodLink (ac_y g).cls idx Lib.Math.max.name ∈ ac_U) (hw2 : Cond.static Lib.Math.max.name ∈ ac_U) (hw3 : Cond.initialized "java/lang/Math" ∈ ac_U) (hw4 : Cond.code Lib.Math.max.name Lib.Math.max.code 2 (some .int) ∈ ac_U) (hd1 : 1 ≤ ac_d g) (h1 : k ≤ ac_mc g) (h2 : z ≤ ac_ms g) (hs : (S.map fun v => v.category).sum ≤ 8) (kk : ac_G g (pc + 3) L (.int (if x < y then y else x) :: S) h k z) : ac_G g pc L (.int y :: .int x :: S) h k z := by
  intro p e R s m args below meth c D dA A σ0 Qf C σ H locs ls hW hL hS hl
  obtain ⟨⟨hx, hb, hml, hown, hnm, hts, htb⟩, ⟨hK, hX, hA, hR⟩, hend, hsc⟩ := id C
  exact va_mmax hx hb (by rw [hml]; exact hl.1.symm) hown (hts _ hw1) (hts _ hw2) (hts _ hw3) (hts _ hw4) (by omega) (by rw [ac_cats]; omega) (by omega) (by omega) hd (kk p e R s m args below meth c D dA A σ0 Qf C σ H locs ls hW hL (ac_okc ac_ok_int (ac_oku (ac_oku hS).2).2) hl)
/-- A CONTRACT: method mi, called with the arguments a in any heap that holds h, within depth d, ends as Φ says; at most MC cells of MS slots are new -/
def ac_Pc (D : va_G) (dA : Nat → ClassId) (σ0 : ac_A) (a : List Value) (h : ac_H) (sz : Nat) : Array Value → State → Prop := va_Pc (a.map (ac_v σ0)) (fun U => U.heap.size = sz ∧ ac_okH h ∧ (∀ v ∈ a, ac_ok h.length v) ∧ va_P D ac_cl (ac_w σ0 dA h) U.heap ∧ va_K D ac_cl (ac_tys dA) U ∧ va_D (fun _ => True) (ac_w σ0 dA h) ∧ ac_X (va_A (ac_w σ0 dA h) sz) U U.heap)
def ac_Af (D : va_G) (dA : Nat → ClassId) (σ0 : ac_A) (h : ac_H) (sz : Nat) (h' : ac_H) (σ' : ac_A) (st t : State) : Prop := ac_okH h' ∧ h.length ≤ h'.length ∧ ac_ag h.length σ' σ0 ∧ va_P D ac_cl (ac_w σ' dA h') t.heap ∧ va_D (va_A (ac_w σ0 dA h) sz) (ac_w σ' dA h') ∧ va_F (va_A (ac_w σ0 dA h) sz) st t
def ac_Qr (D : va_G) (dA : Nat → ClassId) (σ0 : ac_A) (h : ac_H) (sz : Nat) (Φ : ac_R → ac_H → Prop) : State → Option Value → State → Prop := fun st v t => ∃ (r : Option Value) (h' : ac_H) (σ' : ac_A), v = r.map (ac_v σ') ∧ Φ (.inl r) h' ∧ (∀ v ∈ r.toList, ac_ok h'.length v) ∧ ac_Af D dA σ0 h sz h' σ' st t
def ac_Qx (D : va_G) (dA : Nat → ClassId) (σ0 : ac_A) (h : ac_H) (sz : Nat) (Φ : ac_R → ac_H → Prop) : State → String → State → Prop := fun st E t => ∃ (h' : ac_H) (σ' : ac_A), Φ (.inr E) h' ∧ ac_Af D dA σ0 h sz h' σ' st t
def ac_Qc (D : va_G) (dA : Nat → ClassId) (σ0 : ac_A) (h : ac_H) (sz : Nat) (Φ : ac_R → ac_H → Prop) : Array Value → State → Outcome → State → Prop := fun _ st o t => ∃ v, o = .returned v ∧ ac_Qr D dA σ0 h sz Φ st v t
abbrev ac_rm (d MC MS : Nat) : Room := { frames := d, cells := MC, slots := MS, locals := 35 * d }
def ac_Mt (l : Launch) (d : Nat) (mi : ac_I) (a : List Value) (h : ac_H) (MC MS : Nat) (Φ : ac_R → ac_H → Prop) : Prop :=
  ∀ (D : va_G) (dA : Nat → ClassId) (σ0 : ac_A) (sz : Nat), xq_M l mi.1 (Cond.code mi.1 mi.2.1 mi.2.2.1 mi.2.2.2.1 :: ac_U) (ac_rm d MC MS) (ac_Pc D dA σ0 a h sz) (ac_Qr D dA σ0 h sz Φ) (ac_Qx D dA σ0 h sz Φ) MC MS (va_A (ac_w σ0 dA h) sz)
/-- .. of a method with handlers of its own -/
def ac_MtW (l : Launch) (d : Nat) (mi : ac_I) (a : List Value) (h : ac_H) (MC MS : Nat) (Φ : ac_R → ac_H → Prop) : Prop :=
  ∀ (D : va_G) (dA : Nat → ClassId) (σ0 : ac_A) (sz : Nat), xq_M l mi.1 (Cond.codeWith mi.1 mi.2.1 mi.2.2.1 mi.2.2.2.1 mi.2.2.2.2 :: ac_U) (ac_rm d MC MS) (ac_Pc D dA σ0 a h sz) (ac_Qr D dA σ0 h sz Φ) (ac_Qx D dA σ0 h sz Φ) MC MS (va_A (ac_w σ0 dA h) sz)
theorem ac_blind (D : va_G) (dA : Nat → ClassId) (σ0 : ac_A) (a : List Value) (h : ac_H) (sz : Nat) : FrameBlind (ac_Pc D dA σ0 a h sz) := by
  intro b U g mk q
  obtain ⟨q0, q1, q2, q3, q4, q5, q6, q7⟩ := q
  exact ⟨q0, q1, q2, q3, q4, va_K.moved (u := U) (U := U.calling g mk b) (Vm.Alike.refl U.vm) q5, q6, ac_X.call g mk b q7⟩
/-- what a caller pays -/
theorem ac_pay {D : va_G} {dA : Nat → ClassId} {A : Nat → Prop} {s : State} {n0 : Nat} {σ0 σ : ac_A} {h : ac_H} {H : Heap} {locs : List Loc} {a : List Value} (hW : ac_Wd D dA A s n0 σ0 σ h H locs) (hK : va_K D ac_cl (ac_tys dA) s) (hX : ac_X A s s.heap) (hA : ∀ q, s.heap.size ≤ q → A q) (ha : ∀ v ∈ a, ac_ok h.length v) :
    (∀ q, va_A (ac_w σ dA h) H.size q → A q) ∧ ∀ U : State, U.heap = H → s.WarmedH U.vm → ac_Pc D dA σ a h H.size (a.map (ac_v σ)).toArray U := by
  obtain ⟨w1, w2, w3, hP, hD, hSS⟩ := hW
  have hF : ∀ q, va_A (ac_w σ dA h) H.size q → A q := by
    intro q hq
    rcases hq with ⟨i, e, hi⟩ | hq
    · exact hD.2 i (q, e) hi
    · exact hA q (Nat.le_trans hSS.1 hq)
  refine ⟨hF, fun U hU hw => ⟨rfl, by rw [hU], w1, ha, by rw [hU]; exact hP, va_K.moved hw.alike hK, hD.weaken (fun _ _ _ _ => trivial), ?_⟩⟩
  rw [hU]
  exact ac_X.at hw hX (fun a h1 h2 => hSS.2.1 a h1 h2) hF
/-- what a caller gets back -/
theorem ac_got {D : va_G} {dA : Nat → ClassId} {A : Nat → Prop} {s st t T' : State} {n0 : Nat} {σ0 σ σ' : ac_A} {h h' : ac_H} {H : Heap} {locs L9 : List Loc} (hW : ac_Wd D dA A s n0 σ0 σ h H locs) (hF : ∀ q, va_A (ac_w σ dA h) H.size q → A q) (h0 : st.heap = H) (e1 : T'.heap = t.heap) (hL : ∀ q ∈ L9, va_A (ac_w σ dA h) H.size q.base) (hq : ac_Af D dA σ h H.size h' σ' st t) : ac_Wd D dA A s n0 σ0 σ' h' T'.heap (locs ++ L9) := by
  obtain ⟨w1, w2, w3, hP, hD, hSS⟩ := hW
  obtain ⟨q1, q2, q3, q4, q5, q6⟩ := hq
  obtain ⟨f1, f2⟩ := q6
  rw [h0] at f1 f2
  refine ⟨q1, Nat.le_trans w2 q2, ac_ag_tr q3 w3 w2, by rw [e1]; exact q4, q5.weaken (fun _ _ _ hq => hF _ hq), Nat.le_trans hSS.1 (by rw [e1]; exact f1), fun q g1 g2 => ?_, fun q hq => ?_⟩
  · rw [e1, f2 q (Nat.lt_of_lt_of_le g1 hSS.1) (fun z9 => g2 (hF q z9))]
    exact hSS.2.1 q g1 g2
  · rcases List.mem_append.mp hq with g1 | g1
    · exact hSS.2.2 q g1
    · exact hF _ (hL q g1)
/-- E has been thrown over this frame at pc: it goes out, or a handler takes it (which begins by storing it away) -/
def ac_hx (g : ac_P) (pc : Nat) (L : List (Nat × Value)) (E : String) (h : ac_H) (k z : Nat) : Prop :=
  (ac_hh g = [] ∧ ac_ph g (.inr E) h ∧ k ≤ ac_mc g ∧ z ≤ ac_ms g) ∨
  ∃ (pre suf : List (Nat × Nat × Nat × Nat)) (x : Nat × Nat × Nat × Nat) (nm : String) (i len : Nat), ac_hh g = pre ++ x :: suf ∧
    (∀ y ∈ tableOf pre, covers y pc = false ∨ (y.catchType ≠ 0 ∧ ∃ n9 : String, Cond.classLink (ac_y g).cls y.catchType n9 ∈ ac_U ∧ (E, n9) ∈ ac_nc)) ∧
    covers ⟨x.1, x.2.1, x.2.2.1, x.2.2.2⟩ pc = true ∧ x.2.2.2 ≠ 0 ∧ Cond.classLink (ac_y g).cls x.2.2.2 nm ∈ ac_U ∧ Cond.castable E nm ∈ ac_ow ∧
    ((∃ j : Fin 4, (j : Nat) = i ∧ len = 1 ∧ decode (ac_cc g) x.2.2.1 = .ok (.astore_n j, 1)) ∨ (len = 2 ∧ decode (ac_cc g) x.2.2.1 = .ok (.astore i, 2))) ∧ i < ac_ml g ∧ ac_G g (x.2.2.1 + len) (ac_del L i) [] h k z
theorem ac_hx_go {g : ac_P} {pc : Nat} {L : List (Nat × Value)} {E : String} {h : ac_H} {k z : Nat} (hx9 : ac_hx g pc L E h k z) {p : Program} {e : Env} {R : Room} {s : State} {m : MethodId} {args : Array Value} {below : List Frame} {meth : Method} {c : Code} {D : va_G} {dA : Nat → ClassId} {A : Nat → Prop} {σ0 : ac_A} {Qf : State → Prop} (C : ac_C g p e R s m args below meth c D dA A σ0 Qf) {σ : ac_A} {H : Heap} {locs : List Loc} {ls : Array Slot} {rest : List Value} (hW : ac_Wd D dA A s (ac_n0 g) σ0 σ h H locs) (hL : ∀ q ∈ L, ac_ok h.length q.2) (hl : lv_has ls (ac_ml g) (L.map (ac_lv σ))) {ce : Cell} {q : Nat} (hce : H[q]? = some ce) (hv : ce.vm = .none) (hcl : s.vm.findClass E = some ce.cls) :
    xq_W p (ac_l g) e R s m args below meth c H locs k z Qf (F0 m pc ls rest) q := by
  obtain ⟨⟨hx, hb, hml, hown, hnm, hts, htb⟩, ⟨hK, hX, hA, hR⟩, hend, hsc⟩ := id C
  rcases hx9 with ⟨h1, h2, h3, h4⟩ | ⟨pre, suf, x, nm, i, len, h1, h2, h3, h4, h5, h6, h7, h8, kk⟩
  · exact hend.2.1 σ h H locs k z E ce q pc ls rest hW h2 h3 h4 hce hv hcl h1
  · refine xq_catch (E := E) hown (tableOf pre) ⟨x.1, x.2.1, x.2.2.1, x.2.2.2⟩ (tableOf suf) (by rw [htb, h1]; simp [tableOf]) (fun y hy => ?_) h3 h4 (hts _ h5) (va_Nw.use rfl (hX.2.1 _ h6)) hce hv hcl ?_
    · rcases h2 y hy with a1 | ⟨a1, n9, a2, a3⟩
      · exact Or.inl a1
      · exact Or.inr ⟨a1, n9, hts _ a2, hX.2.2.2.2 _ a3⟩
    · have kk2 : ∀ ls' : Array Slot, lv_has ls' (ac_ml g) ((i, Value.ref q) :: (ac_del L i).map (ac_lv σ)) → W p (ac_l g) e R s m args below meth c H locs k z Qf (F0 m (x.2.2.1 + len) ls' []) := fun ls' hl' =>
        kk p e R s m args below meth c D dA A σ0 Qf C σ H locs ls' hW (ac_okL_del hL) (fun _ hq => nomatch hq) ⟨hl'.1, hl'.2.1, fun y hy => hl'.2.2 y (List.mem_cons_of_mem _ hy)⟩
      rcases h7 with ⟨j, hj, rfl, h7⟩ | ⟨rfl, h7⟩
      · exact lv_astore_n (x := q) (lv' := (i, Value.ref q) :: (ac_del L i).map (ac_lv σ)) hx hb h7 hj hl h8 (by rw [ac_del_map]) kk2
      · exact lv_astore (x := q) (lv' := (i, Value.ref q) :: (ac_del L i).map (ac_lv σ)) hx hb h7 hl h8 (by rw [ac_del_map]) kk2
/-- what is to be known of the called -/
def ac_K (own : String) (idx : Nat) (mi : ac_I) (n : Nat) : Prop := Cond.initialized mi.1.cls ∈ ac_U ∧ mi.2.2.1 ≤ 16 ∧ (mi.1.cls ≠ "java/lang/invoke/MethodHandle" ∧ mi.1.cls ≠ "java/lang/invoke/VarHandle" ∧ (parseMethodDescriptor mi.1.desc).map (fun d => d.parameters.length) = some n)
abbrev ac_KV (own : String) (idx : Nat) (mi : ac_I) (n : Nat) : Prop := ac_K own idx mi n ∧ Cond.methodLink own idx mi.1 ∈ ac_U ∧ Cond.instanceMethod mi.1 ∈ ac_U ∧ Cond.selects mi.1.cls mi.1 mi.1 ∈ ac_U ∧ Cond.code mi.1 mi.2.1 mi.2.2.1 mi.2.2.2.1 ∈ ac_U
abbrev ac_KS (own : String) (idx : Nat) (mi : ac_I) (n : Nat) : Prop := ac_K own idx mi n ∧ Cond.methodLink own idx mi.1 ∈ ac_U ∧ Cond.static mi.1 ∈ ac_U ∧ Cond.code mi.1 mi.2.1 mi.2.2.1 mi.2.2.2.1 ∈ ac_U
abbrev ac_KSW (own : String) (idx : Nat) (mi : ac_I) (n : Nat) : Prop := ac_K own idx mi n ∧ Cond.methodLink own idx mi.1 ∈ ac_U ∧ Cond.static mi.1 ∈ ac_U ∧ Cond.codeWith mi.1 mi.2.1 mi.2.2.1 mi.2.2.2.1 mi.2.2.2.2 ∈ ac_U
abbrev ac_KI (own : String) (idx : Nat) (mi : ac_I) (n : Nat) : Prop := ac_K own idx mi n ∧ Cond.methodLink own idx mi.1 ∈ ac_U ∧ Cond.instanceMethod mi.1 ∈ ac_U ∧ Cond.code mi.1 mi.2.1 mi.2.2.1 mi.2.2.2.1 ∈ ac_U ∧ mi.1.name = "<init>" ∧ mi.2.2.2.1 = none
abbrev ac_KIN (own : String) (idx : Nat) (mi : ac_I) (n : Nat) (host : String) : Prop := ac_K own idx mi n ∧ Cond.methodLinkNest own idx mi.1 host ∈ ac_ow ∧ Cond.instanceMethod mi.1 ∈ ac_U ∧ Cond.code mi.1 mi.2.1 mi.2.2.1 mi.2.2.2.1 ∈ ac_U ∧ mi.1.name = "<init>" ∧ mi.2.2.2.1 = none
theorem ac_paid {s : State} {args : Array Value} (hts : ∀ w ∈ ac_U, w.before args s = true) {w : Cond} (hw : w ∈ ac_U) : ∀ w' ∈ w :: ac_U, ∀ (a' : Array Value) (U : State), s.WarmedH U.vm → w'.before a' U = true :=
  pay_in (big := ac_U) hts (fun w' h' => by
    rcases List.mem_cons.mp h' with e | e
    · rw [e]; exact ⟨hw, good_of_word (ac_good w hw)⟩
    · exact ⟨e, good_of_word (ac_good w' e)⟩)
theorem ac_params {y : MethodName} {n : Nat} (h : (parseMethodDescriptor y.desc).map (fun d => d.parameters.length) = some n) : ∀ sig, parseMethodDescriptor y.desc = some sig → n = sig.parameters.length := fun sig hs => by
  rw [hs] at h
  exact (Option.some.inj h).symm
theorem ac_CallB {R : Room} {s : State} {args : Array Value} {own : String} {idx d' mc ms n : Nat} {mi : ac_I} (hts : ∀ w ∈ ac_U, w.before args s = true) (hk : ac_K own idx mi n) (hl : Cond.methodLink own idx mi.1 ∈ ac_U) (hc : Cond.code mi.1 mi.2.1 mi.2.2.1 mi.2.2.2.1 ∈ ac_U) {d : Nat} (hd : d' + 1 ≤ d) (hR1 : d ≤ R.frames) (hR2 : 35 * d ≤ R.locals) :
    CallB R s args own idx mi.1 mi.2.1 mi.2.2.1 mi.2.2.2.1 (Cond.code mi.1 mi.2.1 mi.2.2.1 mi.2.2.2.1 :: ac_U) (ac_rm d' mc ms) mc ms n := by
  obtain ⟨k1, k2, k3, k4, k5⟩ := hk
  exact ⟨rfl, rfl, Nat.le_trans hd hR1, by show 8 + (mi.2.2.1 + 11) + 35 * d' ≤ R.locals; omega, ac_paid hts hc, List.mem_cons_self, hts _ hc, hts _ k1, ⟨k3, k4⟩, ac_params k5, hts _ hl⟩
/-- nothing thrown: an ordinary contract -/
theorem ac_Mt.met {l : Launch} {d : Nat} {mi : ac_I} {a : List Value} {h : ac_H} {MC MS : Nat} {Φ : ac_R → ac_H → Prop} (hM : ac_Mt l d mi a h MC MS Φ) (hno : ∀ E h', ¬ Φ (.inr E) h') (D : va_G) (dA : Nat → ClassId) (σ0 : ac_A) (sz : Nat) : Met l mi.1 (Cond.code mi.1 mi.2.1 mi.2.2.1 mi.2.2.2.1 :: ac_U) (ac_rm d MC MS) (ac_Pc D dA σ0 a h sz) (ac_Qc D dA σ0 h sz Φ) MC MS (va_A (ac_w σ0 dA h) sz) := by
  intro p e h1 h2 h3 s m args below h4 h5 h6 h7
  obtain ⟨n, o, a1, a2, a3, L, a4, a5, a6, a7⟩ := hM D dA σ0 sz p e h1 h2 h3 s m args below h4 h5 h6 h7
  refine ⟨n, o, a1, a2, a3, ?_⟩
  rcases a7 with ⟨v, b1, b2⟩ | ⟨q, E, ce, -, ⟨h', σ', b1, -⟩, -⟩
  · exact ⟨⟨v, b1, b2⟩, L, ⟨⟨v, b1⟩, a4, a5⟩, a6⟩
  · exact absurd b1 (hno E h')
/-- behind a call that may throw -/
theorem ac_after {g : ac_P} {pc : Nat} {L : List (Nat × Value)} {S : List Value} {h : ac_H} {k z : Nat} {p : Program} {e : Env} {R : Room} {s : State} {m : MethodId} {args : Array Value} {below : List Frame} {meth : Method} {c : Code} {D : va_G} {dA : Nat → ClassId} {A : Nat → Prop} {σ0 : ac_A} {Qf : State → Prop} (C : ac_C g p e R s m args below meth c D dA A σ0 Qf) {σ : ac_A} {H : Heap} {locs : List Loc} {ls : Array Slot} {st0 : List Value} {mc ms : Nat} {Ψ : ac_R → ac_H → Prop} (hW : ac_Wd D dA A s (ac_n0 g) σ0 σ h H locs) (hL : ∀ q ∈ L, ac_ok h.length q.2) (hS : ∀ v ∈ S, ac_ok h.length v) (hl : lv_has ls (ac_ml g) (L.map (ac_lv σ))) (hF : ∀ q, va_A (ac_w σ dA h) H.size q → A q) (hr : xq_R p (ac_l g) e R s m args below meth c H locs k z mc ms (F0 m pc ls st0) (S.map (ac_v σ)) (ac_Qr D dA σ h H.size Ψ) (ac_Qx D dA σ h H.size Ψ) (va_A (ac_w σ dA h) H.size))
    (kk : ∀ r h', Ψ (.inl r) h' → h.length ≤ h'.length → ac_G g (pc + 3) L (r.toList ++ S) h' (k + mc) (z + ms)) (kx : ∀ E h', Ψ (.inr E) h' → h.length ≤ h'.length → ac_hx g pc L E h' (k + mc) (z + ms)) : W p (ac_l g) e R s m args below meth c H locs k z Qf (F0 m pc ls st0) := by
  intro T hT X
  obtain ⟨st₀, t, T', L9, h0, X', hL9, e1, hor⟩ := hr T hT X
  rcases hor with ⟨v, hq, st⟩ | ⟨q, E, ce, hq, hce, hcv, hcl, st⟩
  · obtain ⟨r, h', σ', hv, hΨ, okr, haf⟩ := hq
    have hlen : h.length ≤ h'.length := haf.2.1
    have hag : ac_ag h.length σ' σ := haf.2.2.1
    have hW2 := ac_got hW hF h0 e1 hL9 haf
    have k9 := kk r h' hΨ hlen p e R s m args below meth c D dA A σ0 Qf C σ' T'.heap (locs ++ L9) ls hW2 (ac_okL_mono hL hlen) (fun v hv9 => by
      rcases List.mem_append.mp hv9 with q | q
      · exact okr v q
      · exact ac_ok_mono (hS v q) hlen) (by rw [ac_L_ag hag hL]; exact hl) T' rfl X'
    have e9 : (r.toList ++ S).map (ac_v σ') = v.toList ++ S.map (ac_v σ) := by
      cases hv
      rw [List.map_append, ac_S_ag hag hS]
      cases r <;> rfl
    rw [e9] at k9
    obtain ⟨t2, a1, b1⟩ := k9
    exact ⟨t2, st t2 a1, b1⟩
  · obtain ⟨h', σ', hΨ, haf⟩ := hq
    have hlen : h.length ≤ h'.length := haf.2.1
    have hag : ac_ag h.length σ' σ := haf.2.2.1
    have hW2 := ac_got hW hF h0 e1 hL9 haf
    obtain ⟨t2, a1, b1⟩ := ac_hx_go (kx E h' hΨ hlen) C hW2 (ac_okL_mono hL hlen) (by rw [ac_L_ag hag hL]; exact hl) (rest := S.map (ac_v σ)) (by rw [e1]; exact hce) hcv hcl T' rfl X'
    exact ⟨t2, st.trans a1, b1⟩
/-- behind a call that doesn't -/
theorem ac_afterN {g : ac_P} {pc : Nat} {L : List (Nat × Value)} {S : List Value} {h : ac_H} {k z : Nat} {p : Program} {e : Env} {R : Room} {s : State} {m : MethodId} {args : Array Value} {below : List Frame} {meth : Method} {c : Code} {D : va_G} {dA : Nat → ClassId} {A : Nat → Prop} {σ0 : ac_A} {Qf : State → Prop} (C : ac_C g p e R s m args below meth c D dA A σ0 Qf) {σ : ac_A} {H : Heap} {locs : List Loc} {ls : Array Slot} {st0 : List Value} {mc ms : Nat} {Ψ : ac_R → ac_H → Prop} (hW : ac_Wd D dA A s (ac_n0 g) σ0 σ h H locs) (hL : ∀ q ∈ L, ac_ok h.length q.2) (hS : ∀ v ∈ S, ac_ok h.length v) (hl : lv_has ls (ac_ml g) (L.map (ac_lv σ))) (hF : ∀ q, va_A (ac_w σ dA h) H.size q → A q) {av : Array Value} (hr : va_Run p (ac_l g) e R s m args below meth c H locs k z mc ms (F0 m pc ls st0) (S.map (ac_v σ)) (ac_Qc D dA σ h H.size Ψ av) (va_A (ac_w σ dA h) H.size))
    (kk : ∀ r h', Ψ (.inl r) h' → h.length ≤ h'.length → ac_G g (pc + 3) L (r.toList ++ S) h' (k + mc) (z + ms)) : W p (ac_l g) e R s m args below meth c H locs k z Qf (F0 m pc ls st0) := by
  intro T hT X
  obtain ⟨v, st₀, t, T', L9, h0, X', hL9, e1, e2, ⟨v9, hv9, hq⟩, st⟩ := hr T hT X
  cases hv9
  obtain ⟨r, h', σ', hv, hΨ, okr, haf⟩ := hq
  have hlen : h.length ≤ h'.length := haf.2.1
  have hag : ac_ag h.length σ' σ := haf.2.2.1
  have hW2 := ac_got hW hF h0 e1 hL9 haf
  have k9 := kk r h' hΨ hlen p e R s m args below meth c D dA A σ0 Qf C σ' T'.heap (locs ++ L9) ls hW2 (ac_okL_mono hL hlen) (fun v hv9 => by
    rcases List.mem_append.mp hv9 with q | q
    · exact okr v q
    · exact ac_ok_mono (hS v q) hlen) (by rw [ac_L_ag hag hL]; exact hl) T' rfl X'
  have e9 : (r.toList ++ S).map (ac_v σ') = v.toList ++ S.map (ac_v σ) := by
    cases hv
    rw [List.map_append, ac_S_ag hag hS]
    cases r <;> rfl
  rw [e9] at k9
  obtain ⟨t2, a1, b1⟩ := k9
  exact ⟨t2, st t2 a1, b1⟩
/-- a call by a receiver -/
theorem r_callV {g : ac_P} {pc : Nat} {L : List (Nat × Value)} {S : List Value} {h : ac_H} {k z : Nat} {mi : ac_I} {n idx : Nat} (as : List Value) (b : Nat) {ci : Nat} {fs : List Value} (d' mc ms : Nat) {Ψ : ac_R → ac_H → Prop} (hd : decode (ac_cc g) pc = .ok (.invokevirtual idx, 3)) (hk9 : ac_KV (ac_y g).cls idx mi n) (hb9 : h[b]? = some (.inr (ci, fs))) {T9 : u_T} {N9 : Nat} (hc9 : ac_cl[ci]? = some (mi.1.cls, T9, N9)) (hn : as.length = n) (hM : ac_Mt (ac_l g) d' mi (.ref b :: as) h mc ms Ψ) (hdd : d' + 1 ≤ ac_d g) (h1 : k + mc ≤ ac_mc g) (h2 : z + ms ≤ ac_ms g) (hs : (S.map fun v => v.category).sum ≤ 8) (kk : ∀ r h', Ψ (.inl r) h' → h.length ≤ h'.length → ac_G g (pc + 3) L (r.toList ++ S) h' (k + mc) (z + ms)) (kx : ∀ E h', Ψ (.inr E) h' → h.length ≤ h'.length → ac_hx g pc L E h' (k + mc) (z + ms)) : ac_G g pc L (as.reverse ++ .ref b :: S) h k z := by
  intro p e R s m args below meth c D dA A σ0 Qf C σ H locs ls hW hL hS hl
  obtain ⟨⟨hx, hb, hml, hown, hnm, hts, htb⟩, ⟨hK, hX, hA, hR⟩, hend, hsc⟩ := id C
  obtain ⟨hk, hw1, hw2, hw3, hw4⟩ := hk9
  have hSa : ∀ v ∈ as, ac_ok h.length v := fun v hv => hS v (List.mem_append_left _ (List.mem_reverse.mpr hv))
  have hS2 : ∀ v ∈ S, ac_ok h.length v := fun v hv => hS v (List.mem_append_right _ (List.mem_cons_of_mem _ hv))
  have hoka : ∀ v ∈ .ref b :: as, ac_ok h.length v := ac_okc (ac_ok_ref (ac_lt hb9)) hSa
  obtain ⟨hF, hpay⟩ := ac_pay hW hK hX hA hoka
  obtain ⟨k1, k2, k3, k4, k5⟩ := hk
  refine ac_after C hW hL hS2 hl hF (xq_V (As := as.map (ac_v σ)) (b := σ.2 b) (C := mi.1.cls) (maxL := mi.2.2.1) (n := n) (hM D dA σ H.size) (ac_blind D dA σ _ h H.size) hx hb hml hown rfl rfl (Nat.le_trans hdd hR.1) (by show 8 + (mi.2.2.1 + 11) + 35 * d' ≤ R.locals; omega) (ac_paid hts hw4) (hts _ k1) ⟨k3, k4⟩ (ac_params k5) (hts _ hw1) (hts _ hw2) (hts _ hw3) (hts _ hw4) (va_recv hK hW.2.2.2.1 hc9 (ac_w_obj hb9)) hpay rfl (by rw [List.length_map]; exact hn) hl.1 (by show List.map (ac_v σ) (as.reverse ++ .ref b :: S) = _; rw [List.map_append, List.map_reverse]; rfl) (lv_room (by rw [ac_cats]; exact hs)) hd (by rw [hR.2.2.1]; exact h1) (by rw [hR.2.2.2]; exact h2)) kk kx
/-- a call of a static method -/
theorem r_callS {g : ac_P} {pc : Nat} {L : List (Nat × Value)} {S : List Value} {h : ac_H} {k z : Nat} {mi : ac_I} {n idx : Nat} (as : List Value) (d' mc ms : Nat) {Ψ : ac_R → ac_H → Prop} (hd : decode (ac_cc g) pc = .ok (.invokestatic idx, 3)) (hk9 : ac_KS (ac_y g).cls idx mi n) (hn : as.length = n) (hM : ac_Mt (ac_l g) d' mi as h mc ms Ψ) (hdd : d' + 1 ≤ ac_d g) (h1 : k + mc ≤ ac_mc g) (h2 : z + ms ≤ ac_ms g) (hs : (S.map fun v => v.category).sum ≤ 8) (kk : ∀ r h', Ψ (.inl r) h' → h.length ≤ h'.length → ac_G g (pc + 3) L (r.toList ++ S) h' (k + mc) (z + ms)) (kx : ∀ E h', Ψ (.inr E) h' → h.length ≤ h'.length → ac_hx g pc L E h' (k + mc) (z + ms)) : ac_G g pc L (as.reverse ++ S) h k z := by
  intro p e R s m args below meth c D dA A σ0 Qf C σ H locs ls hW hL hS hl
  obtain ⟨⟨hx, hb, hml, hown, hnm, hts, htb⟩, ⟨hK, hX, hA, hR⟩, hend, hsc⟩ := id C
  obtain ⟨hk, hw1, hw2, hw4⟩ := hk9
  have hSa : ∀ v ∈ as, ac_ok h.length v := fun v hv => hS v (List.mem_append_left _ (List.mem_reverse.mpr hv))
  have hS2 : ∀ v ∈ S, ac_ok h.length v := fun v hv => hS v (List.mem_append_right _ hv)
  obtain ⟨hF, hpay⟩ := ac_pay hW hK hX hA hSa
  obtain ⟨k1, k2, k3, k4, k5⟩ := hk
  obtain ⟨mk9, hn9⟩ := Cond.code_named (hts _ hw4)
  obtain ⟨meth9, c9, hm9, hc9, -, hl9, -, -, -, hs9⟩ := Cond.code_spec hn9 (hts _ hw4)
  refine ac_after C hW hL hS2 hl hF (xq_S (As := as.map (ac_v σ)) (maxL := mi.2.2.1) (n := n) (hM D dA σ H.size) (ac_blind D dA σ _ h H.size) hx hb hml hown rfl rfl (Nat.le_trans hdd hR.1) (by show 8 + (mi.2.2.1 + 11) + 35 * d' ≤ R.locals; omega) (ac_paid hts hw4) (hts _ k1) ⟨k3, k4⟩ (ac_params k5) (hts _ hw1) (hts _ hw2) hn9 hm9 hc9 hl9 hs9 hpay rfl (by rw [List.length_map]; exact hn) hl.1 (by show List.map (ac_v σ) (as.reverse ++ S) = _; rw [List.map_append, List.map_reverse]) (lv_room (by rw [ac_cats]; exact hs)) hd (by rw [hR.2.2.1]; exact h1) (by rw [hR.2.2.2]; exact h2)) kk kx
/-- a constructor -/
theorem r_callI {g : ac_P} {pc : Nat} {L : List (Nat × Value)} {S : List Value} {h : ac_H} {k z : Nat} {mi : ac_I} {n idx : Nat} (as : List Value) (b : Nat) (d' mc ms : Nat) {Ψ : ac_R → ac_H → Prop} (hd : decode (ac_cc g) pc = .ok (.invokespecial idx, 3)) (hk9 : ac_KI (ac_y g).cls idx mi n) (hn : as.length = n) (hM : ac_Mt (ac_l g) d' mi (.ref b :: as) h mc ms Ψ) (hno : ∀ E h', ¬ Ψ (.inr E) h') (hdd : d' + 1 ≤ ac_d g) (h1 : k + mc ≤ ac_mc g) (h2 : z + ms ≤ ac_ms g) (hs : (S.map fun v => v.category).sum ≤ 8) (kk : ∀ r h', Ψ (.inl r) h' → h.length ≤ h'.length → ac_G g (pc + 3) L (r.toList ++ S) h' (k + mc) (z + ms)) : ac_G g pc L (as.reverse ++ .ref b :: S) h k z := by
  intro p e R s m args below meth c D dA A σ0 Qf C σ H locs ls hW hL hS hl
  obtain ⟨⟨hx, hb, hml, hown, hnm, hts, htb⟩, ⟨hK, hX, hA, hR⟩, hend, hsc⟩ := id C
  obtain ⟨hk, hw1, hw2, hw4, hi9, hr9⟩ := hk9
  have hSa : ∀ v ∈ as, ac_ok h.length v := fun v hv => hS v (List.mem_append_left _ (List.mem_reverse.mpr hv))
  have hS2 : ∀ v ∈ S, ac_ok h.length v := fun v hv => hS v (List.mem_append_right _ (List.mem_cons_of_mem _ hv))
  have hokb : ac_ok h.length (.ref b) := hS _ (List.mem_append_right _ List.mem_cons_self)
  obtain ⟨hF, hpay⟩ := ac_pay hW hK hX hA (ac_okc hokb hSa)
  have cb := ac_CallB (mc := mc) (ms := ms) hts hk hw1 hw4 hdd hR.1 hR.2.1
  have hM2 := hM.met hno D dA σ H.size
  rw [hr9] at cb hM2
  exact ac_afterN C hW hL hS2 hl hF (va_runI (As := as.map (ac_v σ)) (b := σ.2 b) ⟨hx, hb, hml, hown, hts⟩ hM2 ⟨cb, hi9, hts _ hw2⟩ ⟨ac_blind D dA σ _ h H.size, hpay⟩ rfl (by rw [List.length_map]; exact hn) hl.1 (by show List.map (ac_v σ) (as.reverse ++ .ref b :: S) = _; rw [List.map_append, List.map_reverse]; rfl) (lv_room (by rw [ac_cats]; exact hs)) hd (by rw [hR.2.2.1, hR.2.2.2]; exact ⟨h1, h2⟩)) kk
/-- a constructor of a nest mate -/
theorem r_callIN {g : ac_P} {pc : Nat} {L : List (Nat × Value)} {S : List Value} {h : ac_H} {k z : Nat} {mi : ac_I} {n idx : Nat} (host : String) (as : List Value) (b : Nat) (d' mc ms : Nat) {Ψ : ac_R → ac_H → Prop} (hd : decode (ac_cc g) pc = .ok (.invokespecial idx, 3)) (hk9 : ac_KIN (ac_y g).cls idx mi n host) (hn : as.length = n) (hM : ac_Mt (ac_l g) d' mi (.ref b :: as) h mc ms Ψ) (hno : ∀ E h', ¬ Ψ (.inr E) h') (hdd : d' + 1 ≤ ac_d g) (h1 : k + mc ≤ ac_mc g) (h2 : z + ms ≤ ac_ms g) (hs : (S.map fun v => v.category).sum ≤ 8) (kk : ∀ r h', Ψ (.inl r) h' → h.length ≤ h'.length → ac_G g (pc + 3) L (r.toList ++ S) h' (k + mc) (z + ms)) : ac_G g pc L (as.reverse ++ .ref b :: S) h k z := by
  intro p e R s m args below meth c D dA A σ0 Qf C σ H locs ls hW hL hS hl
  obtain ⟨⟨hx, hb, hml, hown, hnm, hts, htb⟩, ⟨hK, hX, hA, hR⟩, hend, hsc⟩ := id C
  obtain ⟨hk, hw1, hw2, hw4, hi9, hr9⟩ := hk9
  have hSa : ∀ v ∈ as, ac_ok h.length v := fun v hv => hS v (List.mem_append_left _ (List.mem_reverse.mpr hv))
  have hS2 : ∀ v ∈ S, ac_ok h.length v := fun v hv => hS v (List.mem_append_right _ (List.mem_cons_of_mem _ hv))
  have hokb : ac_ok h.length (.ref b) := hS _ (List.mem_append_right _ List.mem_cons_self)
  obtain ⟨hF, hpay⟩ := ac_pay hW hK hX hA (ac_okc hokb hSa)
  obtain ⟨k1, k2, k3, k4, k5⟩ := hk
  have cb : va_CN R s args (ac_y g).cls idx mi.1 host mi.2.1 mi.2.2.1 mi.2.2.2.1 (Cond.code mi.1 mi.2.1 mi.2.2.1 mi.2.2.2.1 :: ac_U) (ac_rm d' mc ms) mc ms n := ⟨⟨rfl, rfl, Nat.le_trans hdd hR.1, by show 8 + (mi.2.2.1 + 11) + 35 * d' ≤ R.locals; omega, ac_paid hts hw4, List.mem_cons_self⟩, hts _ hw4, hts _ k1, ⟨k3, k4⟩, ac_params k5, va_Nw.use rfl (hX.2.1 _ hw1)⟩
  have hM2 := hM.met hno D dA σ H.size
  rw [hr9] at cb hM2
  exact ac_afterN C hW hL hS2 hl hF (va_runIN (As := as.map (ac_v σ)) (b := σ.2 b) ⟨hx, hb, hml, hown, hts⟩ hM2 ⟨cb, hi9, hts _ hw2⟩ ⟨ac_blind D dA σ _ h H.size, hpay⟩ rfl (by rw [List.length_map]; exact hn) hl.1 (by show List.map (ac_v σ) (as.reverse ++ .ref b :: S) = _; rw [List.map_append, List.map_reverse]; rfl) (lv_room (by rw [ac_cats]; exact hs)) hd (by rw [hR.2.2.1, hR.2.2.2]; exact ⟨h1, h2⟩)) kk
/-- a call of a static method with handlers -/
theorem r_callSW {g : ac_P} {pc : Nat} {L : List (Nat × Value)} {S : List Value} {h : ac_H} {k z : Nat} {mi : ac_I} {n idx : Nat} (as : List Value) (d' mc ms : Nat) {Ψ : ac_R → ac_H → Prop} (hd : decode (ac_cc g) pc = .ok (.invokestatic idx, 3)) (hk9 : ac_KSW (ac_y g).cls idx mi n) (hn : as.length = n) (hM : ac_MtW (ac_l g) d' mi as h mc ms Ψ) (hno : ∀ E h', ¬ Ψ (.inr E) h') (hdd : d' + 1 ≤ ac_d g) (h1 : k + mc ≤ ac_mc g) (h2 : z + ms ≤ ac_ms g) (hs : (S.map fun v => v.category).sum ≤ 8) (kk : ∀ r h', Ψ (.inl r) h' → h.length ≤ h'.length → ac_G g (pc + 3) L (r.toList ++ S) h' (k + mc) (z + ms)) : ac_G g pc L (as.reverse ++ S) h k z := by
  intro p e R s m args below meth c D dA A σ0 Qf C σ H locs ls hW hL hS hl
  obtain ⟨⟨hx, hb, hml, hown, hnm, hts, htb⟩, ⟨hK, hX, hA, hR⟩, hend, hsc⟩ := id C
  obtain ⟨hk, hw1, hw2, hw4⟩ := hk9
  have hSa : ∀ v ∈ as, ac_ok h.length v := fun v hv => hS v (List.mem_append_left _ (List.mem_reverse.mpr hv))
  have hS2 : ∀ v ∈ S, ac_ok h.length v := fun v hv => hS v (List.mem_append_right _ hv)
  obtain ⟨hF, hpay⟩ := ac_pay hW hK hX hA hSa
  obtain ⟨k1, k2, k3, k4, k5⟩ := hk
  obtain ⟨mk9, meth9, c9, hn9, hm9, hc9, -, hl9, -, -, -, hs9⟩ := Cond.codeWith_spec (hts _ hw4)
  refine ac_after C hW hL hS2 hl hF (xq_S (As := as.map (ac_v σ)) (maxL := mi.2.2.1) (n := n) (hM D dA σ H.size) (ac_blind D dA σ _ h H.size) hx hb hml hown rfl rfl (Nat.le_trans hdd hR.1) (by show 8 + (mi.2.2.1 + 11) + 35 * d' ≤ R.locals; omega) (ac_paid hts hw4) (hts _ k1) ⟨k3, k4⟩ (ac_params k5) (hts _ hw1) (hts _ hw2) hn9 hm9 hc9 hl9 hs9 hpay rfl (by rw [List.length_map]; exact hn) hl.1 (by show List.map (ac_v σ) (as.reverse ++ S) = _; rw [List.map_append, List.map_reverse]) (lv_room (by rw [ac_cats]; exact hs)) hd (by rw [hR.2.2.1]; exact h1) (by rw [hR.2.2.2]; exact h2)) kk (fun E h9 hq9 => absurd hq9 (hno E h9))
/-- THE BODY OF A METHOD: its walk gives its contract -/
theorem ac_enter {l : Launch} {d : Nat} {mi : ac_I} {a : List Value} {h : ac_H} {MC MS : Nat} {Φ : ac_R → ac_H → Prop} (hpl : plainName mi.1.cls = true) (hhh : mi.2.2.2.2 = []) (htr : l.stackTraces = false) (hsl : ∀ σ, (lg_sl (a.map (ac_v σ))).length ≤ mi.2.2.1) (kk : ac_G (l, d, mi, MC, MS, Φ, h.length, none) 0 (lv_args 0 a) [] h 0 0) : ac_Mt l d mi a h MC MS Φ := by
  intro D dA σ0 sz
  refine xq_ofW (cc := mi.2.1) (maxL := mi.2.2.1) (ret := mi.2.2.2.1) hpl rfl ?_
  intro p e s m args below meth c s₁ B hml htab hv
  obtain ⟨hargs, hsz, hok, hoka, hP, hK, hD0, hX⟩ := hv
  subst hsz
  have hx := B.exec
  have hb := B.bytes
  have hr := B.returns
  have hts : ∀ w ∈ ac_U, w.before args s = true := fun w hw => atoms_spec (ws := Cond.code mi.1 mi.2.1 mi.2.2.1 mi.2.2.2.1 :: ac_U) B.pre w (List.mem_cons_of_mem _ hw)
  have hown : s.vm.findClass mi.1.cls = some m.cls := findClass_of_methodNamed B.named
  have hnm : meth.name = mi.1.name := (name_of_methodNamed B.named B.method).1
  have hlocks := B.notSynchronized
  have hD := hD0.self (sz := s.heap.size)
  have htb : c.exceptionTable.toList = tableOf mi.2.2.2.2 := by
    rw [hhh]
    exact htab
  have hA : ∀ q : Nat, s.heap.size ≤ q → va_A (ac_w σ0 dA h) s.heap.size q := fun q hq => Or.inr hq
  have hl := lv_entry (a.map (ac_v σ0)) (n := mi.2.2.1) (hsl σ0)
  rw [ac_args_map] at hl
  rw [hargs, lg_entry_eq]
  rw [← hargs]
  refine kk p e (ac_rm d MC MS) s m args below meth c D dA (va_A (ac_w σ0 dA h) s.heap.size) σ0 _ ⟨⟨hx, hb, hml, hown, hnm, hts, htb⟩, ⟨hK, hX, hA, Nat.le_refl _, Nat.le_refl _, rfl, rfl⟩, ⟨?_, ?_, ?_⟩, fun L xs hq => nomatch hq⟩ σ0 s.heap [] _ ⟨hok, Nat.le_refl _, ac_ag_rf, hP, hD, va_S.rf⟩ (ac_args_ok 0 a hoka) (fun _ hq => nomatch hq) hl
  · intro σ h' H locs k z r pc ls hW hp h1 h2 hokr hb9
    obtain ⟨w1, w2, w3, hP1, hD1, hSS⟩ := hW
    refine W.widen h1 h2 (xq_ret (Qc := ac_Qc D dA σ0 h s.heap.size Φ) (fun _ _ q9 => q9) ?_)
    rcases hb9 with ⟨v, e1, e2, ty, e3, e4⟩ | ⟨a9, n9, e1, e2, e3⟩ | ⟨a9, t9, e1, e2, e3⟩ | ⟨e1, e2, e3⟩
    · subst e1
      exact W.zret hx hb (hr.trans e3) e4 (fun t ht hw => ⟨_, rfl, some (.int v), h', σ, rfl, hp, hokr, w1, w2, w3, by rw [ht]; exact hP1, hD1, hSS.F ht⟩) hSS.2.2 e2 hlocks
    · subst e1
      exact W.aret hx hb (hr.trans e3) (Or.inl ⟨n9, rfl⟩) (Or.inr ⟨_, rfl⟩) (fun t ht hw => ⟨_, rfl, some (.ref a9), h', σ, rfl, hp, hokr, w1, w2, w3, by rw [ht]; exact hP1, hD1, hSS.F ht⟩) hSS.2.2 e2 hlocks
    · subst e1
      exact W.aret hx hb (hr.trans e3) (Or.inr ⟨t9, rfl⟩) (Or.inr ⟨_, rfl⟩) (fun t ht hw => ⟨_, rfl, some (.ref a9), h', σ, rfl, hp, hokr, w1, w2, w3, by rw [ht]; exact hP1, hD1, hSS.F ht⟩) hSS.2.2 e2 hlocks
    · subst e1
      exact W.vret hx hb (hr.trans e3) (fun t ht hw => ⟨_, rfl, none, h', σ, rfl, hp, hokr, w1, w2, w3, by rw [ht]; exact hP1, hD1, hSS.F ht⟩) hSS.2.2 e2 hlocks
  · intro σ h' H locs k z E ce q pc ls rest hW hp h1 h2 hce hcv hcl _
    obtain ⟨w1, w2, w3, hP1, hD1, hSS⟩ := hW
    exact xq_out (fun x hx9 => by rw [htab] at hx9; cases hx9) hlocks hce hcv hcl (fun t ht hal => ⟨h', σ, hp, w1, w2, w3, by rw [ht]; exact hP1, hD1, hSS.F ht⟩) hSS.2.2 h1 h2
  · intro σ h' H locs k z E pc ls rest hW hp h1 h2 hls hcs _ hth
    obtain ⟨w1, w2, w3, hP1, hD1, hSS⟩ := hW
    obtain ⟨names, ik, is, ic, text, t1, t2, t3, t4, t5, t6, d0, d3, d4, d6, d9, t8, t9⟩ := hth
    obtain ⟨sa, hsa⟩ := hX.2.2.2.1 _ t5
    have t9' : 13 * (names.length + 1) + 51 ≤ 35 * d := t9
    refine xq_throw (A := va_A (ac_w σ0 dA h) s.heap.size) hx hb htr hown t1 t2 ⟨rfl, hts _ t3⟩ ⟨rfl, hts _ t4⟩ hsa (fun w hw => ?_) hSS (hls.trans hml.symm) d0 d3 d4 d6 d9 htab t8 (by show _ ≤ 35 * d; omega) h1 h2 hlocks (fun t hal hsz hke => ⟨h', σ, hp, w1, w2, w3, hP1.kept (fun i q hi => hke _ (hP1 i q hi).lt), hD1, Nat.le_trans hSS.1 hsz, fun q h9 h8 => (hke q (Nat.lt_of_lt_of_le h9 hSS.1)).trans (hSS.2.1 q h9 h8)⟩) hSS.2.2 h1 h2
    rcases t6 w hw with q | q | q
    · exact Or.inl ⟨q.2, hts _ q.1⟩
    · exact Or.inl ⟨ac_ow_tab w q, va_Nw.use (ac_ow_tab w q) (hX.2.1 _ q)⟩
    · exact Or.inr (hX.1 w q)
/-- .. of a method with handlers -/
theorem ac_enterW {l : Launch} {d : Nat} {mi : ac_I} {a : List Value} {h : ac_H} {MC MS : Nat} {Φ : ac_R → ac_H → Prop} (hpl : plainName mi.1.cls = true) (hno : ∀ E h', ¬ Φ (.inr E) h') (hsl : ∀ σ, (lg_sl (a.map (ac_v σ))).length ≤ mi.2.2.1) (kk : ac_G (l, d, mi, MC, MS, Φ, h.length, none) 0 (lv_args 0 a) [] h 0 0) : ac_MtW l d mi a h MC MS Φ := by
  intro D dA σ0 sz
  refine xq_ofWH (cc := mi.2.1) (maxL := mi.2.2.1) (ret := mi.2.2.2.1) (hh := mi.2.2.2.2) hpl rfl ?_
  intro p e s m args below meth c s₁ B hml htb hv
  obtain ⟨hargs, hsz, hok, hoka, hP, hK, hD0, hX⟩ := hv
  subst hsz
  have hx := B.exec
  have hb := B.bytes
  have hr := B.returns
  have hall := atoms_spec (ws := Cond.codeWith mi.1 mi.2.1 mi.2.2.1 mi.2.2.2.1 mi.2.2.2.2 :: ac_U) B.pre
  have hts : ∀ w ∈ ac_U, w.before args s = true := fun w hw => hall w (List.mem_cons_of_mem _ hw)
  have hown : s.vm.findClass mi.1.cls = some m.cls := findClass_of_methodNamed B.named
  have hnm : meth.name = mi.1.name := (name_of_methodNamed B.named B.method).1
  have hlocks := B.notSynchronized
  have hD := hD0.self (sz := s.heap.size)
  have hA : ∀ q : Nat, s.heap.size ≤ q → va_A (ac_w σ0 dA h) s.heap.size q := fun q hq => Or.inr hq
  have hl := lv_entry (a.map (ac_v σ0)) (n := mi.2.2.1) (hsl σ0)
  rw [ac_args_map] at hl
  rw [hargs, lg_entry_eq]
  rw [← hargs]
  refine kk p e (ac_rm d MC MS) s m args below meth c D dA (va_A (ac_w σ0 dA h) s.heap.size) σ0 _ ⟨⟨hx, hb, hml, hown, hnm, hts, htb⟩, ⟨hK, hX, hA, Nat.le_refl _, Nat.le_refl _, rfl, rfl⟩, ⟨?_, ?_, ?_⟩, fun L xs hq => nomatch hq⟩ σ0 s.heap [] _ ⟨hok, Nat.le_refl _, ac_ag_rf, hP, hD, va_S.rf⟩ (ac_args_ok 0 a hoka) (fun _ hq => nomatch hq) hl
  · intro σ h' H locs k z r pc ls hW hp h1 h2 hokr hb9
    obtain ⟨w1, w2, w3, hP1, hD1, hSS⟩ := hW
    refine W.widen h1 h2 (xq_ret (Qc := ac_Qc D dA σ0 h s.heap.size Φ) (fun _ _ q9 => q9) ?_)
    rcases hb9 with ⟨v, e1, e2, ty, e3, e4⟩ | ⟨a9, n9, e1, e2, e3⟩ | ⟨a9, t9, e1, e2, e3⟩ | ⟨e1, e2, e3⟩
    · subst e1
      exact W.zret hx hb (hr.trans e3) e4 (fun t ht hw => ⟨_, rfl, some (.int v), h', σ, rfl, hp, hokr, w1, w2, w3, by rw [ht]; exact hP1, hD1, hSS.F ht⟩) hSS.2.2 e2 hlocks
    · subst e1
      exact W.aret hx hb (hr.trans e3) (Or.inl ⟨n9, rfl⟩) (Or.inr ⟨_, rfl⟩) (fun t ht hw => ⟨_, rfl, some (.ref a9), h', σ, rfl, hp, hokr, w1, w2, w3, by rw [ht]; exact hP1, hD1, hSS.F ht⟩) hSS.2.2 e2 hlocks
    · subst e1
      exact W.aret hx hb (hr.trans e3) (Or.inr ⟨t9, rfl⟩) (Or.inr ⟨_, rfl⟩) (fun t ht hw => ⟨_, rfl, some (.ref a9), h', σ, rfl, hp, hokr, w1, w2, w3, by rw [ht]; exact hP1, hD1, hSS.F ht⟩) hSS.2.2 e2 hlocks
    · subst e1
      exact W.vret hx hb (hr.trans e3) (fun t ht hw => ⟨_, rfl, none, h', σ, rfl, hp, hokr, w1, w2, w3, by rw [ht]; exact hP1, hD1, hSS.F ht⟩) hSS.2.2 e2 hlocks
  · intro σ h' H locs k z E ce q pc ls rest hW hp
    exact absurd hp (hno E h')
  · intro σ h' H locs k z E pc ls rest hW hp
    exact absurd hp (hno E h')
/-- what a contract says may be weakened -/
theorem ac_Mt.mono {l : Launch} {d : Nat} {mi : ac_I} {a : List Value} {h : ac_H} {MC MS : Nat} {Φ Ψ : ac_R → ac_H → Prop} (hM : ac_Mt l d mi a h MC MS Φ) (hΦ : ∀ r h', Φ r h' → Ψ r h') : ac_Mt l d mi a h MC MS Ψ := by
  intro D dA σ0 sz p e h1 h2 h3 s m args below h4 h5 h6 h7
  obtain ⟨n, o, a1, a2, a3, L, a4, a5, a6, a7⟩ := hM D dA σ0 sz p e h1 h2 h3 s m args below h4 h5 h6 h7
  refine ⟨n, o, a1, a2, a3, L, a4, a5, a6, ?_⟩
  rcases a7 with ⟨v, b0, r, h', σ', b1, b2, b3⟩ | ⟨q, E, ce, c1, ⟨h', σ', b1, b2⟩, b3⟩
  · exact Or.inl ⟨v, b0, r, h', σ', b1, hΦ _ _ b2, b3⟩
  · exact Or.inr ⟨q, E, ce, c1, ⟨h', σ', hΦ _ _ b1, b2⟩, b3⟩
