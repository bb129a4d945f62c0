/-! WHAT IS THROWN, in rows of our own: a contract that says both ends, calls by it, the way out of a frame, the way into a handler -/
section XQ
/-- the frame g, with the object q thrown over it, comes to Q -/
def xq_W (p : Program) (l : Launch) (e : Env) (R : Room) (s : State) (m : MethodId) (args : Array Value) (below : List Frame) (meth : Method) (c : Code) (H : Heap) (locs : List Loc) (k z : Nat) (Q : State → Prop) (g : JFrame) (q : Addr) : Prop :=
  ∀ T : State, T.heap = H → Stand p l e R s m args below meth c T locs k z → ∃ t, Steps p.tables e below ((T.setTop g).pushFrame (.throwing q)) t ∧ Q t
/-- both ends of a method in one: Qr where it went back, Qx where it threw -/
def xq_P (Qr : State → Option Value → State → Prop) (Qx : State → String → State → Prop) (mc ms : Nat) (free : Addr → Prop) : Array Value → State → Outcome → State → Prop := fun _ st o t =>
  ∃ L : List Loc, st.WarmedH t.vm ∧ st.sameButNew ({ t with vm := st.vm } : State) L mc ms ∧ (∀ q ∈ L, free q.base) ∧
    ((∃ v, o = .returned v ∧ Qr st v t) ∨ ∃ (q : Addr) (E : String) (ce : Cell), o = .threw q ∧ Qx st E t ∧ t.heap[q]? = some ce ∧ ce.vm = .none ∧ st.vm.findClass E = some ce.cls)
abbrev xq_M (l : Launch) (y : MethodName) (ws : List Cond) (rm : Room) (Pc : Array Value → State → Prop) (Qr : State → Option Value → State → Prop) (Qx : State → String → State → Prop) (mc ms : Nat) (free : Addr → Prop) : Prop :=
  MetFree l y (headSpec ws rm) Pc (fun _ _ _ _ _ => True) (xq_P Qr Qx mc ms free)
/-- a call has been made at T: it stands again, behind the call or with something thrown over it -/
def xq_R (p : Program) (l : Launch) (e : Env) (R : Room) (s : State) (m : MethodId) (args : Array Value) (below : List Frame) (meth : Method) (c : Code) (H : Heap) (locs : List Loc) (k z mc ms : Nat) (g : JFrame) (rest : List Value) (Qr : State → Option Value → State → Prop) (Qx : State → String → State → Prop) (free : Addr → Prop) : Prop :=
  ∀ T : State, T.heap = H → Stand p l e R s m args below meth c T locs k z → ∃ (st t T' : State) (L : List Loc), st.heap = H ∧ Stand p l e R s m args below meth c T' (locs ++ L) (k + mc) (z + ms) ∧ (∀ q ∈ L, free q.base) ∧ T'.heap = t.heap ∧
    ((∃ v, Qr st v t ∧ ∀ tg, Steps p.tables e below (T'.setTop { g with pc := g.pc + 3, stack := v.toList ++ rest }) tg → Steps p.tables e below (T.setTop g) tg) ∨
     ∃ (q : Addr) (E : String) (ce : Cell), Qx st E t ∧ t.heap[q]? = some ce ∧ ce.vm = .none ∧ s.vm.findClass E = some ce.cls ∧ Steps p.tables e below (T.setTop g) ((T'.setTop { g with stack := rest }).pushFrame (.throwing q)))
variable {p : Program} {l : Launch} {e : Env} {R : Room} {s : State} {m : MethodId} {args : Array Value} {below : List Frame} {meth : Method} {c : Code} {H : Heap} {locs : List Loc} {k z : Nat}
variable {y : MethodName} {ws : List Cond} {rm : Room} {Pc : Array Value → State → Prop} {Qr : State → Option Value → State → Prop} {Qx : State → String → State → Prop} {mc ms : Nat} {free : Addr → Prop}
/-- the body of a called method, from the point where its frame is laid (after Back.of_free of the library, with the thrown end beside it) -/
theorem xq_body (hM : xq_M l y ws rm Pc Qr Qx mc ms free) (hrc : rm.cells = mc) (hrs : rm.slots = ms) {maxL : Nat} (hfr : rm.frames + 1 ≤ R.frames) (hlo : 8 + (maxL + 11) + rm.locals ≤ R.locals)
    {U : State} (X : Stand p l e R s m args below meth c U locs k z) {g : JFrame} (hg : g.method = m) (hsize : g.locals.size = c.maxLocals) {ig : Instr} {len : Nat} (hdg : decode c.code g.pc = .ok (ig, len)) (hW : 2 * g.monitorRoom + (g.stack.map fun v => v.category).sum ≤ 8)
    {mk : MethodId} {a : Array Value} (hn : U.methodNamed? y = some mk) {methY : Method} {cY : Code} (hmY : U.vm.method? mk = some methY) (hcY : methY.code = some cY) (hlY : cY.maxLocals = maxL) (hpre : ∀ w ∈ ws, w.before a U = true) (hini : (Cond.initialized y.cls).before a U = true) (hk : k + mc ≤ R.cells) (hz : z + ms ≤ R.slots) (hPc : Pc a (U.calling g mk a)) :
    ∃ (t T' : State) (L : List Loc), Stand p l e R s m args below meth c T' (locs ++ L) (k + mc) (z + ms) ∧ (∀ q ∈ L, free q.base) ∧ T'.heap = t.heap ∧
      ((∃ v, Qr (U.calling g mk a) v t ∧ Steps p.tables e below (doInvoke e (U.setTop g) [] mk a).1 (T'.setTop { g with pc := g.pc + len, stack := v.toList ++ g.stack })) ∨
       ∃ (q : Addr) (E : String) (ce : Cell), Qx (U.calling g mk a) E t ∧ t.heap[q]? = some ce ∧ ce.vm = .none ∧ U.vm.findClass E = some ce.cls ∧ Steps p.tables e below (doInvoke e (U.setTop g) [] mk a).1 ((T'.setTop g).pushFrame (.throwing q))) := by
  obtain ⟨kY, hkY, -⟩ := className_of_methodNamed hn
  have hiY : kY.init = .initialized := Cond.initialized_spec (findClass_of_methodNamed hn) hkY hini
  have h : At U g.method c below := by rw [hg]; exact X.here
  have happ : (headSpec ws rm).appliesLoose y e.platform (U.calling g mk a) = true :=
    Spec.appliesLoose_calling (g := g) h hdg hn hkY hiY
      (X.room_calling (g := g) (R' := (headSpec ws rm).room) hsize hmY hcY hfr (by rw [hlY]; show _ + rm.locals ≤ _; omega) (by show k + rm.cells ≤ _; omega) (by show z + rm.slots ≤ _; omega)) (atoms_intro hpre)
  obtain ⟨mid, hmid⟩ := h.above
  have hfs : (U.setTop g).frames = (.java g :: mid) ++ below := by rw [State.frames_setTop' g h.top, hmid]; rfl
  obtain ⟨o, s₂, hsteps, -, hend, hq⟩ := Steps.callFree hM p X.admits X.cas X.clock (acts := []) hfs happ hPc trivial
  have hq' : xq_P Qr Qx mc ms free a (U.calling g mk a) o s₂ := hq
  obtain ⟨L, hWm, hsm, hL, hor⟩ := hq'
  rw [State.frames_setTop' g h.top] at hend
  obtain ⟨g₀, hg0⟩ := Option.isSome_iff_exists.mp h.top
  obtain ⟨r, hr⟩ := State.topJava?_eq_some.mp hg0
  obtain ⟨e2, q2, q3, q4, q5, q6⟩ := id hsm
  have e3 : s₂ = ({ (U.calling g mk a).setFrames s₂.frames with heap := s₂.heap, slotsUsed := s₂.slotsUsed } : State).setVm s₂.vm := by
    have e4 : s₂ = ({ s₂ with vm := (U.calling g mk a).vm } : State).setVm s₂.vm := rfl
    rw [e2] at e4
    exact e4
  have hWU : U.WarmedH s₂.vm := hWm
  have hr' : (({ U with heap := s₂.heap, slotsUsed := s₂.slotsUsed } : State).setVm s₂.vm).frames = .java g₀ :: r := hr
  have hsame : U.sameButNew ({ U with heap := s₂.heap, slotsUsed := s₂.slotsUsed } : State) L mc ms := by
    refine ⟨?_, q2, q3, q4, q5, q6⟩
    obtain ⟨t, ht, -⟩ := State.frames_cons hr
    show ({ U with heap := s₂.heap, slotsUsed := s₂.slotsUsed } : State) = { U.setFrames U.frames with heap := s₂.heap, slotsUsed := s₂.slotsUsed }
    rw [State.setFrames_self ht]
  have hSt : Stand p l e R s m args below meth c (({ U with heap := s₂.heap, slotsUsed := s₂.slotsUsed } : State).setVm s₂.vm) (locs ++ L) (k + mc) (z + ms) :=
    ⟨X.admits, X.cas, X.clock, X.frames, X.room, X.hears, X.method, X.code, (X.here.setHeapUsed s₂.heap s₂.slotsUsed).setVm hWU.alike, X.tail, State.WarmedH.trans X.warmed hWU, X.limits, X.bytes, X.same.trans (hsame.setVm s.vm)⟩
  refine ⟨s₂, _, L, hSt, hL, rfl, ?_⟩
  rcases hor with ⟨v, rfl, hv⟩ | ⟨q, E, ce, rfl, hE, hce, hcv, hcl⟩
  · obtain ⟨c₂, i₂, len₂, hc₂, hd₂, hf₂⟩ := hend
    have hcc : c₂ = c := by
      have h1 : s₂.code? g.method = U.code? g.method := by
        rw [State.code?_eq, State.code?_eq, hWU.alike.method?]
      exact Option.some.inj (hc₂.symm.trans (h1.trans h.code))
    subst hcc
    have hlen : len₂ = len := by rw [hdg] at hd₂; cases hd₂; rfl
    subst hlen
    have hs₂ : s₂ = (({ U with heap := s₂.heap, slotsUsed := s₂.slotsUsed } : State).setVm s₂.vm).setTop { g with pc := g.pc + len₂, stack := v.toList ++ g.stack } := by
      refine e3.trans ?_
      rw [hf₂, State.calling_eq h.top, State.setFrames_setFrames, State.setTop_of_frames _ hr', hr]
      rfl
    refine Or.inl ⟨v, hv, ?_⟩
    rw [← hs₂]
    exact hsteps
  · have hf₂ : s₂.frames = .throwing q :: .java g :: U.frames.tail := hend
    have hs₂ : s₂ = ((({ U with heap := s₂.heap, slotsUsed := s₂.slotsUsed } : State).setVm s₂.vm).setTop g).pushFrame (.throwing q) := by
      refine e3.trans ?_
      rw [hf₂, State.calling_eq h.top, State.setFrames_setFrames, State.pushFrame, State.frames_setTop _ hr', State.setTop_of_frames _ hr', State.setFrames_setFrames, hr]
      rfl
    refine Or.inr ⟨q, E, ce, hE, hce, hcv, hcl, ?_⟩
    rw [← hs₂]
    exact hsteps
/-- a call by a receiver -/
theorem xq_V (hM : xq_M l y ws rm Pc Qr Qx mc ms free) (hbl : FrameBlind Pc) (hx : p.tables.exec = Jvm.exec) {cc : ByteArray} (hb : c.code = cc) {nL : Nat} (hml : c.maxLocals = nL) {own C : String} (hown : s.vm.findClass own = some m.cls) {idx maxL n : Nat} {bytes : ByteArray} {ret : Option FieldType}
    (hrc : rm.cells = mc) (hrs : rm.slots = ms) (hfr : rm.frames + 1 ≤ R.frames) (hlo : 8 + (maxL + 11) + rm.locals ≤ R.locals) (hws : ∀ w ∈ ws, ∀ (a' : Array Value) (U : State), s.WarmedH U.vm → w.before a' U = true) (hini : (Cond.initialized y.cls).before args s = true) (hy : y.cls ≠ "java/lang/invoke/MethodHandle" ∧ y.cls ≠ "java/lang/invoke/VarHandle") (hlen : ∀ sig, parseMethodDescriptor y.desc = some sig → n = sig.parameters.length)
    (hl : (Cond.methodLink own idx y).before args s = true) (hin : (Cond.instanceMethod y).before args s = true) (hse : (Cond.selects C y y).before args s = true) (hcode : (Cond.code y bytes maxL ret).before args s = true)
    {b : Addr} {As rest : List Value} (hrv : ∃ cellB : Cell, H[b]? = some cellB ∧ cellB.vm.isStatics = false ∧ s.vm.findClass C = some cellB.cls) (hpay : ∀ U : State, U.heap = H → s.WarmedH U.vm → Pc (Value.ref b :: As).toArray U)
    {g : JFrame} (hg : g.method = m) (hn : As.length = n) (hsize : g.locals.size = nL) (hstack : g.stack = As.reverse ++ .ref b :: rest) (hW : 2 * g.monitorRoom + (rest.map fun v => v.category).sum ≤ 8) (hdg : decode cc g.pc = .ok (.invokevirtual idx, 3)) (hk : k + mc ≤ R.cells) (hz : z + ms ≤ R.slots) :
    xq_R p l e R s m args below meth c H locs k z mc ms g rest Qr Qx free := by
  intro T hT X
  obtain ⟨cellB, hcB, hoB, hclB⟩ := hrv
  obtain ⟨mk, methM, hnamed, hmethM, hstM, habM⟩ := Cond.instanceMethod_spec hin
  obtain ⟨methM', cM, hmM', hcM, -, hlM, -, -, -, hsigM⟩ := Cond.code_spec hnamed hcode
  cases hmethM.symm.trans hmM'
  obtain ⟨c2, r2, m2, q1, q2, q3, q4, kP, hkP, hkPi⟩ := Cond.selects_spec hse
  cases hclB.symm.trans q1
  cases (State.methodFound?_of_named hnamed hy).symm.trans q2
  cases hnamed.symm.trans q3
  have hsel : selectMethod e.platform s.vm cellB.cls mk = .method mk := by rw [Launch.admits_selectMethod X.admits]; exact q4
  obtain ⟨vm₁, X₁, hstep⟩ := X.invokevirtual hx hown hl hnamed hmethM hstM hkP hkPi hy (a := b) (cell := cellB) (by rw [hT]; exact hcB)
    (fun z9 h9 => by rw [h9] at hoB; cases hoB) hsel hmethM habM hkP hkPi (g := g) hg (argsL := As) (rest := rest) (hn.trans (hlen _ hsigM)) hstack (by rw [hb]; exact hdg)
  have hmU : (T.setVm vm₁).vm.method? mk = some methM := by
    rw [X₁.warmed.alike.method?]; exact hmethM
  obtain ⟨t, T', L, hSt, hL, hh, hor⟩ := xq_body (a := (Value.ref b :: As).toArray) hM hrc hrs hfr hlo X₁ (g := { g with stack := rest }) hg (hsize.trans hml.symm) (by rw [hb]; exact hdg) hW (X₁.named hnamed) hmU hcM hlM (fun w hw => hws w hw _ _ X₁.warmed)
    (word_at X₁.warmed (Or.inl (by first | rfl | simp [Cond.onTables, Cond.keeps, Cond.steady])) hini) hk hz (hbl _ _ _ _ (hpay (T.setVm vm₁) hT X₁.warmed))
  refine ⟨_, t, T', L, (show ((T.setVm vm₁).calling { g with stack := rest } mk (Value.ref b :: As).toArray).heap = H from hT), hSt, hL, hh, ?_⟩
  rcases hor with ⟨v, hv, hs⟩ | ⟨q, E, ce, hE, hce, hcv, hcl, hs⟩
  · exact Or.inl ⟨v, hv, fun tg h9 => hstep _ fun acts => by rw [doInvoke_state]; exact hs.trans h9⟩
  · refine Or.inr ⟨q, E, ce, hE, hce, hcv, ?_, hstep _ fun acts => by rw [doInvoke_state]; exact hs⟩
    rw [X₁.warmed.alike.findClass] at hcl
    exact hcl
/-- a call of a static method, by what its code is known to be -/
theorem xq_S (hM : xq_M l y ws rm Pc Qr Qx mc ms free) (hbl : FrameBlind Pc) (hx : p.tables.exec = Jvm.exec) {cc : ByteArray} (hb : c.code = cc) {nL : Nat} (hml : c.maxLocals = nL) {own : String} (hown : s.vm.findClass own = some m.cls) {idx maxL n : Nat}
    (hrc : rm.cells = mc) (hrs : rm.slots = ms) (hfr : rm.frames + 1 ≤ R.frames) (hlo : 8 + (maxL + 11) + rm.locals ≤ R.locals) (hws : ∀ w ∈ ws, ∀ (a' : Array Value) (U : State), s.WarmedH U.vm → w.before a' U = true) (hini : (Cond.initialized y.cls).before args s = true) (hy : y.cls ≠ "java/lang/invoke/MethodHandle" ∧ y.cls ≠ "java/lang/invoke/VarHandle") (hlen : ∀ sig, parseMethodDescriptor y.desc = some sig → n = sig.parameters.length)
    (hl : (Cond.methodLink own idx y).before args s = true) (hst : (Cond.static y).before args s = true) {mk : MethodId} {methM : Method} {cM : Code} (hnamed : s.methodNamed? y = some mk) (hmethM : s.vm.method? mk = some methM) (hcM : methM.code = some cM) (hlM : cM.maxLocals = maxL) (hsigM : parseMethodDescriptor y.desc = some methM.sig)
    {As rest : List Value} (hpay : ∀ U : State, U.heap = H → s.WarmedH U.vm → Pc As.toArray U)
    {g : JFrame} (hg : g.method = m) (hn : As.length = n) (hsize : g.locals.size = nL) (hstack : g.stack = As.reverse ++ rest) (hW : 2 * g.monitorRoom + (rest.map fun v => v.category).sum ≤ 8) (hdg : decode cc g.pc = .ok (.invokestatic idx, 3)) (hk : k + mc ≤ R.cells) (hz : z + ms ≤ R.slots) :
    xq_R p l e R s m args below meth c H locs k z mc ms g rest Qr Qx free := by
  intro T hT X
  have hstatic : methM.isStatic = true := Cond.static_spec hnamed hmethM hst
  obtain ⟨kP, hkP, -⟩ := className_of_methodNamed hnamed
  have hiP : kP.init = .initialized := Cond.initialized_spec (findClass_of_methodNamed hnamed) hkP hini
  obtain ⟨vm₁, X₁, hstep⟩ := X.invokestatic hx hown hl hnamed hmethM hstatic hkP hiP hy (g := g) hg (argsL := As) (rest := rest) (hn.trans (hlen _ hsigM)) hstack (by rw [hb]; exact hdg)
  have hmU : (T.setVm vm₁).vm.method? mk = some methM := by
    rw [X₁.warmed.alike.method?]; exact hmethM
  obtain ⟨t, T', L, hSt, hL, hh, hor⟩ := xq_body (a := As.toArray) hM hrc hrs hfr hlo X₁ (g := { g with stack := rest }) hg (hsize.trans hml.symm) (by rw [hb]; exact hdg) hW (X₁.named hnamed) hmU hcM hlM (fun w hw => hws w hw _ _ X₁.warmed)
    (word_at X₁.warmed (Or.inl (by first | rfl | simp [Cond.onTables, Cond.keeps, Cond.steady])) hini) hk hz (hbl _ _ _ _ (hpay (T.setVm vm₁) hT X₁.warmed))
  refine ⟨_, t, T', L, (show ((T.setVm vm₁).calling { g with stack := rest } mk As.toArray).heap = H from hT), hSt, hL, hh, ?_⟩
  rcases hor with ⟨v, hv, hs⟩ | ⟨q, E, ce, hE, hce, hcv, hcl, hs⟩
  · exact Or.inl ⟨v, hv, fun tg h9 => hstep _ fun acts => by rw [doInvoke_state]; exact hs.trans h9⟩
  · refine Or.inr ⟨q, E, ce, hE, hce, hcv, ?_, hstep _ fun acts => by rw [doInvoke_state]; exact hs⟩
    rw [X₁.warmed.alike.findClass] at hcl
    exact hcl
/-- what a body owes that may throw -/
def xq_Q (below : List Frame) (Qr : State → Option Value → State → Prop) (Qx : State → String → State → Prop) (a : Array Value) (s : State) (mc ms : Nat) (free : Addr → Prop) : State → Prop := fun t => ∃ o, t.status = .running ∧ Ended t below o ∧ xq_P Qr Qx mc ms free a s o t
theorem xq_ret {Qc : Array Value → State → Outcome → State → Prop} {g : JFrame} (hq : ∀ o t, Qc args s o t → ∃ v, o = .returned v ∧ Qr s v t) (kk : W p l e R s m args below meth c H locs k z (MQ below Qc args s mc ms free) g) : W p l e R s m args below meth c H locs k z (xq_Q below Qr Qx args s mc ms free) g := by
  intro T hT X
  obtain ⟨t, a1, o, b1, b2, b3, L, ⟨b4, b5, b6⟩, b7⟩ := kk T hT X
  exact ⟨t, a1, o, b1, b2, L, b5, b6, b7, Or.inl (hq o t b3)⟩
/-- out of the frame: no handler here -/
theorem xq_out {pc : Nat} {ls : Array Slot} {rest : List Value} {E : String} {ce : Cell} {q : Addr} (hout : ∀ x ∈ c.exceptionTable.toList, covers x pc = false) (hlk : meth.locks = false) (hce : H[q]? = some ce) (hv : ce.vm = .none) (hcl : s.vm.findClass E = some ce.cls) (hx : ∀ t : State, t.heap = H → s.vm.Alike t.vm → Qx s E t) (hf : ∀ q ∈ locs, free q.base) (hk : k ≤ mc) (hz : z ≤ ms) :
    xq_W p l e R s m args below meth c H locs k z (xq_Q below Qr Qx args s mc ms free) (F0 m pc ls rest) q := by
  intro T hT X
  obtain ⟨a1, a2, a3, a4, a5⟩ := X.leaveThrown q (g := F0 m pc ls rest) rfl rfl rfl hout hlk
  refine ⟨_, a1, .threw q, a2, a3, locs, a4, a5.mono hk hz, hf, Or.inr ⟨q, E, ce, rfl, hx _ hT a4.alike, ?_, hv, hcl⟩⟩
  show T.heap[q]? = some ce
  rw [hT]; exact hce
/-- a contract by its body -/
theorem xq_ofW {ws' : List Cond} {cc : ByteArray} {maxL : Nat} {ret : Option FieldType} (hy : plainName y.cls = true) (hw : ws = Cond.code y cc maxL ret :: ws')
    (body : ∀ p e s m args below meth c s₁, BodyLoose p l y (headSpec ws rm) cc maxL ret e s m args below meth c s₁ → c.maxLocals = maxL → c.exceptionTable.toList = [] → Pc args s →
      W p l e (headSpec ws rm).room s m args below meth c s.heap [] 0 0 (xq_Q below Qr Qx args s mc ms free) (entryFrame m args maxL)) : xq_M l y ws rm Pc Qr Qx mc ms free := by
  have hin : Cond.code y cc maxL ret ∈ ws := by rw [hw]; exact List.mem_cons_self
  refine MetFree.of_bodyS (code := cc) (maxLocals := maxL) (ret := ret) hy ?_ ?_
  · intro args s m h hn
    obtain ⟨meth, c, h1, h2, h3, h4, h5, h6, -, -⟩ := Cond.code_spec hn (atoms_spec (ws := ws) h _ hin)
    exact ⟨meth, c, h1, h2, h3, h4, h5, h6⟩
  · intro p e s m args below meth c s₁ B hml hP _
    have htab : c.exceptionTable.toList = [] := by
      obtain ⟨meth9, c9, h1, h2, -, -, -, -, h7, -⟩ := Cond.code_spec B.named (atoms_spec (ws := ws) B.pre _ hin)
      cases Option.some.inj (h1.symm.trans B.method)
      cases Option.some.inj (h2.symm.trans (Stand.of_body B).code)
      rw [Array.isEmpty_iff.mp h7]
    obtain ⟨t, a1, o, b1, b2, b3⟩ := body p e s m args below meth c s₁ B hml htab hP s₁ (by rw [B.state]; rfl) (Stand.of_body B)
    exact ⟨t, o, a1, b1, b2, b3⟩
/-- .. with handlers of its own -/
theorem xq_ofWH {ws' : List Cond} {cc : ByteArray} {maxL : Nat} {ret : Option FieldType} {hh : List (Nat × Nat × Nat × Nat)} (hy : plainName y.cls = true) (hw : ws = Cond.codeWith y cc maxL ret hh :: ws')
    (body : ∀ p e s m args below meth c s₁, BodyLoose p l y (headSpec ws rm) cc maxL ret e s m args below meth c s₁ → c.maxLocals = maxL → c.exceptionTable.toList = tableOf hh → Pc args s →
      W p l e (headSpec ws rm).room s m args below meth c s.heap [] 0 0 (xq_Q below Qr Qx args s mc ms free) (entryFrame m args maxL)) : xq_M l y ws rm Pc Qr Qx mc ms free := by
  have hin : Cond.codeWith y cc maxL ret hh ∈ ws := by rw [hw]; exact List.mem_cons_self
  refine MetFree.of_bodyS (code := cc) (maxLocals := maxL) (ret := ret) hy ?_ ?_
  · intro args s m h hn
    obtain ⟨m9, meth, c, hn9, h1, h2, h3, h4, -, h5, h6, -⟩ := Cond.codeWith_spec (atoms_spec (ws := ws) h _ hin)
    cases hn.symm.trans hn9
    exact ⟨meth, c, h1, h2, h3, h4, h5, h6⟩
  · intro p e s m args below meth c s₁ B hml hP _
    have htab : c.exceptionTable.toList = tableOf hh := by
      obtain ⟨m9, meth9, c9, hn9, h1, h2, -, -, h7, -⟩ := Cond.codeWith_spec (atoms_spec (ws := ws) B.pre _ hin)
      cases hn9.symm.trans B.named
      cases Option.some.inj (h1.symm.trans B.method)
      cases Option.some.inj (h2.symm.trans (Stand.of_body B).code)
      rw [← h7, table_eq]
    obtain ⟨t, a1, o, b1, b2, b3⟩ := body p e s m args below meth c s₁ B hml htab hP s₁ (by rw [B.state]; rfl) (Stand.of_body B)
    exact ⟨t, o, a1, b1, b2, b3⟩
/-! into a handler: the search goes down the table, each row's name is linked where it covers -/
def xq_F (e : Env) (S : State) (f : JFrame) (a : Addr) (h : Handler) (vm' : Vm) : Prop := ∀ (Q : Handler → Pre) (E : CtlPost) (d : Bool) (acts : List Action), wp (findHandler f a) Q E e d acts S ↔ Q h d acts (S.setVm vm')
theorem xq_row {Q : Handler → Pre} {E : CtlPost} {d : Bool} {acts : List Action} {S : State} {f : JFrame} {a : Addr} {x : ExceptionTableEntry} {t : List ExceptionTableEntry} {cT : ClassId} {cell : Cell} (hx : covers x f.pc = true) (h0 : x.catchType ≠ 0) (hl : S.vm.ClassLinks e.platform f.method.cls x.catchType cT) (hcell : S.heap[a]? = some cell) (hobj : ∀ k, cell.vm ≠ .statics k) (hk : ∃ k, S.vm.classes[cell.cls]? = some k) (hc : ∃ k, S.vm.classes[cT]? = some k) :
    wp (findHandler.go f a (x :: t)) Q E e d acts S ↔ if S.vm.assignable cell.cls cT = true then Q (.found x.handlerPc) d acts (S.setVm (S.vm.noted f.method.cls x.catchType (.cls cT))) else wp (findHandler.go f a t) Q E e d acts (S.setVm (S.vm.noted f.method.cls x.catchType (.cls cT))) := by
  simp only [covers] at hx
  obtain ⟨ha, ht⟩ := (resolveClass_links e.toSetting hl).op (op := VmOp.resolveClass f.method.cls x.catchType) rfl
  have hal : S.vm.Alike (S.vm.noted f.method.cls x.catchType (.cls cT)) := (Vm.Alike.refl S.vm).noted _ _ _
  obtain ⟨k1, hk1⟩ := hk
  obtain ⟨k2, hk2⟩ := hc
  obtain ⟨k1', hk1', -⟩ := hal.2.2 _ _ hk1
  obtain ⟨k2', hk2', -⟩ := hal.2.2 _ _ hk2
  have has := hal.assignable cell.cls cT
  cases hfit : S.vm.assignable cell.cls cT <;> rw [hfit] at has <;> simp [findHandler.go, hx, h0, ha, ht, hcell, hobj, hk1', hk2', has, VmOp.dirties, VmOp.acts]
theorem xq_down {s₀ : State} {f : JFrame} {a : Addr} {cell : Cell} (hobj : ∀ k, cell.vm ≠ .statics k) (hk0 : ∃ k, s₀.vm.classes[cell.cls]? = some k) (x : ExceptionTableEntry) (suf : List ExceptionTableEntry) (hx : covers x f.pc = true) (h0 : x.catchType ≠ 0) {cT : ClassId} (hl : s₀.vm.ClassLinks e.platform f.method.cls x.catchType cT) (hfit : s₀.vm.assignable cell.cls cT = true) :
    ∀ (pre : List ExceptionTableEntry) (S : State), s₀.WarmedH S.vm → S.heap[a]? = some cell → (∀ y ∈ pre, covers y f.pc = false ∨ (y.catchType ≠ 0 ∧ ∃ c9, s₀.vm.ClassLinks e.platform f.method.cls y.catchType c9 ∧ s₀.vm.assignable cell.cls c9 = false)) →
      ∃ vm', s₀.WarmedH vm' ∧ ∀ (Q : Handler → Pre) (E : CtlPost) (d : Bool) (acts : List Action), wp (findHandler.go f a (pre ++ x :: suf)) Q E e d acts S ↔ Q (.found x.handlerPc) d acts (S.setVm vm') := by
  obtain ⟨k0, hk0⟩ := hk0
  intro pre
  induction pre with
  | nil =>
    intro S hW hcell _
    obtain ⟨k0', hk0', -⟩ := hW.alike.2.2 _ _ hk0
    obtain ⟨dk, _, _, kt, hd, _, _, _, _, hkt, _, hop⟩ := hl.here
    obtain ⟨kt', hkt', -⟩ := hW.alike.2.2 _ _ hkt
    refine ⟨_, hW.noted hd hop (State.rightAt_cls hl), fun Q E d acts => ?_⟩
    rw [List.nil_append, xq_row hx h0 (hW.classLinks hl) hcell hobj ⟨k0', hk0'⟩ ⟨kt', hkt'⟩, if_pos (by rw [hW.alike.assignable]; exact hfit)]
  | cons y ys ih =>
    intro S hW hcell hpass
    obtain ⟨k0', hk0', -⟩ := hW.alike.2.2 _ _ hk0
    have hrest := fun z9 hz9 => hpass z9 (List.mem_cons_of_mem y hz9)
    cases hcov : covers y f.pc with
    | false =>
      obtain ⟨vm', hW', hq⟩ := ih S hW hcell hrest
      exact ⟨vm', hW', fun Q E d acts => by rw [List.cons_append, W.findHandler_go_skip hcov]; exact hq Q E d acts⟩
    | true =>
      rcases hpass y List.mem_cons_self with h9 | ⟨h9, c9, hl9, hno⟩
      · rw [h9] at hcov; cases hcov
      · obtain ⟨dk, _, _, kt, hd, _, _, _, _, hkt, _, hop⟩ := hl9.here
        obtain ⟨kt', hkt', -⟩ := hW.alike.2.2 _ _ hkt
        obtain ⟨vm', hW', hq⟩ := ih (S.setVm (S.vm.noted f.method.cls y.catchType (.cls c9))) (hW.noted hd hop (State.rightAt_cls hl9)) hcell hrest
        refine ⟨vm', hW', fun Q E d acts => ?_⟩
        rw [List.cons_append, xq_row hcov h9 (hW.classLinks hl9) hcell hobj ⟨k0', hk0'⟩ ⟨kt', hkt'⟩, if_neg (by rw [hW.alike.assignable, hno]; decide)]
        exact hq Q E d acts
theorem xq_step {tb : Tables} {S target : State} {g : JFrame} {a : Addr} (h : At S g.method c below) {pc : Nat} {vm' : Vm} (hfind : xq_F e ((S.setTop g).pushFrame (.throwing a)) g a (.found pc) vm') (hrest : Steps tb e below ((S.setVm vm').setTop { g with pc := pc, stack := [.ref a] }) target) : Steps tb e below ((S.setTop g).pushFrame (.throwing a)) target := by
  obtain ⟨hgo, hw⟩ := h.throwing a
  refine Steps.head hgo hw ?_
  rw [stepThread_throwing (frames_entered h.top _)]
  have key : (stepThrowing e ((S.setTop g).pushFrame (.throwing a)) a (.java g :: S.frames.tail)).1 = ((((S.setTop g).pushFrame (.throwing a)).setVm vm').setFrames (.java { g with pc := pc, stack := [.ref a] } :: S.frames.tail)) := by
    simp only [stepThrowing, searchFrame, vmDo]
    generalize hr : Sem.go _ e false [] ((S.setTop g).pushFrame (.throwing a)) = res
    obtain ⟨as, rfl, ha⟩ := Sem.eq_ok_of hr (a := Handler.found pc) (s' := ((S.setTop g).pushFrame (.throwing a)).setVm vm') (acts' := []) (by simp [hfind _ _ _ _])
    rfl
  rw [key]
  obtain ⟨g₀, hg⟩ := Option.isSome_iff_exists.mp h.top
  obtain ⟨r, hr⟩ := State.topJava?_eq_some.mp hg
  have hr' : (S.setVm vm').frames = .java g₀ :: r := hr
  have hmv : ∀ (u : State) (F G : List Frame), ((u.setFrames F).setVm vm').setFrames G = (u.setVm vm').setFrames G := fun u F G => by
    have h1 : (u.setFrames F).setVm vm' = (u.setVm vm').setFrames F := rfl
    rw [h1, State.setFrames_setFrames]
  rw [State.setTop_of_frames _ hr'] at hrest
  rw [hr, List.tail_cons, State.pushFrame, hmv, State.setTop_of_frames _ hr, hmv]
  exact hrest
/-- caught by the row x; the rows ahead don't cover, or name what E isn't -/
theorem xq_catch {Q : State → Prop} {pc : Nat} {ls : Array Slot} {rest : List Value} {own nm E : String} {ce : Cell} {q : Addr} (hown : s.vm.findClass own = some m.cls) (pre : List ExceptionTableEntry) (x : ExceptionTableEntry) (suf : List ExceptionTableEntry) (hsplit : c.exceptionTable.toList = pre ++ x :: suf)
    (hpass : ∀ y ∈ pre, covers y pc = false ∨ (y.catchType ≠ 0 ∧ ∃ n9 : String, (Cond.classLink own y.catchType n9).before args s = true ∧ va_Nc E n9 s)) (hx : covers x pc = true) (h0 : x.catchType ≠ 0) (hlink : (Cond.classLink own x.catchType nm).before args s = true) (hcast : (Cond.castable E nm).before args s = true) (hce : H[q]? = some ce) (hv : ce.vm = .none) (hcl : s.vm.findClass E = some ce.cls)
    (kk : W p l e R s m args below meth c H locs k z Q (F0 m x.handlerPc ls [.ref q])) : xq_W p l e R s m args below meth c H locs k z Q (F0 m pc ls rest) q := by
  intro T hT X
  have hpl : e.platform.magicAccessors = ({} : Platform).magicAccessors := by rw [X.admits.platform]
  obtain ⟨c3, c4, hc3, hc4, hasg⟩ := Cond.castable_spec hcast
  cases Option.some.inj (hc3.symm.trans hcl)
  obtain ⟨c5, hc5, hcl5⟩ := Cond.classLink_spec hown hlink e.platform hpl
  cases Option.some.inj (hc4.symm.trans hc5)
  have hk0 : ∃ k9, s.vm.classes[ce.cls]? = some k9 := by obtain ⟨k9, h9, -⟩ := Vm.findClass_spec hcl; exact ⟨k9, h9⟩
  obtain ⟨vm', hW', hq⟩ := xq_down (e := e) (f := F0 m pc ls rest) (a := q) (fun k9 h9 => by rw [hv] at h9; cases h9) hk0 x suf hx h0 hcl5 hasg pre ((T.setTop (F0 m pc ls rest)).pushFrame (.throwing q)) X.warmed (by show T.heap[q]? = _; rw [hT]; exact hce) (fun y hy => by
    rcases hpass y hy with h9 | ⟨h9, n9, hl9, hn9⟩
    · exact Or.inl h9
    · obtain ⟨c6, hc6, hcl6⟩ := Cond.classLink_spec hown hl9 e.platform hpl
      obtain ⟨a8, b8, h1, h2, h3⟩ := hn9
      cases Option.some.inj (h1.symm.trans hcl)
      cases Option.some.inj (h2.symm.trans hc6)
      exact Or.inr ⟨h9, _, hcl6, h3⟩)
  obtain ⟨t, a1, b1⟩ := kk (T.setVm vm') hT (X.noted hW')
  refine ⟨t, xq_step (g := F0 m pc ls rest) X.here (vm' := vm') (pc := x.handlerPc) (fun Q9 E9 d9 as9 => ?_) a1, b1⟩
  rw [W.findHandler_eq (meth := meth) (code := c) X.method' X.code, hsplit]
  exact hq Q9 E9 d9 as9
/-! words that read a cell of statics: they hold as long as that cell stays -/
def xq_Z (w : Cond) (A : Nat → Prop) (U : State) (H : Heap) : Prop := ∃ a : Nat, a < H.size ∧ ¬ A a ∧ ∀ (U' : State) (av : Array Value), U.vm.Alike U'.vm → U'.heap[a]? = H[a]? → w.before av U' = true
theorem xq_Z.at {w : Cond} {A B : Nat → Prop} {U U1 : State} {H H1 : Heap} (h : xq_Z w A U H) (hvm : U.vm.Alike U1.vm) (hq : ∀ a : Nat, a < H.size → ¬ A a → H1[a]? = H[a]?) (hAB : ∀ q, B q → A q) : xq_Z w B U1 H1 := by
  obtain ⟨a, h1, h2, h3⟩ := h
  have h4 := hq a h1 h2
  refine ⟨a, ?_, fun z9 => h2 (hAB a z9), fun U' av h5 h6 => h3 U' av (hvm.trans h5) (h6.trans h4)⟩
  rw [Array.getElem?_eq_getElem h1] at h4
  exact (Array.getElem?_eq_some_iff.mp h4).1
theorem xq_Z.use {w : Cond} {A : Nat → Prop} {U : State} {H : Heap} (h : xq_Z w A U H) {U' : State} (av : Array Value) (hvm : U.vm.Alike U'.vm) (hq : ∀ a : Nat, a < H.size → ¬ A a → U'.heap[a]? = H[a]?) : w.before av U' = true := by
  obtain ⟨a, h1, h2, h3⟩ := h
  exact h3 U' av hvm (hq a h1 h2)
theorem xq_Zlay {av : Array Value} {C n d : String} {A : Nat → Prop} (h : (Cond.laysStatic C n d).before av s = true) (hA : ∀ a : Nat, a < s.heap.size → ¬ A a) : xq_Z (.laysStatic C n d) A s s.heap := by
  obtain ⟨c9, k9, i9, f9, a9, ce, h1, h2, h3, h4, h5, h6, h7, h8, h9⟩ := Cond.laysStatic_spec h
  have hlt := (Array.getElem?_eq_some_iff.mp h5).1
  refine ⟨a9, hlt, hA a9 hlt, fun U' av' hvm hq => ?_⟩
  obtain ⟨k', hi', he⟩ := State.fieldFound?_setVm hvm h2
  show (Cond.laysStatic C n d).holds av' U' none U' [] = true
  exact Cond.laysStatic_of (by rw [hvm.findClass]; exact h1) hi' h3 (by rw [he]; exact h4) (by rw [hq]; exact h5) h6 h7 h8 (by rw [he]; exact h9)
theorem xq_Zref {av : Array Value} {C n d : String} {A : Nat → Prop} (hl : (Cond.laysStatic C n d).before av s = true) (hini : (Cond.initialized C).before av s = true) (h : (Cond.isRef (.static C n d)).before av s = true) (hA : ∀ a : Nat, a < s.heap.size → ¬ A a) : xq_Z (.isRef (.static C n d)) A s s.heap := by
  have key : ∀ {v : Value}, v.isRef = true → va_Z C n d v A s s.heap → xq_Z (.isRef (.static C n d)) A s s.heap := by
    intro v hv ⟨cf, kf, fi, f9, a9, ce, h1, h2, h3, h4, h5, h6, h7, h8⟩
    refine ⟨a9, (Array.getElem?_eq_some_iff.mp h5).1, h8, fun U' av' hvm hq => ?_⟩
    obtain ⟨k', hi', he⟩ := State.fieldFound?_setVm hvm h1
    have h4' : k'.statics = some a9 := by rw [he]; exact h4
    have hi2 : U'.fieldFound? C n d = some (cf, k', fi, f9) := hi'
    have h3' : k'.init = .initialized := by rw [he]; exact h3
    have hev : (Term.static C n d).eval av' U' none [] U' = some v := by
      simp [Term.eval, State.fieldNamed?, hi2, h2, h4', hq, h5, h6, h7]
    simp only [Cond.before, Cond.holds, Cond.value, hev]
    clear he hi' hi2 hev h7
    cases v <;> first | rfl | (simp [Value.isRef] at hv)
  rcases va_Zqof hl hini h hA with h9 | ⟨t, h9⟩
  · exact key rfl h9
  · exact key rfl h9
/-- the same frame, seen as if the method were called at the heap that is there now -/
theorem xq_anew {T : State} (X : Stand p l e R s m args below meth c T locs k z) {R' : Room} (h1 : R'.frames ≤ R.frames) (h2 : R'.locals ≤ R.locals) (h3 : k + R'.cells ≤ R.cells) (h4 : z + R'.slots ≤ R.slots) : Stand p l e R' ((T.setVm s.vm).setFrames (.invoking m args :: below)) m args below meth c T [] 0 0 := by
  have htop : (T.setVm s.vm).topJava?.isSome := X.here.top
  have hF : ((T.setVm s.vm).setFrames (.invoking m args :: below)).frames = .invoking m args :: below := State.frames_setFrames _ (State.cur_lt_of_top htop)
  have hlim : e.platform.stackLimits (T.setVm s.vm).me = e.platform.stackLimits s.me := X.limits
  have hbyt : (T.setVm s.vm).me.stackBytes = s.me.stackBytes := X.bytes
  have hdrop : T.heap.toList.drop T.heap.size = [] := List.drop_eq_nil_of_le (Nat.le_of_eq Array.length_toList)
  obtain ⟨g₀, hg0⟩ := Option.isSome_iff_exists.mp htop
  obtain ⟨r, hr⟩ := State.topJava?_eq_some.mp hg0
  refine ⟨X.admits, X.cas, X.clock, hF, ?_, X.hears, X.method, X.code, X.here, X.tail, X.warmed, ?_, ?_, ?_, Nat.le_refl _, Nat.le_refl _, ?_, ?_, fun a c9 h9 => ⟨c9, h9, rfl, rfl, fun _ _ => rfl⟩⟩
  · have hroom := X.room
    have hU : ((T.setVm s.vm).setFrames (.invoking m args :: below)).localsInUse = s.localsInUse := by
      rw [State.localsInUse_invoking hF (meth := meth) (c := c) X.method X.code, State.localsInUse_invoking X.frames X.method X.code]
    have q1 := X.heapSize
    have q2 := X.used
    simp only [State.hasRoom, Bool.and_eq_true, decide_eq_true_eq] at hroom ⊢
    obtain ⟨⟨⟨⟨a1, a2, a3, a4, a5, a6⟩, a7⟩, a8⟩, a9⟩ := hroom
    rw [X.frames, List.length_cons] at a2 a3
    simp only [hF, hU, List.length_cons, State.stackLimits_setFrames, State.stackBytes_setFrames, hlim, hbyt]
    refine ⟨⟨⟨⟨by omega, by omega, by omega, by omega, by omega, a6⟩, ?_⟩, ?_⟩, X.book⟩
    · show T.heap.size + R'.cells ≤ e.platform.maxCells
      omega
    · show T.slotsUsed + R'.slots ≤ e.platform.maxSlots
      omega
  · rw [State.stackLimits_setFrames]; rfl
  · rw [State.stackBytes_setFrames]; rfl
  · obtain ⟨t, ht, -⟩ := State.frames_cons hr
    show T.setVm s.vm = { ((T.setVm s.vm).setFrames (.invoking m args :: below)).setFrames (T.setVm s.vm).frames with heap := T.heap, slotsUsed := T.slotsUsed }
    rw [State.setFrames_setFrames, State.setFrames_self ht]
    rfl
  · show T.slotsUsed = T.slotsUsed + ((T.heap.toList.drop T.heap.size).map (·.slots.size)).sum
    rw [hdrop]; rfl
  · show ((T.heap.toList.drop T.heap.size).map (·.slots.size)).sum ≤ 0
    rw [hdrop]; exact Nat.le_refl _
/-- the four words of a throw that read statics -/
def xq_sw : List Cond := [.isRef (.static Bundle.tN "UNASSIGNED_STACK" Bundle.steD), .isRef (.static Bundle.tN "SUPPRESSED_SENTINEL" Bundle.listD), .laysStatic Bundle.tN "UNASSIGNED_STACK" Bundle.steD, .laysStatic Bundle.tN "SUPPRESSED_SENTINEL" Bundle.listD]
/-- 'throw new E("text")' and out: new; dup; ldc; invokespecial; athrow. hat: each word that is asked holds by the tables, or reads a static that stays -/
theorem xq_throw {cc : ByteArray} {pc : Nat} {ls : Array Slot} {rest : List Value} {A : Nat → Prop} (hx : p.tables.exec = Jvm.exec) (hb : c.code = cc) (htr : l.stackTraces = false) {own E text : String} {names : List String} {ik is ic sa : Nat} (hown : s.vm.findClass own = some m.cls) (hE : Bundle.fit E = true) (hnames : ∀ n ∈ names, Bundle.fit n = true)
    (hk9 : (Cond.classLink own ik E).onTables = true ∧ (Cond.classLink own ik E).before args s = true) (hi9 : (Cond.initialized E).onTables = true ∧ (Cond.initialized E).before args s = true) (hstr : vk_R own is text sa s) (hat : ∀ w ∈ Bundle.ownAtoms own ic E names, (w.onTables = true ∧ w.before args s = true) ∨ xq_Z w A s s.heap) (hS : va_S A s.heap H locs) (hsize : ls.size = c.maxLocals)
    (d0 : decode cc pc = .ok (.new ik, 3)) (d3 : decode cc (pc + 3) = .ok (.dup, 1)) (d4 : decode cc (pc + 4) = .ok (.ldc is, 2)) (d6 : decode cc (pc + 6) = .ok (.invokespecial ic, 3)) (d9 : decode cc (pc + 9) = .ok (.athrow, 1)) (hout : c.exceptionTable.toList = [])
    (hR1 : names.length + 3 < R.frames) (hR2 : (rest.map fun v => v.category).sum + (13 * (names.length + 1) + 43) ≤ R.locals) (hR3 : k + 1 ≤ R.cells) (hR4 : z + 6 ≤ R.slots) (hlk : meth.locks = false)
    (hend : ∀ t : State, s.vm.Alike t.vm → H.size ≤ t.heap.size → (∀ q : Nat, q < H.size → t.heap[q]? = H[q]?) → Qx s E t) (hf : ∀ q ∈ locs, free q.base) (hk : k + 1 ≤ mc) (hz : z + 6 ≤ ms) :
    W p l e R s m args below meth c H locs k z (xq_Q below Qr Qx args s mc ms free) (F0 m pc ls rest) := by
  intro T hT X
  have htp : e.platform.stackTraces = false := (show e.platform.stackTraces = l.stackTraces by rw [X.admits.platform]).trans htr
  have Y := xq_anew X (R' := { frames := R.frames, locals := R.locals, cells := 1, slots := 6 }) (Nat.le_refl _) (Nat.le_refl _) hR3 hR4
  obtain ⟨u, hu⟩ : ∃ u, u = (T.setVm s.vm).setFrames (.invoking m args :: below) := ⟨_, rfl⟩
  rw [← hu] at Y
  have hvm : u.vm = s.vm := by rw [hu]; rfl
  have hhp : u.heap = H := by rw [hu]; exact hT
  have hW0 : s.WarmedH u.vm := by rw [hvm]; exact State.WarmedH.refl s
  have hto : ∀ w : Cond, w.onTables = true → w.before args s = true → w.before args u = true := fun w h1 h2 => va_tabs h1 hvm.symm h2
  have hall : ∀ w ∈ Bundle.ownAtoms own ic E names, w.before args u = true := fun w hw => by
    rcases hat w hw with ⟨h1, h2⟩ | h1
    · exact hto w h1 h2
    · exact h1.use args hW0.alike (fun a h2 h3 => by rw [hhp]; exact hS.2.1 a h2 h3)
  have hown' : u.vm.findClass own = some m.cls := by rw [hvm]; exact hown
  obtain ⟨vm₁, cX, kX, hfX, hkX, -, -, X₁, st1⟩ := Y.newCold hx (own := own) (C := E) (index := ik) (n := 6) hown' (hto _ hk9.1 hk9.2) (hall _ (by simp [Bundle.ownAtoms])) (hto _ hi9.1 hi9.2) (g := F0 m pc ls rest) rfl (by rw [hb]; exact d0) (Nat.le_refl _) (Nat.le_refl _)
  generalize hT1 : (T.setVm vm₁).pushCell { cls := cX, slots := kX.instanceTypes.map defaultValue, vm := .none } = T1 at X₁ st1
  have hcat : (Value.ref T.heap.size).category = 1 := rfl
  have hnew : T1.heap[T.heap.size]? = some (freshCell cX kX) := by rw [← hT1]; exact State.heap_pushCell_size _ _
  have d3' : decode c.code (pc + 3) = .ok (.dup, 1) := by rw [hb]; exact d3
  have hstr' : vk_R own is text sa u := hstr.warm hW0
  obtain ⟨U, hst, hrun, hended, hW, hsame, ce, hce, hO⟩ := X₁.ctorThrowS hx htp (own := own) (cls := E) (names := names) (ic := ic) hown' hE hnames hall (fun x9 hx9 => nomatch hx9) hfX hkX hnew (by rw [hhp, hT]; exact Nat.le_refl _) (msg := .ref sa) rfl
    (g := { method := m, pc := pc + 6, locals := ls, stack := .ref sa :: .ref T.heap.size :: .ref T.heap.size :: rest, locked := none }) rfl hsize rfl rfl (rest := rest) rfl (by rw [hb]; exact d6) (by rw [hb]; exact d9) (fun x9 hx9 => by rw [hout] at hx9; cases hx9) hR1 (by simp only [List.map_cons, List.sum_cons, hcat]; omega) hlk
  have hWs : s.WarmedH U.vm := State.WarmedH.trans hW0 hW
  obtain ⟨e1, e2, e3, e4, e5, e6⟩ := id hsame
  rw [hhp] at e2
  have hkeep : ∀ q : Nat, q < H.size → U.heap[q]? = H[q]? := by
    intro q hq
    have hq' : u.heap[q]? = some H[q] := by rw [hhp]; exact Array.getElem?_eq_getElem hq
    obtain ⟨c9, g1, g2, g3, g4⟩ := e6 q _ hq'
    have hs9 : c9.slots = (H[q]).slots := Array.ext_getElem? fun i => g4 i (fun h9 => nomatch h9)
    have h9 : c9 = H[q] := by rw [g2, hs9]
    have g5 : U.heap[q]? = some c9 := g1
    rw [g5, h9, Array.getElem?_eq_getElem hq]
  have hcl : s.vm.findClass E = some ce.cls := by
    have h9 := hO.cls
    rw [hvm] at h9
    exact h9
  have hnewS : s.sameButNew ({ U with vm := s.vm } : State) locs mc ms := by
    subst hu
    obtain ⟨f1, f2⟩ := hsame
    rw [State.setFrames_setFrames] at f1
    have h2 : (T.setVm s.vm).sameButNew ({ U with vm := s.vm } : State) [] (0 + 1) (0 + 6) := ⟨f1, f2⟩
    have h3 := X.same.trans h2
    rw [List.append_nil] at h3
    exact h3.mono hk hz
  refine ⟨U, st1 _ ?_, .threw T.heap.size, hrun, hended, locs, hWs, hnewS, hf, Or.inr ⟨T.heap.size, E, ce, rfl, hend U hWs.alike e2 hkeep, hce, hO.vm, hcl⟩⟩
  show Steps p.tables e below (T1.setTop { method := m, pc := pc + 3, locals := ls, stack := .ref T.heap.size :: rest, locked := none }) _
  jvm_step X₁.here [X₁.here.top, hx, d3', Value.category]
  exact X₁.ldcString hx (own := own) (text := text) (index := is) (a := sa) hown' hstr'.1 hstr'.2
    (g := { method := m, pc := pc + 4, locals := ls, stack := .ref T.heap.size :: .ref T.heap.size :: rest, locked := none }) rfl (by rw [hb]; exact d4) _ hst
end XQ
