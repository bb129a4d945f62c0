-- ===== PART A: goes FIRST, ahead of the names: the tables' words, and 'selects' of the private methods out of them =====
/-- a private method of a class that the tables say can be made, by its rows of tables_1 -/
def lw_okq (q : MethodName × Nat) : Prop := (q.1.cls ≠ "java/lang/invoke/MethodHandle" ∧ q.1.cls ≠ "java/lang/invoke/VarHandle") ∧ Cond.instantiable q.1.cls q.2 ∈ tables_1 ∧ Cond.privateMethod q.1 ∈ tables_1 ∧ Cond.instanceMethod q.1 ∈ tables_1
theorem lw_p0 : lw_okq (⟨"PairedGates", "laneAt", "(I)LPairedGates$Lane;"⟩, 5) := ⟨⟨by decide +kernel, by decide +kernel⟩, List.mem_of_getElem? (i := 18) (by decide +kernel), List.mem_of_getElem? (i := 247) (by decide +kernel), List.mem_of_getElem? (i := 248) (by decide +kernel)⟩
theorem lw_p1 : lw_okq (⟨"java/lang/Throwable", "fillInStackTrace", "(I)Ljava/lang/Throwable;"⟩, 6) := ⟨⟨by decide +kernel, by decide +kernel⟩, List.mem_of_getElem? (i := 289) (by decide +kernel), List.mem_of_getElem? (i := 287) (by decide +kernel), List.mem_of_getElem? (i := 288) (by decide +kernel)⟩
theorem lw_p2 : lw_okq (⟨"PairedGates$Blobs", "addBeam", "(I)V"⟩, 3) := ⟨⟨by decide +kernel, by decide +kernel⟩, List.mem_of_getElem? (i := 54) (by decide +kernel), List.mem_of_getElem? (i := 371) (by decide +kernel), List.mem_of_getElem? (i := 372) (by decide +kernel)⟩
theorem lw_p3 : lw_okq (⟨"PairedGates$Lane", "sendBodies", "(LPairedGates$Refunds;)I"⟩, 10) := ⟨⟨by decide +kernel, by decide +kernel⟩, List.mem_of_getElem? (i := 27) (by decide +kernel), List.mem_of_getElem? (i := 375) (by decide +kernel), List.mem_of_getElem? (i := 376) (by decide +kernel)⟩
theorem lw_p4 : lw_okq (⟨"PairedGates$Lane", "countLeaver", "(LPairedGates$Body;LPairedGates$Refunds;)V"⟩, 10) := ⟨⟨by decide +kernel, by decide +kernel⟩, List.mem_of_getElem? (i := 27) (by decide +kernel), List.mem_of_getElem? (i := 387) (by decide +kernel), List.mem_of_getElem? (i := 388) (by decide +kernel)⟩
theorem lw_p5 : lw_okq (⟨"PairedGates$Body", "endsHigh", "()Z"⟩, 5) := ⟨⟨by decide +kernel, by decide +kernel⟩, List.mem_of_getElem? (i := 114) (by decide +kernel), List.mem_of_getElem? (i := 395) (by decide +kernel), List.mem_of_getElem? (i := 396) (by decide +kernel)⟩
theorem lw_p6 : lw_okq (⟨"PairedGates$Body", "startsLow", "()Z"⟩, 5) := ⟨⟨by decide +kernel, by decide +kernel⟩, List.mem_of_getElem? (i := 114) (by decide +kernel), List.mem_of_getElem? (i := 399) (by decide +kernel), List.mem_of_getElem? (i := 400) (by decide +kernel)⟩
theorem lw_p7 : lw_okq (⟨"PairedGates$Lane", "renewRow", "(I)V"⟩, 10) := ⟨⟨by decide +kernel, by decide +kernel⟩, List.mem_of_getElem? (i := 27) (by decide +kernel), List.mem_of_getElem? (i := 408) (by decide +kernel), List.mem_of_getElem? (i := 409) (by decide +kernel)⟩
theorem lw_p8 : lw_okq (⟨"PairedGates$Lane", "sharersOf", "(I)I"⟩, 10) := ⟨⟨by decide +kernel, by decide +kernel⟩, List.mem_of_getElem? (i := 27) (by decide +kernel), List.mem_of_getElem? (i := 412) (by decide +kernel), List.mem_of_getElem? (i := 413) (by decide +kernel)⟩
theorem lw_p9 : lw_okq (⟨"PairedGates$Lane", "shareBlob", "(III)I"⟩, 10) := ⟨⟨by decide +kernel, by decide +kernel⟩, List.mem_of_getElem? (i := 27) (by decide +kernel), List.mem_of_getElem? (i := 416) (by decide +kernel), List.mem_of_getElem? (i := 417) (by decide +kernel)⟩
theorem lw_p10 : lw_okq (⟨"PairedGates$Lane", "sideFor", "(I)I"⟩, 10) := ⟨⟨by decide +kernel, by decide +kernel⟩, List.mem_of_getElem? (i := 27) (by decide +kernel), List.mem_of_getElem? (i := 426) (by decide +kernel), List.mem_of_getElem? (i := 427) (by decide +kernel)⟩
theorem lw_p11 : lw_okq (⟨"PairedGates$Lane", "handOutTokens", "()V"⟩, 10) := ⟨⟨by decide +kernel, by decide +kernel⟩, List.mem_of_getElem? (i := 27) (by decide +kernel), List.mem_of_getElem? (i := 435) (by decide +kernel), List.mem_of_getElem? (i := 436) (by decide +kernel)⟩
theorem lw_p12 : lw_okq (⟨"PairedGates$Lane", "someBodyHasToken", "()Z"⟩, 10) := ⟨⟨by decide +kernel, by decide +kernel⟩, List.mem_of_getElem? (i := 27) (by decide +kernel), List.mem_of_getElem? (i := 444) (by decide +kernel), List.mem_of_getElem? (i := 445) (by decide +kernel)⟩
theorem lw_p13 : lw_okq (⟨"PairedGatesModel", "refused", "(I)Z"⟩, 31) := ⟨⟨by decide +kernel, by decide +kernel⟩, List.mem_of_getElem? (i := 588) (by decide +kernel), List.mem_of_getElem? (i := 699) (by decide +kernel), List.mem_of_getElem? (i := 700) (by decide +kernel)⟩
theorem lw_p14 : lw_okq (⟨"PairedGatesModel", "tick", "(I)I"⟩, 31) := ⟨⟨by decide +kernel, by decide +kernel⟩, List.mem_of_getElem? (i := 588) (by decide +kernel), List.mem_of_getElem? (i := 707) (by decide +kernel), List.mem_of_getElem? (i := 708) (by decide +kernel)⟩
theorem lw_p15 : lw_okq (⟨"PairedGatesModel", "takeOldest", "(I)I"⟩, 31) := ⟨⟨by decide +kernel, by decide +kernel⟩, List.mem_of_getElem? (i := 588) (by decide +kernel), List.mem_of_getElem? (i := 711) (by decide +kernel), List.mem_of_getElem? (i := 712) (by decide +kernel)⟩
def lw_privs_1 : List (MethodName × Nat) := [(⟨"PairedGates", "laneAt", "(I)LPairedGates$Lane;"⟩, 5), (⟨"java/lang/Throwable", "fillInStackTrace", "(I)Ljava/lang/Throwable;"⟩, 6), (⟨"PairedGates$Blobs", "addBeam", "(I)V"⟩, 3), (⟨"PairedGates$Lane", "sendBodies", "(LPairedGates$Refunds;)I"⟩, 10), (⟨"PairedGates$Lane", "countLeaver", "(LPairedGates$Body;LPairedGates$Refunds;)V"⟩, 10), (⟨"PairedGates$Body", "endsHigh", "()Z"⟩, 5), (⟨"PairedGates$Body", "startsLow", "()Z"⟩, 5), (⟨"PairedGates$Lane", "renewRow", "(I)V"⟩, 10), (⟨"PairedGates$Lane", "sharersOf", "(I)I"⟩, 10), (⟨"PairedGates$Lane", "shareBlob", "(III)I"⟩, 10), (⟨"PairedGates$Lane", "sideFor", "(I)I"⟩, 10), (⟨"PairedGates$Lane", "handOutTokens", "()V"⟩, 10), (⟨"PairedGates$Lane", "someBodyHasToken", "()Z"⟩, 10), (⟨"PairedGatesModel", "refused", "(I)Z"⟩, 31), (⟨"PairedGatesModel", "tick", "(I)I"⟩, 31), (⟨"PairedGatesModel", "takeOldest", "(I)I"⟩, 31)]
theorem lw_r1 : ∀ q ∈ lw_privs_1, lw_okq q := List.forall_mem_cons.mpr ⟨lw_p0, List.forall_mem_cons.mpr ⟨lw_p1, List.forall_mem_cons.mpr ⟨lw_p2, List.forall_mem_cons.mpr ⟨lw_p3, List.forall_mem_cons.mpr ⟨lw_p4, List.forall_mem_cons.mpr ⟨lw_p5, List.forall_mem_cons.mpr ⟨lw_p6, List.forall_mem_cons.mpr ⟨lw_p7, List.forall_mem_cons.mpr ⟨lw_p8, List.forall_mem_cons.mpr ⟨lw_p9, List.forall_mem_cons.mpr ⟨lw_p10, List.forall_mem_cons.mpr ⟨lw_p11, List.forall_mem_cons.mpr ⟨lw_p12, List.forall_mem_cons.mpr ⟨lw_p13, List.forall_mem_cons.mpr ⟨lw_p14, List.forall_mem_cons.mpr ⟨lw_p15, fun _ h => absurd h List.not_mem_nil⟩⟩⟩⟩⟩⟩⟩⟩⟩⟩⟩⟩⟩⟩⟩⟩
theorem lw_p16 : lw_okq (⟨"PairedGatesModel", "giveBack", "(I)V"⟩, 31) := ⟨⟨by decide +kernel, by decide +kernel⟩, List.mem_of_getElem? (i := 588) (by decide +kernel), List.mem_of_getElem? (i := 715) (by decide +kernel), List.mem_of_getElem? (i := 716) (by decide +kernel)⟩
theorem lw_p17 : lw_okq (⟨"PairedGatesModel", "look", "(I)V"⟩, 31) := ⟨⟨by decide +kernel, by decide +kernel⟩, List.mem_of_getElem? (i := 588) (by decide +kernel), List.mem_of_getElem? (i := 719) (by decide +kernel), List.mem_of_getElem? (i := 720) (by decide +kernel)⟩
theorem lw_p18 : lw_okq (⟨"PairedGatesModel", "goOn", "(I)I"⟩, 31) := ⟨⟨by decide +kernel, by decide +kernel⟩, List.mem_of_getElem? (i := 588) (by decide +kernel), List.mem_of_getElem? (i := 723) (by decide +kernel), List.mem_of_getElem? (i := 724) (by decide +kernel)⟩
theorem lw_p19 : lw_okq (⟨"PairedGatesModel", "meets", "(III)Z"⟩, 31) := ⟨⟨by decide +kernel, by decide +kernel⟩, List.mem_of_getElem? (i := 588) (by decide +kernel), List.mem_of_getElem? (i := 727) (by decide +kernel), List.mem_of_getElem? (i := 728) (by decide +kernel)⟩
theorem lw_p20 : lw_okq (⟨"PairedGatesModel", "leave", "(II)V"⟩, 31) := ⟨⟨by decide +kernel, by decide +kernel⟩, List.mem_of_getElem? (i := 588) (by decide +kernel), List.mem_of_getElem? (i := 731) (by decide +kernel), List.mem_of_getElem? (i := 732) (by decide +kernel)⟩
theorem lw_p21 : lw_okq (⟨"PairedGatesModel", "copy", "(II)V"⟩, 31) := ⟨⟨by decide +kernel, by decide +kernel⟩, List.mem_of_getElem? (i := 588) (by decide +kernel), List.mem_of_getElem? (i := 735) (by decide +kernel), List.mem_of_getElem? (i := 736) (by decide +kernel)⟩
theorem lw_p22 : lw_okq (⟨"PairedGatesModel", "share", "(II)V"⟩, 31) := ⟨⟨by decide +kernel, by decide +kernel⟩, List.mem_of_getElem? (i := 588) (by decide +kernel), List.mem_of_getElem? (i := 739) (by decide +kernel), List.mem_of_getElem? (i := 740) (by decide +kernel)⟩
theorem lw_p23 : lw_okq (⟨"PairedGatesModel", "begin", "(II)V"⟩, 31) := ⟨⟨by decide +kernel, by decide +kernel⟩, List.mem_of_getElem? (i := 588) (by decide +kernel), List.mem_of_getElem? (i := 743) (by decide +kernel), List.mem_of_getElem? (i := 744) (by decide +kernel)⟩
theorem lw_p24 : lw_okq (⟨"PairedGatesModel", "pay", "(I)V"⟩, 31) := ⟨⟨by decide +kernel, by decide +kernel⟩, List.mem_of_getElem? (i := 588) (by decide +kernel), List.mem_of_getElem? (i := 747) (by decide +kernel), List.mem_of_getElem? (i := 748) (by decide +kernel)⟩
theorem lw_p25 : lw_okq (⟨"PairedGatesModel", "turn", "(I)V"⟩, 31) := ⟨⟨by decide +kernel, by decide +kernel⟩, List.mem_of_getElem? (i := 588) (by decide +kernel), List.mem_of_getElem? (i := 751) (by decide +kernel), List.mem_of_getElem? (i := 752) (by decide +kernel)⟩
theorem lw_p26 : lw_okq (⟨"PairedGatesModel", "hasSide", "(II)Z"⟩, 31) := ⟨⟨by decide +kernel, by decide +kernel⟩, List.mem_of_getElem? (i := 588) (by decide +kernel), List.mem_of_getElem? (i := 759) (by decide +kernel), List.mem_of_getElem? (i := 760) (by decide +kernel)⟩
theorem lw_p27 : lw_okq (⟨"PairedGatesModel", "isRepeated", "(I)Z"⟩, 31) := ⟨⟨by decide +kernel, by decide +kernel⟩, List.mem_of_getElem? (i := 588) (by decide +kernel), List.mem_of_getElem? (i := 763) (by decide +kernel), List.mem_of_getElem? (i := 764) (by decide +kernel)⟩
def lw_privs_2 : List (MethodName × Nat) := [(⟨"PairedGatesModel", "giveBack", "(I)V"⟩, 31), (⟨"PairedGatesModel", "look", "(I)V"⟩, 31), (⟨"PairedGatesModel", "goOn", "(I)I"⟩, 31), (⟨"PairedGatesModel", "meets", "(III)Z"⟩, 31), (⟨"PairedGatesModel", "leave", "(II)V"⟩, 31), (⟨"PairedGatesModel", "copy", "(II)V"⟩, 31), (⟨"PairedGatesModel", "share", "(II)V"⟩, 31), (⟨"PairedGatesModel", "begin", "(II)V"⟩, 31), (⟨"PairedGatesModel", "pay", "(I)V"⟩, 31), (⟨"PairedGatesModel", "turn", "(I)V"⟩, 31), (⟨"PairedGatesModel", "hasSide", "(II)Z"⟩, 31), (⟨"PairedGatesModel", "isRepeated", "(I)Z"⟩, 31)]
theorem lw_r2 : ∀ q ∈ lw_privs_2, lw_okq q := List.forall_mem_cons.mpr ⟨lw_p16, List.forall_mem_cons.mpr ⟨lw_p17, List.forall_mem_cons.mpr ⟨lw_p18, List.forall_mem_cons.mpr ⟨lw_p19, List.forall_mem_cons.mpr ⟨lw_p20, List.forall_mem_cons.mpr ⟨lw_p21, List.forall_mem_cons.mpr ⟨lw_p22, List.forall_mem_cons.mpr ⟨lw_p23, List.forall_mem_cons.mpr ⟨lw_p24, List.forall_mem_cons.mpr ⟨lw_p25, List.forall_mem_cons.mpr ⟨lw_p26, List.forall_mem_cons.mpr ⟨lw_p27, fun _ h => absurd h List.not_mem_nil⟩⟩⟩⟩⟩⟩⟩⟩⟩⟩⟩⟩
def lw_privs : List (MethodName × Nat) := lw_privs_1 ++ (lw_privs_2)
def lw_tbl : List Cond := k2_sels lw_privs ++ tables_1
theorem lw_privs_ok : ∀ q ∈ lw_privs, lw_okq q := by
  show ∀ q ∈ lw_privs_1 ++ (lw_privs_2), lw_okq q
  exact List.forall_mem_append.mpr ⟨lw_r1, lw_r2⟩
/-! THE CLAIM OUT OF ONE WALK OF THE LAW'S BODY. Your part is whole_start (and what it stands on); all else here is the same for every law, but numbers. -/
def R_law : String := "PairedGatesLaw"
def lw_P (b : Addr) (xs : List Int32) (args : Array Value) (s : State) : Prop := args = #[.ref b] ∧ s.IntsAt b xs ∧ xs.length ≤ 2048 ∧ (Jvm.Cond.and given_1 narrow_1).before args s = true
def lw_Q (_ : Array Value) (s : State) (o : Outcome) (t : State) : Prop := o = .returned (some (.int 1)) ∧ Framed s o t [] 601024 7293034
def lw_Z (below : List Frame) (a : Array Value) (s : State) : State → Prop := fun t => ∃ o, t.status = .running ∧ Ended t below o ∧ lw_Q a s o t
/-- the law's own end, with 1 on the stack, nothing written that was there before, its room as the claim has it -/
theorem lw_ret {p : Program} {l : Launch} {e : Env} {s : State} {m : MethodId} {below : List Frame} {meth : Method} {c : Code} {b : Nat} (hx : p.tables.exec = Jvm.exec) (hb : c.code = code) (hr : meth.sig.returnType = ret) (hlocks : meth.locks = false) {pc : Nat} {H : Heap} {ls : Array Slot} (hdg : decode code pc = .ok (.ireturn, 1)) : W p l e room_1 s m #[Value.ref b] below meth c H [] 601024 7293034 (lw_Z below #[Value.ref b] s) (F0 m pc ls [.int 1]) := by
  intro T hT X
  obtain ⟨fs, hret, hrun, hended, hW, hframe⟩ := X.leave (v := some (.int 1)) (hlocks := hlocks) (fun h => by rw [hr] at h; cases h)
  have hmeth' : T.vm.method? m = some meth := X.method'
  refine ⟨T.setFrames fs, ?_, .returned (some (.int 1)), hrun, hended, rfl, ⟨_, rfl⟩, hW, hframe⟩
  jvm_step X.here [X.here.top, hx, hb, hdg, hmeth', hr, ret, narrow_b1]
  (try refine ⟨rfl, ?_⟩); (try refine ⟨rfl, ?_⟩)
  first | (intro acts; rw [hret _ acts rfl rfl rfl]) | rw [hret _ _ rfl rfl rfl]
  exact Steps.refl _
/-- what holds at the law's entry: the machine, the code, the tables' words (any of lw_tbl by 'hts w (by decide +kernel)'), the script of L ints xs at the cell b, what the Statement gives of the start (any of its parts by flat_of_before) -/
def lw_At (p : Program) (s : State) (m : MethodId) (meth : Method) (c : Code) (b L : Nat) (xs : Nat → Int32) : Prop :=
  p.tables.exec = Jvm.exec ∧ c.code = code ∧ meth.sig.returnType = ret ∧ c.maxLocals = 7 ∧ s.vm.findClass R_law = some m.cls ∧ (∀ w ∈ lw_tbl, w.before #[Value.ref b] s = true) ∧ va_X b L xs s s.heap ∧ b < s.heap.size ∧ meth.locks = false ∧ (Jvm.Cond.and given_1 narrow_1).before #[Value.ref b] s = true
def R_Blobs : String := "PairedGates$Blobs"
def T_Blobs : u_T := fun k => match k with
  | 0 => ("PairedGates$Blobs", "first", "[I", true)
  | 1 => ("PairedGates$Blobs", "last", "[I", true)
  | _ => ("PairedGates$Blobs", "size", "I", false)
def t_Blobs : Nat → FieldType := fun k => match k with
  | 0 => .array .int
  | 1 => .array .int
  | _ => .int
theorem n_Blobs : ∀ a, a < 3 → ∀ b, b < 3 → a ≠ b → (T_Blobs a).2.1 ≠ (T_Blobs b).2.1 := by decide +kernel
theorem t_Blobs_ok : ∀ k, k < 3 → parseFieldDescriptor (T_Blobs k).2.2.1 = some (t_Blobs k) := by decide +kernel
def R_Body : String := "PairedGates$Body"
def T_Body : u_T := fun k => match k with
  | 0 => ("PairedGates$Body", "first", "I", false)
  | 1 => ("PairedGates$Body", "last", "I", false)
  | 2 => ("PairedGates$Body", "side", "I", false)
  | 3 => ("PairedGates$Body", "account", "I", false)
  | _ => ("PairedGates$Body", "length", "I", false)
def t_Body : Nat → FieldType := fun k => match k with
  | 0 => .int
  | 1 => .int
  | 2 => .int
  | 3 => .int
  | _ => .int
theorem n_Body : ∀ a, a < 5 → ∀ b, b < 5 → a ≠ b → (T_Body a).2.1 ≠ (T_Body b).2.1 := by decide +kernel
theorem t_Body_ok : ∀ k, k < 5 → parseFieldDescriptor (T_Body k).2.2.1 = some (t_Body k) := by decide +kernel
def R_Eye : String := "PairedGates$Eye"
def T_Eye : u_T := fun k => match k with
  | 0 => ("PairedGates$Eye", "told", "I", false)
  | 1 => ("PairedGates$Eye", "latest", "I", false)
  | 2 => ("PairedGates$Eye", "earlier", "I", false)
  | _ => ("PairedGates$Eye", "seen", "I", false)
def t_Eye : Nat → FieldType := fun k => match k with
  | 0 => .int
  | 1 => .int
  | 2 => .int
  | _ => .int
theorem n_Eye : ∀ a, a < 4 → ∀ b, b < 4 → a ≠ b → (T_Eye a).2.1 ≠ (T_Eye b).2.1 := by decide +kernel
theorem t_Eye_ok : ∀ k, k < 4 → parseFieldDescriptor (T_Eye k).2.2.1 = some (t_Eye k) := by decide +kernel
def R_Lane : String := "PairedGates$Lane"
def T_Lane : u_T := fun k => match k with
  | 0 => ("PairedGates$Lane", "eye", "LPairedGates$Eye;", true)
  | 1 => ("PairedGates$Lane", "blobs", "LPairedGates$Blobs;", true)
  | 2 => ("PairedGates$Lane", "paddles", "LPairedGates$Paddles;", true)
  | 3 => ("PairedGates$Lane", "queues", "[LPairedGates$TokenList;", true)
  | 4 => ("PairedGates$Lane", "counts", "[I", true)
  | 5 => ("PairedGates$Lane", "goals", "[I", true)
  | 6 => ("PairedGates$Lane", "openMode", "I", false)
  | 7 => ("PairedGates$Lane", "size", "I", false)
  | 8 => ("PairedGates$Lane", "row", "[LPairedGates$Body;", false)
  | _ => ("PairedGates$Lane", "nextRow", "[LPairedGates$Body;", false)
def t_Lane : Nat → FieldType := fun k => match k with
  | 0 => .object "PairedGates$Eye"
  | 1 => .object "PairedGates$Blobs"
  | 2 => .object "PairedGates$Paddles"
  | 3 => .array (.object "PairedGates$TokenList")
  | 4 => .array .int
  | 5 => .array .int
  | 6 => .int
  | 7 => .int
  | 8 => .array (.object "PairedGates$Body")
  | _ => .array (.object "PairedGates$Body")
theorem n_Lane : ∀ a, a < 10 → ∀ b, b < 10 → a ≠ b → (T_Lane a).2.1 ≠ (T_Lane b).2.1 := by decide +kernel
theorem t_Lane_ok : ∀ k, k < 10 → parseFieldDescriptor (T_Lane k).2.2.1 = some (t_Lane k) := by decide +kernel
def R_Pad : String := "PairedGates$Paddles"
def T_Pad : u_T := fun k => match k with
  | 0 => ("PairedGates$Paddles", "angle", "I", false)
  | _ => ("PairedGates$Paddles", "order", "I", false)
def t_Pad : Nat → FieldType := fun k => match k with
  | 0 => .int
  | _ => .int
theorem n_Pad : ∀ a, a < 2 → ∀ b, b < 2 → a ≠ b → (T_Pad a).2.1 ≠ (T_Pad b).2.1 := by decide +kernel
theorem t_Pad_ok : ∀ k, k < 2 → parseFieldDescriptor (T_Pad k).2.2.1 = some (t_Pad k) := by decide +kernel
def R_Rf : String := "PairedGates$Refunds"
def T_Rf : u_T := fun k => match k with
  | 0 => ("PairedGates$Refunds", "accounts", "[I", true)
  | _ => ("PairedGates$Refunds", "size", "I", false)
def t_Rf : Nat → FieldType := fun k => match k with
  | 0 => .array .int
  | _ => .int
theorem n_Rf : ∀ a, a < 2 → ∀ b, b < 2 → a ≠ b → (T_Rf a).2.1 ≠ (T_Rf b).2.1 := by decide +kernel
theorem t_Rf_ok : ∀ k, k < 2 → parseFieldDescriptor (T_Rf k).2.2.1 = some (t_Rf k) := by decide +kernel
def R_TL : String := "PairedGates$TokenList"
def T_TL : u_T := fun k => match k with
  | 0 => ("PairedGates$TokenList", "accounts", "[I", true)
  | 1 => ("PairedGates$TokenList", "times", "[I", true)
  | _ => ("PairedGates$TokenList", "size", "I", false)
def t_TL : Nat → FieldType := fun k => match k with
  | 0 => .array .int
  | 1 => .array .int
  | _ => .int
theorem n_TL : ∀ a, a < 3 → ∀ b, b < 3 → a ≠ b → (T_TL a).2.1 ≠ (T_TL b).2.1 := by decide +kernel
theorem t_TL_ok : ∀ k, k < 3 → parseFieldDescriptor (T_TL k).2.2.1 = some (t_TL k) := by decide +kernel
def R_PG : String := "PairedGates"
def T_PG : u_T := fun k => match k with
  | 0 => ("PairedGates", "lanes", "[LPairedGates$Lane;", true)
  | 1 => ("PairedGates", "acceptances", "LPairedGates$TokenList;", true)
  | 2 => ("PairedGates", "refundList", "LPairedGates$Refunds;", true)
  | 3 => ("PairedGates", "alarmOn", "Z", false)
  | _ => ("PairedGates", "now", "I", false)
def t_PG : Nat → FieldType := fun k => match k with
  | 0 => .array (.object "PairedGates$Lane")
  | 1 => .object "PairedGates$TokenList"
  | 2 => .object "PairedGates$Refunds"
  | 3 => .boolean
  | _ => .int
theorem n_PG : ∀ a, a < 5 → ∀ b, b < 5 → a ≠ b → (T_PG a).2.1 ≠ (T_PG b).2.1 := by decide +kernel
theorem t_PG_ok : ∀ k, k < 5 → parseFieldDescriptor (T_PG k).2.2.1 = some (t_PG k) := by decide +kernel
def R_Mo : String := "PairedGatesModel"
def T_Mo : u_T := fun k => match k with
  | 0 => ("PairedGatesModel", "fault", "I", false)
  | 1 => ("PairedGatesModel", "time", "I", false)
  | 2 => ("PairedGatesModel", "alarm", "Z", false)
  | 3 => ("PairedGatesModel", "told", "[I", true)
  | 4 => ("PairedGatesModel", "before", "[I", true)
  | 5 => ("PairedGatesModel", "earlier", "[I", true)
  | 6 => ("PairedGatesModel", "seen", "[I", true)
  | 7 => ("PairedGatesModel", "modes", "[I", true)
  | 8 => ("PairedGatesModel", "angle", "[I", true)
  | 9 => ("PairedGatesModel", "order", "[I", true)
  | 10 => ("PairedGatesModel", "counts", "[I", true)
  | 11 => ("PairedGatesModel", "bodies", "[I", true)
  | 12 => ("PairedGatesModel", "first", "[I", true)
  | 13 => ("PairedGatesModel", "last", "[I", true)
  | 14 => ("PairedGatesModel", "side", "[I", true)
  | 15 => ("PairedGatesModel", "owns", "[I", true)
  | 16 => ("PairedGatesModel", "length", "[I", true)
  | 17 => ("PairedGatesModel", "blobOf", "[I", true)
  | 18 => ("PairedGatesModel", "oldFirst", "[I", true)
  | 19 => ("PairedGatesModel", "oldLast", "[I", true)
  | 20 => ("PairedGatesModel", "blobs", "I", false)
  | 21 => ("PairedGatesModel", "blobFirst", "[I", true)
  | 22 => ("PairedGatesModel", "blobLast", "[I", true)
  | 23 => ("PairedGatesModel", "waiting", "[I", true)
  | 24 => ("PairedGatesModel", "account", "[I", true)
  | 25 => ("PairedGatesModel", "since", "[I", true)
  | 26 => ("PairedGatesModel", "accepted", "I", false)
  | 27 => ("PairedGatesModel", "takenOf", "[I", true)
  | 28 => ("PairedGatesModel", "takenAt", "[I", true)
  | 29 => ("PairedGatesModel", "refunds", "I", false)
  | _ => ("PairedGatesModel", "refund", "[I", true)
def t_Mo : Nat → FieldType := fun k => match k with
  | 0 => .int
  | 1 => .int
  | 2 => .boolean
  | 3 => .array .int
  | 4 => .array .int
  | 5 => .array .int
  | 6 => .array .int
  | 7 => .array .int
  | 8 => .array .int
  | 9 => .array .int
  | 10 => .array .int
  | 11 => .array .int
  | 12 => .array .int
  | 13 => .array .int
  | 14 => .array .int
  | 15 => .array .int
  | 16 => .array .int
  | 17 => .array .int
  | 18 => .array .int
  | 19 => .array .int
  | 20 => .int
  | 21 => .array .int
  | 22 => .array .int
  | 23 => .array .int
  | 24 => .array .int
  | 25 => .array .int
  | 26 => .int
  | 27 => .array .int
  | 28 => .array .int
  | 29 => .int
  | _ => .array .int
theorem n_Mo : ∀ a, a < 31 → ∀ b, b < 31 → a ≠ b → (T_Mo a).2.1 ≠ (T_Mo b).2.1 := by decide +kernel
theorem t_Mo_ok : ∀ k, k < 31 → parseFieldDescriptor (T_Mo k).2.2.1 = some (t_Mo k) := by decide +kernel
abbrev ac_cl : List vw_C := [(R_Blobs, T_Blobs, 3), (R_Body, T_Body, 5), (R_Eye, T_Eye, 4), (R_Lane, T_Lane, 10), (R_Pad, T_Pad, 2), (R_Rf, T_Rf, 2), (R_TL, T_TL, 3), (R_PG, T_PG, 5), (R_Mo, T_Mo, 31)]
/-- the words that stay good whatever is linked -/
def ac_U : List Cond := lw_tbl.filter goodWord
theorem ac_good : ∀ w ∈ ac_U, goodWord w = true := fun _ h => (List.mem_filter.mp h).2
theorem ac_mem {i : Nat} {w : Cond} (h : lw_tbl[i]? = some w) (g : goodWord w = true) : w ∈ ac_U := List.mem_filter.mpr ⟨List.mem_of_getElem? h, g⟩
def ac_kn : List String := ["PairedGates$Lane", "PairedGates$TokenList", "PairedGates$Body"]
/-- what is no cast -/
def ac_nc : List (String × String) := [("java/lang/IllegalArgumentException", "java/lang/IllegalStateException"), ("java/lang/IllegalArgumentException", "java/lang/IndexOutOfBoundsException"), ("java/lang/IllegalStateException", "java/lang/IllegalArgumentException"), ("java/lang/IllegalStateException", "java/lang/IndexOutOfBoundsException"), ("java/lang/IndexOutOfBoundsException", "java/lang/IllegalArgumentException"), ("java/lang/IndexOutOfBoundsException", "java/lang/IllegalStateException")]
/-- words that need a row of their own to stay: constructors of nest mates, casts, declarations -/
def ac_ow : List Cond := [.methodLinkNest "PairedGates" 9 ⟨"PairedGates$Lane", "<init>", "()V"⟩ "PairedGates", .methodLinkNest "PairedGates$Lane" 11 ⟨"PairedGates$Eye", "<init>", "()V"⟩ "PairedGates", .methodLinkNest "PairedGates$Lane" 20 ⟨"PairedGates$Blobs", "<init>", "()V"⟩ "PairedGates", .methodLinkNest "PairedGates$Lane" 27 ⟨"PairedGates$Paddles", "<init>", "()V"⟩ "PairedGates", .methodLinkNest "PairedGates$Lane" 68 ⟨"PairedGates$Body", "<init>", "()V"⟩ "PairedGates", .methodLinkNest "PairedGates" 27 ⟨"PairedGates$Refunds", "<init>", "()V"⟩ "PairedGates", .castable "java/lang/IndexOutOfBoundsException" "java/lang/IndexOutOfBoundsException", .castable "java/lang/IllegalArgumentException" "java/lang/IllegalArgumentException", .castable "java/lang/IllegalStateException" "java/lang/IllegalStateException", .declares ⟨"java/lang/RuntimeException", "<init>", "(Ljava/lang/String;)V"⟩, .declares ⟨"java/lang/Exception", "<init>", "(Ljava/lang/String;)V"⟩, .declares ⟨"java/lang/Throwable", "<init>", "(Ljava/lang/String;)V"⟩]
theorem ac_ow_tab : ∀ w ∈ ac_ow, w.onTables = true := by decide +kernel
theorem ac_ow_warm : ∀ w ∈ ac_ow, ∀ {s U : State}, s.WarmedH U.vm → va_Nw w s → va_Nw w U := by
  intro w hw s U hW hZ
  simp only [ac_ow, List.mem_cons, List.not_mem_nil, or_false] at hw
  rcases hw with rfl | rfl | rfl | rfl | rfl | rfl | rfl | rfl | rfl | rfl | rfl | rfl
  · exact hZ.warmM hW
  · exact hZ.warmM hW
  · exact hZ.warmM hW
  · exact hZ.warmM hW
  · exact hZ.warmM hW
  · exact hZ.warmM hW
  · exact hZ.warmC hW
  · exact hZ.warmC hW
  · exact hZ.warmC hW
  · exact hZ.warmD hW
  · exact hZ.warmD hW
  · exact hZ.warmD hW
def ac_str : List (String × Nat × String) := [("PairedGates", 157, "there is no such lane"), ("PairedGates", 55, "ticks are 1 .. 300"), ("PairedGates", 164, "there is no such side"), ("PairedGates", 68, "an account is not below 0"), ("PairedGates", 95, "modes are 0 .. 3"), ("PairedGates", 100, "the lane has bodies"), ("PairedGates", 166, "there is no such body"), ("PairedGates", 128, "what is 0 .. 4")]
/-- a method: name, code, locals, type of its answer, its handlers -/
abbrev ac_I : Type := MethodName × ByteArray × Nat × Option FieldType × List (Nat × Nat × Nat × Nat)
