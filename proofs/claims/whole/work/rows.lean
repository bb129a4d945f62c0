section
-- ===== PART A: goes FIRST, ahead of the names: the tables' words, and 'selects' of the private methods out of them =====
/-- a private method of a class that the tables say can be made, by its rows of tables_1 -/
def lw_okq (q : MethodName × Nat) : Prop := (q.1.cls ≠ "java/lang/invoke/MethodHandle" ∧ q.1.cls ≠ "java/lang/invoke/VarHandle") ∧ Cond.instantiable q.1.cls q.2 ∈ tables_1 ∧ Cond.privateMethod q.1 ∈ tables_1 ∧ Cond.instanceMethod q.1 ∈ tables_1
theorem lw_p0 : lw_okq (⟨"PairedGates", "laneAt", "(I)LPairedGates$Lane;"⟩, 5) := ⟨⟨by decide +kernel, by decide +kernel⟩, List.mem_of_getElem? (i := 18) (by decide +kernel), List.mem_of_getElem? (i := 247) (by decide +kernel), List.mem_of_getElem? (i := 248) (by decide +kernel)⟩
theorem lw_p1 : lw_okq (⟨"java/lang/Throwable", "fillInStackTrace", "(I)Ljava/lang/Throwable;"⟩, 6) := ⟨⟨by decide +kernel, by decide +kernel⟩, List.mem_of_getElem? (i := 289) (by decide +kernel), List.mem_of_getElem? (i := 287) (by decide +kernel), List.mem_of_getElem? (i := 288) (by decide +kernel)⟩
theorem lw_p2 : lw_okq (⟨"PairedGates$Blobs", "addBeam", "(I)V"⟩, 3) := ⟨⟨by decide +kernel, by decide +kernel⟩, List.mem_of_getElem? (i := 54) (by decide +kernel), List.mem_of_getElem? (i := 371) (by decide +kernel), List.mem_of_getElem? (i := 372) (by decide +kernel)⟩
theorem lw_p3 : lw_okq (⟨"PairedGates$Lane", "sendBodies", "(LPairedGates$Refunds;)I"⟩, 10) := ⟨⟨by decide +kernel, by decide +kernel⟩, List.mem_of_getElem? (i := 27) (by decide +kernel), List.mem_of_getElem? (i := 375) (by decide +kernel), List.mem_of_getElem? (i := 376) (by decide +kernel)⟩
theorem lw_p4 : lw_okq (⟨"PairedGates$Lane", "countLeaver", "(LPairedGates$Body;LPairedGates$Refunds;)V"⟩, 10) := ⟨⟨by decide +kernel, by decide +kernel⟩, List.mem_of_getElem? (i := 27) (by decide +kernel), List.mem_of_getElem? (i := 387) (by decide +kernel), List.mem_of_getElem? (i := 388) (by decide +kernel)⟩
theorem lw_p5 : lw_okq (⟨"PairedGates$Body", "endsHigh", "()Z"⟩, 5) := ⟨⟨by decide +kernel, by decide +kernel⟩, List.mem_of_getElem? (i := 114) (by decide +kernel), List.mem_of_getElem? (i := 395) (by decide +kernel), List.mem_of_getElem? (i := 396) (by decide +kernel)⟩
theorem lw_p6 : lw_okq (⟨"PairedGates$Body", "startsLow", "()Z"⟩, 5) := ⟨⟨by decide +kernel, by decide +kernel⟩, List.mem_of_getElem? (i := 114) (by decide +kernel), List.mem_of_getElem? (i := 399) (by decide +kernel), List.mem_of_getElem? (i := 400) (by decide +kernel)⟩
theorem lw_p7 : lw_okq (⟨"PairedGates$Lane", "renewRow", "(I)V"⟩, 10) := ⟨⟨by decide +kernel, by decide +kernel⟩, List.mem_of_getElem? (i := 27) (by decide +kernel), List.mem_of_getElem? (i := 408) (by decide +kernel), List.mem_of_getElem? (i := 409) (by decide +kernel)⟩
theorem lw_p8 : lw_okq (⟨"PairedGates$Lane", "sharersOf", "(I)I"⟩, 10) := ⟨⟨by decide +kernel, by decide +kernel⟩, List.mem_of_getElem? (i := 27) (by decide +kernel), List.mem_of_getElem? (i := 412) (by decide +kernel), List.mem_of_getElem? (i := 413) (by decide +kernel)⟩
theorem lw_p9 : lw_okq (⟨"PairedGates$Lane", "shareBlob", "(III)I"⟩, 10) := ⟨⟨by decide +kernel, by decide +kernel⟩, List.mem_of_getElem? (i := 27) (by decide +kernel), List.mem_of_getElem? (i := 416) (by decide +kernel), List.mem_of_getElem? (i := 417) (by decide +kernel)⟩
theorem lw_p10 : lw_okq (⟨"PairedGates$Lane", "sideFor", "(I)I"⟩, 10) := ⟨⟨by decide +kernel, by decide +kernel⟩, List.mem_of_getElem? (i := 27) (by decide +kernel), List.mem_of_getElem? (i := 426) (by decide +kernel), List.mem_of_getElem? (i := 427) (by decide +kernel)⟩
theorem lw_p11 : lw_okq (⟨"PairedGates$Lane", "handOutTokens", "()V"⟩, 10) := ⟨⟨by decide +kernel, by decide +kernel⟩, List.mem_of_getElem? (i := 27) (by decide +kernel), List.mem_of_getElem? (i := 435) (by decide +kernel), List.mem_of_getElem? (i := 436) (by decide +kernel)⟩
theorem lw_p12 : lw_okq (⟨"PairedGates$Lane", "someBodyHasToken", "()Z"⟩, 10) := ⟨⟨by decide +kernel, by decide +kernel⟩, List.mem_of_getElem? (i := 27) (by decide +kernel), List.mem_of_getElem? (i := 444) (by decide +kernel), List.mem_of_getElem? (i := 445) (by decide +kernel)⟩
theorem lw_p13 : lw_okq (⟨"PairedGatesModel", "refused", "(I)Z"⟩, 31) := ⟨⟨by decide +kernel, by decide +kernel⟩, List.mem_of_getElem? (i := 588) (by decide +kernel), List.mem_of_getElem? (i := 699) (by decide +kernel), List.mem_of_getElem? (i := 700) (by decide +kernel)⟩
theorem lw_p14 : lw_okq (⟨"PairedGatesModel", "tick", "(I)I"⟩, 31) := ⟨⟨by decide +kernel, by decide +kernel⟩, List.mem_of_getElem? (i := 588) (by decide +kernel), List.mem_of_getElem? (i := 707) (by decide +kernel), List.mem_of_getElem? (i := 708) (by decide +kernel)⟩
theorem lw_p15 : lw_okq (⟨"PairedGatesModel", "takeOldest", "(I)I"⟩, 31) := ⟨⟨by decide +kernel, by decide +kernel⟩, List.mem_of_getElem? (i := 588) (by decide +kernel), List.mem_of_getElem? (i := 711) (by decide +kernel), List.mem_of_getElem? (i := 712) (by decide +kernel)⟩
def lw_privs_1 : List (MethodName × Nat) := [(⟨"PairedGates", "laneAt", "(I)LPairedGates$Lane;"⟩, 5), (⟨"java/lang/Throwable", "fillInStackTrace", "(I)Ljava/lang/Throwable;"⟩, 6), (⟨"PairedGates$Blobs", "addBeam", "(I)V"⟩, 3), (⟨"PairedGates$Lane", "sendBodies", "(LPairedGates$Refunds;)I"⟩, 10), (⟨"PairedGates$Lane", "countLeaver", "(LPairedGates$Body;LPairedGates$Refunds;)V"⟩, 10), (⟨"PairedGates$Body", "endsHigh", "()Z"⟩, 5), (⟨"PairedGates$Body", "startsLow", "()Z"⟩, 5), (⟨"PairedGates$Lane", "renewRow", "(I)V"⟩, 10), (⟨"PairedGates$Lane", "sharersOf", "(I)I"⟩, 10), (⟨"PairedGates$Lane", "shareBlob", "(III)I"⟩, 10), (⟨"PairedGates$Lane", "sideFor", "(I)I"⟩, 10), (⟨"PairedGates$Lane", "handOutTokens", "()V"⟩, 10), (⟨"PairedGates$Lane", "someBodyHasToken", "()Z"⟩, 10), (⟨"PairedGatesModel", "refused", "(I)Z"⟩, 31), (⟨"PairedGatesModel", "tick", "(I)I"⟩, 31), (⟨"PairedGatesModel", "takeOldest", "(I)I"⟩, 31)]
theorem lw_r1 : ∀ q ∈ lw_privs_1, lw_okq q := List.forall_mem_cons.mpr ⟨lw_p0, List.forall_mem_cons.mpr ⟨lw_p1, List.forall_mem_cons.mpr ⟨lw_p2, List.forall_mem_cons.mpr ⟨lw_p3, List.forall_mem_cons.mpr ⟨lw_p4, List.forall_mem_cons.mpr ⟨lw_p5, List.forall_mem_cons.mpr ⟨lw_p6, List.forall_mem_cons.mpr ⟨lw_p7, List.forall_mem_cons.mpr ⟨lw_p8, List.forall_mem_cons.mpr ⟨lw_p9, List.forall_mem_cons.mpr ⟨lw_p10, List.forall_mem_cons.mpr ⟨lw_p11, List.forall_mem_cons.mpr ⟨lw_p12, List.forall_mem_cons.mpr ⟨lw_p13, List.forall_mem_cons.mpr ⟨lw_p14, List.forall_mem_cons.mpr ⟨lw_p15, fun _ h => absurd h List.not_mem_nil⟩⟩⟩⟩⟩⟩⟩⟩⟩⟩⟩⟩⟩⟩⟩⟩
theorem lw_p16 : lw_okq (⟨"PairedGatesModel", "giveBack", "(I)V"⟩, 31) := ⟨⟨by decide +kernel, by decide +kernel⟩, List.mem_of_getElem? (i := 588) (by decide +kernel), List.mem_of_getElem? (i := 715) (by decide +kernel), List.mem_of_getElem? (i := 716) (by decide +kernel)⟩
theorem lw_p17 : lw_okq (⟨"PairedGatesModel", "look", "(I)V"⟩, 31) := ⟨⟨by decide +kernel, by decide +kernel⟩, List.mem_of_getElem? (i := 588) (by decide +kernel), List.mem_of_getElem? (i := 719) (by decide +kernel), List.mem_of_getElem? (i := 720) (by decide +kernel)⟩
theorem lw_p18 : lw_okq (⟨"PairedGatesModel", "goOn", "(I)I"⟩, 31) := ⟨⟨by decide +kernel, by decide +kernel⟩, List.mem_of_getElem? (i := 588) (by decide +kernel), List.mem_of_getElem? (i := 723) (by decide +kernel), List.mem_of_getElem? (i := 724) (by decide +kernel)⟩
theorem lw_p19 : lw_okq (⟨"PairedGatesModel", "meets", "(III)Z"⟩, 31) := ⟨⟨by decide +kernel, by decide +kernel⟩, List.mem_of_getElem? (i := 588) (by decide +kernel), List.mem_of_getElem? (i := 727) (by decide +kernel), List.mem_of_getElem? (i := 728) (by decide +kernel)⟩
theorem lw_p20 : lw_okq (⟨"PairedGatesModel", "leave", "(II)V"⟩, 31) := ⟨⟨by decide +kernel, by decide +kernel⟩, List.mem_of_getElem? (i := 588) (by decide +kernel), List.mem_of_getElem? (i := 731) (by decide +kernel), List.mem_of_getElem? (i := 732) (by decide +kernel)⟩
theorem lw_p21 : lw_okq (⟨"PairedGatesModel", "copy", "(II)V"⟩, 31) := ⟨⟨by decide +kernel, by decide +kernel⟩, List.mem_of_getElem? (i := 588) (by decide +kernel), List.mem_of_getElem? (i := 735) (by decide +kernel), List.mem_of_getElem? (i := 736) (by decide +kernel)⟩
theorem lw_p22 : lw_okq (⟨"PairedGatesModel", "share", "(II)V"⟩, 31) := ⟨⟨by decide +kernel, by decide +kernel⟩, List.mem_of_getElem? (i := 588) (by decide +kernel), List.mem_of_getElem? (i := 739) (by decide +kernel), List.mem_of_getElem? (i := 740) (by decide +kernel)⟩
theorem lw_p23 : lw_okq (⟨"PairedGatesModel", "begin", "(II)V"⟩, 31) := ⟨⟨by decide +kernel, by decide +kernel⟩, List.mem_of_getElem? (i := 588) (by decide +kernel), List.mem_of_getElem? (i := 743) (by decide +kernel), List.mem_of_getElem? (i := 744) (by decide +kernel)⟩
theorem lw_p24 : lw_okq (⟨"PairedGatesModel", "pay", "(I)V"⟩, 31) := ⟨⟨by decide +kernel, by decide +kernel⟩, List.mem_of_getElem? (i := 588) (by decide +kernel), List.mem_of_getElem? (i := 747) (by decide +kernel), List.mem_of_getElem? (i := 748) (by decide +kernel)⟩
theorem lw_p25 : lw_okq (⟨"PairedGatesModel", "turn", "(I)V"⟩, 31) := ⟨⟨by decide +kernel, by decide +kernel⟩, List.mem_of_getElem? (i := 588) (by decide +kernel), List.mem_of_getElem? (i := 751) (by decide +kernel), List.mem_of_getElem? (i := 752) (by decide +kernel)⟩
theorem lw_p26 : lw_okq (⟨"PairedGatesModel", "hasSide", "(II)Z"⟩, 31) := ⟨⟨by decide +kernel, by decide +kernel⟩, List.mem_of_getElem? (i := 588) (by decide +kernel), List.mem_of_getElem? (i := 759) (by decide +kernel), List.mem_of_getElem? (i := 760) (by decide +kernel)⟩
theorem lw_p27 : lw_okq (⟨"PairedGatesModel", "isRepeated", "(I)Z"⟩, 31) := ⟨⟨by decide +kernel, by decide +kernel⟩, List.mem_of_getElem? (i := 588) (by decide +kernel), List.mem_of_getElem? (i := 763) (by decide +kernel), List.mem_of_getElem? (i := 764) (by decide +kernel)⟩
def lw_privs_2 : List (MethodName × Nat) := [(⟨"PairedGatesModel", "giveBack", "(I)V"⟩, 31), (⟨"PairedGatesModel", "look", "(I)V"⟩, 31), (⟨"PairedGatesModel", "goOn", "(I)I"⟩, 31), (⟨"PairedGatesModel", "meets", "(III)Z"⟩, 31), (⟨"PairedGatesModel", "leave", "(II)V"⟩, 31), (⟨"PairedGatesModel", "copy", "(II)V"⟩, 31), (⟨"PairedGatesModel", "share", "(II)V"⟩, 31), (⟨"PairedGatesModel", "begin", "(II)V"⟩, 31), (⟨"PairedGatesModel", "pay", "(I)V"⟩, 31), (⟨"PairedGatesModel", "turn", "(I)V"⟩, 31), (⟨"PairedGatesModel", "hasSide", "(II)Z"⟩, 31), (⟨"PairedGatesModel", "isRepeated", "(I)Z"⟩, 31)]
theorem lw_r2 : ∀ q ∈ lw_privs_2, lw_okq q := List.forall_mem_cons.mpr ⟨lw_p16, List.forall_mem_cons.mpr ⟨lw_p17, List.forall_mem_cons.mpr ⟨lw_p18, List.forall_mem_cons.mpr ⟨lw_p19, List.forall_mem_cons.mpr ⟨lw_p20, List.forall_mem_cons.mpr ⟨lw_p21, List.forall_mem_cons.mpr ⟨lw_p22, List.forall_mem_cons.mpr ⟨lw_p23, List.forall_mem_cons.mpr ⟨lw_p24, List.forall_mem_cons.mpr ⟨lw_p25, List.forall_mem_cons.mpr ⟨lw_p26, List.forall_mem_cons.mpr ⟨lw_p27, fun _ h => absurd h List.not_mem_nil⟩⟩⟩⟩⟩⟩⟩⟩⟩⟩⟩⟩
def lw_privs : List (MethodName × Nat) := lw_privs_1 ++ (lw_privs_2)
def lw_tbl : List Cond := k2_sels lw_privs ++ tables_1
theorem lw_privs_ok : ∀ q ∈ lw_privs, lw_okq q := by
  show ∀ q ∈ lw_privs_1 ++ (lw_privs_2), lw_okq q
  exact List.forall_mem_append.mpr ⟨lw_r1, lw_r2⟩
/-! THE CLAIM OUT OF ONE WALK OF THE LAW'S BODY. Your part is whole_start (and what it stands on); all else here is the same for every law, but numbers. -/
def R_law : String := "PairedGatesLaw"
def lw_P (b : Addr) (xs : List Int32) (args : Array Value) (s : State) : Prop := args = #[.ref b] ∧ s.IntsAt b xs ∧ xs.length ≤ 2048 ∧ (Jvm.Cond.and given_1 narrow_1).before args s = true
def lw_Q (_ : Array Value) (s : State) (o : Outcome) (t : State) : Prop := o = .returned (some (.int 1)) ∧ Framed s o t [] 601024 7293034
def lw_Z (below : List Frame) (a : Array Value) (s : State) : State → Prop := fun t => ∃ o, t.status = .running ∧ Ended t below o ∧ lw_Q a s o t
/-- the law's own end, with 1 on the stack, nothing written that was there before, its room as the claim has it -/
theorem lw_ret {p : Program} {l : Launch} {e : Env} {s : State} {m : MethodId} {below : List Frame} {meth : Method} {c : Code} {b : Nat} (hx : p.tables.exec = Jvm.exec) (hb : c.code = code) (hr : meth.sig.returnType = ret) (hlocks : meth.locks = false) {pc : Nat} {H : Heap} {ls : Array Slot} (hdg : decode code pc = .ok (.ireturn, 1)) : W p l e room_1 s m #[Value.ref b] below meth c H [] 601024 7293034 (lw_Z below #[Value.ref b] s) (F0 m pc ls [.int 1]) := by
  intro T hT X
  obtain ⟨fs, hret, hrun, hended, hW, hframe⟩ := X.leave (v := some (.int 1)) (hlocks := hlocks) (fun h => by rw [hr] at h; cases h)
  have hmeth' : T.vm.method? m = some meth := X.method'
  refine ⟨T.setFrames fs, ?_, .returned (some (.int 1)), hrun, hended, rfl, ⟨_, rfl⟩, hW, hframe⟩
  jvm_step X.here [X.here.top, hx, hb, hdg, hmeth', hr, ret, narrow_b1]
  (try refine ⟨rfl, ?_⟩); (try refine ⟨rfl, ?_⟩)
  first | (intro acts; rw [hret _ acts rfl rfl rfl]) | rw [hret _ _ rfl rfl rfl]
  exact Steps.refl _
/-- what holds at the law's entry: the machine, the code, the tables' words (any of lw_tbl by 'hts w (by decide +kernel)'), the script of L ints xs at the cell b, what the Statement gives of the start (any of its parts by flat_of_before) -/
def lw_At (p : Program) (s : State) (m : MethodId) (meth : Method) (c : Code) (b L : Nat) (xs : Nat → Int32) : Prop :=
  p.tables.exec = Jvm.exec ∧ c.code = code ∧ meth.sig.returnType = ret ∧ c.maxLocals = 7 ∧ s.vm.findClass R_law = some m.cls ∧ (∀ w ∈ lw_tbl, w.before #[Value.ref b] s = true) ∧ va_X b L xs s s.heap ∧ b < s.heap.size ∧ meth.locks = false ∧ (Jvm.Cond.and given_1 narrow_1).before #[Value.ref b] s = true
def R_Blobs : String := "PairedGates$Blobs"
def T_Blobs : u_T := fun k => match k with
  | 0 => ("PairedGates$Blobs", "first", "[I", true)
  | 1 => ("PairedGates$Blobs", "last", "[I", true)
  | _ => ("PairedGates$Blobs", "size", "I", false)
def t_Blobs : Nat → FieldType := fun k => match k with
  | 0 => .array .int
  | 1 => .array .int
  | _ => .int
theorem n_Blobs : ∀ a, a < 3 → ∀ b, b < 3 → a ≠ b → (T_Blobs a).2.1 ≠ (T_Blobs b).2.1 := by decide +kernel
theorem t_Blobs_ok : ∀ k, k < 3 → parseFieldDescriptor (T_Blobs k).2.2.1 = some (t_Blobs k) := by decide +kernel
def R_Body : String := "PairedGates$Body"
def T_Body : u_T := fun k => match k with
  | 0 => ("PairedGates$Body", "first", "I", false)
  | 1 => ("PairedGates$Body", "last", "I", false)
  | 2 => ("PairedGates$Body", "side", "I", false)
  | 3 => ("PairedGates$Body", "account", "I", false)
  | _ => ("PairedGates$Body", "length", "I", false)
def t_Body : Nat → FieldType := fun k => match k with
  | 0 => .int
  | 1 => .int
  | 2 => .int
  | 3 => .int
  | _ => .int
theorem n_Body : ∀ a, a < 5 → ∀ b, b < 5 → a ≠ b → (T_Body a).2.1 ≠ (T_Body b).2.1 := by decide +kernel
theorem t_Body_ok : ∀ k, k < 5 → parseFieldDescriptor (T_Body k).2.2.1 = some (t_Body k) := by decide +kernel
def R_Eye : String := "PairedGates$Eye"
def T_Eye : u_T := fun k => match k with
  | 0 => ("PairedGates$Eye", "told", "I", false)
  | 1 => ("PairedGates$Eye", "latest", "I", false)
  | 2 => ("PairedGates$Eye", "earlier", "I", false)
  | _ => ("PairedGates$Eye", "seen", "I", false)
def t_Eye : Nat → FieldType := fun k => match k with
  | 0 => .int
  | 1 => .int
  | 2 => .int
  | _ => .int
theorem n_Eye : ∀ a, a < 4 → ∀ b, b < 4 → a ≠ b → (T_Eye a).2.1 ≠ (T_Eye b).2.1 := by decide +kernel
theorem t_Eye_ok : ∀ k, k < 4 → parseFieldDescriptor (T_Eye k).2.2.1 = some (t_Eye k) := by decide +kernel
def R_Lane : String := "PairedGates$Lane"
def T_Lane : u_T := fun k => match k with
  | 0 => ("PairedGates$Lane", "eye", "LPairedGates$Eye;", true)
  | 1 => ("PairedGates$Lane", "blobs", "LPairedGates$Blobs;", true)
  | 2 => ("PairedGates$Lane", "paddles", "LPairedGates$Paddles;", true)
  | 3 => ("PairedGates$Lane", "queues", "[LPairedGates$TokenList;", true)
  | 4 => ("PairedGates$Lane", "counts", "[I", true)
  | 5 => ("PairedGates$Lane", "goals", "[I", true)
  | 6 => ("PairedGates$Lane", "openMode", "I", false)
  | 7 => ("PairedGates$Lane", "size", "I", false)
  | 8 => ("PairedGates$Lane", "row", "[LPairedGates$Body;", false)
  | _ => ("PairedGates$Lane", "nextRow", "[LPairedGates$Body;", false)
def t_Lane : Nat → FieldType := fun k => match k with
  | 0 => .object "PairedGates$Eye"
  | 1 => .object "PairedGates$Blobs"
  | 2 => .object "PairedGates$Paddles"
  | 3 => .array (.object "PairedGates$TokenList")
  | 4 => .array .int
  | 5 => .array .int
  | 6 => .int
  | 7 => .int
  | 8 => .array (.object "PairedGates$Body")
  | _ => .array (.object "PairedGates$Body")
theorem n_Lane : ∀ a, a < 10 → ∀ b, b < 10 → a ≠ b → (T_Lane a).2.1 ≠ (T_Lane b).2.1 := by decide +kernel
theorem t_Lane_ok : ∀ k, k < 10 → parseFieldDescriptor (T_Lane k).2.2.1 = some (t_Lane k) := by decide +kernel
def R_Pad : String := "PairedGates$Paddles"
def T_Pad : u_T := fun k => match k with
  | 0 => ("PairedGates$Paddles", "angle", "I", false)
  | _ => ("PairedGates$Paddles", "order", "I", false)
def t_Pad : Nat → FieldType := fun k => match k with
  | 0 => .int
  | _ => .int
theorem n_Pad : ∀ a, a < 2 → ∀ b, b < 2 → a ≠ b → (T_Pad a).2.1 ≠ (T_Pad b).2.1 := by decide +kernel
theorem t_Pad_ok : ∀ k, k < 2 → parseFieldDescriptor (T_Pad k).2.2.1 = some (t_Pad k) := by decide +kernel
def R_Rf : String := "PairedGates$Refunds"
def T_Rf : u_T := fun k => match k with
  | 0 => ("PairedGates$Refunds", "accounts", "[I", true)
  | _ => ("PairedGates$Refunds", "size", "I", false)
def t_Rf : Nat → FieldType := fun k => match k with
  | 0 => .array .int
  | _ => .int
theorem n_Rf : ∀ a, a < 2 → ∀ b, b < 2 → a ≠ b → (T_Rf a).2.1 ≠ (T_Rf b).2.1 := by decide +kernel
theorem t_Rf_ok : ∀ k, k < 2 → parseFieldDescriptor (T_Rf k).2.2.1 = some (t_Rf k) := by decide +kernel
def R_TL : String := "PairedGates$TokenList"
def T_TL : u_T := fun k => match k with
  | 0 => ("PairedGates$TokenList", "accounts", "[I", true)
  | 1 => ("PairedGates$TokenList", "times", "[I", true)
  | _ => ("PairedGates$TokenList", "size", "I", false)
def t_TL : Nat → FieldType := fun k => match k with
  | 0 => .array .int
  | 1 => .array .int
  | _ => .int
theorem n_TL : ∀ a, a < 3 → ∀ b, b < 3 → a ≠ b → (T_TL a).2.1 ≠ (T_TL b).2.1 := by decide +kernel
theorem t_TL_ok : ∀ k, k < 3 → parseFieldDescriptor (T_TL k).2.2.1 = some (t_TL k) := by decide +kernel
def R_PG : String := "PairedGates"
def T_PG : u_T := fun k => match k with
  | 0 => ("PairedGates", "lanes", "[LPairedGates$Lane;", true)
  | 1 => ("PairedGates", "acceptances", "LPairedGates$TokenList;", true)
  | 2 => ("PairedGates", "refundList", "LPairedGates$Refunds;", true)
  | 3 => ("PairedGates", "alarmOn", "Z", false)
  | _ => ("PairedGates", "now", "I", false)
def t_PG : Nat → FieldType := fun k => match k with
  | 0 => .array (.object "PairedGates$Lane")
  | 1 => .object "PairedGates$TokenList"
  | 2 => .object "PairedGates$Refunds"
  | 3 => .boolean
  | _ => .int
theorem n_PG : ∀ a, a < 5 → ∀ b, b < 5 → a ≠ b → (T_PG a).2.1 ≠ (T_PG b).2.1 := by decide +kernel
theorem t_PG_ok : ∀ k, k < 5 → parseFieldDescriptor (T_PG k).2.2.1 = some (t_PG k) := by decide +kernel
def R_Mo : String := "PairedGatesModel"
def T_Mo : u_T := fun k => match k with
  | 0 => ("PairedGatesModel", "fault", "I", false)
  | 1 => ("PairedGatesModel", "time", "I", false)
  | 2 => ("PairedGatesModel", "alarm", "Z", false)
  | 3 => ("PairedGatesModel", "told", "[I", true)
  | 4 => ("PairedGatesModel", "before", "[I", true)
  | 5 => ("PairedGatesModel", "earlier", "[I", true)
  | 6 => ("PairedGatesModel", "seen", "[I", true)
  | 7 => ("PairedGatesModel", "modes", "[I", true)
  | 8 => ("PairedGatesModel", "angle", "[I", true)
  | 9 => ("PairedGatesModel", "order", "[I", true)
  | 10 => ("PairedGatesModel", "counts", "[I", true)
  | 11 => ("PairedGatesModel", "bodies", "[I", true)
  | 12 => ("PairedGatesModel", "first", "[I", true)
  | 13 => ("PairedGatesModel", "last", "[I", true)
  | 14 => ("PairedGatesModel", "side", "[I", true)
  | 15 => ("PairedGatesModel", "owns", "[I", true)
  | 16 => ("PairedGatesModel", "length", "[I", true)
  | 17 => ("PairedGatesModel", "blobOf", "[I", true)
  | 18 => ("PairedGatesModel", "oldFirst", "[I", true)
  | 19 => ("PairedGatesModel", "oldLast", "[I", true)
  | 20 => ("PairedGatesModel", "blobs", "I", false)
  | 21 => ("PairedGatesModel", "blobFirst", "[I", true)
  | 22 => ("PairedGatesModel", "blobLast", "[I", true)
  | 23 => ("PairedGatesModel", "waiting", "[I", true)
  | 24 => ("PairedGatesModel", "account", "[I", true)
  | 25 => ("PairedGatesModel", "since", "[I", true)
  | 26 => ("PairedGatesModel", "accepted", "I", false)
  | 27 => ("PairedGatesModel", "takenOf", "[I", true)
  | 28 => ("PairedGatesModel", "takenAt", "[I", true)
  | 29 => ("PairedGatesModel", "refunds", "I", false)
  | _ => ("PairedGatesModel", "refund", "[I", true)
def t_Mo : Nat → FieldType := fun k => match k with
  | 0 => .int
  | 1 => .int
  | 2 => .boolean
  | 3 => .array .int
  | 4 => .array .int
  | 5 => .array .int
  | 6 => .array .int
  | 7 => .array .int
  | 8 => .array .int
  | 9 => .array .int
  | 10 => .array .int
  | 11 => .array .int
  | 12 => .array .int
  | 13 => .array .int
  | 14 => .array .int
  | 15 => .array .int
  | 16 => .array .int
  | 17 => .array .int
  | 18 => .array .int
  | 19 => .array .int
  | 20 => .int
  | 21 => .array .int
  | 22 => .array .int
  | 23 => .array .int
  | 24 => .array .int
  | 25 => .array .int
  | 26 => .int
  | 27 => .array .int
  | 28 => .array .int
  | 29 => .int
  | _ => .array .int
theorem n_Mo : ∀ a, a < 31 → ∀ b, b < 31 → a ≠ b → (T_Mo a).2.1 ≠ (T_Mo b).2.1 := by decide +kernel
theorem t_Mo_ok : ∀ k, k < 31 → parseFieldDescriptor (T_Mo k).2.2.1 = some (t_Mo k) := by decide +kernel
abbrev ac_cl : List vw_C := [(R_Blobs, T_Blobs, 3), (R_Body, T_Body, 5), (R_Eye, T_Eye, 4), (R_Lane, T_Lane, 10), (R_Pad, T_Pad, 2), (R_Rf, T_Rf, 2), (R_TL, T_TL, 3), (R_PG, T_PG, 5), (R_Mo, T_Mo, 31)]
/-- the words that stay good whatever is linked -/
def ac_U : List Cond := lw_tbl.filter goodWord
theorem ac_good : ∀ w ∈ ac_U, goodWord w = true := fun _ h => (List.mem_filter.mp h).2
theorem ac_mem {i : Nat} {w : Cond} (h : lw_tbl[i]? = some w) (g : goodWord w = true) : w ∈ ac_U := List.mem_filter.mpr ⟨List.mem_of_getElem? h, g⟩
def ac_kn : List String := ["PairedGates$Lane", "PairedGates$TokenList", "PairedGates$Body"]
/-- what is no cast -/
def ac_nc : List (String × String) := [("java/lang/IllegalArgumentException", "java/lang/IllegalStateException"), ("java/lang/IllegalArgumentException", "java/lang/IndexOutOfBoundsException"), ("java/lang/IllegalStateException", "java/lang/IllegalArgumentException"), ("java/lang/IllegalStateException", "java/lang/IndexOutOfBoundsException"), ("java/lang/IndexOutOfBoundsException", "java/lang/IllegalArgumentException"), ("java/lang/IndexOutOfBoundsException", "java/lang/IllegalStateException")]
/-- words that need a row of their own to stay: constructors of nest mates, casts, declarations -/
def ac_ow : List Cond := [.methodLinkNest "PairedGates" 9 ⟨"PairedGates$Lane", "<init>", "()V"⟩ "PairedGates", .methodLinkNest "PairedGates$Lane" 11 ⟨"PairedGates$Eye", "<init>", "()V"⟩ "PairedGates", .methodLinkNest "PairedGates$Lane" 20 ⟨"PairedGates$Blobs", "<init>", "()V"⟩ "PairedGates", .methodLinkNest "PairedGates$Lane" 27 ⟨"PairedGates$Paddles", "<init>", "()V"⟩ "PairedGates", .methodLinkNest "PairedGates$Lane" 68 ⟨"PairedGates$Body", "<init>", "()V"⟩ "PairedGates", .methodLinkNest "PairedGates" 27 ⟨"PairedGates$Refunds", "<init>", "()V"⟩ "PairedGates", .castable "java/lang/IndexOutOfBoundsException" "java/lang/IndexOutOfBoundsException", .castable "java/lang/IllegalArgumentException" "java/lang/IllegalArgumentException", .castable "java/lang/IllegalStateException" "java/lang/IllegalStateException", .declares ⟨"java/lang/RuntimeException", "<init>", "(Ljava/lang/String;)V"⟩, .declares ⟨"java/lang/Exception", "<init>", "(Ljava/lang/String;)V"⟩, .declares ⟨"java/lang/Throwable", "<init>", "(Ljava/lang/String;)V"⟩]
theorem ac_ow_tab : ∀ w ∈ ac_ow, w.onTables = true := by decide +kernel
theorem ac_ow_warm : ∀ w ∈ ac_ow, ∀ {s U : State}, s.WarmedH U.vm → va_Nw w s → va_Nw w U := by
  intro w hw s U hW hZ
  simp only [ac_ow, List.mem_cons, List.not_mem_nil, or_false] at hw
  rcases hw with rfl | rfl | rfl | rfl | rfl | rfl | rfl | rfl | rfl | rfl | rfl | rfl
  · exact hZ.warmM hW
  · exact hZ.warmM hW
  · exact hZ.warmM hW
  · exact hZ.warmM hW
  · exact hZ.warmM hW
  · exact hZ.warmM hW
  · exact hZ.warmC hW
  · exact hZ.warmC hW
  · exact hZ.warmC hW
  · exact hZ.warmD hW
  · exact hZ.warmD hW
  · exact hZ.warmD hW
def ac_str : List (String × Nat × String) := [("PairedGates", 157, "there is no such lane"), ("PairedGates", 55, "ticks are 1 .. 300"), ("PairedGates", 164, "there is no such side"), ("PairedGates", 68, "an account is not below 0"), ("PairedGates", 95, "modes are 0 .. 3"), ("PairedGates", 100, "the lane has bodies"), ("PairedGates", 166, "there is no such body"), ("PairedGates", 128, "what is 0 .. 4")]
/-- a method: name, code, locals, type of its answer, its handlers -/
abbrev ac_I : Type := MethodName × ByteArray × Nat × Option FieldType × List (Nat × Nat × Nat × Nat)
end
section
theorem wu_0 : Cond.selects "PairedGates" ⟨"PairedGates", "laneAt", "(I)LPairedGates$Lane;"⟩ ⟨"PairedGates", "laneAt", "(I)LPairedGates$Lane;"⟩ ∈ ac_U := ac_mem (i := 0) (by decide +kernel) rfl
theorem wu_2 : Cond.selects "PairedGates$Blobs" ⟨"PairedGates$Blobs", "addBeam", "(I)V"⟩ ⟨"PairedGates$Blobs", "addBeam", "(I)V"⟩ ∈ ac_U := ac_mem (i := 2) (by decide +kernel) rfl
theorem wu_3 : Cond.selects "PairedGates$Lane" ⟨"PairedGates$Lane", "sendBodies", "(LPairedGates$Refunds;)I"⟩ ⟨"PairedGates$Lane", "sendBodies", "(LPairedGates$Refunds;)I"⟩ ∈ ac_U := ac_mem (i := 3) (by decide +kernel) rfl
theorem wu_4 : Cond.selects "PairedGates$Lane" ⟨"PairedGates$Lane", "countLeaver", "(LPairedGates$Body;LPairedGates$Refunds;)V"⟩ ⟨"PairedGates$Lane", "countLeaver", "(LPairedGates$Body;LPairedGates$Refunds;)V"⟩ ∈ ac_U := ac_mem (i := 4) (by decide +kernel) rfl
theorem wu_5 : Cond.selects "PairedGates$Body" ⟨"PairedGates$Body", "endsHigh", "()Z"⟩ ⟨"PairedGates$Body", "endsHigh", "()Z"⟩ ∈ ac_U := ac_mem (i := 5) (by decide +kernel) rfl
theorem wu_6 : Cond.selects "PairedGates$Body" ⟨"PairedGates$Body", "startsLow", "()Z"⟩ ⟨"PairedGates$Body", "startsLow", "()Z"⟩ ∈ ac_U := ac_mem (i := 6) (by decide +kernel) rfl
theorem wu_7 : Cond.selects "PairedGates$Lane" ⟨"PairedGates$Lane", "renewRow", "(I)V"⟩ ⟨"PairedGates$Lane", "renewRow", "(I)V"⟩ ∈ ac_U := ac_mem (i := 7) (by decide +kernel) rfl
theorem wu_8 : Cond.selects "PairedGates$Lane" ⟨"PairedGates$Lane", "sharersOf", "(I)I"⟩ ⟨"PairedGates$Lane", "sharersOf", "(I)I"⟩ ∈ ac_U := ac_mem (i := 8) (by decide +kernel) rfl
theorem wu_9 : Cond.selects "PairedGates$Lane" ⟨"PairedGates$Lane", "shareBlob", "(III)I"⟩ ⟨"PairedGates$Lane", "shareBlob", "(III)I"⟩ ∈ ac_U := ac_mem (i := 9) (by decide +kernel) rfl
theorem wu_10 : Cond.selects "PairedGates$Lane" ⟨"PairedGates$Lane", "sideFor", "(I)I"⟩ ⟨"PairedGates$Lane", "sideFor", "(I)I"⟩ ∈ ac_U := ac_mem (i := 10) (by decide +kernel) rfl
theorem wu_11 : Cond.selects "PairedGates$Lane" ⟨"PairedGates$Lane", "handOutTokens", "()V"⟩ ⟨"PairedGates$Lane", "handOutTokens", "()V"⟩ ∈ ac_U := ac_mem (i := 11) (by decide +kernel) rfl
theorem wu_12 : Cond.selects "PairedGates$Lane" ⟨"PairedGates$Lane", "someBodyHasToken", "()Z"⟩ ⟨"PairedGates$Lane", "someBodyHasToken", "()Z"⟩ ∈ ac_U := ac_mem (i := 12) (by decide +kernel) rfl
theorem wu_13 : Cond.selects "PairedGatesModel" ⟨"PairedGatesModel", "refused", "(I)Z"⟩ ⟨"PairedGatesModel", "refused", "(I)Z"⟩ ∈ ac_U := ac_mem (i := 13) (by decide +kernel) rfl
theorem wu_14 : Cond.selects "PairedGatesModel" ⟨"PairedGatesModel", "tick", "(I)I"⟩ ⟨"PairedGatesModel", "tick", "(I)I"⟩ ∈ ac_U := ac_mem (i := 14) (by decide +kernel) rfl
theorem wu_15 : Cond.selects "PairedGatesModel" ⟨"PairedGatesModel", "takeOldest", "(I)I"⟩ ⟨"PairedGatesModel", "takeOldest", "(I)I"⟩ ∈ ac_U := ac_mem (i := 15) (by decide +kernel) rfl
theorem wu_16 : Cond.selects "PairedGatesModel" ⟨"PairedGatesModel", "giveBack", "(I)V"⟩ ⟨"PairedGatesModel", "giveBack", "(I)V"⟩ ∈ ac_U := ac_mem (i := 16) (by decide +kernel) rfl
theorem wu_17 : Cond.selects "PairedGatesModel" ⟨"PairedGatesModel", "look", "(I)V"⟩ ⟨"PairedGatesModel", "look", "(I)V"⟩ ∈ ac_U := ac_mem (i := 17) (by decide +kernel) rfl
theorem wu_18 : Cond.selects "PairedGatesModel" ⟨"PairedGatesModel", "goOn", "(I)I"⟩ ⟨"PairedGatesModel", "goOn", "(I)I"⟩ ∈ ac_U := ac_mem (i := 18) (by decide +kernel) rfl
theorem wu_19 : Cond.selects "PairedGatesModel" ⟨"PairedGatesModel", "meets", "(III)Z"⟩ ⟨"PairedGatesModel", "meets", "(III)Z"⟩ ∈ ac_U := ac_mem (i := 19) (by decide +kernel) rfl
theorem wu_20 : Cond.selects "PairedGatesModel" ⟨"PairedGatesModel", "leave", "(II)V"⟩ ⟨"PairedGatesModel", "leave", "(II)V"⟩ ∈ ac_U := ac_mem (i := 20) (by decide +kernel) rfl
theorem wu_21 : Cond.selects "PairedGatesModel" ⟨"PairedGatesModel", "copy", "(II)V"⟩ ⟨"PairedGatesModel", "copy", "(II)V"⟩ ∈ ac_U := ac_mem (i := 21) (by decide +kernel) rfl
theorem wu_22 : Cond.selects "PairedGatesModel" ⟨"PairedGatesModel", "share", "(II)V"⟩ ⟨"PairedGatesModel", "share", "(II)V"⟩ ∈ ac_U := ac_mem (i := 22) (by decide +kernel) rfl
theorem wu_23 : Cond.selects "PairedGatesModel" ⟨"PairedGatesModel", "begin", "(II)V"⟩ ⟨"PairedGatesModel", "begin", "(II)V"⟩ ∈ ac_U := ac_mem (i := 23) (by decide +kernel) rfl
theorem wu_24 : Cond.selects "PairedGatesModel" ⟨"PairedGatesModel", "pay", "(I)V"⟩ ⟨"PairedGatesModel", "pay", "(I)V"⟩ ∈ ac_U := ac_mem (i := 24) (by decide +kernel) rfl
theorem wu_25 : Cond.selects "PairedGatesModel" ⟨"PairedGatesModel", "turn", "(I)V"⟩ ⟨"PairedGatesModel", "turn", "(I)V"⟩ ∈ ac_U := ac_mem (i := 25) (by decide +kernel) rfl
theorem wu_26 : Cond.selects "PairedGatesModel" ⟨"PairedGatesModel", "hasSide", "(II)Z"⟩ ⟨"PairedGatesModel", "hasSide", "(II)Z"⟩ ∈ ac_U := ac_mem (i := 26) (by decide +kernel) rfl
theorem wu_27 : Cond.selects "PairedGatesModel" ⟨"PairedGatesModel", "isRepeated", "(I)Z"⟩ ⟨"PairedGatesModel", "isRepeated", "(I)Z"⟩ ∈ ac_U := ac_mem (i := 27) (by decide +kernel) rfl
theorem wu_28 : Cond.initialized "PairedGatesLaw" ∈ ac_U := ac_mem (i := 28) (by decide +kernel) rfl
theorem wu_29 : Cond.initialized "PairedGates" ∈ ac_U := ac_mem (i := 29) (by decide +kernel) rfl
theorem wu_30 : Cond.initialized "PairedGates$Lane" ∈ ac_U := ac_mem (i := 30) (by decide +kernel) rfl
theorem wu_31 : Cond.initialized "PairedGates$Eye" ∈ ac_U := ac_mem (i := 31) (by decide +kernel) rfl
theorem wu_32 : Cond.initialized "PairedGates$Blobs" ∈ ac_U := ac_mem (i := 32) (by decide +kernel) rfl
theorem wu_33 : Cond.initialized "PairedGates$Paddles" ∈ ac_U := ac_mem (i := 33) (by decide +kernel) rfl
theorem wu_34 : Cond.initialized "PairedGates$TokenList" ∈ ac_U := ac_mem (i := 34) (by decide +kernel) rfl
theorem wu_35 : Cond.initialized "java/lang/Math" ∈ ac_U := ac_mem (i := 35) (by decide +kernel) rfl
theorem wu_36 : Cond.initialized "PairedGates$Body" ∈ ac_U := ac_mem (i := 36) (by decide +kernel) rfl
theorem wu_37 : Cond.initialized "PairedGates$Refunds" ∈ ac_U := ac_mem (i := 37) (by decide +kernel) rfl
theorem wu_38 : Cond.initialized "PairedGatesModel" ∈ ac_U := ac_mem (i := 38) (by decide +kernel) rfl
theorem wu_42 : Cond.initialized "java/lang/IndexOutOfBoundsException" ∈ ac_U := ac_mem (i := 42) (by decide +kernel) rfl
theorem wu_43 : Cond.initialized "java/lang/IllegalArgumentException" ∈ ac_U := ac_mem (i := 43) (by decide +kernel) rfl
theorem wu_44 : Cond.initialized "java/lang/IllegalStateException" ∈ ac_U := ac_mem (i := 44) (by decide +kernel) rfl
theorem wu_45 : Cond.classLink "PairedGatesLaw" 8 "PairedGates" ∈ ac_U := ac_mem (i := 45) (by decide +kernel) rfl
theorem wu_46 : Cond.instantiable "PairedGates" 5 ∈ ac_U := ac_mem (i := 46) (by decide +kernel) rfl
theorem wu_47 : Cond.methodLink "PairedGatesLaw" 58 ⟨"PairedGates", "<init>", "()V"⟩ ∈ ac_U := ac_mem (i := 47) (by decide +kernel) rfl
theorem wu_48 : Cond.instanceMethod ⟨"PairedGates", "<init>", "()V"⟩ ∈ ac_U := ac_mem (i := 48) (by decide +kernel) rfl
set_option maxRecDepth 100000 in
theorem wu_49 : Cond.code ⟨"PairedGates", "<init>", "()V"⟩ prog_1_method_1_code 1 none ∈ ac_U := ac_mem (i := 49) rfl rfl
theorem wu_50 : Cond.methodLink "PairedGates" 1 ⟨"java/lang/Object", "<init>", "()V"⟩ ∈ ac_U := ac_mem (i := 50) (by decide +kernel) rfl
theorem wu_51 : Cond.instanceMethod ⟨"java/lang/Object", "<init>", "()V"⟩ ∈ ac_U := ac_mem (i := 51) (by decide +kernel) rfl
set_option maxRecDepth 100000 in
theorem wu_52 : Cond.code ⟨"java/lang/Object", "<init>", "()V"⟩ object_method_1_code 1 none ∈ ac_U := ac_mem (i := 52) rfl rfl
theorem wu_53 : Cond.classLink "PairedGates" 7 "PairedGates$Lane" ∈ ac_U := ac_mem (i := 53) (by decide +kernel) rfl
theorem wu_55 : Cond.instantiable "PairedGates$Lane" 10 ∈ ac_U := ac_mem (i := 55) (by decide +kernel) rfl
theorem wu_57 : Cond.instanceMethod ⟨"PairedGates$Lane", "<init>", "()V"⟩ ∈ ac_U := ac_mem (i := 57) (by decide +kernel) rfl
set_option maxRecDepth 100000 in
theorem wu_58 : Cond.code ⟨"PairedGates$Lane", "<init>", "()V"⟩ prog_5_method_1_code 1 none ∈ ac_U := ac_mem (i := 58) rfl rfl
theorem wu_59 : Cond.methodLink "PairedGates$Lane" 3 ⟨"java/lang/Object", "<init>", "()V"⟩ ∈ ac_U := ac_mem (i := 59) (by decide +kernel) rfl
theorem wu_60 : Cond.classLink "PairedGates$Lane" 9 "PairedGates$Eye" ∈ ac_U := ac_mem (i := 60) (by decide +kernel) rfl
theorem wu_61 : Cond.instantiable "PairedGates$Eye" 4 ∈ ac_U := ac_mem (i := 61) (by decide +kernel) rfl
theorem wu_63 : Cond.instanceMethod ⟨"PairedGates$Eye", "<init>", "()V"⟩ ∈ ac_U := ac_mem (i := 63) (by decide +kernel) rfl
set_option maxRecDepth 100000 in
theorem wu_64 : Cond.code ⟨"PairedGates$Eye", "<init>", "()V"⟩ prog_4_method_1_code 1 none ∈ ac_U := ac_mem (i := 64) rfl rfl
theorem wu_65 : Cond.methodLink "PairedGates$Eye" 3 ⟨"java/lang/Object", "<init>", "()V"⟩ ∈ ac_U := ac_mem (i := 65) (by decide +kernel) rfl
theorem wu_66 : Cond.fieldLink "PairedGates$Eye" 9 "PairedGates$Eye" "told" "I" ∈ ac_U := ac_mem (i := 66) (by decide +kernel) rfl
theorem wu_67 : Cond.fieldLink "PairedGates$Eye" 15 "PairedGates$Eye" "latest" "I" ∈ ac_U := ac_mem (i := 67) (by decide +kernel) rfl
theorem wu_68 : Cond.fieldLink "PairedGates$Eye" 18 "PairedGates$Eye" "earlier" "I" ∈ ac_U := ac_mem (i := 68) (by decide +kernel) rfl
theorem wu_69 : Cond.fieldLink "PairedGates$Eye" 21 "PairedGates$Eye" "seen" "I" ∈ ac_U := ac_mem (i := 69) (by decide +kernel) rfl
theorem wu_70 : Cond.fieldLink "PairedGates$Lane" 84 "PairedGates$Eye" "seen" "I" ∈ ac_U := ac_mem (i := 70) (by decide +kernel) rfl
theorem wu_71 : Cond.fieldLink "PairedGates" 150 "PairedGates$Eye" "seen" "I" ∈ ac_U := ac_mem (i := 71) (by decide +kernel) rfl
theorem wu_72 : Cond.lays "PairedGates$Eye" "PairedGates$Eye" "told" "I" ∈ ac_U := ac_mem (i := 72) (by decide +kernel) rfl
theorem wu_74 : Cond.lays "PairedGates$Eye" "PairedGates$Eye" "latest" "I" ∈ ac_U := ac_mem (i := 74) (by decide +kernel) rfl
theorem wu_76 : Cond.lays "PairedGates$Eye" "PairedGates$Eye" "earlier" "I" ∈ ac_U := ac_mem (i := 76) (by decide +kernel) rfl
theorem wu_78 : Cond.lays "PairedGates$Eye" "PairedGates$Eye" "seen" "I" ∈ ac_U := ac_mem (i := 78) (by decide +kernel) rfl
theorem wu_81 : Cond.classLink "PairedGates$Lane" 18 "PairedGates$Blobs" ∈ ac_U := ac_mem (i := 81) (by decide +kernel) rfl
theorem wu_82 : Cond.instantiable "PairedGates$Blobs" 3 ∈ ac_U := ac_mem (i := 82) (by decide +kernel) rfl
theorem wu_84 : Cond.instanceMethod ⟨"PairedGates$Blobs", "<init>", "()V"⟩ ∈ ac_U := ac_mem (i := 84) (by decide +kernel) rfl
set_option maxRecDepth 100000 in
theorem wu_85 : Cond.code ⟨"PairedGates$Blobs", "<init>", "()V"⟩ prog_2_method_1_code 1 none ∈ ac_U := ac_mem (i := 85) rfl rfl
theorem wu_86 : Cond.methodLink "PairedGates$Blobs" 3 ⟨"java/lang/Object", "<init>", "()V"⟩ ∈ ac_U := ac_mem (i := 86) (by decide +kernel) rfl
theorem wu_87 : Cond.fieldLink "PairedGates$Blobs" 9 "PairedGates$Blobs" "first" "[I" ∈ ac_U := ac_mem (i := 87) (by decide +kernel) rfl
theorem wu_88 : Cond.fieldLink "PairedGates$Lane" 141 "PairedGates$Blobs" "first" "[I" ∈ ac_U := ac_mem (i := 88) (by decide +kernel) rfl
theorem wu_89 : Cond.fieldLink "PairedGates$Blobs" 15 "PairedGates$Blobs" "last" "[I" ∈ ac_U := ac_mem (i := 89) (by decide +kernel) rfl
theorem wu_90 : Cond.fieldLink "PairedGates$Lane" 144 "PairedGates$Blobs" "last" "[I" ∈ ac_U := ac_mem (i := 90) (by decide +kernel) rfl
theorem wu_91 : Cond.fieldLink "PairedGates$Blobs" 18 "PairedGates$Blobs" "size" "I" ∈ ac_U := ac_mem (i := 91) (by decide +kernel) rfl
theorem wu_92 : Cond.fieldLink "PairedGates$Lane" 132 "PairedGates$Blobs" "size" "I" ∈ ac_U := ac_mem (i := 92) (by decide +kernel) rfl
theorem wu_93 : Cond.laysFinal "PairedGates$Blobs" "PairedGates$Blobs" "first" "[I" ∈ ac_U := ac_mem (i := 93) (by decide +kernel) rfl
theorem wu_95 : Cond.laysFinal "PairedGates$Blobs" "PairedGates$Blobs" "last" "[I" ∈ ac_U := ac_mem (i := 95) (by decide +kernel) rfl
theorem wu_97 : Cond.lays "PairedGates$Blobs" "PairedGates$Blobs" "size" "I" ∈ ac_U := ac_mem (i := 97) (by decide +kernel) rfl
theorem wu_100 : Cond.arrayClass .int ∈ ac_U := ac_mem (i := 100) (by decide +kernel) rfl
theorem wu_101 : Cond.classLink "PairedGates$Lane" 25 "PairedGates$Paddles" ∈ ac_U := ac_mem (i := 101) (by decide +kernel) rfl
theorem wu_102 : Cond.instantiable "PairedGates$Paddles" 2 ∈ ac_U := ac_mem (i := 102) (by decide +kernel) rfl
theorem wu_104 : Cond.instanceMethod ⟨"PairedGates$Paddles", "<init>", "()V"⟩ ∈ ac_U := ac_mem (i := 104) (by decide +kernel) rfl
set_option maxRecDepth 100000 in
theorem wu_105 : Cond.code ⟨"PairedGates$Paddles", "<init>", "()V"⟩ prog_6_method_1_code 1 none ∈ ac_U := ac_mem (i := 105) rfl rfl
theorem wu_106 : Cond.methodLink "PairedGates$Paddles" 3 ⟨"java/lang/Object", "<init>", "()V"⟩ ∈ ac_U := ac_mem (i := 106) (by decide +kernel) rfl
theorem wu_107 : Cond.fieldLink "PairedGates$Paddles" 9 "PairedGates$Paddles" "angle" "I" ∈ ac_U := ac_mem (i := 107) (by decide +kernel) rfl
theorem wu_108 : Cond.fieldLink "PairedGates" 142 "PairedGates$Paddles" "angle" "I" ∈ ac_U := ac_mem (i := 108) (by decide +kernel) rfl
theorem wu_109 : Cond.fieldLink "PairedGates$Paddles" 15 "PairedGates$Paddles" "order" "I" ∈ ac_U := ac_mem (i := 109) (by decide +kernel) rfl
theorem wu_110 : Cond.fieldLink "PairedGates" 147 "PairedGates$Paddles" "order" "I" ∈ ac_U := ac_mem (i := 110) (by decide +kernel) rfl
theorem wu_111 : Cond.lays "PairedGates$Paddles" "PairedGates$Paddles" "angle" "I" ∈ ac_U := ac_mem (i := 111) (by decide +kernel) rfl
theorem wu_113 : Cond.lays "PairedGates$Paddles" "PairedGates$Paddles" "order" "I" ∈ ac_U := ac_mem (i := 113) (by decide +kernel) rfl
theorem wu_116 : Cond.classLink "PairedGates$Lane" 32 "PairedGates$TokenList" ∈ ac_U := ac_mem (i := 116) (by decide +kernel) rfl
theorem wu_118 : Cond.instantiable "PairedGates$TokenList" 3 ∈ ac_U := ac_mem (i := 118) (by decide +kernel) rfl
theorem wu_119 : Cond.methodLink "PairedGates$Lane" 34 ⟨"PairedGates$TokenList", "<init>", "(I)V"⟩ ∈ ac_U := ac_mem (i := 119) (by decide +kernel) rfl
theorem wu_120 : Cond.instanceMethod ⟨"PairedGates$TokenList", "<init>", "(I)V"⟩ ∈ ac_U := ac_mem (i := 120) (by decide +kernel) rfl
set_option maxRecDepth 100000 in
theorem wu_121 : Cond.code ⟨"PairedGates$TokenList", "<init>", "(I)V"⟩ prog_8_method_1_code 3 none ∈ ac_U := ac_mem (i := 121) rfl rfl
theorem wu_122 : Cond.methodLink "PairedGates$TokenList" 3 ⟨"java/lang/Object", "<init>", "()V"⟩ ∈ ac_U := ac_mem (i := 122) (by decide +kernel) rfl
theorem wu_123 : Cond.methodLink "PairedGates$TokenList" 15 ⟨"java/lang/Math", "max", "(II)I"⟩ ∈ ac_U := ac_mem (i := 123) (by decide +kernel) rfl
theorem wu_124 : Cond.static ⟨"java/lang/Math", "max", "(II)I"⟩ ∈ ac_U := ac_mem (i := 124) (by decide +kernel) rfl
set_option maxRecDepth 100000 in
theorem wu_125 : Cond.code ⟨"java/lang/Math", "max", "(II)I"⟩ prog_15_method_65_code 2 (some (.int)) ∈ ac_U := ac_mem (i := 125) rfl rfl
theorem wu_126 : Cond.fieldLink "PairedGates$TokenList" 21 "PairedGates$TokenList" "accounts" "[I" ∈ ac_U := ac_mem (i := 126) (by decide +kernel) rfl
theorem wu_127 : Cond.fieldLink "PairedGates$TokenList" 25 "PairedGates$TokenList" "times" "[I" ∈ ac_U := ac_mem (i := 127) (by decide +kernel) rfl
theorem wu_128 : Cond.fieldLink "PairedGates$TokenList" 9 "PairedGates$TokenList" "size" "I" ∈ ac_U := ac_mem (i := 128) (by decide +kernel) rfl
theorem wu_129 : Cond.fieldLink "PairedGates" 86 "PairedGates$TokenList" "size" "I" ∈ ac_U := ac_mem (i := 129) (by decide +kernel) rfl
theorem wu_130 : Cond.laysFinal "PairedGates$TokenList" "PairedGates$TokenList" "accounts" "[I" ∈ ac_U := ac_mem (i := 130) (by decide +kernel) rfl
theorem wu_132 : Cond.laysFinal "PairedGates$TokenList" "PairedGates$TokenList" "times" "[I" ∈ ac_U := ac_mem (i := 132) (by decide +kernel) rfl
theorem wu_134 : Cond.lays "PairedGates$TokenList" "PairedGates$TokenList" "size" "I" ∈ ac_U := ac_mem (i := 134) (by decide +kernel) rfl
theorem wu_137 : Cond.methodLink "PairedGates$Lane" 55 ⟨"PairedGates$Lane", "newRow", "()[LPairedGates$Body;"⟩ ∈ ac_U := ac_mem (i := 137) (by decide +kernel) rfl
theorem wu_138 : Cond.static ⟨"PairedGates$Lane", "newRow", "()[LPairedGates$Body;"⟩ ∈ ac_U := ac_mem (i := 138) (by decide +kernel) rfl
set_option maxRecDepth 100000 in
theorem wu_139 : Cond.code ⟨"PairedGates$Lane", "newRow", "()[LPairedGates$Body;"⟩ prog_5_method_2_code 2 (some ((.array (.object "PairedGates$Body")))) ∈ ac_U := ac_mem (i := 139) rfl rfl
theorem wu_140 : Cond.classLink "PairedGates$Lane" 66 "PairedGates$Body" ∈ ac_U := ac_mem (i := 140) (by decide +kernel) rfl
theorem wu_142 : Cond.instantiable "PairedGates$Body" 5 ∈ ac_U := ac_mem (i := 142) (by decide +kernel) rfl
theorem wu_144 : Cond.instanceMethod ⟨"PairedGates$Body", "<init>", "()V"⟩ ∈ ac_U := ac_mem (i := 144) (by decide +kernel) rfl
set_option maxRecDepth 100000 in
theorem wu_145 : Cond.code ⟨"PairedGates$Body", "<init>", "()V"⟩ prog_3_method_1_code 1 none ∈ ac_U := ac_mem (i := 145) rfl rfl
theorem wu_146 : Cond.methodLink "PairedGates$Body" 3 ⟨"java/lang/Object", "<init>", "()V"⟩ ∈ ac_U := ac_mem (i := 146) (by decide +kernel) rfl
theorem wu_147 : Cond.fieldLink "PairedGates$Body" 9 "PairedGates$Body" "first" "I" ∈ ac_U := ac_mem (i := 147) (by decide +kernel) rfl
theorem wu_148 : Cond.fieldLink "PairedGates$Blobs" 30 "PairedGates$Body" "first" "I" ∈ ac_U := ac_mem (i := 148) (by decide +kernel) rfl
theorem wu_149 : Cond.fieldLink "PairedGates" 111 "PairedGates$Body" "first" "I" ∈ ac_U := ac_mem (i := 149) (by decide +kernel) rfl
theorem wu_150 : Cond.fieldLink "PairedGates$Body" 15 "PairedGates$Body" "last" "I" ∈ ac_U := ac_mem (i := 150) (by decide +kernel) rfl
theorem wu_151 : Cond.fieldLink "PairedGates$Blobs" 34 "PairedGates$Body" "last" "I" ∈ ac_U := ac_mem (i := 151) (by decide +kernel) rfl
theorem wu_152 : Cond.fieldLink "PairedGates" 116 "PairedGates$Body" "last" "I" ∈ ac_U := ac_mem (i := 152) (by decide +kernel) rfl
theorem wu_153 : Cond.fieldLink "PairedGates$Body" 18 "PairedGates$Body" "side" "I" ∈ ac_U := ac_mem (i := 153) (by decide +kernel) rfl
theorem wu_154 : Cond.fieldLink "PairedGates" 119 "PairedGates$Body" "side" "I" ∈ ac_U := ac_mem (i := 154) (by decide +kernel) rfl
theorem wu_155 : Cond.fieldLink "PairedGates$Lane" 168 "PairedGates$Body" "side" "I" ∈ ac_U := ac_mem (i := 155) (by decide +kernel) rfl
theorem wu_156 : Cond.fieldLink "PairedGates$Body" 21 "PairedGates$Body" "account" "I" ∈ ac_U := ac_mem (i := 156) (by decide +kernel) rfl
theorem wu_157 : Cond.fieldLink "PairedGates$Lane" 115 "PairedGates$Body" "account" "I" ∈ ac_U := ac_mem (i := 157) (by decide +kernel) rfl
theorem wu_158 : Cond.fieldLink "PairedGates" 122 "PairedGates$Body" "account" "I" ∈ ac_U := ac_mem (i := 158) (by decide +kernel) rfl
theorem wu_159 : Cond.fieldLink "PairedGates$Body" 24 "PairedGates$Body" "length" "I" ∈ ac_U := ac_mem (i := 159) (by decide +kernel) rfl
theorem wu_160 : Cond.fieldLink "PairedGates$Lane" 121 "PairedGates$Body" "length" "I" ∈ ac_U := ac_mem (i := 160) (by decide +kernel) rfl
theorem wu_161 : Cond.fieldLink "PairedGates" 125 "PairedGates$Body" "length" "I" ∈ ac_U := ac_mem (i := 161) (by decide +kernel) rfl
theorem wu_162 : Cond.lays "PairedGates$Body" "PairedGates$Body" "first" "I" ∈ ac_U := ac_mem (i := 162) (by decide +kernel) rfl
theorem wu_164 : Cond.lays "PairedGates$Body" "PairedGates$Body" "last" "I" ∈ ac_U := ac_mem (i := 164) (by decide +kernel) rfl
theorem wu_166 : Cond.lays "PairedGates$Body" "PairedGates$Body" "side" "I" ∈ ac_U := ac_mem (i := 166) (by decide +kernel) rfl
theorem wu_168 : Cond.lays "PairedGates$Body" "PairedGates$Body" "account" "I" ∈ ac_U := ac_mem (i := 168) (by decide +kernel) rfl
theorem wu_170 : Cond.lays "PairedGates$Body" "PairedGates$Body" "length" "I" ∈ ac_U := ac_mem (i := 170) (by decide +kernel) rfl
theorem wu_173 : Cond.fieldLink "PairedGates$Lane" 12 "PairedGates$Lane" "eye" "LPairedGates$Eye;" ∈ ac_U := ac_mem (i := 173) (by decide +kernel) rfl
theorem wu_174 : Cond.fieldLink "PairedGates" 44 "PairedGates$Lane" "eye" "LPairedGates$Eye;" ∈ ac_U := ac_mem (i := 174) (by decide +kernel) rfl
theorem wu_175 : Cond.fieldLink "PairedGates$Lane" 21 "PairedGates$Lane" "blobs" "LPairedGates$Blobs;" ∈ ac_U := ac_mem (i := 175) (by decide +kernel) rfl
theorem wu_176 : Cond.fieldLink "PairedGates$Lane" 28 "PairedGates$Lane" "paddles" "LPairedGates$Paddles;" ∈ ac_U := ac_mem (i := 176) (by decide +kernel) rfl
theorem wu_177 : Cond.fieldLink "PairedGates" 138 "PairedGates$Lane" "paddles" "LPairedGates$Paddles;" ∈ ac_U := ac_mem (i := 177) (by decide +kernel) rfl
theorem wu_178 : Cond.fieldLink "PairedGates$Lane" 37 "PairedGates$Lane" "queues" "[LPairedGates$TokenList;" ∈ ac_U := ac_mem (i := 178) (by decide +kernel) rfl
theorem wu_179 : Cond.fieldLink "PairedGates" 160 "PairedGates$Lane" "queues" "[LPairedGates$TokenList;" ∈ ac_U := ac_mem (i := 179) (by decide +kernel) rfl
theorem wu_180 : Cond.fieldLink "PairedGates$Lane" 41 "PairedGates$Lane" "counts" "[I" ∈ ac_U := ac_mem (i := 180) (by decide +kernel) rfl
theorem wu_181 : Cond.fieldLink "PairedGates" 134 "PairedGates$Lane" "counts" "[I" ∈ ac_U := ac_mem (i := 181) (by decide +kernel) rfl
theorem wu_182 : Cond.fieldLink "PairedGates$Lane" 45 "PairedGates$Lane" "goals" "[I" ∈ ac_U := ac_mem (i := 182) (by decide +kernel) rfl
theorem wu_183 : Cond.fieldLink "PairedGates$Lane" 48 "PairedGates$Lane" "openMode" "I" ∈ ac_U := ac_mem (i := 183) (by decide +kernel) rfl
theorem wu_184 : Cond.fieldLink "PairedGates$Lane" 52 "PairedGates$Lane" "size" "I" ∈ ac_U := ac_mem (i := 184) (by decide +kernel) rfl
theorem wu_185 : Cond.fieldLink "PairedGates" 97 "PairedGates$Lane" "size" "I" ∈ ac_U := ac_mem (i := 185) (by decide +kernel) rfl
theorem wu_186 : Cond.fieldLink "PairedGates$Lane" 59 "PairedGates$Lane" "row" "[LPairedGates$Body;" ∈ ac_U := ac_mem (i := 186) (by decide +kernel) rfl
theorem wu_187 : Cond.fieldLink "PairedGates" 168 "PairedGates$Lane" "row" "[LPairedGates$Body;" ∈ ac_U := ac_mem (i := 187) (by decide +kernel) rfl
theorem wu_188 : Cond.fieldLink "PairedGates$Lane" 63 "PairedGates$Lane" "nextRow" "[LPairedGates$Body;" ∈ ac_U := ac_mem (i := 188) (by decide +kernel) rfl
theorem wu_189 : Cond.laysFinal "PairedGates$Lane" "PairedGates$Lane" "eye" "LPairedGates$Eye;" ∈ ac_U := ac_mem (i := 189) (by decide +kernel) rfl
theorem wu_191 : Cond.laysFinal "PairedGates$Lane" "PairedGates$Lane" "blobs" "LPairedGates$Blobs;" ∈ ac_U := ac_mem (i := 191) (by decide +kernel) rfl
theorem wu_193 : Cond.laysFinal "PairedGates$Lane" "PairedGates$Lane" "paddles" "LPairedGates$Paddles;" ∈ ac_U := ac_mem (i := 193) (by decide +kernel) rfl
theorem wu_195 : Cond.laysFinal "PairedGates$Lane" "PairedGates$Lane" "queues" "[LPairedGates$TokenList;" ∈ ac_U := ac_mem (i := 195) (by decide +kernel) rfl
theorem wu_197 : Cond.laysFinal "PairedGates$Lane" "PairedGates$Lane" "counts" "[I" ∈ ac_U := ac_mem (i := 197) (by decide +kernel) rfl
theorem wu_199 : Cond.laysFinal "PairedGates$Lane" "PairedGates$Lane" "goals" "[I" ∈ ac_U := ac_mem (i := 199) (by decide +kernel) rfl
theorem wu_201 : Cond.lays "PairedGates$Lane" "PairedGates$Lane" "openMode" "I" ∈ ac_U := ac_mem (i := 201) (by decide +kernel) rfl
theorem wu_203 : Cond.lays "PairedGates$Lane" "PairedGates$Lane" "size" "I" ∈ ac_U := ac_mem (i := 203) (by decide +kernel) rfl
theorem wu_205 : Cond.lays "PairedGates$Lane" "PairedGates$Lane" "row" "[LPairedGates$Body;" ∈ ac_U := ac_mem (i := 205) (by decide +kernel) rfl
theorem wu_207 : Cond.lays "PairedGates$Lane" "PairedGates$Lane" "nextRow" "[LPairedGates$Body;" ∈ ac_U := ac_mem (i := 207) (by decide +kernel) rfl
theorem wu_210 : Cond.classLink "PairedGates" 16 "PairedGates$TokenList" ∈ ac_U := ac_mem (i := 210) (by decide +kernel) rfl
theorem wu_211 : Cond.methodLink "PairedGates" 18 ⟨"PairedGates$TokenList", "<init>", "(I)V"⟩ ∈ ac_U := ac_mem (i := 211) (by decide +kernel) rfl
theorem wu_212 : Cond.classLink "PairedGates" 25 "PairedGates$Refunds" ∈ ac_U := ac_mem (i := 212) (by decide +kernel) rfl
theorem wu_213 : Cond.instantiable "PairedGates$Refunds" 2 ∈ ac_U := ac_mem (i := 213) (by decide +kernel) rfl
theorem wu_215 : Cond.instanceMethod ⟨"PairedGates$Refunds", "<init>", "()V"⟩ ∈ ac_U := ac_mem (i := 215) (by decide +kernel) rfl
set_option maxRecDepth 100000 in
theorem wu_216 : Cond.code ⟨"PairedGates$Refunds", "<init>", "()V"⟩ prog_7_method_1_code 1 none ∈ ac_U := ac_mem (i := 216) rfl rfl
theorem wu_217 : Cond.methodLink "PairedGates$Refunds" 3 ⟨"java/lang/Object", "<init>", "()V"⟩ ∈ ac_U := ac_mem (i := 217) (by decide +kernel) rfl
theorem wu_218 : Cond.fieldLink "PairedGates$Refunds" 9 "PairedGates$Refunds" "accounts" "[I" ∈ ac_U := ac_mem (i := 218) (by decide +kernel) rfl
theorem wu_219 : Cond.fieldLink "PairedGates$Refunds" 15 "PairedGates$Refunds" "size" "I" ∈ ac_U := ac_mem (i := 219) (by decide +kernel) rfl
theorem wu_220 : Cond.fieldLink "PairedGates" 153 "PairedGates$Refunds" "size" "I" ∈ ac_U := ac_mem (i := 220) (by decide +kernel) rfl
theorem wu_221 : Cond.laysFinal "PairedGates$Refunds" "PairedGates$Refunds" "accounts" "[I" ∈ ac_U := ac_mem (i := 221) (by decide +kernel) rfl
theorem wu_223 : Cond.lays "PairedGates$Refunds" "PairedGates$Refunds" "size" "I" ∈ ac_U := ac_mem (i := 223) (by decide +kernel) rfl
theorem wu_226 : Cond.fieldLink "PairedGates" 10 "PairedGates" "lanes" "[LPairedGates$Lane;" ∈ ac_U := ac_mem (i := 226) (by decide +kernel) rfl
theorem wu_227 : Cond.fieldLink "PairedGates" 21 "PairedGates" "acceptances" "LPairedGates$TokenList;" ∈ ac_U := ac_mem (i := 227) (by decide +kernel) rfl
theorem wu_228 : Cond.fieldLink "PairedGates" 28 "PairedGates" "refundList" "LPairedGates$Refunds;" ∈ ac_U := ac_mem (i := 228) (by decide +kernel) rfl
theorem wu_229 : Cond.fieldLink "PairedGates" 32 "PairedGates" "alarmOn" "Z" ∈ ac_U := ac_mem (i := 229) (by decide +kernel) rfl
theorem wu_230 : Cond.fieldLink "PairedGates" 36 "PairedGates" "now" "I" ∈ ac_U := ac_mem (i := 230) (by decide +kernel) rfl
theorem wu_231 : Cond.laysFinal "PairedGates" "PairedGates" "lanes" "[LPairedGates$Lane;" ∈ ac_U := ac_mem (i := 231) (by decide +kernel) rfl
theorem wu_233 : Cond.laysFinal "PairedGates" "PairedGates" "acceptances" "LPairedGates$TokenList;" ∈ ac_U := ac_mem (i := 233) (by decide +kernel) rfl
theorem wu_235 : Cond.laysFinal "PairedGates" "PairedGates" "refundList" "LPairedGates$Refunds;" ∈ ac_U := ac_mem (i := 235) (by decide +kernel) rfl
theorem wu_237 : Cond.lays "PairedGates" "PairedGates" "alarmOn" "Z" ∈ ac_U := ac_mem (i := 237) (by decide +kernel) rfl
theorem wu_239 : Cond.lays "PairedGates" "PairedGates" "now" "I" ∈ ac_U := ac_mem (i := 239) (by decide +kernel) rfl
theorem wu_242 : Cond.methodLink "PairedGatesLaw" 87 ⟨"PairedGates", "alarm", "(Z)V"⟩ ∈ ac_U := ac_mem (i := 242) (by decide +kernel) rfl
theorem wu_243 : Cond.instanceMethod ⟨"PairedGates", "alarm", "(Z)V"⟩ ∈ ac_U := ac_mem (i := 243) (by decide +kernel) rfl
theorem wu_244 : Cond.selects "PairedGates" ⟨"PairedGates", "alarm", "(Z)V"⟩ ⟨"PairedGates", "alarm", "(Z)V"⟩ ∈ ac_U := ac_mem (i := 244) (by decide +kernel) rfl
set_option maxRecDepth 100000 in
theorem wu_245 : Cond.code ⟨"PairedGates", "alarm", "(Z)V"⟩ prog_1_method_7_code 2 none ∈ ac_U := ac_mem (i := 245) rfl rfl
theorem wu_246 : Cond.methodLink "PairedGatesLaw" 92 ⟨"PairedGates", "time", "()I"⟩ ∈ ac_U := ac_mem (i := 246) (by decide +kernel) rfl
theorem wu_247 : Cond.instanceMethod ⟨"PairedGates", "time", "()I"⟩ ∈ ac_U := ac_mem (i := 247) (by decide +kernel) rfl
theorem wu_248 : Cond.selects "PairedGates" ⟨"PairedGates", "time", "()I"⟩ ⟨"PairedGates", "time", "()I"⟩ ∈ ac_U := ac_mem (i := 248) (by decide +kernel) rfl
set_option maxRecDepth 100000 in
theorem wu_249 : Cond.code ⟨"PairedGates", "time", "()I"⟩ prog_1_method_8_code 1 (some (.int)) ∈ ac_U := ac_mem (i := 249) rfl rfl
theorem wu_250 : Cond.methodLink "PairedGatesLaw" 120 ⟨"PairedGates", "accepted", "()I"⟩ ∈ ac_U := ac_mem (i := 250) (by decide +kernel) rfl
theorem wu_251 : Cond.instanceMethod ⟨"PairedGates", "accepted", "()I"⟩ ∈ ac_U := ac_mem (i := 251) (by decide +kernel) rfl
theorem wu_252 : Cond.selects "PairedGates" ⟨"PairedGates", "accepted", "()I"⟩ ⟨"PairedGates", "accepted", "()I"⟩ ∈ ac_U := ac_mem (i := 252) (by decide +kernel) rfl
set_option maxRecDepth 100000 in
theorem wu_253 : Cond.code ⟨"PairedGates", "accepted", "()I"⟩ prog_1_method_17_code 1 (some (.int)) ∈ ac_U := ac_mem (i := 253) rfl rfl
theorem wu_254 : Cond.methodLink "PairedGatesLaw" 124 ⟨"PairedGates", "refunds", "()I"⟩ ∈ ac_U := ac_mem (i := 254) (by decide +kernel) rfl
theorem wu_255 : Cond.instanceMethod ⟨"PairedGates", "refunds", "()I"⟩ ∈ ac_U := ac_mem (i := 255) (by decide +kernel) rfl
theorem wu_256 : Cond.selects "PairedGates" ⟨"PairedGates", "refunds", "()I"⟩ ⟨"PairedGates", "refunds", "()I"⟩ ∈ ac_U := ac_mem (i := 256) (by decide +kernel) rfl
set_option maxRecDepth 100000 in
theorem wu_257 : Cond.code ⟨"PairedGates", "refunds", "()I"⟩ prog_1_method_18_code 1 (some (.int)) ∈ ac_U := ac_mem (i := 257) rfl rfl
theorem wu_258 : Cond.methodLink "PairedGatesLaw" 128 ⟨"PairedGates", "refund", "(I)I"⟩ ∈ ac_U := ac_mem (i := 258) (by decide +kernel) rfl
theorem wu_259 : Cond.instanceMethod ⟨"PairedGates", "refund", "(I)I"⟩ ∈ ac_U := ac_mem (i := 259) (by decide +kernel) rfl
theorem wu_260 : Cond.selects "PairedGates" ⟨"PairedGates", "refund", "(I)I"⟩ ⟨"PairedGates", "refund", "(I)I"⟩ ∈ ac_U := ac_mem (i := 260) (by decide +kernel) rfl
set_option maxRecDepth 100000 in
theorem wu_261 : Cond.code ⟨"PairedGates", "refund", "(I)I"⟩ prog_1_method_19_code 2 (some (.int)) ∈ ac_U := ac_mem (i := 261) rfl rfl
theorem wu_262 : Cond.methodLink "PairedGates" 154 ⟨"PairedGates$Refunds", "accountAt", "(I)I"⟩ ∈ ac_U := ac_mem (i := 262) (by decide +kernel) rfl
theorem wu_263 : Cond.instanceMethod ⟨"PairedGates$Refunds", "accountAt", "(I)I"⟩ ∈ ac_U := ac_mem (i := 263) (by decide +kernel) rfl
theorem wu_264 : Cond.selects "PairedGates$Refunds" ⟨"PairedGates$Refunds", "accountAt", "(I)I"⟩ ⟨"PairedGates$Refunds", "accountAt", "(I)I"⟩ ∈ ac_U := ac_mem (i := 264) (by decide +kernel) rfl
set_option maxRecDepth 100000 in
theorem wu_265 : Cond.code ⟨"PairedGates$Refunds", "accountAt", "(I)I"⟩ prog_7_method_3_code 2 (some (.int)) ∈ ac_U := ac_mem (i := 265) rfl rfl
theorem wu_266 : Cond.methodLink "PairedGatesLaw" 62 ⟨"PairedGatesLaw", "beams", "(LPairedGates;II)I"⟩ ∈ ac_U := ac_mem (i := 266) (by decide +kernel) rfl
theorem wu_267 : Cond.static ⟨"PairedGatesLaw", "beams", "(LPairedGates;II)I"⟩ ∈ ac_U := ac_mem (i := 267) (by decide +kernel) rfl
set_option maxRecDepth 100000 in
theorem wu_268 : Cond.codeWith ⟨"PairedGatesLaw", "beams", "(LPairedGates;II)I"⟩ method_3_code 4 (some (.int)) [(0, 6, 9, 13)] ∈ ac_U := ac_mem (i := 268) rfl rfl
theorem wu_269 : Cond.classLink "PairedGatesLaw" 13 "java/lang/IndexOutOfBoundsException" ∈ ac_U := ac_mem (i := 269) (by decide +kernel) rfl
theorem wu_270 : Cond.methodLink "PairedGatesLaw" 7 ⟨"PairedGates", "beams", "(II)V"⟩ ∈ ac_U := ac_mem (i := 270) (by decide +kernel) rfl
theorem wu_271 : Cond.instanceMethod ⟨"PairedGates", "beams", "(II)V"⟩ ∈ ac_U := ac_mem (i := 271) (by decide +kernel) rfl
theorem wu_272 : Cond.selects "PairedGates" ⟨"PairedGates", "beams", "(II)V"⟩ ⟨"PairedGates", "beams", "(II)V"⟩ ∈ ac_U := ac_mem (i := 272) (by decide +kernel) rfl
set_option maxRecDepth 100000 in
theorem wu_273 : Cond.code ⟨"PairedGates", "beams", "(II)V"⟩ prog_1_method_2_code 3 none ∈ ac_U := ac_mem (i := 273) rfl rfl
theorem wu_274 : Cond.methodLink "PairedGates" 40 ⟨"PairedGates", "laneAt", "(I)LPairedGates$Lane;"⟩ ∈ ac_U := ac_mem (i := 274) (by decide +kernel) rfl
theorem wu_276 : Cond.instanceMethod ⟨"PairedGates", "laneAt", "(I)LPairedGates$Lane;"⟩ ∈ ac_U := ac_mem (i := 276) (by decide +kernel) rfl
set_option maxRecDepth 100000 in
theorem wu_277 : Cond.code ⟨"PairedGates", "laneAt", "(I)LPairedGates$Lane;"⟩ prog_1_method_20_code 2 (some ((.object "PairedGates$Lane"))) ∈ ac_U := ac_mem (i := 277) rfl rfl
theorem wu_278 : Cond.classLink "PairedGates" 155 "java/lang/IndexOutOfBoundsException" ∈ ac_U := ac_mem (i := 278) (by decide +kernel) rfl
theorem wu_346 : Cond.methodLink "PairedGates" 48 ⟨"PairedGates$Eye", "tell", "(I)V"⟩ ∈ ac_U := ac_mem (i := 346) (by decide +kernel) rfl
theorem wu_347 : Cond.instanceMethod ⟨"PairedGates$Eye", "tell", "(I)V"⟩ ∈ ac_U := ac_mem (i := 347) (by decide +kernel) rfl
theorem wu_348 : Cond.selects "PairedGates$Eye" ⟨"PairedGates$Eye", "tell", "(I)V"⟩ ⟨"PairedGates$Eye", "tell", "(I)V"⟩ ∈ ac_U := ac_mem (i := 348) (by decide +kernel) rfl
set_option maxRecDepth 100000 in
theorem wu_349 : Cond.code ⟨"PairedGates$Eye", "tell", "(I)V"⟩ prog_4_method_2_code 2 none ∈ ac_U := ac_mem (i := 349) rfl rfl
theorem wu_350 : Cond.methodLink "PairedGatesLaw" 72 ⟨"PairedGatesLaw", "ticks", "(LPairedGates;I[J)I"⟩ ∈ ac_U := ac_mem (i := 350) (by decide +kernel) rfl
theorem wu_351 : Cond.static ⟨"PairedGatesLaw", "ticks", "(LPairedGates;I[J)I"⟩ ∈ ac_U := ac_mem (i := 351) (by decide +kernel) rfl
set_option maxRecDepth 100000 in
theorem wu_352 : Cond.codeWith ⟨"PairedGatesLaw", "ticks", "(LPairedGates;I[J)I"⟩ method_4_code 4 (some (.int)) [(0, 9, 12, 19)] ∈ ac_U := ac_mem (i := 352) rfl rfl
theorem wu_353 : Cond.classLink "PairedGatesLaw" 19 "java/lang/IllegalArgumentException" ∈ ac_U := ac_mem (i := 353) (by decide +kernel) rfl
theorem wu_354 : Cond.methodLink "PairedGatesLaw" 15 ⟨"PairedGates", "ticks", "(I)I"⟩ ∈ ac_U := ac_mem (i := 354) (by decide +kernel) rfl
theorem wu_355 : Cond.instanceMethod ⟨"PairedGates", "ticks", "(I)I"⟩ ∈ ac_U := ac_mem (i := 355) (by decide +kernel) rfl
theorem wu_356 : Cond.selects "PairedGates" ⟨"PairedGates", "ticks", "(I)I"⟩ ⟨"PairedGates", "ticks", "(I)I"⟩ ∈ ac_U := ac_mem (i := 356) (by decide +kernel) rfl
set_option maxRecDepth 100000 in
theorem wu_357 : Cond.code ⟨"PairedGates", "ticks", "(I)I"⟩ prog_1_method_3_code 5 (some (.int)) ∈ ac_U := ac_mem (i := 357) rfl rfl
theorem wu_358 : Cond.classLink "PairedGates" 53 "java/lang/IllegalArgumentException" ∈ ac_U := ac_mem (i := 358) (by decide +kernel) rfl
theorem wu_374 : Cond.methodLink "PairedGates" 60 ⟨"PairedGates$Lane", "tick", "(IZLPairedGates$Refunds;)I"⟩ ∈ ac_U := ac_mem (i := 374) (by decide +kernel) rfl
theorem wu_375 : Cond.instanceMethod ⟨"PairedGates$Lane", "tick", "(IZLPairedGates$Refunds;)I"⟩ ∈ ac_U := ac_mem (i := 375) (by decide +kernel) rfl
theorem wu_376 : Cond.selects "PairedGates$Lane" ⟨"PairedGates$Lane", "tick", "(IZLPairedGates$Refunds;)I"⟩ ⟨"PairedGates$Lane", "tick", "(IZLPairedGates$Refunds;)I"⟩ ∈ ac_U := ac_mem (i := 376) (by decide +kernel) rfl
set_option maxRecDepth 100000 in
theorem wu_377 : Cond.code ⟨"PairedGates$Lane", "tick", "(IZLPairedGates$Refunds;)I"⟩ prog_5_method_5_code 5 (some (.int)) ∈ ac_U := ac_mem (i := 377) rfl rfl
theorem wu_378 : Cond.methodLink "PairedGates$Lane" 77 ⟨"PairedGates$TokenList", "refundExpired", "(ILPairedGates$Refunds;)V"⟩ ∈ ac_U := ac_mem (i := 378) (by decide +kernel) rfl
theorem wu_379 : Cond.instanceMethod ⟨"PairedGates$TokenList", "refundExpired", "(ILPairedGates$Refunds;)V"⟩ ∈ ac_U := ac_mem (i := 379) (by decide +kernel) rfl
theorem wu_380 : Cond.selects "PairedGates$TokenList" ⟨"PairedGates$TokenList", "refundExpired", "(ILPairedGates$Refunds;)V"⟩ ⟨"PairedGates$TokenList", "refundExpired", "(ILPairedGates$Refunds;)V"⟩ ∈ ac_U := ac_mem (i := 380) (by decide +kernel) rfl
set_option maxRecDepth 100000 in
theorem wu_381 : Cond.code ⟨"PairedGates$TokenList", "refundExpired", "(ILPairedGates$Refunds;)V"⟩ prog_8_method_7_code 5 none ∈ ac_U := ac_mem (i := 381) rfl rfl
theorem wu_382 : Cond.methodLink "PairedGates$TokenList" 28 ⟨"PairedGates$TokenList", "removeOldest", "()I"⟩ ∈ ac_U := ac_mem (i := 382) (by decide +kernel) rfl
theorem wu_383 : Cond.instanceMethod ⟨"PairedGates$TokenList", "removeOldest", "()I"⟩ ∈ ac_U := ac_mem (i := 383) (by decide +kernel) rfl
theorem wu_384 : Cond.selects "PairedGates$TokenList" ⟨"PairedGates$TokenList", "removeOldest", "()I"⟩ ⟨"PairedGates$TokenList", "removeOldest", "()I"⟩ ∈ ac_U := ac_mem (i := 384) (by decide +kernel) rfl
set_option maxRecDepth 100000 in
theorem wu_385 : Cond.code ⟨"PairedGates$TokenList", "removeOldest", "()I"⟩ prog_8_method_6_code 3 (some (.int)) ∈ ac_U := ac_mem (i := 385) rfl rfl
theorem wu_386 : Cond.methodLink "PairedGates$TokenList" 32 ⟨"PairedGates$Refunds", "add", "(I)V"⟩ ∈ ac_U := ac_mem (i := 386) (by decide +kernel) rfl
theorem wu_387 : Cond.instanceMethod ⟨"PairedGates$Refunds", "add", "(I)V"⟩ ∈ ac_U := ac_mem (i := 387) (by decide +kernel) rfl
theorem wu_388 : Cond.selects "PairedGates$Refunds" ⟨"PairedGates$Refunds", "add", "(I)V"⟩ ⟨"PairedGates$Refunds", "add", "(I)V"⟩ ∈ ac_U := ac_mem (i := 388) (by decide +kernel) rfl
set_option maxRecDepth 100000 in
theorem wu_389 : Cond.code ⟨"PairedGates$Refunds", "add", "(I)V"⟩ prog_7_method_2_code 2 none ∈ ac_U := ac_mem (i := 389) rfl rfl
theorem wu_390 : Cond.methodLink "PairedGates$Lane" 81 ⟨"PairedGates$Eye", "take", "()V"⟩ ∈ ac_U := ac_mem (i := 390) (by decide +kernel) rfl
theorem wu_391 : Cond.instanceMethod ⟨"PairedGates$Eye", "take", "()V"⟩ ∈ ac_U := ac_mem (i := 391) (by decide +kernel) rfl
theorem wu_392 : Cond.selects "PairedGates$Eye" ⟨"PairedGates$Eye", "take", "()V"⟩ ⟨"PairedGates$Eye", "take", "()V"⟩ ∈ ac_U := ac_mem (i := 392) (by decide +kernel) rfl
set_option maxRecDepth 100000 in
theorem wu_393 : Cond.code ⟨"PairedGates$Eye", "take", "()V"⟩ prog_4_method_3_code 1 none ∈ ac_U := ac_mem (i := 393) rfl rfl
theorem wu_394 : Cond.methodLink "PairedGates$Lane" 87 ⟨"PairedGates$Blobs", "find", "(I)V"⟩ ∈ ac_U := ac_mem (i := 394) (by decide +kernel) rfl
theorem wu_395 : Cond.instanceMethod ⟨"PairedGates$Blobs", "find", "(I)V"⟩ ∈ ac_U := ac_mem (i := 395) (by decide +kernel) rfl
theorem wu_396 : Cond.selects "PairedGates$Blobs" ⟨"PairedGates$Blobs", "find", "(I)V"⟩ ⟨"PairedGates$Blobs", "find", "(I)V"⟩ ∈ ac_U := ac_mem (i := 396) (by decide +kernel) rfl
set_option maxRecDepth 100000 in
theorem wu_397 : Cond.code ⟨"PairedGates$Blobs", "find", "(I)V"⟩ prog_2_method_2_code 3 none ∈ ac_U := ac_mem (i := 397) rfl rfl
theorem wu_398 : Cond.methodLink "PairedGates$Blobs" 22 ⟨"PairedGates$Blobs", "addBeam", "(I)V"⟩ ∈ ac_U := ac_mem (i := 398) (by decide +kernel) rfl
theorem wu_400 : Cond.instanceMethod ⟨"PairedGates$Blobs", "addBeam", "(I)V"⟩ ∈ ac_U := ac_mem (i := 400) (by decide +kernel) rfl
set_option maxRecDepth 100000 in
theorem wu_401 : Cond.code ⟨"PairedGates$Blobs", "addBeam", "(I)V"⟩ prog_2_method_3_code 2 none ∈ ac_U := ac_mem (i := 401) rfl rfl
theorem wu_402 : Cond.methodLink "PairedGates$Lane" 90 ⟨"PairedGates$Lane", "sendBodies", "(LPairedGates$Refunds;)I"⟩ ∈ ac_U := ac_mem (i := 402) (by decide +kernel) rfl
theorem wu_404 : Cond.instanceMethod ⟨"PairedGates$Lane", "sendBodies", "(LPairedGates$Refunds;)I"⟩ ∈ ac_U := ac_mem (i := 404) (by decide +kernel) rfl
set_option maxRecDepth 100000 in
theorem wu_405 : Cond.code ⟨"PairedGates$Lane", "sendBodies", "(LPairedGates$Refunds;)I"⟩ prog_5_method_6_code 4 (some (.int)) ∈ ac_U := ac_mem (i := 405) rfl rfl
theorem wu_406 : Cond.methodLink "PairedGates$Lane" 107 ⟨"PairedGates$Blobs", "firstMetBy", "(LPairedGates$Body;)I"⟩ ∈ ac_U := ac_mem (i := 406) (by decide +kernel) rfl
theorem wu_407 : Cond.instanceMethod ⟨"PairedGates$Blobs", "firstMetBy", "(LPairedGates$Body;)I"⟩ ∈ ac_U := ac_mem (i := 407) (by decide +kernel) rfl
theorem wu_408 : Cond.selects "PairedGates$Blobs" ⟨"PairedGates$Blobs", "firstMetBy", "(LPairedGates$Body;)I"⟩ ⟨"PairedGates$Blobs", "firstMetBy", "(LPairedGates$Body;)I"⟩ ∈ ac_U := ac_mem (i := 408) (by decide +kernel) rfl
set_option maxRecDepth 100000 in
theorem wu_409 : Cond.code ⟨"PairedGates$Blobs", "firstMetBy", "(LPairedGates$Body;)I"⟩ prog_2_method_4_code 3 (some (.int)) ∈ ac_U := ac_mem (i := 409) rfl rfl
theorem wu_410 : Cond.methodLink "PairedGates$Blobs" 26 ⟨"PairedGates$Blobs", "isMetBy", "(LPairedGates$Body;I)Z"⟩ ∈ ac_U := ac_mem (i := 410) (by decide +kernel) rfl
theorem wu_411 : Cond.instanceMethod ⟨"PairedGates$Blobs", "isMetBy", "(LPairedGates$Body;I)Z"⟩ ∈ ac_U := ac_mem (i := 411) (by decide +kernel) rfl
theorem wu_412 : Cond.selects "PairedGates$Blobs" ⟨"PairedGates$Blobs", "isMetBy", "(LPairedGates$Body;I)Z"⟩ ⟨"PairedGates$Blobs", "isMetBy", "(LPairedGates$Body;I)Z"⟩ ∈ ac_U := ac_mem (i := 412) (by decide +kernel) rfl
set_option maxRecDepth 100000 in
theorem wu_413 : Cond.code ⟨"PairedGates$Blobs", "isMetBy", "(LPairedGates$Body;I)Z"⟩ prog_2_method_5_code 3 (some (.boolean)) ∈ ac_U := ac_mem (i := 413) rfl rfl
theorem wu_414 : Cond.methodLink "PairedGates$Lane" 111 ⟨"PairedGates$Lane", "countLeaver", "(LPairedGates$Body;LPairedGates$Refunds;)V"⟩ ∈ ac_U := ac_mem (i := 414) (by decide +kernel) rfl
theorem wu_416 : Cond.instanceMethod ⟨"PairedGates$Lane", "countLeaver", "(LPairedGates$Body;LPairedGates$Refunds;)V"⟩ ∈ ac_U := ac_mem (i := 416) (by decide +kernel) rfl
set_option maxRecDepth 100000 in
theorem wu_417 : Cond.code ⟨"PairedGates$Lane", "countLeaver", "(LPairedGates$Body;LPairedGates$Refunds;)V"⟩ prog_5_method_7_code 4 none ∈ ac_U := ac_mem (i := 417) rfl rfl
theorem wu_418 : Cond.methodLink "PairedGates$Lane" 118 ⟨"PairedGates$Body", "isThrough", "()Z"⟩ ∈ ac_U := ac_mem (i := 418) (by decide +kernel) rfl
theorem wu_419 : Cond.instanceMethod ⟨"PairedGates$Body", "isThrough", "()Z"⟩ ∈ ac_U := ac_mem (i := 419) (by decide +kernel) rfl
theorem wu_420 : Cond.selects "PairedGates$Body" ⟨"PairedGates$Body", "isThrough", "()Z"⟩ ⟨"PairedGates$Body", "isThrough", "()Z"⟩ ∈ ac_U := ac_mem (i := 420) (by decide +kernel) rfl
set_option maxRecDepth 100000 in
theorem wu_421 : Cond.code ⟨"PairedGates$Body", "isThrough", "()Z"⟩ prog_3_method_4_code 1 (some (.boolean)) ∈ ac_U := ac_mem (i := 421) rfl rfl
theorem wu_422 : Cond.methodLink "PairedGates$Body" 33 ⟨"PairedGates$Body", "endsHigh", "()Z"⟩ ∈ ac_U := ac_mem (i := 422) (by decide +kernel) rfl
theorem wu_424 : Cond.instanceMethod ⟨"PairedGates$Body", "endsHigh", "()Z"⟩ ∈ ac_U := ac_mem (i := 424) (by decide +kernel) rfl
set_option maxRecDepth 100000 in
theorem wu_425 : Cond.code ⟨"PairedGates$Body", "endsHigh", "()Z"⟩ prog_3_method_8_code 1 (some (.boolean)) ∈ ac_U := ac_mem (i := 425) rfl rfl
theorem wu_426 : Cond.methodLink "PairedGates$Body" 37 ⟨"PairedGates$Body", "startsLow", "()Z"⟩ ∈ ac_U := ac_mem (i := 426) (by decide +kernel) rfl
theorem wu_428 : Cond.instanceMethod ⟨"PairedGates$Body", "startsLow", "()Z"⟩ ∈ ac_U := ac_mem (i := 428) (by decide +kernel) rfl
set_option maxRecDepth 100000 in
theorem wu_429 : Cond.code ⟨"PairedGates$Body", "startsLow", "()Z"⟩ prog_3_method_7_code 1 (some (.boolean)) ∈ ac_U := ac_mem (i := 429) rfl rfl
theorem wu_430 : Cond.methodLink "PairedGates$Lane" 124 ⟨"PairedGates$Body", "isTurned", "()Z"⟩ ∈ ac_U := ac_mem (i := 430) (by decide +kernel) rfl
theorem wu_431 : Cond.instanceMethod ⟨"PairedGates$Body", "isTurned", "()Z"⟩ ∈ ac_U := ac_mem (i := 431) (by decide +kernel) rfl
theorem wu_432 : Cond.selects "PairedGates$Body" ⟨"PairedGates$Body", "isTurned", "()Z"⟩ ⟨"PairedGates$Body", "isTurned", "()Z"⟩ ∈ ac_U := ac_mem (i := 432) (by decide +kernel) rfl
set_option maxRecDepth 100000 in
theorem wu_433 : Cond.code ⟨"PairedGates$Body", "isTurned", "()Z"⟩ prog_3_method_5_code 1 (some (.boolean)) ∈ ac_U := ac_mem (i := 433) rfl rfl
theorem wu_434 : Cond.methodLink "PairedGates$Lane" 127 ⟨"PairedGates$Refunds", "add", "(I)V"⟩ ∈ ac_U := ac_mem (i := 434) (by decide +kernel) rfl
theorem wu_435 : Cond.methodLink "PairedGates$Lane" 93 ⟨"PairedGates$Lane", "renewRow", "(I)V"⟩ ∈ ac_U := ac_mem (i := 435) (by decide +kernel) rfl
theorem wu_437 : Cond.instanceMethod ⟨"PairedGates$Lane", "renewRow", "(I)V"⟩ ∈ ac_U := ac_mem (i := 437) (by decide +kernel) rfl
set_option maxRecDepth 100000 in
theorem wu_438 : Cond.code ⟨"PairedGates$Lane", "renewRow", "(I)V"⟩ prog_5_method_8_code 6 none ∈ ac_U := ac_mem (i := 438) rfl rfl
theorem wu_439 : Cond.methodLink "PairedGates$Lane" 133 ⟨"PairedGates$Lane", "sharersOf", "(I)I"⟩ ∈ ac_U := ac_mem (i := 439) (by decide +kernel) rfl
theorem wu_441 : Cond.instanceMethod ⟨"PairedGates$Lane", "sharersOf", "(I)I"⟩ ∈ ac_U := ac_mem (i := 441) (by decide +kernel) rfl
set_option maxRecDepth 100000 in
theorem wu_442 : Cond.code ⟨"PairedGates$Lane", "sharersOf", "(I)I"⟩ prog_5_method_9_code 4 (some (.int)) ∈ ac_U := ac_mem (i := 442) rfl rfl
theorem wu_443 : Cond.methodLink "PairedGates$Lane" 137 ⟨"PairedGates$Lane", "shareBlob", "(III)I"⟩ ∈ ac_U := ac_mem (i := 443) (by decide +kernel) rfl
theorem wu_445 : Cond.instanceMethod ⟨"PairedGates$Lane", "shareBlob", "(III)I"⟩ ∈ ac_U := ac_mem (i := 445) (by decide +kernel) rfl
set_option maxRecDepth 100000 in
theorem wu_446 : Cond.code ⟨"PairedGates$Lane", "shareBlob", "(III)I"⟩ prog_5_method_10_code 11 (some (.int)) ∈ ac_U := ac_mem (i := 446) rfl rfl
theorem wu_447 : Cond.methodLink "PairedGates$Lane" 154 ⟨"java/lang/Math", "max", "(II)I"⟩ ∈ ac_U := ac_mem (i := 447) (by decide +kernel) rfl
theorem wu_448 : Cond.methodLink "PairedGates$Lane" 160 ⟨"PairedGates$Body", "follow", "(LPairedGates$Body;II)V"⟩ ∈ ac_U := ac_mem (i := 448) (by decide +kernel) rfl
theorem wu_449 : Cond.instanceMethod ⟨"PairedGates$Body", "follow", "(LPairedGates$Body;II)V"⟩ ∈ ac_U := ac_mem (i := 449) (by decide +kernel) rfl
theorem wu_450 : Cond.selects "PairedGates$Body" ⟨"PairedGates$Body", "follow", "(LPairedGates$Body;II)V"⟩ ⟨"PairedGates$Body", "follow", "(LPairedGates$Body;II)V"⟩ ∈ ac_U := ac_mem (i := 450) (by decide +kernel) rfl
set_option maxRecDepth 100000 in
theorem wu_451 : Cond.code ⟨"PairedGates$Body", "follow", "(LPairedGates$Body;II)V"⟩ prog_3_method_3_code 4 none ∈ ac_U := ac_mem (i := 451) rfl rfl
theorem wu_452 : Cond.methodLink "PairedGates$Body" 27 ⟨"java/lang/Math", "max", "(II)I"⟩ ∈ ac_U := ac_mem (i := 452) (by decide +kernel) rfl
theorem wu_453 : Cond.methodLink "PairedGates$Lane" 147 ⟨"PairedGates$Lane", "sideFor", "(I)I"⟩ ∈ ac_U := ac_mem (i := 453) (by decide +kernel) rfl
theorem wu_455 : Cond.instanceMethod ⟨"PairedGates$Lane", "sideFor", "(I)I"⟩ ∈ ac_U := ac_mem (i := 455) (by decide +kernel) rfl
set_option maxRecDepth 100000 in
theorem wu_456 : Cond.code ⟨"PairedGates$Lane", "sideFor", "(I)I"⟩ prog_5_method_11_code 3 (some (.int)) ∈ ac_U := ac_mem (i := 456) rfl rfl
theorem wu_457 : Cond.methodLink "PairedGates$Lane" 164 ⟨"PairedGates$Blobs", "isMetBy", "(LPairedGates$Body;I)Z"⟩ ∈ ac_U := ac_mem (i := 457) (by decide +kernel) rfl
theorem wu_458 : Cond.methodLink "PairedGates$Lane" 150 ⟨"PairedGates$Body", "enter", "(III)V"⟩ ∈ ac_U := ac_mem (i := 458) (by decide +kernel) rfl
theorem wu_459 : Cond.instanceMethod ⟨"PairedGates$Body", "enter", "(III)V"⟩ ∈ ac_U := ac_mem (i := 459) (by decide +kernel) rfl
theorem wu_460 : Cond.selects "PairedGates$Body" ⟨"PairedGates$Body", "enter", "(III)V"⟩ ⟨"PairedGates$Body", "enter", "(III)V"⟩ ∈ ac_U := ac_mem (i := 460) (by decide +kernel) rfl
set_option maxRecDepth 100000 in
theorem wu_461 : Cond.code ⟨"PairedGates$Body", "enter", "(III)V"⟩ prog_3_method_2_code 4 none ∈ ac_U := ac_mem (i := 461) rfl rfl
theorem wu_462 : Cond.methodLink "PairedGates$Lane" 96 ⟨"PairedGates$Lane", "handOutTokens", "()V"⟩ ∈ ac_U := ac_mem (i := 462) (by decide +kernel) rfl
theorem wu_464 : Cond.instanceMethod ⟨"PairedGates$Lane", "handOutTokens", "()V"⟩ ∈ ac_U := ac_mem (i := 464) (by decide +kernel) rfl
set_option maxRecDepth 100000 in
theorem wu_465 : Cond.code ⟨"PairedGates$Lane", "handOutTokens", "()V"⟩ prog_5_method_12_code 3 none ∈ ac_U := ac_mem (i := 465) rfl rfl
theorem wu_466 : Cond.methodLink "PairedGates$Lane" 171 ⟨"PairedGates$Body", "hasReachedPaddles", "()Z"⟩ ∈ ac_U := ac_mem (i := 466) (by decide +kernel) rfl
theorem wu_467 : Cond.instanceMethod ⟨"PairedGates$Body", "hasReachedPaddles", "()Z"⟩ ∈ ac_U := ac_mem (i := 467) (by decide +kernel) rfl
theorem wu_468 : Cond.selects "PairedGates$Body" ⟨"PairedGates$Body", "hasReachedPaddles", "()Z"⟩ ⟨"PairedGates$Body", "hasReachedPaddles", "()Z"⟩ ∈ ac_U := ac_mem (i := 468) (by decide +kernel) rfl
set_option maxRecDepth 100000 in
theorem wu_469 : Cond.code ⟨"PairedGates$Body", "hasReachedPaddles", "()Z"⟩ prog_3_method_6_code 1 (some (.boolean)) ∈ ac_U := ac_mem (i := 469) rfl rfl
theorem wu_470 : Cond.methodLink "PairedGates$Lane" 174 ⟨"PairedGates$TokenList", "removeOldest", "()I"⟩ ∈ ac_U := ac_mem (i := 470) (by decide +kernel) rfl
theorem wu_471 : Cond.methodLink "PairedGates$Lane" 99 ⟨"PairedGates$Lane", "someBodyHasToken", "()Z"⟩ ∈ ac_U := ac_mem (i := 471) (by decide +kernel) rfl
theorem wu_473 : Cond.instanceMethod ⟨"PairedGates$Lane", "someBodyHasToken", "()Z"⟩ ∈ ac_U := ac_mem (i := 473) (by decide +kernel) rfl
set_option maxRecDepth 100000 in
theorem wu_474 : Cond.code ⟨"PairedGates$Lane", "someBodyHasToken", "()Z"⟩ prog_5_method_13_code 2 (some (.boolean)) ∈ ac_U := ac_mem (i := 474) rfl rfl
theorem wu_475 : Cond.methodLink "PairedGates$Lane" 103 ⟨"PairedGates$Paddles", "move", "(ZZ)V"⟩ ∈ ac_U := ac_mem (i := 475) (by decide +kernel) rfl
theorem wu_476 : Cond.instanceMethod ⟨"PairedGates$Paddles", "move", "(ZZ)V"⟩ ∈ ac_U := ac_mem (i := 476) (by decide +kernel) rfl
theorem wu_477 : Cond.selects "PairedGates$Paddles" ⟨"PairedGates$Paddles", "move", "(ZZ)V"⟩ ⟨"PairedGates$Paddles", "move", "(ZZ)V"⟩ ∈ ac_U := ac_mem (i := 477) (by decide +kernel) rfl
set_option maxRecDepth 100000 in
theorem wu_478 : Cond.code ⟨"PairedGates$Paddles", "move", "(ZZ)V"⟩ prog_6_method_2_code 3 none ∈ ac_U := ac_mem (i := 478) rfl rfl
theorem wu_479 : Cond.methodLink "PairedGatesLaw" 76 ⟨"PairedGatesLaw", "token", "(LPairedGates;III[J)I"⟩ ∈ ac_U := ac_mem (i := 479) (by decide +kernel) rfl
theorem wu_480 : Cond.static ⟨"PairedGatesLaw", "token", "(LPairedGates;III[J)I"⟩ ∈ ac_U := ac_mem (i := 480) (by decide +kernel) rfl
set_option maxRecDepth 100000 in
theorem wu_481 : Cond.codeWith ⟨"PairedGatesLaw", "token", "(LPairedGates;III[J)I"⟩ method_5_code 6 (some (.int)) [(0, 12, 15, 13), (0, 12, 19, 19)] ∈ ac_U := ac_mem (i := 481) rfl rfl
theorem wu_482 : Cond.methodLink "PairedGatesLaw" 21 ⟨"PairedGates", "token", "(III)I"⟩ ∈ ac_U := ac_mem (i := 482) (by decide +kernel) rfl
theorem wu_483 : Cond.instanceMethod ⟨"PairedGates", "token", "(III)I"⟩ ∈ ac_U := ac_mem (i := 483) (by decide +kernel) rfl
theorem wu_484 : Cond.selects "PairedGates" ⟨"PairedGates", "token", "(III)I"⟩ ⟨"PairedGates", "token", "(III)I"⟩ ∈ ac_U := ac_mem (i := 484) (by decide +kernel) rfl
set_option maxRecDepth 100000 in
theorem wu_485 : Cond.code ⟨"PairedGates", "token", "(III)I"⟩ prog_1_method_4_code 6 (some (.int)) ∈ ac_U := ac_mem (i := 485) rfl rfl
theorem wu_486 : Cond.methodLink "PairedGates" 64 ⟨"PairedGates", "queueAt", "(LPairedGates$Lane;I)LPairedGates$TokenList;"⟩ ∈ ac_U := ac_mem (i := 486) (by decide +kernel) rfl
theorem wu_487 : Cond.static ⟨"PairedGates", "queueAt", "(LPairedGates$Lane;I)LPairedGates$TokenList;"⟩ ∈ ac_U := ac_mem (i := 487) (by decide +kernel) rfl
set_option maxRecDepth 100000 in
theorem wu_488 : Cond.code ⟨"PairedGates", "queueAt", "(LPairedGates$Lane;I)LPairedGates$TokenList;"⟩ prog_1_method_21_code 2 (some ((.object "PairedGates$TokenList"))) ∈ ac_U := ac_mem (i := 488) rfl rfl
theorem wu_491 : Cond.methodLink "PairedGates" 70 ⟨"PairedGates$Lane", "takesSide", "(I)Z"⟩ ∈ ac_U := ac_mem (i := 491) (by decide +kernel) rfl
theorem wu_492 : Cond.instanceMethod ⟨"PairedGates$Lane", "takesSide", "(I)Z"⟩ ∈ ac_U := ac_mem (i := 492) (by decide +kernel) rfl
theorem wu_493 : Cond.selects "PairedGates$Lane" ⟨"PairedGates$Lane", "takesSide", "(I)Z"⟩ ⟨"PairedGates$Lane", "takesSide", "(I)Z"⟩ ∈ ac_U := ac_mem (i := 493) (by decide +kernel) rfl
set_option maxRecDepth 100000 in
theorem wu_494 : Cond.code ⟨"PairedGates$Lane", "takesSide", "(I)Z"⟩ prog_5_method_3_code 2 (some (.boolean)) ∈ ac_U := ac_mem (i := 494) rfl rfl
theorem wu_495 : Cond.methodLink "PairedGates" 74 ⟨"PairedGates$TokenList", "hasRecent", "(II)Z"⟩ ∈ ac_U := ac_mem (i := 495) (by decide +kernel) rfl
theorem wu_496 : Cond.instanceMethod ⟨"PairedGates$TokenList", "hasRecent", "(II)Z"⟩ ∈ ac_U := ac_mem (i := 496) (by decide +kernel) rfl
theorem wu_497 : Cond.selects "PairedGates$TokenList" ⟨"PairedGates$TokenList", "hasRecent", "(II)Z"⟩ ⟨"PairedGates$TokenList", "hasRecent", "(II)Z"⟩ ∈ ac_U := ac_mem (i := 497) (by decide +kernel) rfl
set_option maxRecDepth 100000 in
theorem wu_498 : Cond.code ⟨"PairedGates$TokenList", "hasRecent", "(II)Z"⟩ prog_8_method_5_code 4 (some (.boolean)) ∈ ac_U := ac_mem (i := 498) rfl rfl
theorem wu_499 : Cond.methodLink "PairedGates" 78 ⟨"PairedGates$TokenList", "isFull", "()Z"⟩ ∈ ac_U := ac_mem (i := 499) (by decide +kernel) rfl
theorem wu_500 : Cond.instanceMethod ⟨"PairedGates$TokenList", "isFull", "()Z"⟩ ∈ ac_U := ac_mem (i := 500) (by decide +kernel) rfl
theorem wu_501 : Cond.selects "PairedGates$TokenList" ⟨"PairedGates$TokenList", "isFull", "()Z"⟩ ⟨"PairedGates$TokenList", "isFull", "()Z"⟩ ∈ ac_U := ac_mem (i := 501) (by decide +kernel) rfl
set_option maxRecDepth 100000 in
theorem wu_502 : Cond.code ⟨"PairedGates$TokenList", "isFull", "()Z"⟩ prog_8_method_2_code 1 (some (.boolean)) ∈ ac_U := ac_mem (i := 502) rfl rfl
theorem wu_503 : Cond.methodLink "PairedGates" 82 ⟨"PairedGates$TokenList", "add", "(II)V"⟩ ∈ ac_U := ac_mem (i := 503) (by decide +kernel) rfl
theorem wu_504 : Cond.instanceMethod ⟨"PairedGates$TokenList", "add", "(II)V"⟩ ∈ ac_U := ac_mem (i := 504) (by decide +kernel) rfl
theorem wu_505 : Cond.selects "PairedGates$TokenList" ⟨"PairedGates$TokenList", "add", "(II)V"⟩ ⟨"PairedGates$TokenList", "add", "(II)V"⟩ ∈ ac_U := ac_mem (i := 505) (by decide +kernel) rfl
set_option maxRecDepth 100000 in
theorem wu_506 : Cond.code ⟨"PairedGates$TokenList", "add", "(II)V"⟩ prog_8_method_3_code 3 none ∈ ac_U := ac_mem (i := 506) rfl rfl
theorem wu_507 : Cond.methodLink "PairedGatesLaw" 80 ⟨"PairedGatesLaw", "cancel", "(LPairedGates;II[J)I"⟩ ∈ ac_U := ac_mem (i := 507) (by decide +kernel) rfl
theorem wu_508 : Cond.static ⟨"PairedGatesLaw", "cancel", "(LPairedGates;II[J)I"⟩ ∈ ac_U := ac_mem (i := 508) (by decide +kernel) rfl
set_option maxRecDepth 100000 in
theorem wu_509 : Cond.codeWith ⟨"PairedGatesLaw", "cancel", "(LPairedGates;II[J)I"⟩ method_6_code 5 (some (.int)) [(0, 10, 13, 13)] ∈ ac_U := ac_mem (i := 509) rfl rfl
theorem wu_510 : Cond.methodLink "PairedGatesLaw" 25 ⟨"PairedGates", "cancel", "(II)I"⟩ ∈ ac_U := ac_mem (i := 510) (by decide +kernel) rfl
theorem wu_511 : Cond.instanceMethod ⟨"PairedGates", "cancel", "(II)I"⟩ ∈ ac_U := ac_mem (i := 511) (by decide +kernel) rfl
theorem wu_512 : Cond.selects "PairedGates" ⟨"PairedGates", "cancel", "(II)I"⟩ ⟨"PairedGates", "cancel", "(II)I"⟩ ∈ ac_U := ac_mem (i := 512) (by decide +kernel) rfl
set_option maxRecDepth 100000 in
theorem wu_513 : Cond.code ⟨"PairedGates", "cancel", "(II)I"⟩ prog_1_method_5_code 5 (some (.int)) ∈ ac_U := ac_mem (i := 513) rfl rfl
theorem wu_514 : Cond.methodLink "PairedGates" 89 ⟨"PairedGates$TokenList", "removeOldest", "()I"⟩ ∈ ac_U := ac_mem (i := 514) (by decide +kernel) rfl
theorem wu_515 : Cond.methodLink "PairedGates" 93 ⟨"PairedGates$Refunds", "add", "(I)V"⟩ ∈ ac_U := ac_mem (i := 515) (by decide +kernel) rfl
theorem wu_516 : Cond.methodLink "PairedGatesLaw" 84 ⟨"PairedGatesLaw", "mode", "(LPairedGates;II[J)I"⟩ ∈ ac_U := ac_mem (i := 516) (by decide +kernel) rfl
theorem wu_517 : Cond.static ⟨"PairedGatesLaw", "mode", "(LPairedGates;II[J)I"⟩ ∈ ac_U := ac_mem (i := 517) (by decide +kernel) rfl
set_option maxRecDepth 100000 in
theorem wu_518 : Cond.codeWith ⟨"PairedGatesLaw", "mode", "(LPairedGates;II[J)I"⟩ method_7_code 5 (some (.int)) [(0, 10, 13, 13), (0, 10, 17, 19), (0, 10, 21, 32)] ∈ ac_U := ac_mem (i := 518) rfl rfl
theorem wu_519 : Cond.classLink "PairedGatesLaw" 32 "java/lang/IllegalStateException" ∈ ac_U := ac_mem (i := 519) (by decide +kernel) rfl
theorem wu_520 : Cond.methodLink "PairedGatesLaw" 29 ⟨"PairedGates", "mode", "(II)I"⟩ ∈ ac_U := ac_mem (i := 520) (by decide +kernel) rfl
theorem wu_521 : Cond.instanceMethod ⟨"PairedGates", "mode", "(II)I"⟩ ∈ ac_U := ac_mem (i := 521) (by decide +kernel) rfl
theorem wu_522 : Cond.selects "PairedGates" ⟨"PairedGates", "mode", "(II)I"⟩ ⟨"PairedGates", "mode", "(II)I"⟩ ∈ ac_U := ac_mem (i := 522) (by decide +kernel) rfl
set_option maxRecDepth 100000 in
theorem wu_523 : Cond.code ⟨"PairedGates", "mode", "(II)I"⟩ prog_1_method_6_code 4 (some (.int)) ∈ ac_U := ac_mem (i := 523) rfl rfl
theorem wu_525 : Cond.classLink "PairedGates" 98 "java/lang/IllegalStateException" ∈ ac_U := ac_mem (i := 525) (by decide +kernel) rfl
theorem wu_541 : Cond.methodLink "PairedGates" 103 ⟨"PairedGates$Lane", "changeMode", "(ILPairedGates$Refunds;)I"⟩ ∈ ac_U := ac_mem (i := 541) (by decide +kernel) rfl
theorem wu_542 : Cond.instanceMethod ⟨"PairedGates$Lane", "changeMode", "(ILPairedGates$Refunds;)I"⟩ ∈ ac_U := ac_mem (i := 542) (by decide +kernel) rfl
theorem wu_543 : Cond.selects "PairedGates$Lane" ⟨"PairedGates$Lane", "changeMode", "(ILPairedGates$Refunds;)I"⟩ ⟨"PairedGates$Lane", "changeMode", "(ILPairedGates$Refunds;)I"⟩ ∈ ac_U := ac_mem (i := 543) (by decide +kernel) rfl
set_option maxRecDepth 100000 in
theorem wu_544 : Cond.code ⟨"PairedGates$Lane", "changeMode", "(ILPairedGates$Refunds;)I"⟩ prog_5_method_4_code 5 (some (.int)) ∈ ac_U := ac_mem (i := 544) rfl rfl
theorem wu_545 : Cond.methodLink "PairedGates$Lane" 69 ⟨"PairedGates$Lane", "takesSide", "(I)Z"⟩ ∈ ac_U := ac_mem (i := 545) (by decide +kernel) rfl
theorem wu_546 : Cond.methodLink "PairedGates$Lane" 73 ⟨"PairedGates$TokenList", "refundAll", "(LPairedGates$Refunds;)I"⟩ ∈ ac_U := ac_mem (i := 546) (by decide +kernel) rfl
theorem wu_547 : Cond.instanceMethod ⟨"PairedGates$TokenList", "refundAll", "(LPairedGates$Refunds;)I"⟩ ∈ ac_U := ac_mem (i := 547) (by decide +kernel) rfl
theorem wu_548 : Cond.selects "PairedGates$TokenList" ⟨"PairedGates$TokenList", "refundAll", "(LPairedGates$Refunds;)I"⟩ ⟨"PairedGates$TokenList", "refundAll", "(LPairedGates$Refunds;)I"⟩ ∈ ac_U := ac_mem (i := 548) (by decide +kernel) rfl
set_option maxRecDepth 100000 in
theorem wu_549 : Cond.code ⟨"PairedGates$TokenList", "refundAll", "(LPairedGates$Refunds;)I"⟩ prog_8_method_8_code 4 (some (.int)) ∈ ac_U := ac_mem (i := 549) rfl rfl
theorem wu_550 : Cond.methodLink "PairedGatesLaw" 96 ⟨"PairedGatesLaw", "bodies", "(LPairedGates;I[J)I"⟩ ∈ ac_U := ac_mem (i := 550) (by decide +kernel) rfl
theorem wu_551 : Cond.static ⟨"PairedGatesLaw", "bodies", "(LPairedGates;I[J)I"⟩ ∈ ac_U := ac_mem (i := 551) (by decide +kernel) rfl
set_option maxRecDepth 100000 in
theorem wu_552 : Cond.codeWith ⟨"PairedGatesLaw", "bodies", "(LPairedGates;I[J)I"⟩ method_8_code 4 (some (.int)) [(0, 9, 12, 13)] ∈ ac_U := ac_mem (i := 552) rfl rfl
theorem wu_553 : Cond.methodLink "PairedGatesLaw" 34 ⟨"PairedGates", "bodies", "(I)I"⟩ ∈ ac_U := ac_mem (i := 553) (by decide +kernel) rfl
theorem wu_554 : Cond.instanceMethod ⟨"PairedGates", "bodies", "(I)I"⟩ ∈ ac_U := ac_mem (i := 554) (by decide +kernel) rfl
theorem wu_555 : Cond.selects "PairedGates" ⟨"PairedGates", "bodies", "(I)I"⟩ ⟨"PairedGates", "bodies", "(I)I"⟩ ∈ ac_U := ac_mem (i := 555) (by decide +kernel) rfl
set_option maxRecDepth 100000 in
theorem wu_556 : Cond.code ⟨"PairedGates", "bodies", "(I)I"⟩ prog_1_method_9_code 2 (some (.int)) ∈ ac_U := ac_mem (i := 556) rfl rfl
theorem wu_557 : Cond.methodLink "PairedGatesLaw" 99 ⟨"PairedGatesLaw", "body", "(LPairedGates;III[J)I"⟩ ∈ ac_U := ac_mem (i := 557) (by decide +kernel) rfl
theorem wu_558 : Cond.static ⟨"PairedGatesLaw", "body", "(LPairedGates;III[J)I"⟩ ∈ ac_U := ac_mem (i := 558) (by decide +kernel) rfl
set_option maxRecDepth 100000 in
theorem wu_559 : Cond.codeWith ⟨"PairedGatesLaw", "body", "(LPairedGates;III[J)I"⟩ method_9_code 6 (some (.int)) [(0, 12, 15, 13), (0, 12, 19, 19)] ∈ ac_U := ac_mem (i := 559) rfl rfl
theorem wu_560 : Cond.methodLink "PairedGatesLaw" 37 ⟨"PairedGates", "body", "(III)I"⟩ ∈ ac_U := ac_mem (i := 560) (by decide +kernel) rfl
theorem wu_561 : Cond.instanceMethod ⟨"PairedGates", "body", "(III)I"⟩ ∈ ac_U := ac_mem (i := 561) (by decide +kernel) rfl
theorem wu_562 : Cond.selects "PairedGates" ⟨"PairedGates", "body", "(III)I"⟩ ⟨"PairedGates", "body", "(III)I"⟩ ∈ ac_U := ac_mem (i := 562) (by decide +kernel) rfl
set_option maxRecDepth 100000 in
theorem wu_563 : Cond.code ⟨"PairedGates", "body", "(III)I"⟩ prog_1_method_10_code 5 (some (.int)) ∈ ac_U := ac_mem (i := 563) rfl rfl
theorem wu_564 : Cond.methodLink "PairedGates" 107 ⟨"PairedGates", "bodyAt", "(LPairedGates$Lane;I)LPairedGates$Body;"⟩ ∈ ac_U := ac_mem (i := 564) (by decide +kernel) rfl
theorem wu_565 : Cond.static ⟨"PairedGates", "bodyAt", "(LPairedGates$Lane;I)LPairedGates$Body;"⟩ ∈ ac_U := ac_mem (i := 565) (by decide +kernel) rfl
set_option maxRecDepth 100000 in
theorem wu_566 : Cond.code ⟨"PairedGates", "bodyAt", "(LPairedGates$Lane;I)LPairedGates$Body;"⟩ prog_1_method_22_code 2 (some ((.object "PairedGates$Body"))) ∈ ac_U := ac_mem (i := 566) rfl rfl
theorem wu_569 : Cond.methodLink "PairedGatesLaw" 102 ⟨"PairedGatesLaw", "waiting", "(LPairedGates;II[J)I"⟩ ∈ ac_U := ac_mem (i := 569) (by decide +kernel) rfl
theorem wu_570 : Cond.static ⟨"PairedGatesLaw", "waiting", "(LPairedGates;II[J)I"⟩ ∈ ac_U := ac_mem (i := 570) (by decide +kernel) rfl
set_option maxRecDepth 100000 in
theorem wu_571 : Cond.codeWith ⟨"PairedGatesLaw", "waiting", "(LPairedGates;II[J)I"⟩ method_10_code 5 (some (.int)) [(0, 10, 13, 13)] ∈ ac_U := ac_mem (i := 571) rfl rfl
theorem wu_572 : Cond.methodLink "PairedGatesLaw" 40 ⟨"PairedGates", "waiting", "(II)I"⟩ ∈ ac_U := ac_mem (i := 572) (by decide +kernel) rfl
theorem wu_573 : Cond.instanceMethod ⟨"PairedGates", "waiting", "(II)I"⟩ ∈ ac_U := ac_mem (i := 573) (by decide +kernel) rfl
theorem wu_574 : Cond.selects "PairedGates" ⟨"PairedGates", "waiting", "(II)I"⟩ ⟨"PairedGates", "waiting", "(II)I"⟩ ∈ ac_U := ac_mem (i := 574) (by decide +kernel) rfl
set_option maxRecDepth 100000 in
theorem wu_575 : Cond.code ⟨"PairedGates", "waiting", "(II)I"⟩ prog_1_method_11_code 3 (some (.int)) ∈ ac_U := ac_mem (i := 575) rfl rfl
theorem wu_576 : Cond.methodLink "PairedGatesLaw" 105 ⟨"PairedGatesLaw", "waits", "(LPairedGates;III[J)I"⟩ ∈ ac_U := ac_mem (i := 576) (by decide +kernel) rfl
theorem wu_577 : Cond.static ⟨"PairedGatesLaw", "waits", "(LPairedGates;III[J)I"⟩ ∈ ac_U := ac_mem (i := 577) (by decide +kernel) rfl
set_option maxRecDepth 100000 in
theorem wu_578 : Cond.codeWith ⟨"PairedGatesLaw", "waits", "(LPairedGates;III[J)I"⟩ method_11_code 6 (some (.int)) [(0, 12, 15, 13)] ∈ ac_U := ac_mem (i := 578) rfl rfl
theorem wu_579 : Cond.methodLink "PairedGatesLaw" 43 ⟨"PairedGates", "waits", "(III)I"⟩ ∈ ac_U := ac_mem (i := 579) (by decide +kernel) rfl
theorem wu_580 : Cond.instanceMethod ⟨"PairedGates", "waits", "(III)I"⟩ ∈ ac_U := ac_mem (i := 580) (by decide +kernel) rfl
theorem wu_581 : Cond.selects "PairedGates" ⟨"PairedGates", "waits", "(III)I"⟩ ⟨"PairedGates", "waits", "(III)I"⟩ ∈ ac_U := ac_mem (i := 581) (by decide +kernel) rfl
set_option maxRecDepth 100000 in
theorem wu_582 : Cond.code ⟨"PairedGates", "waits", "(III)I"⟩ prog_1_method_12_code 4 (some (.int)) ∈ ac_U := ac_mem (i := 582) rfl rfl
theorem wu_583 : Cond.methodLink "PairedGates" 130 ⟨"PairedGates$TokenList", "accountAt", "(I)I"⟩ ∈ ac_U := ac_mem (i := 583) (by decide +kernel) rfl
theorem wu_584 : Cond.instanceMethod ⟨"PairedGates$TokenList", "accountAt", "(I)I"⟩ ∈ ac_U := ac_mem (i := 584) (by decide +kernel) rfl
theorem wu_585 : Cond.selects "PairedGates$TokenList" ⟨"PairedGates$TokenList", "accountAt", "(I)I"⟩ ⟨"PairedGates$TokenList", "accountAt", "(I)I"⟩ ∈ ac_U := ac_mem (i := 585) (by decide +kernel) rfl
set_option maxRecDepth 100000 in
theorem wu_586 : Cond.code ⟨"PairedGates$TokenList", "accountAt", "(I)I"⟩ prog_8_method_4_code 2 (some (.int)) ∈ ac_U := ac_mem (i := 586) rfl rfl
theorem wu_587 : Cond.methodLink "PairedGatesLaw" 108 ⟨"PairedGatesLaw", "count", "(LPairedGates;II[J)I"⟩ ∈ ac_U := ac_mem (i := 587) (by decide +kernel) rfl
theorem wu_588 : Cond.static ⟨"PairedGatesLaw", "count", "(LPairedGates;II[J)I"⟩ ∈ ac_U := ac_mem (i := 588) (by decide +kernel) rfl
set_option maxRecDepth 100000 in
theorem wu_589 : Cond.codeWith ⟨"PairedGatesLaw", "count", "(LPairedGates;II[J)I"⟩ method_12_code 5 (some (.int)) [(0, 10, 13, 13)] ∈ ac_U := ac_mem (i := 589) rfl rfl
theorem wu_590 : Cond.methodLink "PairedGatesLaw" 46 ⟨"PairedGates", "count", "(II)I"⟩ ∈ ac_U := ac_mem (i := 590) (by decide +kernel) rfl
theorem wu_591 : Cond.instanceMethod ⟨"PairedGates", "count", "(II)I"⟩ ∈ ac_U := ac_mem (i := 591) (by decide +kernel) rfl
theorem wu_592 : Cond.selects "PairedGates" ⟨"PairedGates", "count", "(II)I"⟩ ⟨"PairedGates", "count", "(II)I"⟩ ∈ ac_U := ac_mem (i := 592) (by decide +kernel) rfl
set_option maxRecDepth 100000 in
theorem wu_593 : Cond.code ⟨"PairedGates", "count", "(II)I"⟩ prog_1_method_13_code 4 (some (.int)) ∈ ac_U := ac_mem (i := 593) rfl rfl
theorem wu_594 : Cond.methodLink "PairedGatesLaw" 111 ⟨"PairedGatesLaw", "angle", "(LPairedGates;I[J)I"⟩ ∈ ac_U := ac_mem (i := 594) (by decide +kernel) rfl
theorem wu_595 : Cond.static ⟨"PairedGatesLaw", "angle", "(LPairedGates;I[J)I"⟩ ∈ ac_U := ac_mem (i := 595) (by decide +kernel) rfl
set_option maxRecDepth 100000 in
theorem wu_596 : Cond.codeWith ⟨"PairedGatesLaw", "angle", "(LPairedGates;I[J)I"⟩ method_13_code 4 (some (.int)) [(0, 9, 12, 13)] ∈ ac_U := ac_mem (i := 596) rfl rfl
theorem wu_597 : Cond.methodLink "PairedGatesLaw" 49 ⟨"PairedGates", "angle", "(I)I"⟩ ∈ ac_U := ac_mem (i := 597) (by decide +kernel) rfl
theorem wu_598 : Cond.instanceMethod ⟨"PairedGates", "angle", "(I)I"⟩ ∈ ac_U := ac_mem (i := 598) (by decide +kernel) rfl
theorem wu_599 : Cond.selects "PairedGates" ⟨"PairedGates", "angle", "(I)I"⟩ ⟨"PairedGates", "angle", "(I)I"⟩ ∈ ac_U := ac_mem (i := 599) (by decide +kernel) rfl
set_option maxRecDepth 100000 in
theorem wu_600 : Cond.code ⟨"PairedGates", "angle", "(I)I"⟩ prog_1_method_14_code 2 (some (.int)) ∈ ac_U := ac_mem (i := 600) rfl rfl
theorem wu_601 : Cond.methodLink "PairedGatesLaw" 114 ⟨"PairedGatesLaw", "order", "(LPairedGates;I[J)I"⟩ ∈ ac_U := ac_mem (i := 601) (by decide +kernel) rfl
theorem wu_602 : Cond.static ⟨"PairedGatesLaw", "order", "(LPairedGates;I[J)I"⟩ ∈ ac_U := ac_mem (i := 602) (by decide +kernel) rfl
set_option maxRecDepth 100000 in
theorem wu_603 : Cond.codeWith ⟨"PairedGatesLaw", "order", "(LPairedGates;I[J)I"⟩ method_14_code 4 (some (.int)) [(0, 9, 12, 13)] ∈ ac_U := ac_mem (i := 603) rfl rfl
theorem wu_604 : Cond.methodLink "PairedGatesLaw" 52 ⟨"PairedGates", "order", "(I)I"⟩ ∈ ac_U := ac_mem (i := 604) (by decide +kernel) rfl
theorem wu_605 : Cond.instanceMethod ⟨"PairedGates", "order", "(I)I"⟩ ∈ ac_U := ac_mem (i := 605) (by decide +kernel) rfl
theorem wu_606 : Cond.selects "PairedGates" ⟨"PairedGates", "order", "(I)I"⟩ ⟨"PairedGates", "order", "(I)I"⟩ ∈ ac_U := ac_mem (i := 606) (by decide +kernel) rfl
set_option maxRecDepth 100000 in
theorem wu_607 : Cond.code ⟨"PairedGates", "order", "(I)I"⟩ prog_1_method_15_code 2 (some (.int)) ∈ ac_U := ac_mem (i := 607) rfl rfl
theorem wu_608 : Cond.methodLink "PairedGatesLaw" 117 ⟨"PairedGatesLaw", "seen", "(LPairedGates;I[J)I"⟩ ∈ ac_U := ac_mem (i := 608) (by decide +kernel) rfl
theorem wu_609 : Cond.static ⟨"PairedGatesLaw", "seen", "(LPairedGates;I[J)I"⟩ ∈ ac_U := ac_mem (i := 609) (by decide +kernel) rfl
set_option maxRecDepth 100000 in
theorem wu_610 : Cond.codeWith ⟨"PairedGatesLaw", "seen", "(LPairedGates;I[J)I"⟩ method_15_code 4 (some (.int)) [(0, 9, 12, 13)] ∈ ac_U := ac_mem (i := 610) rfl rfl
theorem wu_611 : Cond.methodLink "PairedGatesLaw" 55 ⟨"PairedGates", "seen", "(I)I"⟩ ∈ ac_U := ac_mem (i := 611) (by decide +kernel) rfl
theorem wu_612 : Cond.instanceMethod ⟨"PairedGates", "seen", "(I)I"⟩ ∈ ac_U := ac_mem (i := 612) (by decide +kernel) rfl
theorem wu_613 : Cond.selects "PairedGates" ⟨"PairedGates", "seen", "(I)I"⟩ ⟨"PairedGates", "seen", "(I)I"⟩ ∈ ac_U := ac_mem (i := 613) (by decide +kernel) rfl
set_option maxRecDepth 100000 in
theorem wu_614 : Cond.code ⟨"PairedGates", "seen", "(I)I"⟩ prog_1_method_16_code 2 (some (.int)) ∈ ac_U := ac_mem (i := 614) rfl rfl
theorem wu_615 : Cond.classLink "PairedGatesLaw" 59 "PairedGatesModel" ∈ ac_U := ac_mem (i := 615) (by decide +kernel) rfl
theorem wu_616 : Cond.instantiable "PairedGatesModel" 31 ∈ ac_U := ac_mem (i := 616) (by decide +kernel) rfl
theorem wu_617 : Cond.methodLink "PairedGatesLaw" 61 ⟨"PairedGatesModel", "<init>", "()V"⟩ ∈ ac_U := ac_mem (i := 617) (by decide +kernel) rfl
theorem wu_618 : Cond.instanceMethod ⟨"PairedGatesModel", "<init>", "()V"⟩ ∈ ac_U := ac_mem (i := 618) (by decide +kernel) rfl
set_option maxRecDepth 100000 in
theorem wu_619 : Cond.code ⟨"PairedGatesModel", "<init>", "()V"⟩ prog_10_method_1_code 1 none ∈ ac_U := ac_mem (i := 619) rfl rfl
theorem wu_620 : Cond.methodLink "PairedGatesModel" 1 ⟨"java/lang/Object", "<init>", "()V"⟩ ∈ ac_U := ac_mem (i := 620) (by decide +kernel) rfl
theorem wu_621 : Cond.fieldLink "PairedGatesModel" 85 "PairedGatesModel" "fault" "I" ∈ ac_U := ac_mem (i := 621) (by decide +kernel) rfl
theorem wu_622 : Cond.fieldLink "PairedGatesModel" 121 "PairedGatesModel" "time" "I" ∈ ac_U := ac_mem (i := 622) (by decide +kernel) rfl
theorem wu_623 : Cond.fieldLink "PairedGatesModel" 117 "PairedGatesModel" "alarm" "Z" ∈ ac_U := ac_mem (i := 623) (by decide +kernel) rfl
theorem wu_624 : Cond.fieldLink "PairedGatesModel" 7 "PairedGatesModel" "told" "[I" ∈ ac_U := ac_mem (i := 624) (by decide +kernel) rfl
theorem wu_625 : Cond.fieldLink "PairedGatesModel" 13 "PairedGatesModel" "before" "[I" ∈ ac_U := ac_mem (i := 625) (by decide +kernel) rfl
theorem wu_626 : Cond.fieldLink "PairedGatesModel" 16 "PairedGatesModel" "earlier" "[I" ∈ ac_U := ac_mem (i := 626) (by decide +kernel) rfl
theorem wu_627 : Cond.fieldLink "PairedGatesModel" 19 "PairedGatesModel" "seen" "[I" ∈ ac_U := ac_mem (i := 627) (by decide +kernel) rfl
theorem wu_628 : Cond.fieldLink "PairedGatesModel" 22 "PairedGatesModel" "modes" "[I" ∈ ac_U := ac_mem (i := 628) (by decide +kernel) rfl
theorem wu_629 : Cond.fieldLink "PairedGatesModel" 25 "PairedGatesModel" "angle" "[I" ∈ ac_U := ac_mem (i := 629) (by decide +kernel) rfl
theorem wu_630 : Cond.fieldLink "PairedGatesModel" 28 "PairedGatesModel" "order" "[I" ∈ ac_U := ac_mem (i := 630) (by decide +kernel) rfl
theorem wu_631 : Cond.fieldLink "PairedGatesModel" 31 "PairedGatesModel" "counts" "[I" ∈ ac_U := ac_mem (i := 631) (by decide +kernel) rfl
theorem wu_632 : Cond.fieldLink "PairedGatesModel" 34 "PairedGatesModel" "bodies" "[I" ∈ ac_U := ac_mem (i := 632) (by decide +kernel) rfl
theorem wu_633 : Cond.fieldLink "PairedGatesModel" 37 "PairedGatesModel" "first" "[I" ∈ ac_U := ac_mem (i := 633) (by decide +kernel) rfl
theorem wu_634 : Cond.fieldLink "PairedGatesModel" 40 "PairedGatesModel" "last" "[I" ∈ ac_U := ac_mem (i := 634) (by decide +kernel) rfl
theorem wu_635 : Cond.fieldLink "PairedGatesModel" 43 "PairedGatesModel" "side" "[I" ∈ ac_U := ac_mem (i := 635) (by decide +kernel) rfl
theorem wu_636 : Cond.fieldLink "PairedGatesModel" 46 "PairedGatesModel" "owns" "[I" ∈ ac_U := ac_mem (i := 636) (by decide +kernel) rfl
theorem wu_637 : Cond.fieldLink "PairedGatesModel" 49 "PairedGatesModel" "length" "[I" ∈ ac_U := ac_mem (i := 637) (by decide +kernel) rfl
theorem wu_638 : Cond.fieldLink "PairedGatesModel" 52 "PairedGatesModel" "blobOf" "[I" ∈ ac_U := ac_mem (i := 638) (by decide +kernel) rfl
theorem wu_639 : Cond.fieldLink "PairedGatesModel" 55 "PairedGatesModel" "oldFirst" "[I" ∈ ac_U := ac_mem (i := 639) (by decide +kernel) rfl
theorem wu_640 : Cond.fieldLink "PairedGatesModel" 58 "PairedGatesModel" "oldLast" "[I" ∈ ac_U := ac_mem (i := 640) (by decide +kernel) rfl
theorem wu_641 : Cond.fieldLink "PairedGatesModel" 92 "PairedGatesModel" "blobs" "I" ∈ ac_U := ac_mem (i := 641) (by decide +kernel) rfl
theorem wu_642 : Cond.fieldLink "PairedGatesModel" 61 "PairedGatesModel" "blobFirst" "[I" ∈ ac_U := ac_mem (i := 642) (by decide +kernel) rfl
theorem wu_643 : Cond.fieldLink "PairedGatesModel" 64 "PairedGatesModel" "blobLast" "[I" ∈ ac_U := ac_mem (i := 643) (by decide +kernel) rfl
theorem wu_644 : Cond.fieldLink "PairedGatesModel" 67 "PairedGatesModel" "waiting" "[I" ∈ ac_U := ac_mem (i := 644) (by decide +kernel) rfl
theorem wu_645 : Cond.fieldLink "PairedGatesModel" 70 "PairedGatesModel" "account" "[I" ∈ ac_U := ac_mem (i := 645) (by decide +kernel) rfl
theorem wu_646 : Cond.fieldLink "PairedGatesModel" 73 "PairedGatesModel" "since" "[I" ∈ ac_U := ac_mem (i := 646) (by decide +kernel) rfl
theorem wu_647 : Cond.fieldLink "PairedGatesModel" 149 "PairedGatesModel" "accepted" "I" ∈ ac_U := ac_mem (i := 647) (by decide +kernel) rfl
theorem wu_648 : Cond.fieldLink "PairedGatesModel" 76 "PairedGatesModel" "takenOf" "[I" ∈ ac_U := ac_mem (i := 648) (by decide +kernel) rfl
theorem wu_649 : Cond.fieldLink "PairedGatesModel" 79 "PairedGatesModel" "takenAt" "[I" ∈ ac_U := ac_mem (i := 649) (by decide +kernel) rfl
theorem wu_650 : Cond.fieldLink "PairedGatesModel" 89 "PairedGatesModel" "refunds" "I" ∈ ac_U := ac_mem (i := 650) (by decide +kernel) rfl
theorem wu_651 : Cond.fieldLink "PairedGatesModel" 82 "PairedGatesModel" "refund" "[I" ∈ ac_U := ac_mem (i := 651) (by decide +kernel) rfl
theorem wu_652 : Cond.lays "PairedGatesModel" "PairedGatesModel" "fault" "I" ∈ ac_U := ac_mem (i := 652) (by decide +kernel) rfl
theorem wu_654 : Cond.lays "PairedGatesModel" "PairedGatesModel" "time" "I" ∈ ac_U := ac_mem (i := 654) (by decide +kernel) rfl
theorem wu_656 : Cond.lays "PairedGatesModel" "PairedGatesModel" "alarm" "Z" ∈ ac_U := ac_mem (i := 656) (by decide +kernel) rfl
theorem wu_658 : Cond.laysFinal "PairedGatesModel" "PairedGatesModel" "told" "[I" ∈ ac_U := ac_mem (i := 658) (by decide +kernel) rfl
theorem wu_660 : Cond.laysFinal "PairedGatesModel" "PairedGatesModel" "before" "[I" ∈ ac_U := ac_mem (i := 660) (by decide +kernel) rfl
theorem wu_662 : Cond.laysFinal "PairedGatesModel" "PairedGatesModel" "earlier" "[I" ∈ ac_U := ac_mem (i := 662) (by decide +kernel) rfl
theorem wu_664 : Cond.laysFinal "PairedGatesModel" "PairedGatesModel" "seen" "[I" ∈ ac_U := ac_mem (i := 664) (by decide +kernel) rfl
theorem wu_666 : Cond.laysFinal "PairedGatesModel" "PairedGatesModel" "modes" "[I" ∈ ac_U := ac_mem (i := 666) (by decide +kernel) rfl
theorem wu_668 : Cond.laysFinal "PairedGatesModel" "PairedGatesModel" "angle" "[I" ∈ ac_U := ac_mem (i := 668) (by decide +kernel) rfl
theorem wu_670 : Cond.laysFinal "PairedGatesModel" "PairedGatesModel" "order" "[I" ∈ ac_U := ac_mem (i := 670) (by decide +kernel) rfl
theorem wu_672 : Cond.laysFinal "PairedGatesModel" "PairedGatesModel" "counts" "[I" ∈ ac_U := ac_mem (i := 672) (by decide +kernel) rfl
theorem wu_674 : Cond.laysFinal "PairedGatesModel" "PairedGatesModel" "bodies" "[I" ∈ ac_U := ac_mem (i := 674) (by decide +kernel) rfl
theorem wu_676 : Cond.laysFinal "PairedGatesModel" "PairedGatesModel" "first" "[I" ∈ ac_U := ac_mem (i := 676) (by decide +kernel) rfl
theorem wu_678 : Cond.laysFinal "PairedGatesModel" "PairedGatesModel" "last" "[I" ∈ ac_U := ac_mem (i := 678) (by decide +kernel) rfl
theorem wu_680 : Cond.laysFinal "PairedGatesModel" "PairedGatesModel" "side" "[I" ∈ ac_U := ac_mem (i := 680) (by decide +kernel) rfl
theorem wu_682 : Cond.laysFinal "PairedGatesModel" "PairedGatesModel" "owns" "[I" ∈ ac_U := ac_mem (i := 682) (by decide +kernel) rfl
theorem wu_684 : Cond.laysFinal "PairedGatesModel" "PairedGatesModel" "length" "[I" ∈ ac_U := ac_mem (i := 684) (by decide +kernel) rfl
theorem wu_686 : Cond.laysFinal "PairedGatesModel" "PairedGatesModel" "blobOf" "[I" ∈ ac_U := ac_mem (i := 686) (by decide +kernel) rfl
theorem wu_688 : Cond.laysFinal "PairedGatesModel" "PairedGatesModel" "oldFirst" "[I" ∈ ac_U := ac_mem (i := 688) (by decide +kernel) rfl
theorem wu_690 : Cond.laysFinal "PairedGatesModel" "PairedGatesModel" "oldLast" "[I" ∈ ac_U := ac_mem (i := 690) (by decide +kernel) rfl
theorem wu_692 : Cond.lays "PairedGatesModel" "PairedGatesModel" "blobs" "I" ∈ ac_U := ac_mem (i := 692) (by decide +kernel) rfl
theorem wu_694 : Cond.laysFinal "PairedGatesModel" "PairedGatesModel" "blobFirst" "[I" ∈ ac_U := ac_mem (i := 694) (by decide +kernel) rfl
theorem wu_696 : Cond.laysFinal "PairedGatesModel" "PairedGatesModel" "blobLast" "[I" ∈ ac_U := ac_mem (i := 696) (by decide +kernel) rfl
theorem wu_698 : Cond.laysFinal "PairedGatesModel" "PairedGatesModel" "waiting" "[I" ∈ ac_U := ac_mem (i := 698) (by decide +kernel) rfl
theorem wu_700 : Cond.laysFinal "PairedGatesModel" "PairedGatesModel" "account" "[I" ∈ ac_U := ac_mem (i := 700) (by decide +kernel) rfl
theorem wu_702 : Cond.laysFinal "PairedGatesModel" "PairedGatesModel" "since" "[I" ∈ ac_U := ac_mem (i := 702) (by decide +kernel) rfl
theorem wu_704 : Cond.lays "PairedGatesModel" "PairedGatesModel" "accepted" "I" ∈ ac_U := ac_mem (i := 704) (by decide +kernel) rfl
theorem wu_706 : Cond.laysFinal "PairedGatesModel" "PairedGatesModel" "takenOf" "[I" ∈ ac_U := ac_mem (i := 706) (by decide +kernel) rfl
theorem wu_708 : Cond.laysFinal "PairedGatesModel" "PairedGatesModel" "takenAt" "[I" ∈ ac_U := ac_mem (i := 708) (by decide +kernel) rfl
theorem wu_710 : Cond.lays "PairedGatesModel" "PairedGatesModel" "refunds" "I" ∈ ac_U := ac_mem (i := 710) (by decide +kernel) rfl
theorem wu_712 : Cond.laysFinal "PairedGatesModel" "PairedGatesModel" "refund" "[I" ∈ ac_U := ac_mem (i := 712) (by decide +kernel) rfl
theorem wu_715 : Cond.methodLink "PairedGatesLaw" 68 ⟨"PairedGatesModel", "thrown", "()I"⟩ ∈ ac_U := ac_mem (i := 715) (by decide +kernel) rfl
theorem wu_716 : Cond.instanceMethod ⟨"PairedGatesModel", "thrown", "()I"⟩ ∈ ac_U := ac_mem (i := 716) (by decide +kernel) rfl
theorem wu_717 : Cond.selects "PairedGatesModel" ⟨"PairedGatesModel", "thrown", "()I"⟩ ⟨"PairedGatesModel", "thrown", "()I"⟩ ∈ ac_U := ac_mem (i := 717) (by decide +kernel) rfl
set_option maxRecDepth 100000 in
theorem wu_718 : Cond.code ⟨"PairedGatesModel", "thrown", "()I"⟩ prog_10_method_2_code 1 (some (.int)) ∈ ac_U := ac_mem (i := 718) rfl rfl
theorem wu_719 : Cond.methodLink "PairedGatesLaw" 67 ⟨"PairedGatesModel", "beams", "(II)V"⟩ ∈ ac_U := ac_mem (i := 719) (by decide +kernel) rfl
theorem wu_720 : Cond.instanceMethod ⟨"PairedGatesModel", "beams", "(II)V"⟩ ∈ ac_U := ac_mem (i := 720) (by decide +kernel) rfl
theorem wu_721 : Cond.selects "PairedGatesModel" ⟨"PairedGatesModel", "beams", "(II)V"⟩ ⟨"PairedGatesModel", "beams", "(II)V"⟩ ∈ ac_U := ac_mem (i := 721) (by decide +kernel) rfl
set_option maxRecDepth 100000 in
theorem wu_722 : Cond.code ⟨"PairedGatesModel", "beams", "(II)V"⟩ prog_10_method_18_code 3 none ∈ ac_U := ac_mem (i := 722) rfl rfl
theorem wu_723 : Cond.methodLink "PairedGatesModel" 139 ⟨"PairedGatesModel", "isTwo", "(I)Z"⟩ ∈ ac_U := ac_mem (i := 723) (by decide +kernel) rfl
theorem wu_724 : Cond.static ⟨"PairedGatesModel", "isTwo", "(I)Z"⟩ ∈ ac_U := ac_mem (i := 724) (by decide +kernel) rfl
set_option maxRecDepth 100000 in
theorem wu_725 : Cond.code ⟨"PairedGatesModel", "isTwo", "(I)Z"⟩ prog_10_method_4_code 1 (some (.boolean)) ∈ ac_U := ac_mem (i := 725) rfl rfl
theorem wu_726 : Cond.methodLink "PairedGatesModel" 143 ⟨"PairedGatesModel", "refused", "(I)Z"⟩ ∈ ac_U := ac_mem (i := 726) (by decide +kernel) rfl
theorem wu_728 : Cond.instanceMethod ⟨"PairedGatesModel", "refused", "(I)Z"⟩ ∈ ac_U := ac_mem (i := 728) (by decide +kernel) rfl
set_option maxRecDepth 100000 in
theorem wu_729 : Cond.code ⟨"PairedGatesModel", "refused", "(I)Z"⟩ prog_10_method_3_code 2 (some (.boolean)) ∈ ac_U := ac_mem (i := 729) rfl rfl
theorem wu_730 : Cond.methodLink "PairedGatesLaw" 75 ⟨"PairedGatesModel", "ticks", "(I)I"⟩ ∈ ac_U := ac_mem (i := 730) (by decide +kernel) rfl
theorem wu_731 : Cond.instanceMethod ⟨"PairedGatesModel", "ticks", "(I)I"⟩ ∈ ac_U := ac_mem (i := 731) (by decide +kernel) rfl
theorem wu_732 : Cond.selects "PairedGatesModel" ⟨"PairedGatesModel", "ticks", "(I)I"⟩ ⟨"PairedGatesModel", "ticks", "(I)I"⟩ ∈ ac_U := ac_mem (i := 732) (by decide +kernel) rfl
set_option maxRecDepth 100000 in
theorem wu_733 : Cond.code ⟨"PairedGatesModel", "ticks", "(I)I"⟩ prog_10_method_19_code 4 (some (.int)) ∈ ac_U := ac_mem (i := 733) rfl rfl
theorem wu_734 : Cond.methodLink "PairedGatesModel" 146 ⟨"PairedGatesModel", "tick", "(I)I"⟩ ∈ ac_U := ac_mem (i := 734) (by decide +kernel) rfl
theorem wu_736 : Cond.instanceMethod ⟨"PairedGatesModel", "tick", "(I)I"⟩ ∈ ac_U := ac_mem (i := 736) (by decide +kernel) rfl
set_option maxRecDepth 100000 in
theorem wu_737 : Cond.code ⟨"PairedGatesModel", "tick", "(I)I"⟩ prog_10_method_17_code 4 (some (.int)) ∈ ac_U := ac_mem (i := 737) rfl rfl
theorem wu_738 : Cond.methodLink "PairedGatesModel" 113 ⟨"PairedGatesModel", "takeOldest", "(I)I"⟩ ∈ ac_U := ac_mem (i := 738) (by decide +kernel) rfl
theorem wu_740 : Cond.instanceMethod ⟨"PairedGatesModel", "takeOldest", "(I)I"⟩ ∈ ac_U := ac_mem (i := 740) (by decide +kernel) rfl
set_option maxRecDepth 100000 in
theorem wu_741 : Cond.code ⟨"PairedGatesModel", "takeOldest", "(I)I"⟩ prog_10_method_6_code 4 (some (.int)) ∈ ac_U := ac_mem (i := 741) rfl rfl
theorem wu_742 : Cond.methodLink "PairedGatesModel" 95 ⟨"PairedGatesModel", "giveBack", "(I)V"⟩ ∈ ac_U := ac_mem (i := 742) (by decide +kernel) rfl
theorem wu_744 : Cond.instanceMethod ⟨"PairedGatesModel", "giveBack", "(I)V"⟩ ∈ ac_U := ac_mem (i := 744) (by decide +kernel) rfl
set_option maxRecDepth 100000 in
theorem wu_745 : Cond.code ⟨"PairedGatesModel", "giveBack", "(I)V"⟩ prog_10_method_5_code 2 none ∈ ac_U := ac_mem (i := 745) rfl rfl
theorem wu_746 : Cond.methodLink "PairedGatesModel" 124 ⟨"PairedGatesModel", "look", "(I)V"⟩ ∈ ac_U := ac_mem (i := 746) (by decide +kernel) rfl
theorem wu_748 : Cond.instanceMethod ⟨"PairedGatesModel", "look", "(I)V"⟩ ∈ ac_U := ac_mem (i := 748) (by decide +kernel) rfl
set_option maxRecDepth 100000 in
theorem wu_749 : Cond.code ⟨"PairedGatesModel", "look", "(I)V"⟩ prog_10_method_8_code 6 none ∈ ac_U := ac_mem (i := 749) rfl rfl
theorem wu_750 : Cond.methodLink "PairedGatesModel" 127 ⟨"PairedGatesModel", "goOn", "(I)I"⟩ ∈ ac_U := ac_mem (i := 750) (by decide +kernel) rfl
theorem wu_752 : Cond.instanceMethod ⟨"PairedGatesModel", "goOn", "(I)I"⟩ ∈ ac_U := ac_mem (i := 752) (by decide +kernel) rfl
set_option maxRecDepth 100000 in
theorem wu_753 : Cond.code ⟨"PairedGatesModel", "goOn", "(I)I"⟩ prog_10_method_12_code 8 (some (.int)) ∈ ac_U := ac_mem (i := 753) rfl rfl
theorem wu_754 : Cond.methodLink "PairedGatesModel" 99 ⟨"PairedGatesModel", "meets", "(III)Z"⟩ ∈ ac_U := ac_mem (i := 754) (by decide +kernel) rfl
theorem wu_756 : Cond.instanceMethod ⟨"PairedGatesModel", "meets", "(III)Z"⟩ ∈ ac_U := ac_mem (i := 756) (by decide +kernel) rfl
set_option maxRecDepth 100000 in
theorem wu_757 : Cond.code ⟨"PairedGatesModel", "meets", "(III)Z"⟩ prog_10_method_9_code 4 (some (.boolean)) ∈ ac_U := ac_mem (i := 757) rfl rfl
theorem wu_758 : Cond.methodLink "PairedGatesModel" 103 ⟨"PairedGatesModel", "leave", "(II)V"⟩ ∈ ac_U := ac_mem (i := 758) (by decide +kernel) rfl
theorem wu_760 : Cond.instanceMethod ⟨"PairedGatesModel", "leave", "(II)V"⟩ ∈ ac_U := ac_mem (i := 760) (by decide +kernel) rfl
set_option maxRecDepth 100000 in
theorem wu_761 : Cond.code ⟨"PairedGatesModel", "leave", "(II)V"⟩ prog_10_method_11_code 6 none ∈ ac_U := ac_mem (i := 761) rfl rfl
theorem wu_762 : Cond.methodLink "PairedGatesModel" 107 ⟨"PairedGatesModel", "copy", "(II)V"⟩ ∈ ac_U := ac_mem (i := 762) (by decide +kernel) rfl
theorem wu_764 : Cond.instanceMethod ⟨"PairedGatesModel", "copy", "(II)V"⟩ ∈ ac_U := ac_mem (i := 764) (by decide +kernel) rfl
set_option maxRecDepth 100000 in
theorem wu_765 : Cond.code ⟨"PairedGatesModel", "copy", "(II)V"⟩ prog_10_method_10_code 3 none ∈ ac_U := ac_mem (i := 765) rfl rfl
theorem wu_766 : Cond.methodLink "PairedGatesModel" 130 ⟨"PairedGatesModel", "share", "(II)V"⟩ ∈ ac_U := ac_mem (i := 766) (by decide +kernel) rfl
theorem wu_768 : Cond.instanceMethod ⟨"PairedGatesModel", "share", "(II)V"⟩ ∈ ac_U := ac_mem (i := 768) (by decide +kernel) rfl
set_option maxRecDepth 100000 in
theorem wu_769 : Cond.code ⟨"PairedGatesModel", "share", "(II)V"⟩ prog_10_method_13_code 11 none ∈ ac_U := ac_mem (i := 769) rfl rfl
theorem wu_770 : Cond.methodLink "PairedGatesModel" 110 ⟨"PairedGatesModel", "begin", "(II)V"⟩ ∈ ac_U := ac_mem (i := 770) (by decide +kernel) rfl
theorem wu_772 : Cond.instanceMethod ⟨"PairedGatesModel", "begin", "(II)V"⟩ ∈ ac_U := ac_mem (i := 772) (by decide +kernel) rfl
set_option maxRecDepth 100000 in
theorem wu_773 : Cond.code ⟨"PairedGatesModel", "begin", "(II)V"⟩ prog_10_method_14_code 7 none ∈ ac_U := ac_mem (i := 773) rfl rfl
theorem wu_774 : Cond.methodLink "PairedGatesModel" 133 ⟨"PairedGatesModel", "pay", "(I)V"⟩ ∈ ac_U := ac_mem (i := 774) (by decide +kernel) rfl
theorem wu_776 : Cond.instanceMethod ⟨"PairedGatesModel", "pay", "(I)V"⟩ ∈ ac_U := ac_mem (i := 776) (by decide +kernel) rfl
set_option maxRecDepth 100000 in
theorem wu_777 : Cond.code ⟨"PairedGatesModel", "pay", "(I)V"⟩ prog_10_method_15_code 6 none ∈ ac_U := ac_mem (i := 777) rfl rfl
theorem wu_778 : Cond.methodLink "PairedGatesModel" 136 ⟨"PairedGatesModel", "turn", "(I)V"⟩ ∈ ac_U := ac_mem (i := 778) (by decide +kernel) rfl
theorem wu_780 : Cond.instanceMethod ⟨"PairedGatesModel", "turn", "(I)V"⟩ ∈ ac_U := ac_mem (i := 780) (by decide +kernel) rfl
set_option maxRecDepth 100000 in
theorem wu_781 : Cond.code ⟨"PairedGatesModel", "turn", "(I)V"⟩ prog_10_method_16_code 4 none ∈ ac_U := ac_mem (i := 781) rfl rfl
theorem wu_782 : Cond.methodLink "PairedGatesLaw" 79 ⟨"PairedGatesModel", "token", "(III)I"⟩ ∈ ac_U := ac_mem (i := 782) (by decide +kernel) rfl
theorem wu_783 : Cond.instanceMethod ⟨"PairedGatesModel", "token", "(III)I"⟩ ∈ ac_U := ac_mem (i := 783) (by decide +kernel) rfl
theorem wu_784 : Cond.selects "PairedGatesModel" ⟨"PairedGatesModel", "token", "(III)I"⟩ ⟨"PairedGatesModel", "token", "(III)I"⟩ ∈ ac_U := ac_mem (i := 784) (by decide +kernel) rfl
set_option maxRecDepth 100000 in
theorem wu_785 : Cond.code ⟨"PairedGatesModel", "token", "(III)I"⟩ prog_10_method_21_code 6 (some (.int)) ∈ ac_U := ac_mem (i := 785) rfl rfl
theorem wu_786 : Cond.methodLink "PairedGatesModel" 152 ⟨"PairedGatesModel", "hasSide", "(II)Z"⟩ ∈ ac_U := ac_mem (i := 786) (by decide +kernel) rfl
theorem wu_788 : Cond.instanceMethod ⟨"PairedGatesModel", "hasSide", "(II)Z"⟩ ∈ ac_U := ac_mem (i := 788) (by decide +kernel) rfl
set_option maxRecDepth 100000 in
theorem wu_789 : Cond.code ⟨"PairedGatesModel", "hasSide", "(II)Z"⟩ prog_10_method_7_code 3 (some (.boolean)) ∈ ac_U := ac_mem (i := 789) rfl rfl
theorem wu_790 : Cond.methodLink "PairedGatesModel" 156 ⟨"PairedGatesModel", "isRepeated", "(I)Z"⟩ ∈ ac_U := ac_mem (i := 790) (by decide +kernel) rfl
theorem wu_792 : Cond.instanceMethod ⟨"PairedGatesModel", "isRepeated", "(I)Z"⟩ ∈ ac_U := ac_mem (i := 792) (by decide +kernel) rfl
set_option maxRecDepth 100000 in
theorem wu_793 : Cond.code ⟨"PairedGatesModel", "isRepeated", "(I)Z"⟩ prog_10_method_20_code 4 (some (.boolean)) ∈ ac_U := ac_mem (i := 793) rfl rfl
theorem wu_794 : Cond.methodLink "PairedGatesLaw" 83 ⟨"PairedGatesModel", "cancel", "(II)I"⟩ ∈ ac_U := ac_mem (i := 794) (by decide +kernel) rfl
theorem wu_795 : Cond.instanceMethod ⟨"PairedGatesModel", "cancel", "(II)I"⟩ ∈ ac_U := ac_mem (i := 795) (by decide +kernel) rfl
theorem wu_796 : Cond.selects "PairedGatesModel" ⟨"PairedGatesModel", "cancel", "(II)I"⟩ ⟨"PairedGatesModel", "cancel", "(II)I"⟩ ∈ ac_U := ac_mem (i := 796) (by decide +kernel) rfl
set_option maxRecDepth 100000 in
theorem wu_797 : Cond.code ⟨"PairedGatesModel", "cancel", "(II)I"⟩ prog_10_method_22_code 5 (some (.int)) ∈ ac_U := ac_mem (i := 797) rfl rfl
theorem wu_798 : Cond.methodLink "PairedGatesLaw" 86 ⟨"PairedGatesModel", "mode", "(II)I"⟩ ∈ ac_U := ac_mem (i := 798) (by decide +kernel) rfl
theorem wu_799 : Cond.instanceMethod ⟨"PairedGatesModel", "mode", "(II)I"⟩ ∈ ac_U := ac_mem (i := 799) (by decide +kernel) rfl
theorem wu_800 : Cond.selects "PairedGatesModel" ⟨"PairedGatesModel", "mode", "(II)I"⟩ ⟨"PairedGatesModel", "mode", "(II)I"⟩ ∈ ac_U := ac_mem (i := 800) (by decide +kernel) rfl
set_option maxRecDepth 100000 in
theorem wu_801 : Cond.code ⟨"PairedGatesModel", "mode", "(II)I"⟩ prog_10_method_23_code 6 (some (.int)) ∈ ac_U := ac_mem (i := 801) rfl rfl
theorem wu_802 : Cond.methodLink "PairedGatesLaw" 91 ⟨"PairedGatesModel", "alarm", "(Z)V"⟩ ∈ ac_U := ac_mem (i := 802) (by decide +kernel) rfl
theorem wu_803 : Cond.instanceMethod ⟨"PairedGatesModel", "alarm", "(Z)V"⟩ ∈ ac_U := ac_mem (i := 803) (by decide +kernel) rfl
theorem wu_804 : Cond.selects "PairedGatesModel" ⟨"PairedGatesModel", "alarm", "(Z)V"⟩ ⟨"PairedGatesModel", "alarm", "(Z)V"⟩ ∈ ac_U := ac_mem (i := 804) (by decide +kernel) rfl
set_option maxRecDepth 100000 in
theorem wu_805 : Cond.code ⟨"PairedGatesModel", "alarm", "(Z)V"⟩ prog_10_method_24_code 2 none ∈ ac_U := ac_mem (i := 805) rfl rfl
theorem wu_806 : Cond.methodLink "PairedGatesLaw" 95 ⟨"PairedGatesModel", "time", "()I"⟩ ∈ ac_U := ac_mem (i := 806) (by decide +kernel) rfl
theorem wu_807 : Cond.instanceMethod ⟨"PairedGatesModel", "time", "()I"⟩ ∈ ac_U := ac_mem (i := 807) (by decide +kernel) rfl
theorem wu_808 : Cond.selects "PairedGatesModel" ⟨"PairedGatesModel", "time", "()I"⟩ ⟨"PairedGatesModel", "time", "()I"⟩ ∈ ac_U := ac_mem (i := 808) (by decide +kernel) rfl
set_option maxRecDepth 100000 in
theorem wu_809 : Cond.code ⟨"PairedGatesModel", "time", "()I"⟩ prog_10_method_25_code 1 (some (.int)) ∈ ac_U := ac_mem (i := 809) rfl rfl
theorem wu_810 : Cond.methodLink "PairedGatesLaw" 98 ⟨"PairedGatesModel", "bodies", "(I)I"⟩ ∈ ac_U := ac_mem (i := 810) (by decide +kernel) rfl
theorem wu_811 : Cond.instanceMethod ⟨"PairedGatesModel", "bodies", "(I)I"⟩ ∈ ac_U := ac_mem (i := 811) (by decide +kernel) rfl
theorem wu_812 : Cond.selects "PairedGatesModel" ⟨"PairedGatesModel", "bodies", "(I)I"⟩ ⟨"PairedGatesModel", "bodies", "(I)I"⟩ ∈ ac_U := ac_mem (i := 812) (by decide +kernel) rfl
set_option maxRecDepth 100000 in
theorem wu_813 : Cond.code ⟨"PairedGatesModel", "bodies", "(I)I"⟩ prog_10_method_26_code 2 (some (.int)) ∈ ac_U := ac_mem (i := 813) rfl rfl
theorem wu_814 : Cond.methodLink "PairedGatesLaw" 101 ⟨"PairedGatesModel", "body", "(III)I"⟩ ∈ ac_U := ac_mem (i := 814) (by decide +kernel) rfl
theorem wu_815 : Cond.instanceMethod ⟨"PairedGatesModel", "body", "(III)I"⟩ ∈ ac_U := ac_mem (i := 815) (by decide +kernel) rfl
theorem wu_816 : Cond.selects "PairedGatesModel" ⟨"PairedGatesModel", "body", "(III)I"⟩ ⟨"PairedGatesModel", "body", "(III)I"⟩ ∈ ac_U := ac_mem (i := 816) (by decide +kernel) rfl
set_option maxRecDepth 100000 in
theorem wu_817 : Cond.code ⟨"PairedGatesModel", "body", "(III)I"⟩ prog_10_method_27_code 6 (some (.int)) ∈ ac_U := ac_mem (i := 817) rfl rfl
theorem wu_818 : Cond.methodLink "PairedGatesLaw" 104 ⟨"PairedGatesModel", "waiting", "(II)I"⟩ ∈ ac_U := ac_mem (i := 818) (by decide +kernel) rfl
theorem wu_819 : Cond.instanceMethod ⟨"PairedGatesModel", "waiting", "(II)I"⟩ ∈ ac_U := ac_mem (i := 819) (by decide +kernel) rfl
theorem wu_820 : Cond.selects "PairedGatesModel" ⟨"PairedGatesModel", "waiting", "(II)I"⟩ ⟨"PairedGatesModel", "waiting", "(II)I"⟩ ∈ ac_U := ac_mem (i := 820) (by decide +kernel) rfl
set_option maxRecDepth 100000 in
theorem wu_821 : Cond.code ⟨"PairedGatesModel", "waiting", "(II)I"⟩ prog_10_method_28_code 3 (some (.int)) ∈ ac_U := ac_mem (i := 821) rfl rfl
theorem wu_822 : Cond.methodLink "PairedGatesLaw" 107 ⟨"PairedGatesModel", "waits", "(III)I"⟩ ∈ ac_U := ac_mem (i := 822) (by decide +kernel) rfl
theorem wu_823 : Cond.instanceMethod ⟨"PairedGatesModel", "waits", "(III)I"⟩ ∈ ac_U := ac_mem (i := 823) (by decide +kernel) rfl
theorem wu_824 : Cond.selects "PairedGatesModel" ⟨"PairedGatesModel", "waits", "(III)I"⟩ ⟨"PairedGatesModel", "waits", "(III)I"⟩ ∈ ac_U := ac_mem (i := 824) (by decide +kernel) rfl
set_option maxRecDepth 100000 in
theorem wu_825 : Cond.code ⟨"PairedGatesModel", "waits", "(III)I"⟩ prog_10_method_29_code 5 (some (.int)) ∈ ac_U := ac_mem (i := 825) rfl rfl
theorem wu_826 : Cond.methodLink "PairedGatesLaw" 110 ⟨"PairedGatesModel", "count", "(II)I"⟩ ∈ ac_U := ac_mem (i := 826) (by decide +kernel) rfl
theorem wu_827 : Cond.instanceMethod ⟨"PairedGatesModel", "count", "(II)I"⟩ ∈ ac_U := ac_mem (i := 827) (by decide +kernel) rfl
theorem wu_828 : Cond.selects "PairedGatesModel" ⟨"PairedGatesModel", "count", "(II)I"⟩ ⟨"PairedGatesModel", "count", "(II)I"⟩ ∈ ac_U := ac_mem (i := 828) (by decide +kernel) rfl
set_option maxRecDepth 100000 in
theorem wu_829 : Cond.code ⟨"PairedGatesModel", "count", "(II)I"⟩ prog_10_method_30_code 3 (some (.int)) ∈ ac_U := ac_mem (i := 829) rfl rfl
theorem wu_830 : Cond.methodLink "PairedGatesLaw" 113 ⟨"PairedGatesModel", "angle", "(I)I"⟩ ∈ ac_U := ac_mem (i := 830) (by decide +kernel) rfl
theorem wu_831 : Cond.instanceMethod ⟨"PairedGatesModel", "angle", "(I)I"⟩ ∈ ac_U := ac_mem (i := 831) (by decide +kernel) rfl
theorem wu_832 : Cond.selects "PairedGatesModel" ⟨"PairedGatesModel", "angle", "(I)I"⟩ ⟨"PairedGatesModel", "angle", "(I)I"⟩ ∈ ac_U := ac_mem (i := 832) (by decide +kernel) rfl
set_option maxRecDepth 100000 in
theorem wu_833 : Cond.code ⟨"PairedGatesModel", "angle", "(I)I"⟩ prog_10_method_31_code 2 (some (.int)) ∈ ac_U := ac_mem (i := 833) rfl rfl
theorem wu_834 : Cond.methodLink "PairedGatesLaw" 116 ⟨"PairedGatesModel", "order", "(I)I"⟩ ∈ ac_U := ac_mem (i := 834) (by decide +kernel) rfl
theorem wu_835 : Cond.instanceMethod ⟨"PairedGatesModel", "order", "(I)I"⟩ ∈ ac_U := ac_mem (i := 835) (by decide +kernel) rfl
theorem wu_836 : Cond.selects "PairedGatesModel" ⟨"PairedGatesModel", "order", "(I)I"⟩ ⟨"PairedGatesModel", "order", "(I)I"⟩ ∈ ac_U := ac_mem (i := 836) (by decide +kernel) rfl
set_option maxRecDepth 100000 in
theorem wu_837 : Cond.code ⟨"PairedGatesModel", "order", "(I)I"⟩ prog_10_method_32_code 2 (some (.int)) ∈ ac_U := ac_mem (i := 837) rfl rfl
theorem wu_838 : Cond.methodLink "PairedGatesLaw" 119 ⟨"PairedGatesModel", "seen", "(I)I"⟩ ∈ ac_U := ac_mem (i := 838) (by decide +kernel) rfl
theorem wu_839 : Cond.instanceMethod ⟨"PairedGatesModel", "seen", "(I)I"⟩ ∈ ac_U := ac_mem (i := 839) (by decide +kernel) rfl
theorem wu_840 : Cond.selects "PairedGatesModel" ⟨"PairedGatesModel", "seen", "(I)I"⟩ ⟨"PairedGatesModel", "seen", "(I)I"⟩ ∈ ac_U := ac_mem (i := 840) (by decide +kernel) rfl
set_option maxRecDepth 100000 in
theorem wu_841 : Cond.code ⟨"PairedGatesModel", "seen", "(I)I"⟩ prog_10_method_33_code 2 (some (.int)) ∈ ac_U := ac_mem (i := 841) rfl rfl
theorem wu_842 : Cond.methodLink "PairedGatesLaw" 123 ⟨"PairedGatesModel", "accepted", "()I"⟩ ∈ ac_U := ac_mem (i := 842) (by decide +kernel) rfl
theorem wu_843 : Cond.instanceMethod ⟨"PairedGatesModel", "accepted", "()I"⟩ ∈ ac_U := ac_mem (i := 843) (by decide +kernel) rfl
theorem wu_844 : Cond.selects "PairedGatesModel" ⟨"PairedGatesModel", "accepted", "()I"⟩ ⟨"PairedGatesModel", "accepted", "()I"⟩ ∈ ac_U := ac_mem (i := 844) (by decide +kernel) rfl
set_option maxRecDepth 100000 in
theorem wu_845 : Cond.code ⟨"PairedGatesModel", "accepted", "()I"⟩ prog_10_method_34_code 1 (some (.int)) ∈ ac_U := ac_mem (i := 845) rfl rfl
theorem wu_846 : Cond.methodLink "PairedGatesLaw" 127 ⟨"PairedGatesModel", "refunds", "()I"⟩ ∈ ac_U := ac_mem (i := 846) (by decide +kernel) rfl
theorem wu_847 : Cond.instanceMethod ⟨"PairedGatesModel", "refunds", "()I"⟩ ∈ ac_U := ac_mem (i := 847) (by decide +kernel) rfl
theorem wu_848 : Cond.selects "PairedGatesModel" ⟨"PairedGatesModel", "refunds", "()I"⟩ ⟨"PairedGatesModel", "refunds", "()I"⟩ ∈ ac_U := ac_mem (i := 848) (by decide +kernel) rfl
set_option maxRecDepth 100000 in
theorem wu_849 : Cond.code ⟨"PairedGatesModel", "refunds", "()I"⟩ prog_10_method_35_code 1 (some (.int)) ∈ ac_U := ac_mem (i := 849) rfl rfl
theorem wu_850 : Cond.methodLink "PairedGatesLaw" 131 ⟨"PairedGatesModel", "refund", "(I)I"⟩ ∈ ac_U := ac_mem (i := 850) (by decide +kernel) rfl
theorem wu_851 : Cond.instanceMethod ⟨"PairedGatesModel", "refund", "(I)I"⟩ ∈ ac_U := ac_mem (i := 851) (by decide +kernel) rfl
theorem wu_852 : Cond.selects "PairedGatesModel" ⟨"PairedGatesModel", "refund", "(I)I"⟩ ⟨"PairedGatesModel", "refund", "(I)I"⟩ ∈ ac_U := ac_mem (i := 852) (by decide +kernel) rfl
set_option maxRecDepth 100000 in
theorem wu_853 : Cond.code ⟨"PairedGatesModel", "refund", "(I)I"⟩ prog_10_method_36_code 2 (some (.int)) ∈ ac_U := ac_mem (i := 853) rfl rfl
theorem wu_854 : Cond.arrayClass .long ∈ ac_U := ac_mem (i := 854) (by decide +kernel) rfl
end
section
abbrev m_PG_init : ac_I := (⟨"PairedGates", "<init>", "()V"⟩, prog_1_method_1_code, 1, none, [])
theorem d_PG_init_0 : decode prog_1_method_1_code 0 = .ok (.aload_n 0, 1) := by decide +kernel
theorem d_PG_init_1 : decode prog_1_method_1_code 1 = .ok (.invokespecial 1, 3) := by decide +kernel
theorem d_PG_init_4 : decode prog_1_method_1_code 4 = .ok (.aload_n 0, 1) := by decide +kernel
theorem d_PG_init_5 : decode prog_1_method_1_code 5 = .ok (.iconst 2, 1) := by decide +kernel
theorem d_PG_init_6 : decode prog_1_method_1_code 6 = .ok (.anewarray 7, 3) := by decide +kernel
theorem d_PG_init_9 : decode prog_1_method_1_code 9 = .ok (.dup, 1) := by decide +kernel
theorem d_PG_init_10 : decode prog_1_method_1_code 10 = .ok (.iconst 0, 1) := by decide +kernel
theorem d_PG_init_11 : decode prog_1_method_1_code 11 = .ok (.new 7, 3) := by decide +kernel
theorem d_PG_init_14 : decode prog_1_method_1_code 14 = .ok (.dup, 1) := by decide +kernel
theorem d_PG_init_15 : decode prog_1_method_1_code 15 = .ok (.invokespecial 9, 3) := by decide +kernel
theorem d_PG_init_18 : decode prog_1_method_1_code 18 = .ok (.aastore, 1) := by decide +kernel
theorem d_PG_init_19 : decode prog_1_method_1_code 19 = .ok (.dup, 1) := by decide +kernel
theorem d_PG_init_20 : decode prog_1_method_1_code 20 = .ok (.iconst 1, 1) := by decide +kernel
theorem d_PG_init_21 : decode prog_1_method_1_code 21 = .ok (.new 7, 3) := by decide +kernel
theorem d_PG_init_24 : decode prog_1_method_1_code 24 = .ok (.dup, 1) := by decide +kernel
theorem d_PG_init_25 : decode prog_1_method_1_code 25 = .ok (.invokespecial 9, 3) := by decide +kernel
theorem d_PG_init_28 : decode prog_1_method_1_code 28 = .ok (.aastore, 1) := by decide +kernel
theorem d_PG_init_29 : decode prog_1_method_1_code 29 = .ok (.putfield 10, 3) := by decide +kernel
theorem d_PG_init_32 : decode prog_1_method_1_code 32 = .ok (.aload_n 0, 1) := by decide +kernel
theorem d_PG_init_33 : decode prog_1_method_1_code 33 = .ok (.new 16, 3) := by decide +kernel
theorem d_PG_init_36 : decode prog_1_method_1_code 36 = .ok (.dup, 1) := by decide +kernel
theorem d_PG_init_37 : decode prog_1_method_1_code 37 = .ok (.sipush 512, 3) := by decide +kernel
theorem d_PG_init_40 : decode prog_1_method_1_code 40 = .ok (.invokespecial 18, 3) := by decide +kernel
theorem d_PG_init_43 : decode prog_1_method_1_code 43 = .ok (.putfield 21, 3) := by decide +kernel
theorem d_PG_init_46 : decode prog_1_method_1_code 46 = .ok (.aload_n 0, 1) := by decide +kernel
theorem d_PG_init_47 : decode prog_1_method_1_code 47 = .ok (.new 25, 3) := by decide +kernel
theorem d_PG_init_50 : decode prog_1_method_1_code 50 = .ok (.dup, 1) := by decide +kernel
theorem d_PG_init_51 : decode prog_1_method_1_code 51 = .ok (.invokespecial 27, 3) := by decide +kernel
theorem d_PG_init_54 : decode prog_1_method_1_code 54 = .ok (.putfield 28, 3) := by decide +kernel
theorem d_PG_init_57 : decode prog_1_method_1_code 57 = .ok (.aload_n 0, 1) := by decide +kernel
theorem d_PG_init_58 : decode prog_1_method_1_code 58 = .ok (.iconst 0, 1) := by decide +kernel
theorem d_PG_init_59 : decode prog_1_method_1_code 59 = .ok (.putfield 32, 3) := by decide +kernel
theorem d_PG_init_62 : decode prog_1_method_1_code 62 = .ok (.aload_n 0, 1) := by decide +kernel
theorem d_PG_init_63 : decode prog_1_method_1_code 63 = .ok (.iconst 0, 1) := by decide +kernel
theorem d_PG_init_64 : decode prog_1_method_1_code 64 = .ok (.putfield 36, 3) := by decide +kernel
theorem d_PG_init_67 : decode prog_1_method_1_code 67 = .ok (.return_, 1) := by decide +kernel
abbrev m_PG_beams : ac_I := (⟨"PairedGates", "beams", "(II)V"⟩, prog_1_method_2_code, 3, none, [])
theorem d_PG_beams_0 : decode prog_1_method_2_code 0 = .ok (.aload_n 0, 1) := by decide +kernel
theorem d_PG_beams_1 : decode prog_1_method_2_code 1 = .ok (.iload_n 1, 1) := by decide +kernel
theorem d_PG_beams_2 : decode prog_1_method_2_code 2 = .ok (.invokevirtual 40, 3) := by decide +kernel
theorem d_PG_beams_5 : decode prog_1_method_2_code 5 = .ok (.getfield 44, 3) := by decide +kernel
theorem d_PG_beams_8 : decode prog_1_method_2_code 8 = .ok (.iload_n 2, 1) := by decide +kernel
theorem d_PG_beams_9 : decode prog_1_method_2_code 9 = .ok (.invokevirtual 48, 3) := by decide +kernel
theorem d_PG_beams_12 : decode prog_1_method_2_code 12 = .ok (.return_, 1) := by decide +kernel
abbrev m_PG_ticks : ac_I := (⟨"PairedGates", "ticks", "(I)I"⟩, prog_1_method_3_code, 5, (some (.int)), [])
theorem d_PG_ticks_0 : decode prog_1_method_3_code 0 = .ok (.iload_n 1, 1) := by decide +kernel
theorem d_PG_ticks_1 : decode prog_1_method_3_code 1 = .ok (.iconst 1, 1) := by decide +kernel
theorem d_PG_ticks_2 : decode prog_1_method_3_code 2 = .ok (.if_icmp .lt 10, 3) := by decide +kernel
theorem d_PG_ticks_5 : decode prog_1_method_3_code 5 = .ok (.iload_n 1, 1) := by decide +kernel
theorem d_PG_ticks_6 : decode prog_1_method_3_code 6 = .ok (.sipush 300, 3) := by decide +kernel
theorem d_PG_ticks_9 : decode prog_1_method_3_code 9 = .ok (.if_icmp .le 13, 3) := by decide +kernel
theorem d_PG_ticks_12 : decode prog_1_method_3_code 12 = .ok (.new 53, 3) := by decide +kernel
theorem d_PG_ticks_15 : decode prog_1_method_3_code 15 = .ok (.dup, 1) := by decide +kernel
theorem d_PG_ticks_16 : decode prog_1_method_3_code 16 = .ok (.ldc 55, 2) := by decide +kernel
theorem d_PG_ticks_18 : decode prog_1_method_3_code 18 = .ok (.invokespecial 57, 3) := by decide +kernel
theorem d_PG_ticks_21 : decode prog_1_method_3_code 21 = .ok (.athrow, 1) := by decide +kernel
theorem d_PG_ticks_22 : decode prog_1_method_3_code 22 = .ok (.iconst 0, 1) := by decide +kernel
theorem d_PG_ticks_23 : decode prog_1_method_3_code 23 = .ok (.istore_n 2, 1) := by decide +kernel
theorem d_PG_ticks_24 : decode prog_1_method_3_code 24 = .ok (.iconst 0, 1) := by decide +kernel
theorem d_PG_ticks_25 : decode prog_1_method_3_code 25 = .ok (.istore_n 3, 1) := by decide +kernel
theorem d_PG_ticks_26 : decode prog_1_method_3_code 26 = .ok (.iload_n 3, 1) := by decide +kernel
theorem d_PG_ticks_27 : decode prog_1_method_3_code 27 = .ok (.iload_n 1, 1) := by decide +kernel
theorem d_PG_ticks_28 : decode prog_1_method_3_code 28 = .ok (.if_icmp .ge 63, 3) := by decide +kernel
theorem d_PG_ticks_31 : decode prog_1_method_3_code 31 = .ok (.aload_n 0, 1) := by decide +kernel
theorem d_PG_ticks_32 : decode prog_1_method_3_code 32 = .ok (.dup, 1) := by decide +kernel
theorem d_PG_ticks_33 : decode prog_1_method_3_code 33 = .ok (.getfield 36, 3) := by decide +kernel
theorem d_PG_ticks_36 : decode prog_1_method_3_code 36 = .ok (.iconst 1, 1) := by decide +kernel
theorem d_PG_ticks_37 : decode prog_1_method_3_code 37 = .ok (.iadd, 1) := by decide +kernel
theorem d_PG_ticks_38 : decode prog_1_method_3_code 38 = .ok (.putfield 36, 3) := by decide +kernel
theorem d_PG_ticks_41 : decode prog_1_method_3_code 41 = .ok (.iconst 0, 1) := by decide +kernel
theorem d_PG_ticks_42 : decode prog_1_method_3_code 42 = .ok (.istore 4, 2) := by decide +kernel
theorem d_PG_ticks_44 : decode prog_1_method_3_code 44 = .ok (.iload 4, 2) := by decide +kernel
theorem d_PG_ticks_46 : decode prog_1_method_3_code 46 = .ok (.aload_n 0, 1) := by decide +kernel
theorem d_PG_ticks_47 : decode prog_1_method_3_code 47 = .ok (.getfield 10, 3) := by decide +kernel
theorem d_PG_ticks_50 : decode prog_1_method_3_code 50 = .ok (.arraylength, 1) := by decide +kernel
theorem d_PG_ticks_51 : decode prog_1_method_3_code 51 = .ok (.if_icmp .ge 34, 3) := by decide +kernel
theorem d_PG_ticks_54 : decode prog_1_method_3_code 54 = .ok (.iload_n 2, 1) := by decide +kernel
theorem d_PG_ticks_55 : decode prog_1_method_3_code 55 = .ok (.aload_n 0, 1) := by decide +kernel
theorem d_PG_ticks_56 : decode prog_1_method_3_code 56 = .ok (.getfield 10, 3) := by decide +kernel
theorem d_PG_ticks_59 : decode prog_1_method_3_code 59 = .ok (.iload 4, 2) := by decide +kernel
theorem d_PG_ticks_61 : decode prog_1_method_3_code 61 = .ok (.aaload, 1) := by decide +kernel
theorem d_PG_ticks_62 : decode prog_1_method_3_code 62 = .ok (.aload_n 0, 1) := by decide +kernel
theorem d_PG_ticks_63 : decode prog_1_method_3_code 63 = .ok (.getfield 36, 3) := by decide +kernel
theorem d_PG_ticks_66 : decode prog_1_method_3_code 66 = .ok (.aload_n 0, 1) := by decide +kernel
theorem d_PG_ticks_67 : decode prog_1_method_3_code 67 = .ok (.getfield 32, 3) := by decide +kernel
theorem d_PG_ticks_70 : decode prog_1_method_3_code 70 = .ok (.aload_n 0, 1) := by decide +kernel
theorem d_PG_ticks_71 : decode prog_1_method_3_code 71 = .ok (.getfield 28, 3) := by decide +kernel
theorem d_PG_ticks_74 : decode prog_1_method_3_code 74 = .ok (.invokevirtual 60, 3) := by decide +kernel
theorem d_PG_ticks_77 : decode prog_1_method_3_code 77 = .ok (.iadd, 1) := by decide +kernel
theorem d_PG_ticks_78 : decode prog_1_method_3_code 78 = .ok (.istore_n 2, 1) := by decide +kernel
theorem d_PG_ticks_79 : decode prog_1_method_3_code 79 = .ok (.iinc 4 1, 3) := by decide +kernel
theorem d_PG_ticks_82 : decode prog_1_method_3_code 82 = .ok (.goto (-38), 3) := by decide +kernel
theorem d_PG_ticks_85 : decode prog_1_method_3_code 85 = .ok (.iinc 3 1, 3) := by decide +kernel
theorem d_PG_ticks_88 : decode prog_1_method_3_code 88 = .ok (.goto (-62), 3) := by decide +kernel
theorem d_PG_ticks_91 : decode prog_1_method_3_code 91 = .ok (.iload_n 2, 1) := by decide +kernel
theorem d_PG_ticks_92 : decode prog_1_method_3_code 92 = .ok (.ireturn, 1) := by decide +kernel
abbrev m_PG_token : ac_I := (⟨"PairedGates", "token", "(III)I"⟩, prog_1_method_4_code, 6, (some (.int)), [])
theorem d_PG_token_0 : decode prog_1_method_4_code 0 = .ok (.aload_n 0, 1) := by decide +kernel
theorem d_PG_token_1 : decode prog_1_method_4_code 1 = .ok (.iload_n 1, 1) := by decide +kernel
theorem d_PG_token_2 : decode prog_1_method_4_code 2 = .ok (.invokevirtual 40, 3) := by decide +kernel
theorem d_PG_token_5 : decode prog_1_method_4_code 5 = .ok (.astore 4, 2) := by decide +kernel
theorem d_PG_token_7 : decode prog_1_method_4_code 7 = .ok (.aload 4, 2) := by decide +kernel
theorem d_PG_token_9 : decode prog_1_method_4_code 9 = .ok (.iload_n 2, 1) := by decide +kernel
theorem d_PG_token_10 : decode prog_1_method_4_code 10 = .ok (.invokestatic 64, 3) := by decide +kernel
theorem d_PG_token_13 : decode prog_1_method_4_code 13 = .ok (.astore 5, 2) := by decide +kernel
theorem d_PG_token_15 : decode prog_1_method_4_code 15 = .ok (.iload_n 3, 1) := by decide +kernel
theorem d_PG_token_16 : decode prog_1_method_4_code 16 = .ok (.ifCond .ge 13, 3) := by decide +kernel
theorem d_PG_token_19 : decode prog_1_method_4_code 19 = .ok (.new 53, 3) := by decide +kernel
theorem d_PG_token_22 : decode prog_1_method_4_code 22 = .ok (.dup, 1) := by decide +kernel
theorem d_PG_token_23 : decode prog_1_method_4_code 23 = .ok (.ldc 68, 2) := by decide +kernel
theorem d_PG_token_25 : decode prog_1_method_4_code 25 = .ok (.invokespecial 57, 3) := by decide +kernel
theorem d_PG_token_28 : decode prog_1_method_4_code 28 = .ok (.athrow, 1) := by decide +kernel
theorem d_PG_token_29 : decode prog_1_method_4_code 29 = .ok (.aload 4, 2) := by decide +kernel
theorem d_PG_token_31 : decode prog_1_method_4_code 31 = .ok (.iload_n 2, 1) := by decide +kernel
theorem d_PG_token_32 : decode prog_1_method_4_code 32 = .ok (.invokevirtual 70, 3) := by decide +kernel
theorem d_PG_token_35 : decode prog_1_method_4_code 35 = .ok (.ifCond .ne 5, 3) := by decide +kernel
theorem d_PG_token_38 : decode prog_1_method_4_code 38 = .ok (.iconst 1, 1) := by decide +kernel
theorem d_PG_token_39 : decode prog_1_method_4_code 39 = .ok (.ireturn, 1) := by decide +kernel
theorem d_PG_token_40 : decode prog_1_method_4_code 40 = .ok (.aload_n 0, 1) := by decide +kernel
theorem d_PG_token_41 : decode prog_1_method_4_code 41 = .ok (.getfield 21, 3) := by decide +kernel
theorem d_PG_token_44 : decode prog_1_method_4_code 44 = .ok (.iload_n 3, 1) := by decide +kernel
theorem d_PG_token_45 : decode prog_1_method_4_code 45 = .ok (.aload_n 0, 1) := by decide +kernel
theorem d_PG_token_46 : decode prog_1_method_4_code 46 = .ok (.getfield 36, 3) := by decide +kernel
theorem d_PG_token_49 : decode prog_1_method_4_code 49 = .ok (.invokevirtual 74, 3) := by decide +kernel
theorem d_PG_token_52 : decode prog_1_method_4_code 52 = .ok (.ifCond .eq 5, 3) := by decide +kernel
theorem d_PG_token_55 : decode prog_1_method_4_code 55 = .ok (.iconst 3, 1) := by decide +kernel
theorem d_PG_token_56 : decode prog_1_method_4_code 56 = .ok (.ireturn, 1) := by decide +kernel
theorem d_PG_token_57 : decode prog_1_method_4_code 57 = .ok (.aload 5, 2) := by decide +kernel
theorem d_PG_token_59 : decode prog_1_method_4_code 59 = .ok (.invokevirtual 78, 3) := by decide +kernel
theorem d_PG_token_62 : decode prog_1_method_4_code 62 = .ok (.ifCond .ne 13, 3) := by decide +kernel
theorem d_PG_token_65 : decode prog_1_method_4_code 65 = .ok (.aload_n 0, 1) := by decide +kernel
theorem d_PG_token_66 : decode prog_1_method_4_code 66 = .ok (.getfield 21, 3) := by decide +kernel
theorem d_PG_token_69 : decode prog_1_method_4_code 69 = .ok (.invokevirtual 78, 3) := by decide +kernel
theorem d_PG_token_72 : decode prog_1_method_4_code 72 = .ok (.ifCond .eq 5, 3) := by decide +kernel
theorem d_PG_token_75 : decode prog_1_method_4_code 75 = .ok (.iconst 2, 1) := by decide +kernel
theorem d_PG_token_76 : decode prog_1_method_4_code 76 = .ok (.ireturn, 1) := by decide +kernel
theorem d_PG_token_77 : decode prog_1_method_4_code 77 = .ok (.aload_n 0, 1) := by decide +kernel
theorem d_PG_token_78 : decode prog_1_method_4_code 78 = .ok (.getfield 21, 3) := by decide +kernel
theorem d_PG_token_81 : decode prog_1_method_4_code 81 = .ok (.iload_n 3, 1) := by decide +kernel
theorem d_PG_token_82 : decode prog_1_method_4_code 82 = .ok (.aload_n 0, 1) := by decide +kernel
theorem d_PG_token_83 : decode prog_1_method_4_code 83 = .ok (.getfield 36, 3) := by decide +kernel
theorem d_PG_token_86 : decode prog_1_method_4_code 86 = .ok (.invokevirtual 82, 3) := by decide +kernel
theorem d_PG_token_89 : decode prog_1_method_4_code 89 = .ok (.aload 5, 2) := by decide +kernel
theorem d_PG_token_91 : decode prog_1_method_4_code 91 = .ok (.iload_n 3, 1) := by decide +kernel
theorem d_PG_token_92 : decode prog_1_method_4_code 92 = .ok (.aload_n 0, 1) := by decide +kernel
theorem d_PG_token_93 : decode prog_1_method_4_code 93 = .ok (.getfield 36, 3) := by decide +kernel
theorem d_PG_token_96 : decode prog_1_method_4_code 96 = .ok (.invokevirtual 82, 3) := by decide +kernel
theorem d_PG_token_99 : decode prog_1_method_4_code 99 = .ok (.iconst 0, 1) := by decide +kernel
theorem d_PG_token_100 : decode prog_1_method_4_code 100 = .ok (.ireturn, 1) := by decide +kernel
abbrev m_PG_cancel : ac_I := (⟨"PairedGates", "cancel", "(II)I"⟩, prog_1_method_5_code, 5, (some (.int)), [])
theorem d_PG_cancel_0 : decode prog_1_method_5_code 0 = .ok (.aload_n 0, 1) := by decide +kernel
theorem d_PG_cancel_1 : decode prog_1_method_5_code 1 = .ok (.iload_n 1, 1) := by decide +kernel
theorem d_PG_cancel_2 : decode prog_1_method_5_code 2 = .ok (.invokevirtual 40, 3) := by decide +kernel
theorem d_PG_cancel_5 : decode prog_1_method_5_code 5 = .ok (.iload_n 2, 1) := by decide +kernel
theorem d_PG_cancel_6 : decode prog_1_method_5_code 6 = .ok (.invokestatic 64, 3) := by decide +kernel
theorem d_PG_cancel_9 : decode prog_1_method_5_code 9 = .ok (.astore_n 3, 1) := by decide +kernel
theorem d_PG_cancel_10 : decode prog_1_method_5_code 10 = .ok (.aload_n 3, 1) := by decide +kernel
theorem d_PG_cancel_11 : decode prog_1_method_5_code 11 = .ok (.getfield 86, 3) := by decide +kernel
theorem d_PG_cancel_14 : decode prog_1_method_5_code 14 = .ok (.ifCond .ne 5, 3) := by decide +kernel
theorem d_PG_cancel_17 : decode prog_1_method_5_code 17 = .ok (.iconst (-1), 1) := by decide +kernel
theorem d_PG_cancel_18 : decode prog_1_method_5_code 18 = .ok (.ireturn, 1) := by decide +kernel
theorem d_PG_cancel_19 : decode prog_1_method_5_code 19 = .ok (.aload_n 3, 1) := by decide +kernel
theorem d_PG_cancel_20 : decode prog_1_method_5_code 20 = .ok (.invokevirtual 89, 3) := by decide +kernel
theorem d_PG_cancel_23 : decode prog_1_method_5_code 23 = .ok (.istore 4, 2) := by decide +kernel
theorem d_PG_cancel_25 : decode prog_1_method_5_code 25 = .ok (.aload_n 0, 1) := by decide +kernel
theorem d_PG_cancel_26 : decode prog_1_method_5_code 26 = .ok (.getfield 28, 3) := by decide +kernel
theorem d_PG_cancel_29 : decode prog_1_method_5_code 29 = .ok (.iload 4, 2) := by decide +kernel
theorem d_PG_cancel_31 : decode prog_1_method_5_code 31 = .ok (.invokevirtual 93, 3) := by decide +kernel
theorem d_PG_cancel_34 : decode prog_1_method_5_code 34 = .ok (.iload 4, 2) := by decide +kernel
theorem d_PG_cancel_36 : decode prog_1_method_5_code 36 = .ok (.ireturn, 1) := by decide +kernel
abbrev m_PG_mode : ac_I := (⟨"PairedGates", "mode", "(II)I"⟩, prog_1_method_6_code, 4, (some (.int)), [])
theorem d_PG_mode_0 : decode prog_1_method_6_code 0 = .ok (.aload_n 0, 1) := by decide +kernel
theorem d_PG_mode_1 : decode prog_1_method_6_code 1 = .ok (.iload_n 1, 1) := by decide +kernel
theorem d_PG_mode_2 : decode prog_1_method_6_code 2 = .ok (.invokevirtual 40, 3) := by decide +kernel
theorem d_PG_mode_5 : decode prog_1_method_6_code 5 = .ok (.astore_n 3, 1) := by decide +kernel
theorem d_PG_mode_6 : decode prog_1_method_6_code 6 = .ok (.iload_n 2, 1) := by decide +kernel
theorem d_PG_mode_7 : decode prog_1_method_6_code 7 = .ok (.ifCond .lt 8, 3) := by decide +kernel
theorem d_PG_mode_10 : decode prog_1_method_6_code 10 = .ok (.iload_n 2, 1) := by decide +kernel
theorem d_PG_mode_11 : decode prog_1_method_6_code 11 = .ok (.iconst 3, 1) := by decide +kernel
theorem d_PG_mode_12 : decode prog_1_method_6_code 12 = .ok (.if_icmp .le 13, 3) := by decide +kernel
theorem d_PG_mode_15 : decode prog_1_method_6_code 15 = .ok (.new 53, 3) := by decide +kernel
theorem d_PG_mode_18 : decode prog_1_method_6_code 18 = .ok (.dup, 1) := by decide +kernel
theorem d_PG_mode_19 : decode prog_1_method_6_code 19 = .ok (.ldc 95, 2) := by decide +kernel
theorem d_PG_mode_21 : decode prog_1_method_6_code 21 = .ok (.invokespecial 57, 3) := by decide +kernel
theorem d_PG_mode_24 : decode prog_1_method_6_code 24 = .ok (.athrow, 1) := by decide +kernel
theorem d_PG_mode_25 : decode prog_1_method_6_code 25 = .ok (.aload_n 3, 1) := by decide +kernel
theorem d_PG_mode_26 : decode prog_1_method_6_code 26 = .ok (.getfield 97, 3) := by decide +kernel
theorem d_PG_mode_29 : decode prog_1_method_6_code 29 = .ok (.ifCond .le 13, 3) := by decide +kernel
theorem d_PG_mode_32 : decode prog_1_method_6_code 32 = .ok (.new 98, 3) := by decide +kernel
theorem d_PG_mode_35 : decode prog_1_method_6_code 35 = .ok (.dup, 1) := by decide +kernel
theorem d_PG_mode_36 : decode prog_1_method_6_code 36 = .ok (.ldc 100, 2) := by decide +kernel
theorem d_PG_mode_38 : decode prog_1_method_6_code 38 = .ok (.invokespecial 102, 3) := by decide +kernel
theorem d_PG_mode_41 : decode prog_1_method_6_code 41 = .ok (.athrow, 1) := by decide +kernel
theorem d_PG_mode_42 : decode prog_1_method_6_code 42 = .ok (.aload_n 3, 1) := by decide +kernel
theorem d_PG_mode_43 : decode prog_1_method_6_code 43 = .ok (.iload_n 2, 1) := by decide +kernel
theorem d_PG_mode_44 : decode prog_1_method_6_code 44 = .ok (.aload_n 0, 1) := by decide +kernel
theorem d_PG_mode_45 : decode prog_1_method_6_code 45 = .ok (.getfield 28, 3) := by decide +kernel
theorem d_PG_mode_48 : decode prog_1_method_6_code 48 = .ok (.invokevirtual 103, 3) := by decide +kernel
theorem d_PG_mode_51 : decode prog_1_method_6_code 51 = .ok (.ireturn, 1) := by decide +kernel
abbrev m_PG_alarm : ac_I := (⟨"PairedGates", "alarm", "(Z)V"⟩, prog_1_method_7_code, 2, none, [])
theorem d_PG_alarm_0 : decode prog_1_method_7_code 0 = .ok (.aload_n 0, 1) := by decide +kernel
theorem d_PG_alarm_1 : decode prog_1_method_7_code 1 = .ok (.iload_n 1, 1) := by decide +kernel
theorem d_PG_alarm_2 : decode prog_1_method_7_code 2 = .ok (.putfield 32, 3) := by decide +kernel
theorem d_PG_alarm_5 : decode prog_1_method_7_code 5 = .ok (.return_, 1) := by decide +kernel
abbrev m_PG_time : ac_I := (⟨"PairedGates", "time", "()I"⟩, prog_1_method_8_code, 1, (some (.int)), [])
theorem d_PG_time_0 : decode prog_1_method_8_code 0 = .ok (.aload_n 0, 1) := by decide +kernel
theorem d_PG_time_1 : decode prog_1_method_8_code 1 = .ok (.getfield 36, 3) := by decide +kernel
theorem d_PG_time_4 : decode prog_1_method_8_code 4 = .ok (.ireturn, 1) := by decide +kernel
abbrev m_PG_bodies : ac_I := (⟨"PairedGates", "bodies", "(I)I"⟩, prog_1_method_9_code, 2, (some (.int)), [])
theorem d_PG_bodies_0 : decode prog_1_method_9_code 0 = .ok (.aload_n 0, 1) := by decide +kernel
theorem d_PG_bodies_1 : decode prog_1_method_9_code 1 = .ok (.iload_n 1, 1) := by decide +kernel
theorem d_PG_bodies_2 : decode prog_1_method_9_code 2 = .ok (.invokevirtual 40, 3) := by decide +kernel
theorem d_PG_bodies_5 : decode prog_1_method_9_code 5 = .ok (.getfield 97, 3) := by decide +kernel
theorem d_PG_bodies_8 : decode prog_1_method_9_code 8 = .ok (.ireturn, 1) := by decide +kernel
abbrev m_PG_body : ac_I := (⟨"PairedGates", "body", "(III)I"⟩, prog_1_method_10_code, 5, (some (.int)), [])
theorem d_PG_body_0 : decode prog_1_method_10_code 0 = .ok (.aload_n 0, 1) := by decide +kernel
theorem d_PG_body_1 : decode prog_1_method_10_code 1 = .ok (.iload_n 1, 1) := by decide +kernel
theorem d_PG_body_2 : decode prog_1_method_10_code 2 = .ok (.invokevirtual 40, 3) := by decide +kernel
theorem d_PG_body_5 : decode prog_1_method_10_code 5 = .ok (.iload_n 2, 1) := by decide +kernel
theorem d_PG_body_6 : decode prog_1_method_10_code 6 = .ok (.invokestatic 107, 3) := by decide +kernel
theorem d_PG_body_9 : decode prog_1_method_10_code 9 = .ok (.astore 4, 2) := by decide +kernel
theorem d_PG_body_11 : decode prog_1_method_10_code 11 = .ok (.iload_n 3, 1) := by decide +kernel
theorem d_PG_body_12 : decode prog_1_method_10_code 12 = .ok (.tableswitch 66 0 4 #[36, 42, 48, 54, 60], 36) := by decide +kernel
theorem d_PG_body_48 : decode prog_1_method_10_code 48 = .ok (.aload 4, 2) := by decide +kernel
theorem d_PG_body_50 : decode prog_1_method_10_code 50 = .ok (.getfield 111, 3) := by decide +kernel
theorem d_PG_body_53 : decode prog_1_method_10_code 53 = .ok (.ireturn, 1) := by decide +kernel
theorem d_PG_body_54 : decode prog_1_method_10_code 54 = .ok (.aload 4, 2) := by decide +kernel
theorem d_PG_body_56 : decode prog_1_method_10_code 56 = .ok (.getfield 116, 3) := by decide +kernel
theorem d_PG_body_59 : decode prog_1_method_10_code 59 = .ok (.ireturn, 1) := by decide +kernel
theorem d_PG_body_60 : decode prog_1_method_10_code 60 = .ok (.aload 4, 2) := by decide +kernel
theorem d_PG_body_62 : decode prog_1_method_10_code 62 = .ok (.getfield 119, 3) := by decide +kernel
theorem d_PG_body_65 : decode prog_1_method_10_code 65 = .ok (.ireturn, 1) := by decide +kernel
theorem d_PG_body_66 : decode prog_1_method_10_code 66 = .ok (.aload 4, 2) := by decide +kernel
theorem d_PG_body_68 : decode prog_1_method_10_code 68 = .ok (.getfield 122, 3) := by decide +kernel
theorem d_PG_body_71 : decode prog_1_method_10_code 71 = .ok (.ireturn, 1) := by decide +kernel
theorem d_PG_body_72 : decode prog_1_method_10_code 72 = .ok (.aload 4, 2) := by decide +kernel
theorem d_PG_body_74 : decode prog_1_method_10_code 74 = .ok (.getfield 125, 3) := by decide +kernel
theorem d_PG_body_77 : decode prog_1_method_10_code 77 = .ok (.ireturn, 1) := by decide +kernel
theorem d_PG_body_78 : decode prog_1_method_10_code 78 = .ok (.new 53, 3) := by decide +kernel
theorem d_PG_body_81 : decode prog_1_method_10_code 81 = .ok (.dup, 1) := by decide +kernel
theorem d_PG_body_82 : decode prog_1_method_10_code 82 = .ok (.ldc 128, 2) := by decide +kernel
theorem d_PG_body_84 : decode prog_1_method_10_code 84 = .ok (.invokespecial 57, 3) := by decide +kernel
theorem d_PG_body_87 : decode prog_1_method_10_code 87 = .ok (.athrow, 1) := by decide +kernel
abbrev m_PG_waiting : ac_I := (⟨"PairedGates", "waiting", "(II)I"⟩, prog_1_method_11_code, 3, (some (.int)), [])
theorem d_PG_waiting_0 : decode prog_1_method_11_code 0 = .ok (.aload_n 0, 1) := by decide +kernel
theorem d_PG_waiting_1 : decode prog_1_method_11_code 1 = .ok (.iload_n 1, 1) := by decide +kernel
theorem d_PG_waiting_2 : decode prog_1_method_11_code 2 = .ok (.invokevirtual 40, 3) := by decide +kernel
theorem d_PG_waiting_5 : decode prog_1_method_11_code 5 = .ok (.iload_n 2, 1) := by decide +kernel
theorem d_PG_waiting_6 : decode prog_1_method_11_code 6 = .ok (.invokestatic 64, 3) := by decide +kernel
theorem d_PG_waiting_9 : decode prog_1_method_11_code 9 = .ok (.getfield 86, 3) := by decide +kernel
theorem d_PG_waiting_12 : decode prog_1_method_11_code 12 = .ok (.ireturn, 1) := by decide +kernel
abbrev m_PG_waits : ac_I := (⟨"PairedGates", "waits", "(III)I"⟩, prog_1_method_12_code, 4, (some (.int)), [])
theorem d_PG_waits_0 : decode prog_1_method_12_code 0 = .ok (.aload_n 0, 1) := by decide +kernel
theorem d_PG_waits_1 : decode prog_1_method_12_code 1 = .ok (.iload_n 1, 1) := by decide +kernel
theorem d_PG_waits_2 : decode prog_1_method_12_code 2 = .ok (.invokevirtual 40, 3) := by decide +kernel
theorem d_PG_waits_5 : decode prog_1_method_12_code 5 = .ok (.iload_n 2, 1) := by decide +kernel
theorem d_PG_waits_6 : decode prog_1_method_12_code 6 = .ok (.invokestatic 64, 3) := by decide +kernel
theorem d_PG_waits_9 : decode prog_1_method_12_code 9 = .ok (.iload_n 3, 1) := by decide +kernel
theorem d_PG_waits_10 : decode prog_1_method_12_code 10 = .ok (.invokevirtual 130, 3) := by decide +kernel
theorem d_PG_waits_13 : decode prog_1_method_12_code 13 = .ok (.ireturn, 1) := by decide +kernel
abbrev m_PG_count : ac_I := (⟨"PairedGates", "count", "(II)I"⟩, prog_1_method_13_code, 4, (some (.int)), [])
theorem d_PG_count_0 : decode prog_1_method_13_code 0 = .ok (.aload_n 0, 1) := by decide +kernel
theorem d_PG_count_1 : decode prog_1_method_13_code 1 = .ok (.iload_n 1, 1) := by decide +kernel
theorem d_PG_count_2 : decode prog_1_method_13_code 2 = .ok (.invokevirtual 40, 3) := by decide +kernel
theorem d_PG_count_5 : decode prog_1_method_13_code 5 = .ok (.getfield 134, 3) := by decide +kernel
theorem d_PG_count_8 : decode prog_1_method_13_code 8 = .ok (.astore_n 3, 1) := by decide +kernel
theorem d_PG_count_9 : decode prog_1_method_13_code 9 = .ok (.iload_n 2, 1) := by decide +kernel
theorem d_PG_count_10 : decode prog_1_method_13_code 10 = .ok (.ifCond .lt 15, 3) := by decide +kernel
theorem d_PG_count_13 : decode prog_1_method_13_code 13 = .ok (.iload_n 2, 1) := by decide +kernel
theorem d_PG_count_14 : decode prog_1_method_13_code 14 = .ok (.aload_n 3, 1) := by decide +kernel
theorem d_PG_count_15 : decode prog_1_method_13_code 15 = .ok (.arraylength, 1) := by decide +kernel
theorem d_PG_count_16 : decode prog_1_method_13_code 16 = .ok (.if_icmp .ge 9, 3) := by decide +kernel
theorem d_PG_count_19 : decode prog_1_method_13_code 19 = .ok (.aload_n 3, 1) := by decide +kernel
theorem d_PG_count_20 : decode prog_1_method_13_code 20 = .ok (.iload_n 2, 1) := by decide +kernel
theorem d_PG_count_21 : decode prog_1_method_13_code 21 = .ok (.iaload, 1) := by decide +kernel
theorem d_PG_count_22 : decode prog_1_method_13_code 22 = .ok (.goto 4, 3) := by decide +kernel
theorem d_PG_count_25 : decode prog_1_method_13_code 25 = .ok (.iconst 0, 1) := by decide +kernel
theorem d_PG_count_26 : decode prog_1_method_13_code 26 = .ok (.ireturn, 1) := by decide +kernel
abbrev m_PG_angle : ac_I := (⟨"PairedGates", "angle", "(I)I"⟩, prog_1_method_14_code, 2, (some (.int)), [])
theorem d_PG_angle_0 : decode prog_1_method_14_code 0 = .ok (.aload_n 0, 1) := by decide +kernel
theorem d_PG_angle_1 : decode prog_1_method_14_code 1 = .ok (.iload_n 1, 1) := by decide +kernel
theorem d_PG_angle_2 : decode prog_1_method_14_code 2 = .ok (.invokevirtual 40, 3) := by decide +kernel
theorem d_PG_angle_5 : decode prog_1_method_14_code 5 = .ok (.getfield 138, 3) := by decide +kernel
theorem d_PG_angle_8 : decode prog_1_method_14_code 8 = .ok (.getfield 142, 3) := by decide +kernel
theorem d_PG_angle_11 : decode prog_1_method_14_code 11 = .ok (.ireturn, 1) := by decide +kernel
abbrev m_PG_order : ac_I := (⟨"PairedGates", "order", "(I)I"⟩, prog_1_method_15_code, 2, (some (.int)), [])
theorem d_PG_order_0 : decode prog_1_method_15_code 0 = .ok (.aload_n 0, 1) := by decide +kernel
theorem d_PG_order_1 : decode prog_1_method_15_code 1 = .ok (.iload_n 1, 1) := by decide +kernel
theorem d_PG_order_2 : decode prog_1_method_15_code 2 = .ok (.invokevirtual 40, 3) := by decide +kernel
theorem d_PG_order_5 : decode prog_1_method_15_code 5 = .ok (.getfield 138, 3) := by decide +kernel
theorem d_PG_order_8 : decode prog_1_method_15_code 8 = .ok (.getfield 147, 3) := by decide +kernel
theorem d_PG_order_11 : decode prog_1_method_15_code 11 = .ok (.ireturn, 1) := by decide +kernel
abbrev m_PG_seen : ac_I := (⟨"PairedGates", "seen", "(I)I"⟩, prog_1_method_16_code, 2, (some (.int)), [])
theorem d_PG_seen_0 : decode prog_1_method_16_code 0 = .ok (.aload_n 0, 1) := by decide +kernel
theorem d_PG_seen_1 : decode prog_1_method_16_code 1 = .ok (.iload_n 1, 1) := by decide +kernel
theorem d_PG_seen_2 : decode prog_1_method_16_code 2 = .ok (.invokevirtual 40, 3) := by decide +kernel
theorem d_PG_seen_5 : decode prog_1_method_16_code 5 = .ok (.getfield 44, 3) := by decide +kernel
theorem d_PG_seen_8 : decode prog_1_method_16_code 8 = .ok (.getfield 150, 3) := by decide +kernel
theorem d_PG_seen_11 : decode prog_1_method_16_code 11 = .ok (.ireturn, 1) := by decide +kernel
abbrev m_PG_accepted : ac_I := (⟨"PairedGates", "accepted", "()I"⟩, prog_1_method_17_code, 1, (some (.int)), [])
theorem d_PG_accepted_0 : decode prog_1_method_17_code 0 = .ok (.aload_n 0, 1) := by decide +kernel
theorem d_PG_accepted_1 : decode prog_1_method_17_code 1 = .ok (.getfield 21, 3) := by decide +kernel
theorem d_PG_accepted_4 : decode prog_1_method_17_code 4 = .ok (.getfield 86, 3) := by decide +kernel
theorem d_PG_accepted_7 : decode prog_1_method_17_code 7 = .ok (.ireturn, 1) := by decide +kernel
abbrev m_PG_refunds : ac_I := (⟨"PairedGates", "refunds", "()I"⟩, prog_1_method_18_code, 1, (some (.int)), [])
theorem d_PG_refunds_0 : decode prog_1_method_18_code 0 = .ok (.aload_n 0, 1) := by decide +kernel
theorem d_PG_refunds_1 : decode prog_1_method_18_code 1 = .ok (.getfield 28, 3) := by decide +kernel
theorem d_PG_refunds_4 : decode prog_1_method_18_code 4 = .ok (.getfield 153, 3) := by decide +kernel
theorem d_PG_refunds_7 : decode prog_1_method_18_code 7 = .ok (.ireturn, 1) := by decide +kernel
abbrev m_PG_refund : ac_I := (⟨"PairedGates", "refund", "(I)I"⟩, prog_1_method_19_code, 2, (some (.int)), [])
theorem d_PG_refund_0 : decode prog_1_method_19_code 0 = .ok (.aload_n 0, 1) := by decide +kernel
theorem d_PG_refund_1 : decode prog_1_method_19_code 1 = .ok (.getfield 28, 3) := by decide +kernel
theorem d_PG_refund_4 : decode prog_1_method_19_code 4 = .ok (.iload_n 1, 1) := by decide +kernel
theorem d_PG_refund_5 : decode prog_1_method_19_code 5 = .ok (.invokevirtual 154, 3) := by decide +kernel
theorem d_PG_refund_8 : decode prog_1_method_19_code 8 = .ok (.ireturn, 1) := by decide +kernel
abbrev m_PG_laneAt : ac_I := (⟨"PairedGates", "laneAt", "(I)LPairedGates$Lane;"⟩, prog_1_method_20_code, 2, (some ((.object "PairedGates$Lane"))), [])
theorem d_PG_laneAt_0 : decode prog_1_method_20_code 0 = .ok (.iload_n 1, 1) := by decide +kernel
theorem d_PG_laneAt_1 : decode prog_1_method_20_code 1 = .ok (.ifCond .lt 12, 3) := by decide +kernel
theorem d_PG_laneAt_4 : decode prog_1_method_20_code 4 = .ok (.iload_n 1, 1) := by decide +kernel
theorem d_PG_laneAt_5 : decode prog_1_method_20_code 5 = .ok (.aload_n 0, 1) := by decide +kernel
theorem d_PG_laneAt_6 : decode prog_1_method_20_code 6 = .ok (.getfield 10, 3) := by decide +kernel
theorem d_PG_laneAt_9 : decode prog_1_method_20_code 9 = .ok (.arraylength, 1) := by decide +kernel
theorem d_PG_laneAt_10 : decode prog_1_method_20_code 10 = .ok (.if_icmp .lt 13, 3) := by decide +kernel
theorem d_PG_laneAt_13 : decode prog_1_method_20_code 13 = .ok (.new 155, 3) := by decide +kernel
theorem d_PG_laneAt_16 : decode prog_1_method_20_code 16 = .ok (.dup, 1) := by decide +kernel
theorem d_PG_laneAt_17 : decode prog_1_method_20_code 17 = .ok (.ldc 157, 2) := by decide +kernel
theorem d_PG_laneAt_19 : decode prog_1_method_20_code 19 = .ok (.invokespecial 159, 3) := by decide +kernel
theorem d_PG_laneAt_22 : decode prog_1_method_20_code 22 = .ok (.athrow, 1) := by decide +kernel
theorem d_PG_laneAt_23 : decode prog_1_method_20_code 23 = .ok (.aload_n 0, 1) := by decide +kernel
theorem d_PG_laneAt_24 : decode prog_1_method_20_code 24 = .ok (.getfield 10, 3) := by decide +kernel
theorem d_PG_laneAt_27 : decode prog_1_method_20_code 27 = .ok (.iload_n 1, 1) := by decide +kernel
theorem d_PG_laneAt_28 : decode prog_1_method_20_code 28 = .ok (.aaload, 1) := by decide +kernel
theorem d_PG_laneAt_29 : decode prog_1_method_20_code 29 = .ok (.areturn, 1) := by decide +kernel
abbrev m_PG_queueAt : ac_I := (⟨"PairedGates", "queueAt", "(LPairedGates$Lane;I)LPairedGates$TokenList;"⟩, prog_1_method_21_code, 2, (some ((.object "PairedGates$TokenList"))), [])
theorem d_PG_queueAt_0 : decode prog_1_method_21_code 0 = .ok (.iload_n 1, 1) := by decide +kernel
theorem d_PG_queueAt_1 : decode prog_1_method_21_code 1 = .ok (.ifCond .lt 12, 3) := by decide +kernel
theorem d_PG_queueAt_4 : decode prog_1_method_21_code 4 = .ok (.iload_n 1, 1) := by decide +kernel
theorem d_PG_queueAt_5 : decode prog_1_method_21_code 5 = .ok (.aload_n 0, 1) := by decide +kernel
theorem d_PG_queueAt_6 : decode prog_1_method_21_code 6 = .ok (.getfield 160, 3) := by decide +kernel
theorem d_PG_queueAt_9 : decode prog_1_method_21_code 9 = .ok (.arraylength, 1) := by decide +kernel
theorem d_PG_queueAt_10 : decode prog_1_method_21_code 10 = .ok (.if_icmp .lt 13, 3) := by decide +kernel
theorem d_PG_queueAt_13 : decode prog_1_method_21_code 13 = .ok (.new 155, 3) := by decide +kernel
theorem d_PG_queueAt_16 : decode prog_1_method_21_code 16 = .ok (.dup, 1) := by decide +kernel
theorem d_PG_queueAt_17 : decode prog_1_method_21_code 17 = .ok (.ldc 164, 2) := by decide +kernel
theorem d_PG_queueAt_19 : decode prog_1_method_21_code 19 = .ok (.invokespecial 159, 3) := by decide +kernel
theorem d_PG_queueAt_22 : decode prog_1_method_21_code 22 = .ok (.athrow, 1) := by decide +kernel
theorem d_PG_queueAt_23 : decode prog_1_method_21_code 23 = .ok (.aload_n 0, 1) := by decide +kernel
theorem d_PG_queueAt_24 : decode prog_1_method_21_code 24 = .ok (.getfield 160, 3) := by decide +kernel
theorem d_PG_queueAt_27 : decode prog_1_method_21_code 27 = .ok (.iload_n 1, 1) := by decide +kernel
theorem d_PG_queueAt_28 : decode prog_1_method_21_code 28 = .ok (.aaload, 1) := by decide +kernel
theorem d_PG_queueAt_29 : decode prog_1_method_21_code 29 = .ok (.areturn, 1) := by decide +kernel
abbrev m_PG_bodyAt : ac_I := (⟨"PairedGates", "bodyAt", "(LPairedGates$Lane;I)LPairedGates$Body;"⟩, prog_1_method_22_code, 2, (some ((.object "PairedGates$Body"))), [])
theorem d_PG_bodyAt_0 : decode prog_1_method_22_code 0 = .ok (.iload_n 1, 1) := by decide +kernel
theorem d_PG_bodyAt_1 : decode prog_1_method_22_code 1 = .ok (.ifCond .lt 11, 3) := by decide +kernel
theorem d_PG_bodyAt_4 : decode prog_1_method_22_code 4 = .ok (.iload_n 1, 1) := by decide +kernel
theorem d_PG_bodyAt_5 : decode prog_1_method_22_code 5 = .ok (.aload_n 0, 1) := by decide +kernel
theorem d_PG_bodyAt_6 : decode prog_1_method_22_code 6 = .ok (.getfield 97, 3) := by decide +kernel
theorem d_PG_bodyAt_9 : decode prog_1_method_22_code 9 = .ok (.if_icmp .lt 13, 3) := by decide +kernel
theorem d_PG_bodyAt_12 : decode prog_1_method_22_code 12 = .ok (.new 155, 3) := by decide +kernel
theorem d_PG_bodyAt_15 : decode prog_1_method_22_code 15 = .ok (.dup, 1) := by decide +kernel
theorem d_PG_bodyAt_16 : decode prog_1_method_22_code 16 = .ok (.ldc 166, 2) := by decide +kernel
theorem d_PG_bodyAt_18 : decode prog_1_method_22_code 18 = .ok (.invokespecial 159, 3) := by decide +kernel
theorem d_PG_bodyAt_21 : decode prog_1_method_22_code 21 = .ok (.athrow, 1) := by decide +kernel
theorem d_PG_bodyAt_22 : decode prog_1_method_22_code 22 = .ok (.aload_n 0, 1) := by decide +kernel
theorem d_PG_bodyAt_23 : decode prog_1_method_22_code 23 = .ok (.getfield 168, 3) := by decide +kernel
theorem d_PG_bodyAt_26 : decode prog_1_method_22_code 26 = .ok (.iload_n 1, 1) := by decide +kernel
theorem d_PG_bodyAt_27 : decode prog_1_method_22_code 27 = .ok (.aaload, 1) := by decide +kernel
theorem d_PG_bodyAt_28 : decode prog_1_method_22_code 28 = .ok (.areturn, 1) := by decide +kernel
abbrev m_Mo_init : ac_I := (⟨"PairedGatesModel", "<init>", "()V"⟩, prog_10_method_1_code, 1, none, [])
theorem d_Mo_init_0 : decode prog_10_method_1_code 0 = .ok (.aload_n 0, 1) := by decide +kernel
theorem d_Mo_init_1 : decode prog_10_method_1_code 1 = .ok (.invokespecial 1, 3) := by decide +kernel
theorem d_Mo_init_4 : decode prog_10_method_1_code 4 = .ok (.aload_n 0, 1) := by decide +kernel
theorem d_Mo_init_5 : decode prog_10_method_1_code 5 = .ok (.iconst 2, 1) := by decide +kernel
theorem d_Mo_init_6 : decode prog_10_method_1_code 6 = .ok (.newarray .int, 2) := by decide +kernel
theorem d_Mo_init_8 : decode prog_10_method_1_code 8 = .ok (.putfield 7, 3) := by decide +kernel
theorem d_Mo_init_11 : decode prog_10_method_1_code 11 = .ok (.aload_n 0, 1) := by decide +kernel
theorem d_Mo_init_12 : decode prog_10_method_1_code 12 = .ok (.iconst 2, 1) := by decide +kernel
theorem d_Mo_init_13 : decode prog_10_method_1_code 13 = .ok (.newarray .int, 2) := by decide +kernel
theorem d_Mo_init_15 : decode prog_10_method_1_code 15 = .ok (.putfield 13, 3) := by decide +kernel
theorem d_Mo_init_18 : decode prog_10_method_1_code 18 = .ok (.aload_n 0, 1) := by decide +kernel
theorem d_Mo_init_19 : decode prog_10_method_1_code 19 = .ok (.iconst 2, 1) := by decide +kernel
theorem d_Mo_init_20 : decode prog_10_method_1_code 20 = .ok (.newarray .int, 2) := by decide +kernel
theorem d_Mo_init_22 : decode prog_10_method_1_code 22 = .ok (.putfield 16, 3) := by decide +kernel
theorem d_Mo_init_25 : decode prog_10_method_1_code 25 = .ok (.aload_n 0, 1) := by decide +kernel
theorem d_Mo_init_26 : decode prog_10_method_1_code 26 = .ok (.iconst 2, 1) := by decide +kernel
theorem d_Mo_init_27 : decode prog_10_method_1_code 27 = .ok (.newarray .int, 2) := by decide +kernel
theorem d_Mo_init_29 : decode prog_10_method_1_code 29 = .ok (.putfield 19, 3) := by decide +kernel
theorem d_Mo_init_32 : decode prog_10_method_1_code 32 = .ok (.aload_n 0, 1) := by decide +kernel
theorem d_Mo_init_33 : decode prog_10_method_1_code 33 = .ok (.iconst 2, 1) := by decide +kernel
theorem d_Mo_init_34 : decode prog_10_method_1_code 34 = .ok (.newarray .int, 2) := by decide +kernel
theorem d_Mo_init_36 : decode prog_10_method_1_code 36 = .ok (.putfield 22, 3) := by decide +kernel
theorem d_Mo_init_39 : decode prog_10_method_1_code 39 = .ok (.aload_n 0, 1) := by decide +kernel
theorem d_Mo_init_40 : decode prog_10_method_1_code 40 = .ok (.iconst 2, 1) := by decide +kernel
theorem d_Mo_init_41 : decode prog_10_method_1_code 41 = .ok (.newarray .int, 2) := by decide +kernel
theorem d_Mo_init_43 : decode prog_10_method_1_code 43 = .ok (.putfield 25, 3) := by decide +kernel
theorem d_Mo_init_46 : decode prog_10_method_1_code 46 = .ok (.aload_n 0, 1) := by decide +kernel
theorem d_Mo_init_47 : decode prog_10_method_1_code 47 = .ok (.iconst 2, 1) := by decide +kernel
theorem d_Mo_init_48 : decode prog_10_method_1_code 48 = .ok (.newarray .int, 2) := by decide +kernel
theorem d_Mo_init_50 : decode prog_10_method_1_code 50 = .ok (.putfield 28, 3) := by decide +kernel
theorem d_Mo_init_53 : decode prog_10_method_1_code 53 = .ok (.aload_n 0, 1) := by decide +kernel
theorem d_Mo_init_54 : decode prog_10_method_1_code 54 = .ok (.bipush 10, 2) := by decide +kernel
theorem d_Mo_init_56 : decode prog_10_method_1_code 56 = .ok (.newarray .int, 2) := by decide +kernel
theorem d_Mo_init_58 : decode prog_10_method_1_code 58 = .ok (.putfield 31, 3) := by decide +kernel
theorem d_Mo_init_61 : decode prog_10_method_1_code 61 = .ok (.aload_n 0, 1) := by decide +kernel
theorem d_Mo_init_62 : decode prog_10_method_1_code 62 = .ok (.iconst 2, 1) := by decide +kernel
theorem d_Mo_init_63 : decode prog_10_method_1_code 63 = .ok (.newarray .int, 2) := by decide +kernel
theorem d_Mo_init_65 : decode prog_10_method_1_code 65 = .ok (.putfield 34, 3) := by decide +kernel
theorem d_Mo_init_68 : decode prog_10_method_1_code 68 = .ok (.aload_n 0, 1) := by decide +kernel
theorem d_Mo_init_69 : decode prog_10_method_1_code 69 = .ok (.bipush 10, 2) := by decide +kernel
theorem d_Mo_init_71 : decode prog_10_method_1_code 71 = .ok (.newarray .int, 2) := by decide +kernel
theorem d_Mo_init_73 : decode prog_10_method_1_code 73 = .ok (.putfield 37, 3) := by decide +kernel
theorem d_Mo_init_76 : decode prog_10_method_1_code 76 = .ok (.aload_n 0, 1) := by decide +kernel
theorem d_Mo_init_77 : decode prog_10_method_1_code 77 = .ok (.bipush 10, 2) := by decide +kernel
theorem d_Mo_init_79 : decode prog_10_method_1_code 79 = .ok (.newarray .int, 2) := by decide +kernel
theorem d_Mo_init_81 : decode prog_10_method_1_code 81 = .ok (.putfield 40, 3) := by decide +kernel
theorem d_Mo_init_84 : decode prog_10_method_1_code 84 = .ok (.aload_n 0, 1) := by decide +kernel
theorem d_Mo_init_85 : decode prog_10_method_1_code 85 = .ok (.bipush 10, 2) := by decide +kernel
theorem d_Mo_init_87 : decode prog_10_method_1_code 87 = .ok (.newarray .int, 2) := by decide +kernel
theorem d_Mo_init_89 : decode prog_10_method_1_code 89 = .ok (.putfield 43, 3) := by decide +kernel
theorem d_Mo_init_92 : decode prog_10_method_1_code 92 = .ok (.aload_n 0, 1) := by decide +kernel
theorem d_Mo_init_93 : decode prog_10_method_1_code 93 = .ok (.bipush 10, 2) := by decide +kernel
theorem d_Mo_init_95 : decode prog_10_method_1_code 95 = .ok (.newarray .int, 2) := by decide +kernel
theorem d_Mo_init_97 : decode prog_10_method_1_code 97 = .ok (.putfield 46, 3) := by decide +kernel
theorem d_Mo_init_100 : decode prog_10_method_1_code 100 = .ok (.aload_n 0, 1) := by decide +kernel
theorem d_Mo_init_101 : decode prog_10_method_1_code 101 = .ok (.bipush 10, 2) := by decide +kernel
theorem d_Mo_init_103 : decode prog_10_method_1_code 103 = .ok (.newarray .int, 2) := by decide +kernel
theorem d_Mo_init_105 : decode prog_10_method_1_code 105 = .ok (.putfield 49, 3) := by decide +kernel
theorem d_Mo_init_108 : decode prog_10_method_1_code 108 = .ok (.aload_n 0, 1) := by decide +kernel
theorem d_Mo_init_109 : decode prog_10_method_1_code 109 = .ok (.bipush 10, 2) := by decide +kernel
theorem d_Mo_init_111 : decode prog_10_method_1_code 111 = .ok (.newarray .int, 2) := by decide +kernel
theorem d_Mo_init_113 : decode prog_10_method_1_code 113 = .ok (.putfield 52, 3) := by decide +kernel
theorem d_Mo_init_116 : decode prog_10_method_1_code 116 = .ok (.aload_n 0, 1) := by decide +kernel
theorem d_Mo_init_117 : decode prog_10_method_1_code 117 = .ok (.bipush 10, 2) := by decide +kernel
theorem d_Mo_init_119 : decode prog_10_method_1_code 119 = .ok (.newarray .int, 2) := by decide +kernel
theorem d_Mo_init_121 : decode prog_10_method_1_code 121 = .ok (.putfield 55, 3) := by decide +kernel
theorem d_Mo_init_124 : decode prog_10_method_1_code 124 = .ok (.aload_n 0, 1) := by decide +kernel
theorem d_Mo_init_125 : decode prog_10_method_1_code 125 = .ok (.bipush 10, 2) := by decide +kernel
theorem d_Mo_init_127 : decode prog_10_method_1_code 127 = .ok (.newarray .int, 2) := by decide +kernel
theorem d_Mo_init_129 : decode prog_10_method_1_code 129 = .ok (.putfield 58, 3) := by decide +kernel
theorem d_Mo_init_132 : decode prog_10_method_1_code 132 = .ok (.aload_n 0, 1) := by decide +kernel
theorem d_Mo_init_133 : decode prog_10_method_1_code 133 = .ok (.iconst 5, 1) := by decide +kernel
theorem d_Mo_init_134 : decode prog_10_method_1_code 134 = .ok (.newarray .int, 2) := by decide +kernel
theorem d_Mo_init_136 : decode prog_10_method_1_code 136 = .ok (.putfield 61, 3) := by decide +kernel
theorem d_Mo_init_139 : decode prog_10_method_1_code 139 = .ok (.aload_n 0, 1) := by decide +kernel
theorem d_Mo_init_140 : decode prog_10_method_1_code 140 = .ok (.iconst 5, 1) := by decide +kernel
theorem d_Mo_init_141 : decode prog_10_method_1_code 141 = .ok (.newarray .int, 2) := by decide +kernel
theorem d_Mo_init_143 : decode prog_10_method_1_code 143 = .ok (.putfield 64, 3) := by decide +kernel
theorem d_Mo_init_146 : decode prog_10_method_1_code 146 = .ok (.aload_n 0, 1) := by decide +kernel
theorem d_Mo_init_147 : decode prog_10_method_1_code 147 = .ok (.iconst 4, 1) := by decide +kernel
theorem d_Mo_init_148 : decode prog_10_method_1_code 148 = .ok (.newarray .int, 2) := by decide +kernel
theorem d_Mo_init_150 : decode prog_10_method_1_code 150 = .ok (.putfield 67, 3) := by decide +kernel
theorem d_Mo_init_153 : decode prog_10_method_1_code 153 = .ok (.aload_n 0, 1) := by decide +kernel
theorem d_Mo_init_154 : decode prog_10_method_1_code 154 = .ok (.bipush 24, 2) := by decide +kernel
theorem d_Mo_init_156 : decode prog_10_method_1_code 156 = .ok (.newarray .int, 2) := by decide +kernel
theorem d_Mo_init_158 : decode prog_10_method_1_code 158 = .ok (.putfield 70, 3) := by decide +kernel
theorem d_Mo_init_161 : decode prog_10_method_1_code 161 = .ok (.aload_n 0, 1) := by decide +kernel
theorem d_Mo_init_162 : decode prog_10_method_1_code 162 = .ok (.bipush 24, 2) := by decide +kernel
theorem d_Mo_init_164 : decode prog_10_method_1_code 164 = .ok (.newarray .int, 2) := by decide +kernel
theorem d_Mo_init_166 : decode prog_10_method_1_code 166 = .ok (.putfield 73, 3) := by decide +kernel
theorem d_Mo_init_169 : decode prog_10_method_1_code 169 = .ok (.aload_n 0, 1) := by decide +kernel
theorem d_Mo_init_170 : decode prog_10_method_1_code 170 = .ok (.sipush 600, 3) := by decide +kernel
theorem d_Mo_init_173 : decode prog_10_method_1_code 173 = .ok (.newarray .int, 2) := by decide +kernel
theorem d_Mo_init_175 : decode prog_10_method_1_code 175 = .ok (.putfield 76, 3) := by decide +kernel
theorem d_Mo_init_178 : decode prog_10_method_1_code 178 = .ok (.aload_n 0, 1) := by decide +kernel
theorem d_Mo_init_179 : decode prog_10_method_1_code 179 = .ok (.sipush 600, 3) := by decide +kernel
theorem d_Mo_init_182 : decode prog_10_method_1_code 182 = .ok (.newarray .int, 2) := by decide +kernel
theorem d_Mo_init_184 : decode prog_10_method_1_code 184 = .ok (.putfield 79, 3) := by decide +kernel
theorem d_Mo_init_187 : decode prog_10_method_1_code 187 = .ok (.aload_n 0, 1) := by decide +kernel
theorem d_Mo_init_188 : decode prog_10_method_1_code 188 = .ok (.sipush 600, 3) := by decide +kernel
theorem d_Mo_init_191 : decode prog_10_method_1_code 191 = .ok (.newarray .int, 2) := by decide +kernel
theorem d_Mo_init_193 : decode prog_10_method_1_code 193 = .ok (.putfield 82, 3) := by decide +kernel
theorem d_Mo_init_196 : decode prog_10_method_1_code 196 = .ok (.return_, 1) := by decide +kernel
end
section
abbrev m_Mo_thrown : ac_I := (⟨"PairedGatesModel", "thrown", "()I"⟩, prog_10_method_2_code, 1, (some (.int)), [])
theorem d_Mo_thrown_0 : decode prog_10_method_2_code 0 = .ok (.aload_n 0, 1) := by decide +kernel
theorem d_Mo_thrown_1 : decode prog_10_method_2_code 1 = .ok (.getfield 85, 3) := by decide +kernel
theorem d_Mo_thrown_4 : decode prog_10_method_2_code 4 = .ok (.ireturn, 1) := by decide +kernel
abbrev m_Mo_refused : ac_I := (⟨"PairedGatesModel", "refused", "(I)Z"⟩, prog_10_method_3_code, 2, (some (.boolean)), [])
theorem d_Mo_refused_0 : decode prog_10_method_3_code 0 = .ok (.aload_n 0, 1) := by decide +kernel
theorem d_Mo_refused_1 : decode prog_10_method_3_code 1 = .ok (.iload_n 1, 1) := by decide +kernel
theorem d_Mo_refused_2 : decode prog_10_method_3_code 2 = .ok (.putfield 85, 3) := by decide +kernel
theorem d_Mo_refused_5 : decode prog_10_method_3_code 5 = .ok (.iload_n 1, 1) := by decide +kernel
theorem d_Mo_refused_6 : decode prog_10_method_3_code 6 = .ok (.ifCond .le 7, 3) := by decide +kernel
theorem d_Mo_refused_9 : decode prog_10_method_3_code 9 = .ok (.iconst 1, 1) := by decide +kernel
theorem d_Mo_refused_10 : decode prog_10_method_3_code 10 = .ok (.goto 4, 3) := by decide +kernel
theorem d_Mo_refused_13 : decode prog_10_method_3_code 13 = .ok (.iconst 0, 1) := by decide +kernel
theorem d_Mo_refused_14 : decode prog_10_method_3_code 14 = .ok (.ireturn, 1) := by decide +kernel
abbrev m_Mo_isTwo : ac_I := (⟨"PairedGatesModel", "isTwo", "(I)Z"⟩, prog_10_method_4_code, 1, (some (.boolean)), [])
theorem d_Mo_isTwo_0 : decode prog_10_method_4_code 0 = .ok (.iload_n 0, 1) := by decide +kernel
theorem d_Mo_isTwo_1 : decode prog_10_method_4_code 1 = .ok (.ifCond .eq 8, 3) := by decide +kernel
theorem d_Mo_isTwo_4 : decode prog_10_method_4_code 4 = .ok (.iload_n 0, 1) := by decide +kernel
theorem d_Mo_isTwo_5 : decode prog_10_method_4_code 5 = .ok (.iconst 1, 1) := by decide +kernel
theorem d_Mo_isTwo_6 : decode prog_10_method_4_code 6 = .ok (.if_icmp .ne 7, 3) := by decide +kernel
theorem d_Mo_isTwo_9 : decode prog_10_method_4_code 9 = .ok (.iconst 1, 1) := by decide +kernel
theorem d_Mo_isTwo_10 : decode prog_10_method_4_code 10 = .ok (.goto 4, 3) := by decide +kernel
theorem d_Mo_isTwo_13 : decode prog_10_method_4_code 13 = .ok (.iconst 0, 1) := by decide +kernel
theorem d_Mo_isTwo_14 : decode prog_10_method_4_code 14 = .ok (.ireturn, 1) := by decide +kernel
abbrev m_Mo_giveBack : ac_I := (⟨"PairedGatesModel", "giveBack", "(I)V"⟩, prog_10_method_5_code, 2, none, [])
theorem d_Mo_giveBack_0 : decode prog_10_method_5_code 0 = .ok (.aload_n 0, 1) := by decide +kernel
theorem d_Mo_giveBack_1 : decode prog_10_method_5_code 1 = .ok (.getfield 82, 3) := by decide +kernel
theorem d_Mo_giveBack_4 : decode prog_10_method_5_code 4 = .ok (.aload_n 0, 1) := by decide +kernel
theorem d_Mo_giveBack_5 : decode prog_10_method_5_code 5 = .ok (.getfield 89, 3) := by decide +kernel
theorem d_Mo_giveBack_8 : decode prog_10_method_5_code 8 = .ok (.iload_n 1, 1) := by decide +kernel
theorem d_Mo_giveBack_9 : decode prog_10_method_5_code 9 = .ok (.iastore, 1) := by decide +kernel
theorem d_Mo_giveBack_10 : decode prog_10_method_5_code 10 = .ok (.aload_n 0, 1) := by decide +kernel
theorem d_Mo_giveBack_11 : decode prog_10_method_5_code 11 = .ok (.dup, 1) := by decide +kernel
theorem d_Mo_giveBack_12 : decode prog_10_method_5_code 12 = .ok (.getfield 89, 3) := by decide +kernel
theorem d_Mo_giveBack_15 : decode prog_10_method_5_code 15 = .ok (.iconst 1, 1) := by decide +kernel
theorem d_Mo_giveBack_16 : decode prog_10_method_5_code 16 = .ok (.iadd, 1) := by decide +kernel
theorem d_Mo_giveBack_17 : decode prog_10_method_5_code 17 = .ok (.putfield 89, 3) := by decide +kernel
theorem d_Mo_giveBack_20 : decode prog_10_method_5_code 20 = .ok (.return_, 1) := by decide +kernel
abbrev m_Mo_takeOldest : ac_I := (⟨"PairedGatesModel", "takeOldest", "(I)I"⟩, prog_10_method_6_code, 4, (some (.int)), [])
theorem d_Mo_takeOldest_0 : decode prog_10_method_6_code 0 = .ok (.aload_n 0, 1) := by decide +kernel
theorem d_Mo_takeOldest_1 : decode prog_10_method_6_code 1 = .ok (.getfield 70, 3) := by decide +kernel
theorem d_Mo_takeOldest_4 : decode prog_10_method_6_code 4 = .ok (.bipush 6, 2) := by decide +kernel
theorem d_Mo_takeOldest_6 : decode prog_10_method_6_code 6 = .ok (.iload_n 1, 1) := by decide +kernel
theorem d_Mo_takeOldest_7 : decode prog_10_method_6_code 7 = .ok (.imul, 1) := by decide +kernel
theorem d_Mo_takeOldest_8 : decode prog_10_method_6_code 8 = .ok (.iaload, 1) := by decide +kernel
theorem d_Mo_takeOldest_9 : decode prog_10_method_6_code 9 = .ok (.istore_n 2, 1) := by decide +kernel
theorem d_Mo_takeOldest_10 : decode prog_10_method_6_code 10 = .ok (.aload_n 0, 1) := by decide +kernel
theorem d_Mo_takeOldest_11 : decode prog_10_method_6_code 11 = .ok (.getfield 67, 3) := by decide +kernel
theorem d_Mo_takeOldest_14 : decode prog_10_method_6_code 14 = .ok (.iload_n 1, 1) := by decide +kernel
theorem d_Mo_takeOldest_15 : decode prog_10_method_6_code 15 = .ok (.dup2, 1) := by decide +kernel
theorem d_Mo_takeOldest_16 : decode prog_10_method_6_code 16 = .ok (.iaload, 1) := by decide +kernel
theorem d_Mo_takeOldest_17 : decode prog_10_method_6_code 17 = .ok (.iconst 1, 1) := by decide +kernel
theorem d_Mo_takeOldest_18 : decode prog_10_method_6_code 18 = .ok (.isub, 1) := by decide +kernel
theorem d_Mo_takeOldest_19 : decode prog_10_method_6_code 19 = .ok (.iastore, 1) := by decide +kernel
theorem d_Mo_takeOldest_20 : decode prog_10_method_6_code 20 = .ok (.iconst 0, 1) := by decide +kernel
theorem d_Mo_takeOldest_21 : decode prog_10_method_6_code 21 = .ok (.istore_n 3, 1) := by decide +kernel
theorem d_Mo_takeOldest_22 : decode prog_10_method_6_code 22 = .ok (.iload_n 3, 1) := by decide +kernel
theorem d_Mo_takeOldest_23 : decode prog_10_method_6_code 23 = .ok (.aload_n 0, 1) := by decide +kernel
theorem d_Mo_takeOldest_24 : decode prog_10_method_6_code 24 = .ok (.getfield 67, 3) := by decide +kernel
theorem d_Mo_takeOldest_27 : decode prog_10_method_6_code 27 = .ok (.iload_n 1, 1) := by decide +kernel
theorem d_Mo_takeOldest_28 : decode prog_10_method_6_code 28 = .ok (.iaload, 1) := by decide +kernel
theorem d_Mo_takeOldest_29 : decode prog_10_method_6_code 29 = .ok (.if_icmp .ge 57, 3) := by decide +kernel
theorem d_Mo_takeOldest_32 : decode prog_10_method_6_code 32 = .ok (.aload_n 0, 1) := by decide +kernel
theorem d_Mo_takeOldest_33 : decode prog_10_method_6_code 33 = .ok (.getfield 70, 3) := by decide +kernel
theorem d_Mo_takeOldest_36 : decode prog_10_method_6_code 36 = .ok (.bipush 6, 2) := by decide +kernel
theorem d_Mo_takeOldest_38 : decode prog_10_method_6_code 38 = .ok (.iload_n 1, 1) := by decide +kernel
theorem d_Mo_takeOldest_39 : decode prog_10_method_6_code 39 = .ok (.imul, 1) := by decide +kernel
theorem d_Mo_takeOldest_40 : decode prog_10_method_6_code 40 = .ok (.iload_n 3, 1) := by decide +kernel
theorem d_Mo_takeOldest_41 : decode prog_10_method_6_code 41 = .ok (.iadd, 1) := by decide +kernel
theorem d_Mo_takeOldest_42 : decode prog_10_method_6_code 42 = .ok (.aload_n 0, 1) := by decide +kernel
theorem d_Mo_takeOldest_43 : decode prog_10_method_6_code 43 = .ok (.getfield 70, 3) := by decide +kernel
theorem d_Mo_takeOldest_46 : decode prog_10_method_6_code 46 = .ok (.bipush 6, 2) := by decide +kernel
theorem d_Mo_takeOldest_48 : decode prog_10_method_6_code 48 = .ok (.iload_n 1, 1) := by decide +kernel
theorem d_Mo_takeOldest_49 : decode prog_10_method_6_code 49 = .ok (.imul, 1) := by decide +kernel
theorem d_Mo_takeOldest_50 : decode prog_10_method_6_code 50 = .ok (.iload_n 3, 1) := by decide +kernel
theorem d_Mo_takeOldest_51 : decode prog_10_method_6_code 51 = .ok (.iadd, 1) := by decide +kernel
theorem d_Mo_takeOldest_52 : decode prog_10_method_6_code 52 = .ok (.iconst 1, 1) := by decide +kernel
theorem d_Mo_takeOldest_53 : decode prog_10_method_6_code 53 = .ok (.iadd, 1) := by decide +kernel
theorem d_Mo_takeOldest_54 : decode prog_10_method_6_code 54 = .ok (.iaload, 1) := by decide +kernel
theorem d_Mo_takeOldest_55 : decode prog_10_method_6_code 55 = .ok (.iastore, 1) := by decide +kernel
theorem d_Mo_takeOldest_56 : decode prog_10_method_6_code 56 = .ok (.aload_n 0, 1) := by decide +kernel
theorem d_Mo_takeOldest_57 : decode prog_10_method_6_code 57 = .ok (.getfield 73, 3) := by decide +kernel
theorem d_Mo_takeOldest_60 : decode prog_10_method_6_code 60 = .ok (.bipush 6, 2) := by decide +kernel
theorem d_Mo_takeOldest_62 : decode prog_10_method_6_code 62 = .ok (.iload_n 1, 1) := by decide +kernel
theorem d_Mo_takeOldest_63 : decode prog_10_method_6_code 63 = .ok (.imul, 1) := by decide +kernel
theorem d_Mo_takeOldest_64 : decode prog_10_method_6_code 64 = .ok (.iload_n 3, 1) := by decide +kernel
theorem d_Mo_takeOldest_65 : decode prog_10_method_6_code 65 = .ok (.iadd, 1) := by decide +kernel
theorem d_Mo_takeOldest_66 : decode prog_10_method_6_code 66 = .ok (.aload_n 0, 1) := by decide +kernel
theorem d_Mo_takeOldest_67 : decode prog_10_method_6_code 67 = .ok (.getfield 73, 3) := by decide +kernel
theorem d_Mo_takeOldest_70 : decode prog_10_method_6_code 70 = .ok (.bipush 6, 2) := by decide +kernel
theorem d_Mo_takeOldest_72 : decode prog_10_method_6_code 72 = .ok (.iload_n 1, 1) := by decide +kernel
theorem d_Mo_takeOldest_73 : decode prog_10_method_6_code 73 = .ok (.imul, 1) := by decide +kernel
theorem d_Mo_takeOldest_74 : decode prog_10_method_6_code 74 = .ok (.iload_n 3, 1) := by decide +kernel
theorem d_Mo_takeOldest_75 : decode prog_10_method_6_code 75 = .ok (.iadd, 1) := by decide +kernel
theorem d_Mo_takeOldest_76 : decode prog_10_method_6_code 76 = .ok (.iconst 1, 1) := by decide +kernel
theorem d_Mo_takeOldest_77 : decode prog_10_method_6_code 77 = .ok (.iadd, 1) := by decide +kernel
theorem d_Mo_takeOldest_78 : decode prog_10_method_6_code 78 = .ok (.iaload, 1) := by decide +kernel
theorem d_Mo_takeOldest_79 : decode prog_10_method_6_code 79 = .ok (.iastore, 1) := by decide +kernel
theorem d_Mo_takeOldest_80 : decode prog_10_method_6_code 80 = .ok (.iinc 3 1, 3) := by decide +kernel
theorem d_Mo_takeOldest_83 : decode prog_10_method_6_code 83 = .ok (.goto (-61), 3) := by decide +kernel
theorem d_Mo_takeOldest_86 : decode prog_10_method_6_code 86 = .ok (.iload_n 2, 1) := by decide +kernel
theorem d_Mo_takeOldest_87 : decode prog_10_method_6_code 87 = .ok (.ireturn, 1) := by decide +kernel
abbrev m_Mo_hasSide : ac_I := (⟨"PairedGatesModel", "hasSide", "(II)Z"⟩, prog_10_method_7_code, 3, (some (.boolean)), [])
theorem d_Mo_hasSide_0 : decode prog_10_method_7_code 0 = .ok (.aload_n 0, 1) := by decide +kernel
theorem d_Mo_hasSide_1 : decode prog_10_method_7_code 1 = .ok (.getfield 22, 3) := by decide +kernel
theorem d_Mo_hasSide_4 : decode prog_10_method_7_code 4 = .ok (.iload_n 1, 1) := by decide +kernel
theorem d_Mo_hasSide_5 : decode prog_10_method_7_code 5 = .ok (.iaload, 1) := by decide +kernel
theorem d_Mo_hasSide_6 : decode prog_10_method_7_code 6 = .ok (.ifCond .eq 15, 3) := by decide +kernel
theorem d_Mo_hasSide_9 : decode prog_10_method_7_code 9 = .ok (.aload_n 0, 1) := by decide +kernel
theorem d_Mo_hasSide_10 : decode prog_10_method_7_code 10 = .ok (.getfield 22, 3) := by decide +kernel
theorem d_Mo_hasSide_13 : decode prog_10_method_7_code 13 = .ok (.iload_n 1, 1) := by decide +kernel
theorem d_Mo_hasSide_14 : decode prog_10_method_7_code 14 = .ok (.iaload, 1) := by decide +kernel
theorem d_Mo_hasSide_15 : decode prog_10_method_7_code 15 = .ok (.iload_n 2, 1) := by decide +kernel
theorem d_Mo_hasSide_16 : decode prog_10_method_7_code 16 = .ok (.iconst 1, 1) := by decide +kernel
theorem d_Mo_hasSide_17 : decode prog_10_method_7_code 17 = .ok (.iadd, 1) := by decide +kernel
theorem d_Mo_hasSide_18 : decode prog_10_method_7_code 18 = .ok (.if_icmp .ne 7, 3) := by decide +kernel
theorem d_Mo_hasSide_21 : decode prog_10_method_7_code 21 = .ok (.iconst 1, 1) := by decide +kernel
theorem d_Mo_hasSide_22 : decode prog_10_method_7_code 22 = .ok (.goto 4, 3) := by decide +kernel
theorem d_Mo_hasSide_25 : decode prog_10_method_7_code 25 = .ok (.iconst 0, 1) := by decide +kernel
theorem d_Mo_hasSide_26 : decode prog_10_method_7_code 26 = .ok (.ireturn, 1) := by decide +kernel
abbrev m_Mo_look : ac_I := (⟨"PairedGatesModel", "look", "(I)V"⟩, prog_10_method_8_code, 6, none, [])
theorem d_Mo_look_0 : decode prog_10_method_8_code 0 = .ok (.aload_n 0, 1) := by decide +kernel
theorem d_Mo_look_1 : decode prog_10_method_8_code 1 = .ok (.getfield 7, 3) := by decide +kernel
theorem d_Mo_look_4 : decode prog_10_method_8_code 4 = .ok (.iload_n 1, 1) := by decide +kernel
theorem d_Mo_look_5 : decode prog_10_method_8_code 5 = .ok (.iaload, 1) := by decide +kernel
theorem d_Mo_look_6 : decode prog_10_method_8_code 6 = .ok (.istore_n 2, 1) := by decide +kernel
theorem d_Mo_look_7 : decode prog_10_method_8_code 7 = .ok (.aload_n 0, 1) := by decide +kernel
theorem d_Mo_look_8 : decode prog_10_method_8_code 8 = .ok (.getfield 13, 3) := by decide +kernel
theorem d_Mo_look_11 : decode prog_10_method_8_code 11 = .ok (.iload_n 1, 1) := by decide +kernel
theorem d_Mo_look_12 : decode prog_10_method_8_code 12 = .ok (.iaload, 1) := by decide +kernel
theorem d_Mo_look_13 : decode prog_10_method_8_code 13 = .ok (.istore_n 3, 1) := by decide +kernel
theorem d_Mo_look_14 : decode prog_10_method_8_code 14 = .ok (.aload_n 0, 1) := by decide +kernel
theorem d_Mo_look_15 : decode prog_10_method_8_code 15 = .ok (.getfield 16, 3) := by decide +kernel
theorem d_Mo_look_18 : decode prog_10_method_8_code 18 = .ok (.iload_n 1, 1) := by decide +kernel
theorem d_Mo_look_19 : decode prog_10_method_8_code 19 = .ok (.iaload, 1) := by decide +kernel
theorem d_Mo_look_20 : decode prog_10_method_8_code 20 = .ok (.istore 4, 2) := by decide +kernel
theorem d_Mo_look_22 : decode prog_10_method_8_code 22 = .ok (.aload_n 0, 1) := by decide +kernel
theorem d_Mo_look_23 : decode prog_10_method_8_code 23 = .ok (.getfield 19, 3) := by decide +kernel
theorem d_Mo_look_26 : decode prog_10_method_8_code 26 = .ok (.iload_n 1, 1) := by decide +kernel
theorem d_Mo_look_27 : decode prog_10_method_8_code 27 = .ok (.iload_n 2, 1) := by decide +kernel
theorem d_Mo_look_28 : decode prog_10_method_8_code 28 = .ok (.iload_n 3, 1) := by decide +kernel
theorem d_Mo_look_29 : decode prog_10_method_8_code 29 = .ok (.iand, 1) := by decide +kernel
theorem d_Mo_look_30 : decode prog_10_method_8_code 30 = .ok (.iload_n 2, 1) := by decide +kernel
theorem d_Mo_look_31 : decode prog_10_method_8_code 31 = .ok (.iload 4, 2) := by decide +kernel
theorem d_Mo_look_33 : decode prog_10_method_8_code 33 = .ok (.iand, 1) := by decide +kernel
theorem d_Mo_look_34 : decode prog_10_method_8_code 34 = .ok (.ior, 1) := by decide +kernel
theorem d_Mo_look_35 : decode prog_10_method_8_code 35 = .ok (.iload_n 3, 1) := by decide +kernel
theorem d_Mo_look_36 : decode prog_10_method_8_code 36 = .ok (.iload 4, 2) := by decide +kernel
theorem d_Mo_look_38 : decode prog_10_method_8_code 38 = .ok (.iand, 1) := by decide +kernel
theorem d_Mo_look_39 : decode prog_10_method_8_code 39 = .ok (.ior, 1) := by decide +kernel
theorem d_Mo_look_40 : decode prog_10_method_8_code 40 = .ok (.iastore, 1) := by decide +kernel
theorem d_Mo_look_41 : decode prog_10_method_8_code 41 = .ok (.aload_n 0, 1) := by decide +kernel
theorem d_Mo_look_42 : decode prog_10_method_8_code 42 = .ok (.getfield 16, 3) := by decide +kernel
theorem d_Mo_look_45 : decode prog_10_method_8_code 45 = .ok (.iload_n 1, 1) := by decide +kernel
theorem d_Mo_look_46 : decode prog_10_method_8_code 46 = .ok (.iload_n 3, 1) := by decide +kernel
theorem d_Mo_look_47 : decode prog_10_method_8_code 47 = .ok (.iastore, 1) := by decide +kernel
theorem d_Mo_look_48 : decode prog_10_method_8_code 48 = .ok (.aload_n 0, 1) := by decide +kernel
theorem d_Mo_look_49 : decode prog_10_method_8_code 49 = .ok (.getfield 13, 3) := by decide +kernel
theorem d_Mo_look_52 : decode prog_10_method_8_code 52 = .ok (.iload_n 1, 1) := by decide +kernel
theorem d_Mo_look_53 : decode prog_10_method_8_code 53 = .ok (.iload_n 2, 1) := by decide +kernel
theorem d_Mo_look_54 : decode prog_10_method_8_code 54 = .ok (.iastore, 1) := by decide +kernel
theorem d_Mo_look_55 : decode prog_10_method_8_code 55 = .ok (.aload_n 0, 1) := by decide +kernel
theorem d_Mo_look_56 : decode prog_10_method_8_code 56 = .ok (.iconst 0, 1) := by decide +kernel
theorem d_Mo_look_57 : decode prog_10_method_8_code 57 = .ok (.putfield 92, 3) := by decide +kernel
theorem d_Mo_look_60 : decode prog_10_method_8_code 60 = .ok (.iconst 0, 1) := by decide +kernel
theorem d_Mo_look_61 : decode prog_10_method_8_code 61 = .ok (.istore 5, 2) := by decide +kernel
theorem d_Mo_look_63 : decode prog_10_method_8_code 63 = .ok (.iload 5, 2) := by decide +kernel
theorem d_Mo_look_65 : decode prog_10_method_8_code 65 = .ok (.bipush 10, 2) := by decide +kernel
theorem d_Mo_look_67 : decode prog_10_method_8_code 67 = .ok (.if_icmp .ge 97, 3) := by decide +kernel
theorem d_Mo_look_70 : decode prog_10_method_8_code 70 = .ok (.aload_n 0, 1) := by decide +kernel
theorem d_Mo_look_71 : decode prog_10_method_8_code 71 = .ok (.getfield 19, 3) := by decide +kernel
theorem d_Mo_look_74 : decode prog_10_method_8_code 74 = .ok (.iload_n 1, 1) := by decide +kernel
theorem d_Mo_look_75 : decode prog_10_method_8_code 75 = .ok (.iaload, 1) := by decide +kernel
theorem d_Mo_look_76 : decode prog_10_method_8_code 76 = .ok (.iload 5, 2) := by decide +kernel
theorem d_Mo_look_78 : decode prog_10_method_8_code 78 = .ok (.ishr, 1) := by decide +kernel
theorem d_Mo_look_79 : decode prog_10_method_8_code 79 = .ok (.iconst 1, 1) := by decide +kernel
theorem d_Mo_look_80 : decode prog_10_method_8_code 80 = .ok (.iand, 1) := by decide +kernel
theorem d_Mo_look_81 : decode prog_10_method_8_code 81 = .ok (.iconst 1, 1) := by decide +kernel
theorem d_Mo_look_82 : decode prog_10_method_8_code 82 = .ok (.if_icmp .ne 76, 3) := by decide +kernel
theorem d_Mo_look_85 : decode prog_10_method_8_code 85 = .ok (.aload_n 0, 1) := by decide +kernel
theorem d_Mo_look_86 : decode prog_10_method_8_code 86 = .ok (.getfield 92, 3) := by decide +kernel
theorem d_Mo_look_89 : decode prog_10_method_8_code 89 = .ok (.ifCond .le 37, 3) := by decide +kernel
theorem d_Mo_look_92 : decode prog_10_method_8_code 92 = .ok (.iload 5, 2) := by decide +kernel
theorem d_Mo_look_94 : decode prog_10_method_8_code 94 = .ok (.aload_n 0, 1) := by decide +kernel
theorem d_Mo_look_95 : decode prog_10_method_8_code 95 = .ok (.getfield 64, 3) := by decide +kernel
theorem d_Mo_look_98 : decode prog_10_method_8_code 98 = .ok (.aload_n 0, 1) := by decide +kernel
theorem d_Mo_look_99 : decode prog_10_method_8_code 99 = .ok (.getfield 92, 3) := by decide +kernel
theorem d_Mo_look_102 : decode prog_10_method_8_code 102 = .ok (.iconst 1, 1) := by decide +kernel
theorem d_Mo_look_103 : decode prog_10_method_8_code 103 = .ok (.isub, 1) := by decide +kernel
theorem d_Mo_look_104 : decode prog_10_method_8_code 104 = .ok (.iaload, 1) := by decide +kernel
theorem d_Mo_look_105 : decode prog_10_method_8_code 105 = .ok (.isub, 1) := by decide +kernel
theorem d_Mo_look_106 : decode prog_10_method_8_code 106 = .ok (.iconst 3, 1) := by decide +kernel
theorem d_Mo_look_107 : decode prog_10_method_8_code 107 = .ok (.if_icmp .ge 19, 3) := by decide +kernel
theorem d_Mo_look_110 : decode prog_10_method_8_code 110 = .ok (.aload_n 0, 1) := by decide +kernel
theorem d_Mo_look_111 : decode prog_10_method_8_code 111 = .ok (.getfield 64, 3) := by decide +kernel
theorem d_Mo_look_114 : decode prog_10_method_8_code 114 = .ok (.aload_n 0, 1) := by decide +kernel
theorem d_Mo_look_115 : decode prog_10_method_8_code 115 = .ok (.getfield 92, 3) := by decide +kernel
theorem d_Mo_look_118 : decode prog_10_method_8_code 118 = .ok (.iconst 1, 1) := by decide +kernel
theorem d_Mo_look_119 : decode prog_10_method_8_code 119 = .ok (.isub, 1) := by decide +kernel
theorem d_Mo_look_120 : decode prog_10_method_8_code 120 = .ok (.iload 5, 2) := by decide +kernel
theorem d_Mo_look_122 : decode prog_10_method_8_code 122 = .ok (.iastore, 1) := by decide +kernel
theorem d_Mo_look_123 : decode prog_10_method_8_code 123 = .ok (.goto 35, 3) := by decide +kernel
theorem d_Mo_look_126 : decode prog_10_method_8_code 126 = .ok (.aload_n 0, 1) := by decide +kernel
theorem d_Mo_look_127 : decode prog_10_method_8_code 127 = .ok (.getfield 61, 3) := by decide +kernel
theorem d_Mo_look_130 : decode prog_10_method_8_code 130 = .ok (.aload_n 0, 1) := by decide +kernel
theorem d_Mo_look_131 : decode prog_10_method_8_code 131 = .ok (.getfield 92, 3) := by decide +kernel
theorem d_Mo_look_134 : decode prog_10_method_8_code 134 = .ok (.iload 5, 2) := by decide +kernel
theorem d_Mo_look_136 : decode prog_10_method_8_code 136 = .ok (.iastore, 1) := by decide +kernel
theorem d_Mo_look_137 : decode prog_10_method_8_code 137 = .ok (.aload_n 0, 1) := by decide +kernel
theorem d_Mo_look_138 : decode prog_10_method_8_code 138 = .ok (.getfield 64, 3) := by decide +kernel
theorem d_Mo_look_141 : decode prog_10_method_8_code 141 = .ok (.aload_n 0, 1) := by decide +kernel
theorem d_Mo_look_142 : decode prog_10_method_8_code 142 = .ok (.getfield 92, 3) := by decide +kernel
theorem d_Mo_look_145 : decode prog_10_method_8_code 145 = .ok (.iload 5, 2) := by decide +kernel
theorem d_Mo_look_147 : decode prog_10_method_8_code 147 = .ok (.iastore, 1) := by decide +kernel
theorem d_Mo_look_148 : decode prog_10_method_8_code 148 = .ok (.aload_n 0, 1) := by decide +kernel
theorem d_Mo_look_149 : decode prog_10_method_8_code 149 = .ok (.dup, 1) := by decide +kernel
theorem d_Mo_look_150 : decode prog_10_method_8_code 150 = .ok (.getfield 92, 3) := by decide +kernel
theorem d_Mo_look_153 : decode prog_10_method_8_code 153 = .ok (.iconst 1, 1) := by decide +kernel
theorem d_Mo_look_154 : decode prog_10_method_8_code 154 = .ok (.iadd, 1) := by decide +kernel
theorem d_Mo_look_155 : decode prog_10_method_8_code 155 = .ok (.putfield 92, 3) := by decide +kernel
theorem d_Mo_look_158 : decode prog_10_method_8_code 158 = .ok (.iinc 5 1, 3) := by decide +kernel
theorem d_Mo_look_161 : decode prog_10_method_8_code 161 = .ok (.goto (-98), 3) := by decide +kernel
theorem d_Mo_look_164 : decode prog_10_method_8_code 164 = .ok (.return_, 1) := by decide +kernel
abbrev m_Mo_meets : ac_I := (⟨"PairedGatesModel", "meets", "(III)Z"⟩, prog_10_method_9_code, 4, (some (.boolean)), [])
theorem d_Mo_meets_0 : decode prog_10_method_9_code 0 = .ok (.iload_n 1, 1) := by decide +kernel
theorem d_Mo_meets_1 : decode prog_10_method_9_code 1 = .ok (.iconst 1, 1) := by decide +kernel
theorem d_Mo_meets_2 : decode prog_10_method_9_code 2 = .ok (.isub, 1) := by decide +kernel
theorem d_Mo_meets_3 : decode prog_10_method_9_code 3 = .ok (.aload_n 0, 1) := by decide +kernel
theorem d_Mo_meets_4 : decode prog_10_method_9_code 4 = .ok (.getfield 64, 3) := by decide +kernel
theorem d_Mo_meets_7 : decode prog_10_method_9_code 7 = .ok (.iload_n 3, 1) := by decide +kernel
theorem d_Mo_meets_8 : decode prog_10_method_9_code 8 = .ok (.iaload, 1) := by decide +kernel
theorem d_Mo_meets_9 : decode prog_10_method_9_code 9 = .ok (.if_icmp .gt 19, 3) := by decide +kernel
theorem d_Mo_meets_12 : decode prog_10_method_9_code 12 = .ok (.iload_n 2, 1) := by decide +kernel
theorem d_Mo_meets_13 : decode prog_10_method_9_code 13 = .ok (.iconst 1, 1) := by decide +kernel
theorem d_Mo_meets_14 : decode prog_10_method_9_code 14 = .ok (.iadd, 1) := by decide +kernel
theorem d_Mo_meets_15 : decode prog_10_method_9_code 15 = .ok (.aload_n 0, 1) := by decide +kernel
theorem d_Mo_meets_16 : decode prog_10_method_9_code 16 = .ok (.getfield 61, 3) := by decide +kernel
theorem d_Mo_meets_19 : decode prog_10_method_9_code 19 = .ok (.iload_n 3, 1) := by decide +kernel
theorem d_Mo_meets_20 : decode prog_10_method_9_code 20 = .ok (.iaload, 1) := by decide +kernel
theorem d_Mo_meets_21 : decode prog_10_method_9_code 21 = .ok (.if_icmp .lt 7, 3) := by decide +kernel
theorem d_Mo_meets_24 : decode prog_10_method_9_code 24 = .ok (.iconst 1, 1) := by decide +kernel
theorem d_Mo_meets_25 : decode prog_10_method_9_code 25 = .ok (.goto 4, 3) := by decide +kernel
theorem d_Mo_meets_28 : decode prog_10_method_9_code 28 = .ok (.iconst 0, 1) := by decide +kernel
theorem d_Mo_meets_29 : decode prog_10_method_9_code 29 = .ok (.ireturn, 1) := by decide +kernel
abbrev m_Mo_copy : ac_I := (⟨"PairedGatesModel", "copy", "(II)V"⟩, prog_10_method_10_code, 3, none, [])
theorem d_Mo_copy_0 : decode prog_10_method_10_code 0 = .ok (.aload_n 0, 1) := by decide +kernel
theorem d_Mo_copy_1 : decode prog_10_method_10_code 1 = .ok (.getfield 37, 3) := by decide +kernel
theorem d_Mo_copy_4 : decode prog_10_method_10_code 4 = .ok (.iload_n 1, 1) := by decide +kernel
theorem d_Mo_copy_5 : decode prog_10_method_10_code 5 = .ok (.aload_n 0, 1) := by decide +kernel
theorem d_Mo_copy_6 : decode prog_10_method_10_code 6 = .ok (.getfield 37, 3) := by decide +kernel
theorem d_Mo_copy_9 : decode prog_10_method_10_code 9 = .ok (.iload_n 2, 1) := by decide +kernel
theorem d_Mo_copy_10 : decode prog_10_method_10_code 10 = .ok (.iaload, 1) := by decide +kernel
theorem d_Mo_copy_11 : decode prog_10_method_10_code 11 = .ok (.iastore, 1) := by decide +kernel
theorem d_Mo_copy_12 : decode prog_10_method_10_code 12 = .ok (.aload_n 0, 1) := by decide +kernel
theorem d_Mo_copy_13 : decode prog_10_method_10_code 13 = .ok (.getfield 40, 3) := by decide +kernel
theorem d_Mo_copy_16 : decode prog_10_method_10_code 16 = .ok (.iload_n 1, 1) := by decide +kernel
theorem d_Mo_copy_17 : decode prog_10_method_10_code 17 = .ok (.aload_n 0, 1) := by decide +kernel
theorem d_Mo_copy_18 : decode prog_10_method_10_code 18 = .ok (.getfield 40, 3) := by decide +kernel
theorem d_Mo_copy_21 : decode prog_10_method_10_code 21 = .ok (.iload_n 2, 1) := by decide +kernel
theorem d_Mo_copy_22 : decode prog_10_method_10_code 22 = .ok (.iaload, 1) := by decide +kernel
theorem d_Mo_copy_23 : decode prog_10_method_10_code 23 = .ok (.iastore, 1) := by decide +kernel
theorem d_Mo_copy_24 : decode prog_10_method_10_code 24 = .ok (.aload_n 0, 1) := by decide +kernel
theorem d_Mo_copy_25 : decode prog_10_method_10_code 25 = .ok (.getfield 43, 3) := by decide +kernel
theorem d_Mo_copy_28 : decode prog_10_method_10_code 28 = .ok (.iload_n 1, 1) := by decide +kernel
theorem d_Mo_copy_29 : decode prog_10_method_10_code 29 = .ok (.aload_n 0, 1) := by decide +kernel
theorem d_Mo_copy_30 : decode prog_10_method_10_code 30 = .ok (.getfield 43, 3) := by decide +kernel
theorem d_Mo_copy_33 : decode prog_10_method_10_code 33 = .ok (.iload_n 2, 1) := by decide +kernel
theorem d_Mo_copy_34 : decode prog_10_method_10_code 34 = .ok (.iaload, 1) := by decide +kernel
theorem d_Mo_copy_35 : decode prog_10_method_10_code 35 = .ok (.iastore, 1) := by decide +kernel
theorem d_Mo_copy_36 : decode prog_10_method_10_code 36 = .ok (.aload_n 0, 1) := by decide +kernel
theorem d_Mo_copy_37 : decode prog_10_method_10_code 37 = .ok (.getfield 46, 3) := by decide +kernel
theorem d_Mo_copy_40 : decode prog_10_method_10_code 40 = .ok (.iload_n 1, 1) := by decide +kernel
theorem d_Mo_copy_41 : decode prog_10_method_10_code 41 = .ok (.aload_n 0, 1) := by decide +kernel
theorem d_Mo_copy_42 : decode prog_10_method_10_code 42 = .ok (.getfield 46, 3) := by decide +kernel
theorem d_Mo_copy_45 : decode prog_10_method_10_code 45 = .ok (.iload_n 2, 1) := by decide +kernel
theorem d_Mo_copy_46 : decode prog_10_method_10_code 46 = .ok (.iaload, 1) := by decide +kernel
theorem d_Mo_copy_47 : decode prog_10_method_10_code 47 = .ok (.iastore, 1) := by decide +kernel
theorem d_Mo_copy_48 : decode prog_10_method_10_code 48 = .ok (.aload_n 0, 1) := by decide +kernel
theorem d_Mo_copy_49 : decode prog_10_method_10_code 49 = .ok (.getfield 49, 3) := by decide +kernel
theorem d_Mo_copy_52 : decode prog_10_method_10_code 52 = .ok (.iload_n 1, 1) := by decide +kernel
theorem d_Mo_copy_53 : decode prog_10_method_10_code 53 = .ok (.aload_n 0, 1) := by decide +kernel
theorem d_Mo_copy_54 : decode prog_10_method_10_code 54 = .ok (.getfield 49, 3) := by decide +kernel
theorem d_Mo_copy_57 : decode prog_10_method_10_code 57 = .ok (.iload_n 2, 1) := by decide +kernel
theorem d_Mo_copy_58 : decode prog_10_method_10_code 58 = .ok (.iaload, 1) := by decide +kernel
theorem d_Mo_copy_59 : decode prog_10_method_10_code 59 = .ok (.iastore, 1) := by decide +kernel
theorem d_Mo_copy_60 : decode prog_10_method_10_code 60 = .ok (.aload_n 0, 1) := by decide +kernel
theorem d_Mo_copy_61 : decode prog_10_method_10_code 61 = .ok (.getfield 52, 3) := by decide +kernel
theorem d_Mo_copy_64 : decode prog_10_method_10_code 64 = .ok (.iload_n 1, 1) := by decide +kernel
theorem d_Mo_copy_65 : decode prog_10_method_10_code 65 = .ok (.aload_n 0, 1) := by decide +kernel
theorem d_Mo_copy_66 : decode prog_10_method_10_code 66 = .ok (.getfield 52, 3) := by decide +kernel
theorem d_Mo_copy_69 : decode prog_10_method_10_code 69 = .ok (.iload_n 2, 1) := by decide +kernel
theorem d_Mo_copy_70 : decode prog_10_method_10_code 70 = .ok (.iaload, 1) := by decide +kernel
theorem d_Mo_copy_71 : decode prog_10_method_10_code 71 = .ok (.iastore, 1) := by decide +kernel
theorem d_Mo_copy_72 : decode prog_10_method_10_code 72 = .ok (.aload_n 0, 1) := by decide +kernel
theorem d_Mo_copy_73 : decode prog_10_method_10_code 73 = .ok (.getfield 55, 3) := by decide +kernel
theorem d_Mo_copy_76 : decode prog_10_method_10_code 76 = .ok (.iload_n 1, 1) := by decide +kernel
theorem d_Mo_copy_77 : decode prog_10_method_10_code 77 = .ok (.aload_n 0, 1) := by decide +kernel
theorem d_Mo_copy_78 : decode prog_10_method_10_code 78 = .ok (.getfield 55, 3) := by decide +kernel
theorem d_Mo_copy_81 : decode prog_10_method_10_code 81 = .ok (.iload_n 2, 1) := by decide +kernel
theorem d_Mo_copy_82 : decode prog_10_method_10_code 82 = .ok (.iaload, 1) := by decide +kernel
theorem d_Mo_copy_83 : decode prog_10_method_10_code 83 = .ok (.iastore, 1) := by decide +kernel
theorem d_Mo_copy_84 : decode prog_10_method_10_code 84 = .ok (.aload_n 0, 1) := by decide +kernel
theorem d_Mo_copy_85 : decode prog_10_method_10_code 85 = .ok (.getfield 58, 3) := by decide +kernel
theorem d_Mo_copy_88 : decode prog_10_method_10_code 88 = .ok (.iload_n 1, 1) := by decide +kernel
theorem d_Mo_copy_89 : decode prog_10_method_10_code 89 = .ok (.aload_n 0, 1) := by decide +kernel
theorem d_Mo_copy_90 : decode prog_10_method_10_code 90 = .ok (.getfield 58, 3) := by decide +kernel
theorem d_Mo_copy_93 : decode prog_10_method_10_code 93 = .ok (.iload_n 2, 1) := by decide +kernel
theorem d_Mo_copy_94 : decode prog_10_method_10_code 94 = .ok (.iaload, 1) := by decide +kernel
theorem d_Mo_copy_95 : decode prog_10_method_10_code 95 = .ok (.iastore, 1) := by decide +kernel
theorem d_Mo_copy_96 : decode prog_10_method_10_code 96 = .ok (.return_, 1) := by decide +kernel
abbrev m_Mo_leave : ac_I := (⟨"PairedGatesModel", "leave", "(II)V"⟩, prog_10_method_11_code, 6, none, [])
theorem d_Mo_leave_0 : decode prog_10_method_11_code 0 = .ok (.aload_n 0, 1) := by decide +kernel
theorem d_Mo_leave_1 : decode prog_10_method_11_code 1 = .ok (.getfield 43, 3) := by decide +kernel
theorem d_Mo_leave_4 : decode prog_10_method_11_code 4 = .ok (.iload_n 2, 1) := by decide +kernel
theorem d_Mo_leave_5 : decode prog_10_method_11_code 5 = .ok (.iaload, 1) := by decide +kernel
theorem d_Mo_leave_6 : decode prog_10_method_11_code 6 = .ok (.ifCond .ne 22, 3) := by decide +kernel
theorem d_Mo_leave_9 : decode prog_10_method_11_code 9 = .ok (.aload_n 0, 1) := by decide +kernel
theorem d_Mo_leave_10 : decode prog_10_method_11_code 10 = .ok (.getfield 40, 3) := by decide +kernel
theorem d_Mo_leave_13 : decode prog_10_method_11_code 13 = .ok (.iload_n 2, 1) := by decide +kernel
theorem d_Mo_leave_14 : decode prog_10_method_11_code 14 = .ok (.iaload, 1) := by decide +kernel
theorem d_Mo_leave_15 : decode prog_10_method_11_code 15 = .ok (.bipush 6, 2) := by decide +kernel
theorem d_Mo_leave_17 : decode prog_10_method_11_code 17 = .ok (.if_icmp .le 7, 3) := by decide +kernel
theorem d_Mo_leave_20 : decode prog_10_method_11_code 20 = .ok (.iconst 1, 1) := by decide +kernel
theorem d_Mo_leave_21 : decode prog_10_method_11_code 21 = .ok (.goto 22, 3) := by decide +kernel
theorem d_Mo_leave_24 : decode prog_10_method_11_code 24 = .ok (.iconst 0, 1) := by decide +kernel
theorem d_Mo_leave_25 : decode prog_10_method_11_code 25 = .ok (.goto 18, 3) := by decide +kernel
theorem d_Mo_leave_28 : decode prog_10_method_11_code 28 = .ok (.aload_n 0, 1) := by decide +kernel
theorem d_Mo_leave_29 : decode prog_10_method_11_code 29 = .ok (.getfield 37, 3) := by decide +kernel
theorem d_Mo_leave_32 : decode prog_10_method_11_code 32 = .ok (.iload_n 2, 1) := by decide +kernel
theorem d_Mo_leave_33 : decode prog_10_method_11_code 33 = .ok (.iaload, 1) := by decide +kernel
theorem d_Mo_leave_34 : decode prog_10_method_11_code 34 = .ok (.iconst 3, 1) := by decide +kernel
theorem d_Mo_leave_35 : decode prog_10_method_11_code 35 = .ok (.if_icmp .ge 7, 3) := by decide +kernel
theorem d_Mo_leave_38 : decode prog_10_method_11_code 38 = .ok (.iconst 1, 1) := by decide +kernel
theorem d_Mo_leave_39 : decode prog_10_method_11_code 39 = .ok (.goto 4, 3) := by decide +kernel
theorem d_Mo_leave_42 : decode prog_10_method_11_code 42 = .ok (.iconst 0, 1) := by decide +kernel
theorem d_Mo_leave_43 : decode prog_10_method_11_code 43 = .ok (.istore_n 3, 1) := by decide +kernel
theorem d_Mo_leave_44 : decode prog_10_method_11_code 44 = .ok (.iload_n 3, 1) := by decide +kernel
theorem d_Mo_leave_45 : decode prog_10_method_11_code 45 = .ok (.ifCond .ne 40, 3) := by decide +kernel
theorem d_Mo_leave_48 : decode prog_10_method_11_code 48 = .ok (.aload_n 0, 1) := by decide +kernel
theorem d_Mo_leave_49 : decode prog_10_method_11_code 49 = .ok (.getfield 43, 3) := by decide +kernel
theorem d_Mo_leave_52 : decode prog_10_method_11_code 52 = .ok (.iload_n 2, 1) := by decide +kernel
theorem d_Mo_leave_53 : decode prog_10_method_11_code 53 = .ok (.iaload, 1) := by decide +kernel
theorem d_Mo_leave_54 : decode prog_10_method_11_code 54 = .ok (.ifCond .ne 16, 3) := by decide +kernel
theorem d_Mo_leave_57 : decode prog_10_method_11_code 57 = .ok (.aload_n 0, 1) := by decide +kernel
theorem d_Mo_leave_58 : decode prog_10_method_11_code 58 = .ok (.getfield 37, 3) := by decide +kernel
theorem d_Mo_leave_61 : decode prog_10_method_11_code 61 = .ok (.iload_n 2, 1) := by decide +kernel
theorem d_Mo_leave_62 : decode prog_10_method_11_code 62 = .ok (.iaload, 1) := by decide +kernel
theorem d_Mo_leave_63 : decode prog_10_method_11_code 63 = .ok (.iconst 3, 1) := by decide +kernel
theorem d_Mo_leave_64 : decode prog_10_method_11_code 64 = .ok (.if_icmp .ge 21, 3) := by decide +kernel
theorem d_Mo_leave_67 : decode prog_10_method_11_code 67 = .ok (.goto 14, 3) := by decide +kernel
theorem d_Mo_leave_70 : decode prog_10_method_11_code 70 = .ok (.aload_n 0, 1) := by decide +kernel
theorem d_Mo_leave_71 : decode prog_10_method_11_code 71 = .ok (.getfield 40, 3) := by decide +kernel
theorem d_Mo_leave_74 : decode prog_10_method_11_code 74 = .ok (.iload_n 2, 1) := by decide +kernel
theorem d_Mo_leave_75 : decode prog_10_method_11_code 75 = .ok (.iaload, 1) := by decide +kernel
theorem d_Mo_leave_76 : decode prog_10_method_11_code 76 = .ok (.bipush 6, 2) := by decide +kernel
theorem d_Mo_leave_78 : decode prog_10_method_11_code 78 = .ok (.if_icmp .le 7, 3) := by decide +kernel
theorem d_Mo_leave_81 : decode prog_10_method_11_code 81 = .ok (.iconst 1, 1) := by decide +kernel
theorem d_Mo_leave_82 : decode prog_10_method_11_code 82 = .ok (.goto 4, 3) := by decide +kernel
theorem d_Mo_leave_85 : decode prog_10_method_11_code 85 = .ok (.iconst 0, 1) := by decide +kernel
theorem d_Mo_leave_86 : decode prog_10_method_11_code 86 = .ok (.istore 4, 2) := by decide +kernel
theorem d_Mo_leave_88 : decode prog_10_method_11_code 88 = .ok (.iload_n 3, 1) := by decide +kernel
theorem d_Mo_leave_89 : decode prog_10_method_11_code 89 = .ok (.ifCond .eq 20, 3) := by decide +kernel
theorem d_Mo_leave_92 : decode prog_10_method_11_code 92 = .ok (.aload_n 0, 1) := by decide +kernel
theorem d_Mo_leave_93 : decode prog_10_method_11_code 93 = .ok (.getfield 46, 3) := by decide +kernel
theorem d_Mo_leave_96 : decode prog_10_method_11_code 96 = .ok (.iload_n 2, 1) := by decide +kernel
theorem d_Mo_leave_97 : decode prog_10_method_11_code 97 = .ok (.iaload, 1) := by decide +kernel
theorem d_Mo_leave_98 : decode prog_10_method_11_code 98 = .ok (.ifCond .lt 7, 3) := by decide +kernel
theorem d_Mo_leave_101 : decode prog_10_method_11_code 101 = .ok (.iconst 0, 1) := by decide +kernel
theorem d_Mo_leave_102 : decode prog_10_method_11_code 102 = .ok (.goto 17, 3) := by decide +kernel
theorem d_Mo_leave_105 : decode prog_10_method_11_code 105 = .ok (.iconst 1, 1) := by decide +kernel
theorem d_Mo_leave_106 : decode prog_10_method_11_code 106 = .ok (.goto 13, 3) := by decide +kernel
theorem d_Mo_leave_109 : decode prog_10_method_11_code 109 = .ok (.iload 4, 2) := by decide +kernel
theorem d_Mo_leave_111 : decode prog_10_method_11_code 111 = .ok (.ifCond .eq 7, 3) := by decide +kernel
theorem d_Mo_leave_114 : decode prog_10_method_11_code 114 = .ok (.iconst 2, 1) := by decide +kernel
theorem d_Mo_leave_115 : decode prog_10_method_11_code 115 = .ok (.goto 4, 3) := by decide +kernel
theorem d_Mo_leave_118 : decode prog_10_method_11_code 118 = .ok (.iconst 3, 1) := by decide +kernel
theorem d_Mo_leave_119 : decode prog_10_method_11_code 119 = .ok (.istore 5, 2) := by decide +kernel
theorem d_Mo_leave_121 : decode prog_10_method_11_code 121 = .ok (.aload_n 0, 1) := by decide +kernel
theorem d_Mo_leave_122 : decode prog_10_method_11_code 122 = .ok (.getfield 31, 3) := by decide +kernel
theorem d_Mo_leave_125 : decode prog_10_method_11_code 125 = .ok (.iconst 5, 1) := by decide +kernel
theorem d_Mo_leave_126 : decode prog_10_method_11_code 126 = .ok (.iload_n 1, 1) := by decide +kernel
theorem d_Mo_leave_127 : decode prog_10_method_11_code 127 = .ok (.imul, 1) := by decide +kernel
theorem d_Mo_leave_128 : decode prog_10_method_11_code 128 = .ok (.iload 5, 2) := by decide +kernel
theorem d_Mo_leave_130 : decode prog_10_method_11_code 130 = .ok (.iadd, 1) := by decide +kernel
theorem d_Mo_leave_131 : decode prog_10_method_11_code 131 = .ok (.dup2, 1) := by decide +kernel
theorem d_Mo_leave_132 : decode prog_10_method_11_code 132 = .ok (.iaload, 1) := by decide +kernel
theorem d_Mo_leave_133 : decode prog_10_method_11_code 133 = .ok (.iconst 1, 1) := by decide +kernel
theorem d_Mo_leave_134 : decode prog_10_method_11_code 134 = .ok (.iadd, 1) := by decide +kernel
theorem d_Mo_leave_135 : decode prog_10_method_11_code 135 = .ok (.iastore, 1) := by decide +kernel
theorem d_Mo_leave_136 : decode prog_10_method_11_code 136 = .ok (.iload_n 3, 1) := by decide +kernel
theorem d_Mo_leave_137 : decode prog_10_method_11_code 137 = .ok (.ifCond .eq 27, 3) := by decide +kernel
theorem d_Mo_leave_140 : decode prog_10_method_11_code 140 = .ok (.aload_n 0, 1) := by decide +kernel
theorem d_Mo_leave_141 : decode prog_10_method_11_code 141 = .ok (.getfield 49, 3) := by decide +kernel
theorem d_Mo_leave_144 : decode prog_10_method_11_code 144 = .ok (.iload_n 2, 1) := by decide +kernel
theorem d_Mo_leave_145 : decode prog_10_method_11_code 145 = .ok (.iaload, 1) := by decide +kernel
theorem d_Mo_leave_146 : decode prog_10_method_11_code 146 = .ok (.iconst 5, 1) := by decide +kernel
theorem d_Mo_leave_147 : decode prog_10_method_11_code 147 = .ok (.if_icmp .le 17, 3) := by decide +kernel
theorem d_Mo_leave_150 : decode prog_10_method_11_code 150 = .ok (.aload_n 0, 1) := by decide +kernel
theorem d_Mo_leave_151 : decode prog_10_method_11_code 151 = .ok (.getfield 31, 3) := by decide +kernel
theorem d_Mo_leave_154 : decode prog_10_method_11_code 154 = .ok (.iconst 5, 1) := by decide +kernel
theorem d_Mo_leave_155 : decode prog_10_method_11_code 155 = .ok (.iload_n 1, 1) := by decide +kernel
theorem d_Mo_leave_156 : decode prog_10_method_11_code 156 = .ok (.imul, 1) := by decide +kernel
theorem d_Mo_leave_157 : decode prog_10_method_11_code 157 = .ok (.iconst 4, 1) := by decide +kernel
theorem d_Mo_leave_158 : decode prog_10_method_11_code 158 = .ok (.iadd, 1) := by decide +kernel
theorem d_Mo_leave_159 : decode prog_10_method_11_code 159 = .ok (.dup2, 1) := by decide +kernel
theorem d_Mo_leave_160 : decode prog_10_method_11_code 160 = .ok (.iaload, 1) := by decide +kernel
theorem d_Mo_leave_161 : decode prog_10_method_11_code 161 = .ok (.iconst 1, 1) := by decide +kernel
theorem d_Mo_leave_162 : decode prog_10_method_11_code 162 = .ok (.iadd, 1) := by decide +kernel
theorem d_Mo_leave_163 : decode prog_10_method_11_code 163 = .ok (.iastore, 1) := by decide +kernel
theorem d_Mo_leave_164 : decode prog_10_method_11_code 164 = .ok (.iload_n 3, 1) := by decide +kernel
theorem d_Mo_leave_165 : decode prog_10_method_11_code 165 = .ok (.ifCond .ne 22, 3) := by decide +kernel
theorem d_Mo_leave_168 : decode prog_10_method_11_code 168 = .ok (.aload_n 0, 1) := by decide +kernel
theorem d_Mo_leave_169 : decode prog_10_method_11_code 169 = .ok (.getfield 46, 3) := by decide +kernel
theorem d_Mo_leave_172 : decode prog_10_method_11_code 172 = .ok (.iload_n 2, 1) := by decide +kernel
theorem d_Mo_leave_173 : decode prog_10_method_11_code 173 = .ok (.iaload, 1) := by decide +kernel
theorem d_Mo_leave_174 : decode prog_10_method_11_code 174 = .ok (.ifCond .lt 13, 3) := by decide +kernel
theorem d_Mo_leave_177 : decode prog_10_method_11_code 177 = .ok (.aload_n 0, 1) := by decide +kernel
theorem d_Mo_leave_178 : decode prog_10_method_11_code 178 = .ok (.aload_n 0, 1) := by decide +kernel
theorem d_Mo_leave_179 : decode prog_10_method_11_code 179 = .ok (.getfield 46, 3) := by decide +kernel
theorem d_Mo_leave_182 : decode prog_10_method_11_code 182 = .ok (.iload_n 2, 1) := by decide +kernel
theorem d_Mo_leave_183 : decode prog_10_method_11_code 183 = .ok (.iaload, 1) := by decide +kernel
theorem d_Mo_leave_184 : decode prog_10_method_11_code 184 = .ok (.invokevirtual 95, 3) := by decide +kernel
theorem d_Mo_leave_187 : decode prog_10_method_11_code 187 = .ok (.return_, 1) := by decide +kernel
end
section
abbrev m_Mo_goOn : ac_I := (⟨"PairedGatesModel", "goOn", "(I)I"⟩, prog_10_method_12_code, 8, (some (.int)), [])
theorem d_Mo_goOn_0 : decode prog_10_method_12_code 0 = .ok (.iconst 0, 1) := by decide +kernel
theorem d_Mo_goOn_1 : decode prog_10_method_12_code 1 = .ok (.istore_n 2, 1) := by decide +kernel
theorem d_Mo_goOn_2 : decode prog_10_method_12_code 2 = .ok (.iconst 0, 1) := by decide +kernel
theorem d_Mo_goOn_3 : decode prog_10_method_12_code 3 = .ok (.istore_n 3, 1) := by decide +kernel
theorem d_Mo_goOn_4 : decode prog_10_method_12_code 4 = .ok (.iconst 0, 1) := by decide +kernel
theorem d_Mo_goOn_5 : decode prog_10_method_12_code 5 = .ok (.istore 4, 2) := by decide +kernel
theorem d_Mo_goOn_7 : decode prog_10_method_12_code 7 = .ok (.iload 4, 2) := by decide +kernel
theorem d_Mo_goOn_9 : decode prog_10_method_12_code 9 = .ok (.aload_n 0, 1) := by decide +kernel
theorem d_Mo_goOn_10 : decode prog_10_method_12_code 10 = .ok (.getfield 34, 3) := by decide +kernel
theorem d_Mo_goOn_13 : decode prog_10_method_12_code 13 = .ok (.iload_n 1, 1) := by decide +kernel
theorem d_Mo_goOn_14 : decode prog_10_method_12_code 14 = .ok (.iaload, 1) := by decide +kernel
theorem d_Mo_goOn_15 : decode prog_10_method_12_code 15 = .ok (.if_icmp .ge 140, 3) := by decide +kernel
theorem d_Mo_goOn_18 : decode prog_10_method_12_code 18 = .ok (.iconst 5, 1) := by decide +kernel
theorem d_Mo_goOn_19 : decode prog_10_method_12_code 19 = .ok (.iload_n 1, 1) := by decide +kernel
theorem d_Mo_goOn_20 : decode prog_10_method_12_code 20 = .ok (.imul, 1) := by decide +kernel
theorem d_Mo_goOn_21 : decode prog_10_method_12_code 21 = .ok (.iload 4, 2) := by decide +kernel
theorem d_Mo_goOn_23 : decode prog_10_method_12_code 23 = .ok (.iadd, 1) := by decide +kernel
theorem d_Mo_goOn_24 : decode prog_10_method_12_code 24 = .ok (.istore 5, 2) := by decide +kernel
theorem d_Mo_goOn_26 : decode prog_10_method_12_code 26 = .ok (.iconst (-1), 1) := by decide +kernel
theorem d_Mo_goOn_27 : decode prog_10_method_12_code 27 = .ok (.istore 6, 2) := by decide +kernel
theorem d_Mo_goOn_29 : decode prog_10_method_12_code 29 = .ok (.aload_n 0, 1) := by decide +kernel
theorem d_Mo_goOn_30 : decode prog_10_method_12_code 30 = .ok (.getfield 92, 3) := by decide +kernel
theorem d_Mo_goOn_33 : decode prog_10_method_12_code 33 = .ok (.iconst 1, 1) := by decide +kernel
theorem d_Mo_goOn_34 : decode prog_10_method_12_code 34 = .ok (.isub, 1) := by decide +kernel
theorem d_Mo_goOn_35 : decode prog_10_method_12_code 35 = .ok (.istore 7, 2) := by decide +kernel
theorem d_Mo_goOn_37 : decode prog_10_method_12_code 37 = .ok (.iload 7, 2) := by decide +kernel
theorem d_Mo_goOn_39 : decode prog_10_method_12_code 39 = .ok (.ifCond .lt 41, 3) := by decide +kernel
theorem d_Mo_goOn_42 : decode prog_10_method_12_code 42 = .ok (.aload_n 0, 1) := by decide +kernel
theorem d_Mo_goOn_43 : decode prog_10_method_12_code 43 = .ok (.aload_n 0, 1) := by decide +kernel
theorem d_Mo_goOn_44 : decode prog_10_method_12_code 44 = .ok (.getfield 37, 3) := by decide +kernel
theorem d_Mo_goOn_47 : decode prog_10_method_12_code 47 = .ok (.iload 5, 2) := by decide +kernel
theorem d_Mo_goOn_49 : decode prog_10_method_12_code 49 = .ok (.iaload, 1) := by decide +kernel
theorem d_Mo_goOn_50 : decode prog_10_method_12_code 50 = .ok (.aload_n 0, 1) := by decide +kernel
theorem d_Mo_goOn_51 : decode prog_10_method_12_code 51 = .ok (.getfield 40, 3) := by decide +kernel
theorem d_Mo_goOn_54 : decode prog_10_method_12_code 54 = .ok (.iload 5, 2) := by decide +kernel
theorem d_Mo_goOn_56 : decode prog_10_method_12_code 56 = .ok (.iaload, 1) := by decide +kernel
theorem d_Mo_goOn_57 : decode prog_10_method_12_code 57 = .ok (.iload 7, 2) := by decide +kernel
theorem d_Mo_goOn_59 : decode prog_10_method_12_code 59 = .ok (.invokevirtual 99, 3) := by decide +kernel
theorem d_Mo_goOn_62 : decode prog_10_method_12_code 62 = .ok (.ifCond .eq 8, 3) := by decide +kernel
theorem d_Mo_goOn_65 : decode prog_10_method_12_code 65 = .ok (.iload 7, 2) := by decide +kernel
theorem d_Mo_goOn_67 : decode prog_10_method_12_code 67 = .ok (.goto 5, 3) := by decide +kernel
theorem d_Mo_goOn_70 : decode prog_10_method_12_code 70 = .ok (.iload 6, 2) := by decide +kernel
theorem d_Mo_goOn_72 : decode prog_10_method_12_code 72 = .ok (.istore 6, 2) := by decide +kernel
theorem d_Mo_goOn_74 : decode prog_10_method_12_code 74 = .ok (.iinc 7 (-1), 3) := by decide +kernel
theorem d_Mo_goOn_77 : decode prog_10_method_12_code 77 = .ok (.goto (-40), 3) := by decide +kernel
theorem d_Mo_goOn_80 : decode prog_10_method_12_code 80 = .ok (.iload 6, 2) := by decide +kernel
theorem d_Mo_goOn_82 : decode prog_10_method_12_code 82 = .ok (.ifCond .ge 16, 3) := by decide +kernel
theorem d_Mo_goOn_85 : decode prog_10_method_12_code 85 = .ok (.aload_n 0, 1) := by decide +kernel
theorem d_Mo_goOn_86 : decode prog_10_method_12_code 86 = .ok (.iload_n 1, 1) := by decide +kernel
theorem d_Mo_goOn_87 : decode prog_10_method_12_code 87 = .ok (.iload 5, 2) := by decide +kernel
theorem d_Mo_goOn_89 : decode prog_10_method_12_code 89 = .ok (.invokevirtual 103, 3) := by decide +kernel
theorem d_Mo_goOn_92 : decode prog_10_method_12_code 92 = .ok (.iinc 3 1, 3) := by decide +kernel
theorem d_Mo_goOn_95 : decode prog_10_method_12_code 95 = .ok (.goto 54, 3) := by decide +kernel
theorem d_Mo_goOn_98 : decode prog_10_method_12_code 98 = .ok (.aload_n 0, 1) := by decide +kernel
theorem d_Mo_goOn_99 : decode prog_10_method_12_code 99 = .ok (.getfield 52, 3) := by decide +kernel
theorem d_Mo_goOn_102 : decode prog_10_method_12_code 102 = .ok (.iload 5, 2) := by decide +kernel
theorem d_Mo_goOn_104 : decode prog_10_method_12_code 104 = .ok (.iload 6, 2) := by decide +kernel
theorem d_Mo_goOn_106 : decode prog_10_method_12_code 106 = .ok (.iastore, 1) := by decide +kernel
theorem d_Mo_goOn_107 : decode prog_10_method_12_code 107 = .ok (.aload_n 0, 1) := by decide +kernel
theorem d_Mo_goOn_108 : decode prog_10_method_12_code 108 = .ok (.getfield 55, 3) := by decide +kernel
theorem d_Mo_goOn_111 : decode prog_10_method_12_code 111 = .ok (.iload 5, 2) := by decide +kernel
theorem d_Mo_goOn_113 : decode prog_10_method_12_code 113 = .ok (.aload_n 0, 1) := by decide +kernel
theorem d_Mo_goOn_114 : decode prog_10_method_12_code 114 = .ok (.getfield 37, 3) := by decide +kernel
theorem d_Mo_goOn_117 : decode prog_10_method_12_code 117 = .ok (.iload 5, 2) := by decide +kernel
theorem d_Mo_goOn_119 : decode prog_10_method_12_code 119 = .ok (.iaload, 1) := by decide +kernel
theorem d_Mo_goOn_120 : decode prog_10_method_12_code 120 = .ok (.iastore, 1) := by decide +kernel
theorem d_Mo_goOn_121 : decode prog_10_method_12_code 121 = .ok (.aload_n 0, 1) := by decide +kernel
theorem d_Mo_goOn_122 : decode prog_10_method_12_code 122 = .ok (.getfield 58, 3) := by decide +kernel
theorem d_Mo_goOn_125 : decode prog_10_method_12_code 125 = .ok (.iload 5, 2) := by decide +kernel
theorem d_Mo_goOn_127 : decode prog_10_method_12_code 127 = .ok (.aload_n 0, 1) := by decide +kernel
theorem d_Mo_goOn_128 : decode prog_10_method_12_code 128 = .ok (.getfield 40, 3) := by decide +kernel
theorem d_Mo_goOn_131 : decode prog_10_method_12_code 131 = .ok (.iload 5, 2) := by decide +kernel
theorem d_Mo_goOn_133 : decode prog_10_method_12_code 133 = .ok (.iaload, 1) := by decide +kernel
theorem d_Mo_goOn_134 : decode prog_10_method_12_code 134 = .ok (.iastore, 1) := by decide +kernel
theorem d_Mo_goOn_135 : decode prog_10_method_12_code 135 = .ok (.aload_n 0, 1) := by decide +kernel
theorem d_Mo_goOn_136 : decode prog_10_method_12_code 136 = .ok (.iconst 5, 1) := by decide +kernel
theorem d_Mo_goOn_137 : decode prog_10_method_12_code 137 = .ok (.iload_n 1, 1) := by decide +kernel
theorem d_Mo_goOn_138 : decode prog_10_method_12_code 138 = .ok (.imul, 1) := by decide +kernel
theorem d_Mo_goOn_139 : decode prog_10_method_12_code 139 = .ok (.iload_n 2, 1) := by decide +kernel
theorem d_Mo_goOn_140 : decode prog_10_method_12_code 140 = .ok (.iadd, 1) := by decide +kernel
theorem d_Mo_goOn_141 : decode prog_10_method_12_code 141 = .ok (.iload 5, 2) := by decide +kernel
theorem d_Mo_goOn_143 : decode prog_10_method_12_code 143 = .ok (.invokevirtual 107, 3) := by decide +kernel
theorem d_Mo_goOn_146 : decode prog_10_method_12_code 146 = .ok (.iinc 2 1, 3) := by decide +kernel
theorem d_Mo_goOn_149 : decode prog_10_method_12_code 149 = .ok (.iinc 4 1, 3) := by decide +kernel
theorem d_Mo_goOn_152 : decode prog_10_method_12_code 152 = .ok (.goto (-145), 3) := by decide +kernel
theorem d_Mo_goOn_155 : decode prog_10_method_12_code 155 = .ok (.aload_n 0, 1) := by decide +kernel
theorem d_Mo_goOn_156 : decode prog_10_method_12_code 156 = .ok (.getfield 34, 3) := by decide +kernel
theorem d_Mo_goOn_159 : decode prog_10_method_12_code 159 = .ok (.iload_n 1, 1) := by decide +kernel
theorem d_Mo_goOn_160 : decode prog_10_method_12_code 160 = .ok (.iload_n 2, 1) := by decide +kernel
theorem d_Mo_goOn_161 : decode prog_10_method_12_code 161 = .ok (.iastore, 1) := by decide +kernel
theorem d_Mo_goOn_162 : decode prog_10_method_12_code 162 = .ok (.iload_n 3, 1) := by decide +kernel
theorem d_Mo_goOn_163 : decode prog_10_method_12_code 163 = .ok (.ireturn, 1) := by decide +kernel
abbrev m_Mo_share : ac_I := (⟨"PairedGatesModel", "share", "(II)V"⟩, prog_10_method_13_code, 11, none, [])
theorem d_Mo_share_0 : decode prog_10_method_13_code 0 = .ok (.iconst 0, 1) := by decide +kernel
theorem d_Mo_share_1 : decode prog_10_method_13_code 1 = .ok (.istore_n 3, 1) := by decide +kernel
theorem d_Mo_share_2 : decode prog_10_method_13_code 2 = .ok (.iconst 0, 1) := by decide +kernel
theorem d_Mo_share_3 : decode prog_10_method_13_code 3 = .ok (.istore 4, 2) := by decide +kernel
theorem d_Mo_share_5 : decode prog_10_method_13_code 5 = .ok (.iload 4, 2) := by decide +kernel
theorem d_Mo_share_7 : decode prog_10_method_13_code 7 = .ok (.aload_n 0, 1) := by decide +kernel
theorem d_Mo_share_8 : decode prog_10_method_13_code 8 = .ok (.getfield 34, 3) := by decide +kernel
theorem d_Mo_share_11 : decode prog_10_method_13_code 11 = .ok (.iload_n 1, 1) := by decide +kernel
theorem d_Mo_share_12 : decode prog_10_method_13_code 12 = .ok (.iaload, 1) := by decide +kernel
theorem d_Mo_share_13 : decode prog_10_method_13_code 13 = .ok (.if_icmp .ge 32, 3) := by decide +kernel
theorem d_Mo_share_16 : decode prog_10_method_13_code 16 = .ok (.aload_n 0, 1) := by decide +kernel
theorem d_Mo_share_17 : decode prog_10_method_13_code 17 = .ok (.getfield 52, 3) := by decide +kernel
theorem d_Mo_share_20 : decode prog_10_method_13_code 20 = .ok (.iconst 5, 1) := by decide +kernel
theorem d_Mo_share_21 : decode prog_10_method_13_code 21 = .ok (.iload_n 1, 1) := by decide +kernel
theorem d_Mo_share_22 : decode prog_10_method_13_code 22 = .ok (.imul, 1) := by decide +kernel
theorem d_Mo_share_23 : decode prog_10_method_13_code 23 = .ok (.iload 4, 2) := by decide +kernel
theorem d_Mo_share_25 : decode prog_10_method_13_code 25 = .ok (.iadd, 1) := by decide +kernel
theorem d_Mo_share_26 : decode prog_10_method_13_code 26 = .ok (.iaload, 1) := by decide +kernel
theorem d_Mo_share_27 : decode prog_10_method_13_code 27 = .ok (.iload_n 2, 1) := by decide +kernel
theorem d_Mo_share_28 : decode prog_10_method_13_code 28 = .ok (.if_icmp .ne 9, 3) := by decide +kernel
theorem d_Mo_share_31 : decode prog_10_method_13_code 31 = .ok (.iload_n 3, 1) := by decide +kernel
theorem d_Mo_share_32 : decode prog_10_method_13_code 32 = .ok (.iconst 1, 1) := by decide +kernel
theorem d_Mo_share_33 : decode prog_10_method_13_code 33 = .ok (.iadd, 1) := by decide +kernel
theorem d_Mo_share_34 : decode prog_10_method_13_code 34 = .ok (.goto 4, 3) := by decide +kernel
theorem d_Mo_share_37 : decode prog_10_method_13_code 37 = .ok (.iload_n 3, 1) := by decide +kernel
theorem d_Mo_share_38 : decode prog_10_method_13_code 38 = .ok (.istore_n 3, 1) := by decide +kernel
theorem d_Mo_share_39 : decode prog_10_method_13_code 39 = .ok (.iinc 4 1, 3) := by decide +kernel
theorem d_Mo_share_42 : decode prog_10_method_13_code 42 = .ok (.goto (-37), 3) := by decide +kernel
theorem d_Mo_share_45 : decode prog_10_method_13_code 45 = .ok (.aload_n 0, 1) := by decide +kernel
theorem d_Mo_share_46 : decode prog_10_method_13_code 46 = .ok (.getfield 61, 3) := by decide +kernel
theorem d_Mo_share_49 : decode prog_10_method_13_code 49 = .ok (.iload_n 2, 1) := by decide +kernel
theorem d_Mo_share_50 : decode prog_10_method_13_code 50 = .ok (.iaload, 1) := by decide +kernel
theorem d_Mo_share_51 : decode prog_10_method_13_code 51 = .ok (.istore 4, 2) := by decide +kernel
theorem d_Mo_share_53 : decode prog_10_method_13_code 53 = .ok (.aload_n 0, 1) := by decide +kernel
theorem d_Mo_share_54 : decode prog_10_method_13_code 54 = .ok (.getfield 64, 3) := by decide +kernel
theorem d_Mo_share_57 : decode prog_10_method_13_code 57 = .ok (.iload_n 2, 1) := by decide +kernel
theorem d_Mo_share_58 : decode prog_10_method_13_code 58 = .ok (.iaload, 1) := by decide +kernel
theorem d_Mo_share_59 : decode prog_10_method_13_code 59 = .ok (.iload 4, 2) := by decide +kernel
theorem d_Mo_share_61 : decode prog_10_method_13_code 61 = .ok (.isub, 1) := by decide +kernel
theorem d_Mo_share_62 : decode prog_10_method_13_code 62 = .ok (.iconst 1, 1) := by decide +kernel
theorem d_Mo_share_63 : decode prog_10_method_13_code 63 = .ok (.iadd, 1) := by decide +kernel
theorem d_Mo_share_64 : decode prog_10_method_13_code 64 = .ok (.istore 5, 2) := by decide +kernel
theorem d_Mo_share_66 : decode prog_10_method_13_code 66 = .ok (.iconst 0, 1) := by decide +kernel
theorem d_Mo_share_67 : decode prog_10_method_13_code 67 = .ok (.istore 6, 2) := by decide +kernel
theorem d_Mo_share_69 : decode prog_10_method_13_code 69 = .ok (.iconst 0, 1) := by decide +kernel
theorem d_Mo_share_70 : decode prog_10_method_13_code 70 = .ok (.istore 7, 2) := by decide +kernel
theorem d_Mo_share_72 : decode prog_10_method_13_code 72 = .ok (.iload 7, 2) := by decide +kernel
theorem d_Mo_share_74 : decode prog_10_method_13_code 74 = .ok (.aload_n 0, 1) := by decide +kernel
theorem d_Mo_share_75 : decode prog_10_method_13_code 75 = .ok (.getfield 34, 3) := by decide +kernel
theorem d_Mo_share_78 : decode prog_10_method_13_code 78 = .ok (.iload_n 1, 1) := by decide +kernel
theorem d_Mo_share_79 : decode prog_10_method_13_code 79 = .ok (.iaload, 1) := by decide +kernel
theorem d_Mo_share_80 : decode prog_10_method_13_code 80 = .ok (.if_icmp .ge 145, 3) := by decide +kernel
theorem d_Mo_share_83 : decode prog_10_method_13_code 83 = .ok (.iconst 5, 1) := by decide +kernel
theorem d_Mo_share_84 : decode prog_10_method_13_code 84 = .ok (.iload_n 1, 1) := by decide +kernel
theorem d_Mo_share_85 : decode prog_10_method_13_code 85 = .ok (.imul, 1) := by decide +kernel
theorem d_Mo_share_86 : decode prog_10_method_13_code 86 = .ok (.iload 7, 2) := by decide +kernel
theorem d_Mo_share_88 : decode prog_10_method_13_code 88 = .ok (.iadd, 1) := by decide +kernel
theorem d_Mo_share_89 : decode prog_10_method_13_code 89 = .ok (.istore 8, 2) := by decide +kernel
theorem d_Mo_share_91 : decode prog_10_method_13_code 91 = .ok (.aload_n 0, 1) := by decide +kernel
theorem d_Mo_share_92 : decode prog_10_method_13_code 92 = .ok (.getfield 52, 3) := by decide +kernel
theorem d_Mo_share_95 : decode prog_10_method_13_code 95 = .ok (.iload 8, 2) := by decide +kernel
theorem d_Mo_share_97 : decode prog_10_method_13_code 97 = .ok (.iaload, 1) := by decide +kernel
theorem d_Mo_share_98 : decode prog_10_method_13_code 98 = .ok (.iload_n 2, 1) := by decide +kernel
theorem d_Mo_share_99 : decode prog_10_method_13_code 99 = .ok (.if_icmp .ne 120, 3) := by decide +kernel
theorem d_Mo_share_102 : decode prog_10_method_13_code 102 = .ok (.aload_n 0, 1) := by decide +kernel
theorem d_Mo_share_103 : decode prog_10_method_13_code 103 = .ok (.getfield 37, 3) := by decide +kernel
theorem d_Mo_share_106 : decode prog_10_method_13_code 106 = .ok (.iload 8, 2) := by decide +kernel
theorem d_Mo_share_108 : decode prog_10_method_13_code 108 = .ok (.iload 4, 2) := by decide +kernel
theorem d_Mo_share_110 : decode prog_10_method_13_code 110 = .ok (.iload 6, 2) := by decide +kernel
theorem d_Mo_share_112 : decode prog_10_method_13_code 112 = .ok (.iload 5, 2) := by decide +kernel
theorem d_Mo_share_114 : decode prog_10_method_13_code 114 = .ok (.imul, 1) := by decide +kernel
theorem d_Mo_share_115 : decode prog_10_method_13_code 115 = .ok (.iload_n 3, 1) := by decide +kernel
theorem d_Mo_share_116 : decode prog_10_method_13_code 116 = .ok (.idiv, 1) := by decide +kernel
theorem d_Mo_share_117 : decode prog_10_method_13_code 117 = .ok (.iadd, 1) := by decide +kernel
theorem d_Mo_share_118 : decode prog_10_method_13_code 118 = .ok (.iastore, 1) := by decide +kernel
theorem d_Mo_share_119 : decode prog_10_method_13_code 119 = .ok (.iload 4, 2) := by decide +kernel
theorem d_Mo_share_121 : decode prog_10_method_13_code 121 = .ok (.iload 6, 2) := by decide +kernel
theorem d_Mo_share_123 : decode prog_10_method_13_code 123 = .ok (.iconst 1, 1) := by decide +kernel
theorem d_Mo_share_124 : decode prog_10_method_13_code 124 = .ok (.iadd, 1) := by decide +kernel
theorem d_Mo_share_125 : decode prog_10_method_13_code 125 = .ok (.iload 5, 2) := by decide +kernel
theorem d_Mo_share_127 : decode prog_10_method_13_code 127 = .ok (.imul, 1) := by decide +kernel
theorem d_Mo_share_128 : decode prog_10_method_13_code 128 = .ok (.iload_n 3, 1) := by decide +kernel
theorem d_Mo_share_129 : decode prog_10_method_13_code 129 = .ok (.idiv, 1) := by decide +kernel
theorem d_Mo_share_130 : decode prog_10_method_13_code 130 = .ok (.iadd, 1) := by decide +kernel
theorem d_Mo_share_131 : decode prog_10_method_13_code 131 = .ok (.iconst 1, 1) := by decide +kernel
theorem d_Mo_share_132 : decode prog_10_method_13_code 132 = .ok (.isub, 1) := by decide +kernel
theorem d_Mo_share_133 : decode prog_10_method_13_code 133 = .ok (.istore 9, 2) := by decide +kernel
theorem d_Mo_share_135 : decode prog_10_method_13_code 135 = .ok (.aload_n 0, 1) := by decide +kernel
theorem d_Mo_share_136 : decode prog_10_method_13_code 136 = .ok (.getfield 40, 3) := by decide +kernel
theorem d_Mo_share_139 : decode prog_10_method_13_code 139 = .ok (.iload 8, 2) := by decide +kernel
theorem d_Mo_share_141 : decode prog_10_method_13_code 141 = .ok (.iload 9, 2) := by decide +kernel
theorem d_Mo_share_143 : decode prog_10_method_13_code 143 = .ok (.aload_n 0, 1) := by decide +kernel
theorem d_Mo_share_144 : decode prog_10_method_13_code 144 = .ok (.getfield 37, 3) := by decide +kernel
theorem d_Mo_share_147 : decode prog_10_method_13_code 147 = .ok (.iload 8, 2) := by decide +kernel
theorem d_Mo_share_149 : decode prog_10_method_13_code 149 = .ok (.iaload, 1) := by decide +kernel
theorem d_Mo_share_150 : decode prog_10_method_13_code 150 = .ok (.if_icmp .ge 13, 3) := by decide +kernel
theorem d_Mo_share_153 : decode prog_10_method_13_code 153 = .ok (.aload_n 0, 1) := by decide +kernel
theorem d_Mo_share_154 : decode prog_10_method_13_code 154 = .ok (.getfield 37, 3) := by decide +kernel
theorem d_Mo_share_157 : decode prog_10_method_13_code 157 = .ok (.iload 8, 2) := by decide +kernel
theorem d_Mo_share_159 : decode prog_10_method_13_code 159 = .ok (.iaload, 1) := by decide +kernel
theorem d_Mo_share_160 : decode prog_10_method_13_code 160 = .ok (.goto 5, 3) := by decide +kernel
theorem d_Mo_share_163 : decode prog_10_method_13_code 163 = .ok (.iload 9, 2) := by decide +kernel
theorem d_Mo_share_165 : decode prog_10_method_13_code 165 = .ok (.iastore, 1) := by decide +kernel
theorem d_Mo_share_166 : decode prog_10_method_13_code 166 = .ok (.aload_n 0, 1) := by decide +kernel
theorem d_Mo_share_167 : decode prog_10_method_13_code 167 = .ok (.getfield 40, 3) := by decide +kernel
theorem d_Mo_share_170 : decode prog_10_method_13_code 170 = .ok (.iload 8, 2) := by decide +kernel
theorem d_Mo_share_172 : decode prog_10_method_13_code 172 = .ok (.iaload, 1) := by decide +kernel
theorem d_Mo_share_173 : decode prog_10_method_13_code 173 = .ok (.aload_n 0, 1) := by decide +kernel
theorem d_Mo_share_174 : decode prog_10_method_13_code 174 = .ok (.getfield 37, 3) := by decide +kernel
theorem d_Mo_share_177 : decode prog_10_method_13_code 177 = .ok (.iload 8, 2) := by decide +kernel
theorem d_Mo_share_179 : decode prog_10_method_13_code 179 = .ok (.iaload, 1) := by decide +kernel
theorem d_Mo_share_180 : decode prog_10_method_13_code 180 = .ok (.isub, 1) := by decide +kernel
theorem d_Mo_share_181 : decode prog_10_method_13_code 181 = .ok (.iconst 1, 1) := by decide +kernel
theorem d_Mo_share_182 : decode prog_10_method_13_code 182 = .ok (.iadd, 1) := by decide +kernel
theorem d_Mo_share_183 : decode prog_10_method_13_code 183 = .ok (.istore 10, 2) := by decide +kernel
theorem d_Mo_share_185 : decode prog_10_method_13_code 185 = .ok (.aload_n 0, 1) := by decide +kernel
theorem d_Mo_share_186 : decode prog_10_method_13_code 186 = .ok (.getfield 49, 3) := by decide +kernel
theorem d_Mo_share_189 : decode prog_10_method_13_code 189 = .ok (.iload 8, 2) := by decide +kernel
theorem d_Mo_share_191 : decode prog_10_method_13_code 191 = .ok (.iload 10, 2) := by decide +kernel
theorem d_Mo_share_193 : decode prog_10_method_13_code 193 = .ok (.aload_n 0, 1) := by decide +kernel
theorem d_Mo_share_194 : decode prog_10_method_13_code 194 = .ok (.getfield 49, 3) := by decide +kernel
theorem d_Mo_share_197 : decode prog_10_method_13_code 197 = .ok (.iload 8, 2) := by decide +kernel
theorem d_Mo_share_199 : decode prog_10_method_13_code 199 = .ok (.iaload, 1) := by decide +kernel
theorem d_Mo_share_200 : decode prog_10_method_13_code 200 = .ok (.if_icmp .le 8, 3) := by decide +kernel
theorem d_Mo_share_203 : decode prog_10_method_13_code 203 = .ok (.iload 10, 2) := by decide +kernel
theorem d_Mo_share_205 : decode prog_10_method_13_code 205 = .ok (.goto 10, 3) := by decide +kernel
theorem d_Mo_share_208 : decode prog_10_method_13_code 208 = .ok (.aload_n 0, 1) := by decide +kernel
theorem d_Mo_share_209 : decode prog_10_method_13_code 209 = .ok (.getfield 49, 3) := by decide +kernel
theorem d_Mo_share_212 : decode prog_10_method_13_code 212 = .ok (.iload 8, 2) := by decide +kernel
theorem d_Mo_share_214 : decode prog_10_method_13_code 214 = .ok (.iaload, 1) := by decide +kernel
theorem d_Mo_share_215 : decode prog_10_method_13_code 215 = .ok (.iastore, 1) := by decide +kernel
theorem d_Mo_share_216 : decode prog_10_method_13_code 216 = .ok (.iinc 6 1, 3) := by decide +kernel
theorem d_Mo_share_219 : decode prog_10_method_13_code 219 = .ok (.iinc 7 1, 3) := by decide +kernel
theorem d_Mo_share_222 : decode prog_10_method_13_code 222 = .ok (.goto (-150), 3) := by decide +kernel
theorem d_Mo_share_225 : decode prog_10_method_13_code 225 = .ok (.iload_n 3, 1) := by decide +kernel
theorem d_Mo_share_226 : decode prog_10_method_13_code 226 = .ok (.ifCond .ne 19, 3) := by decide +kernel
theorem d_Mo_share_229 : decode prog_10_method_13_code 229 = .ok (.aload_n 0, 1) := by decide +kernel
theorem d_Mo_share_230 : decode prog_10_method_13_code 230 = .ok (.getfield 34, 3) := by decide +kernel
theorem d_Mo_share_233 : decode prog_10_method_13_code 233 = .ok (.iload_n 1, 1) := by decide +kernel
theorem d_Mo_share_234 : decode prog_10_method_13_code 234 = .ok (.iaload, 1) := by decide +kernel
theorem d_Mo_share_235 : decode prog_10_method_13_code 235 = .ok (.iconst 4, 1) := by decide +kernel
theorem d_Mo_share_236 : decode prog_10_method_13_code 236 = .ok (.if_icmp .ge 9, 3) := by decide +kernel
theorem d_Mo_share_239 : decode prog_10_method_13_code 239 = .ok (.aload_n 0, 1) := by decide +kernel
theorem d_Mo_share_240 : decode prog_10_method_13_code 240 = .ok (.iload_n 1, 1) := by decide +kernel
theorem d_Mo_share_241 : decode prog_10_method_13_code 241 = .ok (.iload_n 2, 1) := by decide +kernel
theorem d_Mo_share_242 : decode prog_10_method_13_code 242 = .ok (.invokevirtual 110, 3) := by decide +kernel
theorem d_Mo_share_245 : decode prog_10_method_13_code 245 = .ok (.return_, 1) := by decide +kernel
abbrev m_Mo_begin : ac_I := (⟨"PairedGatesModel", "begin", "(II)V"⟩, prog_10_method_14_code, 7, none, [])
theorem d_Mo_begin_0 : decode prog_10_method_14_code 0 = .ok (.iconst (-1), 1) := by decide +kernel
theorem d_Mo_begin_1 : decode prog_10_method_14_code 1 = .ok (.istore_n 3, 1) := by decide +kernel
theorem d_Mo_begin_2 : decode prog_10_method_14_code 2 = .ok (.aload_n 0, 1) := by decide +kernel
theorem d_Mo_begin_3 : decode prog_10_method_14_code 3 = .ok (.getfield 34, 3) := by decide +kernel
theorem d_Mo_begin_6 : decode prog_10_method_14_code 6 = .ok (.iload_n 1, 1) := by decide +kernel
theorem d_Mo_begin_7 : decode prog_10_method_14_code 7 = .ok (.iaload, 1) := by decide +kernel
theorem d_Mo_begin_8 : decode prog_10_method_14_code 8 = .ok (.istore 4, 2) := by decide +kernel
theorem d_Mo_begin_10 : decode prog_10_method_14_code 10 = .ok (.aload_n 0, 1) := by decide +kernel
theorem d_Mo_begin_11 : decode prog_10_method_14_code 11 = .ok (.getfield 34, 3) := by decide +kernel
theorem d_Mo_begin_14 : decode prog_10_method_14_code 14 = .ok (.iload_n 1, 1) := by decide +kernel
theorem d_Mo_begin_15 : decode prog_10_method_14_code 15 = .ok (.iaload, 1) := by decide +kernel
theorem d_Mo_begin_16 : decode prog_10_method_14_code 16 = .ok (.iconst 1, 1) := by decide +kernel
theorem d_Mo_begin_17 : decode prog_10_method_14_code 17 = .ok (.isub, 1) := by decide +kernel
theorem d_Mo_begin_18 : decode prog_10_method_14_code 18 = .ok (.istore 5, 2) := by decide +kernel
theorem d_Mo_begin_20 : decode prog_10_method_14_code 20 = .ok (.iload 5, 2) := by decide +kernel
theorem d_Mo_begin_22 : decode prog_10_method_14_code 22 = .ok (.ifCond .lt 81, 3) := by decide +kernel
theorem d_Mo_begin_25 : decode prog_10_method_14_code 25 = .ok (.iconst 5, 1) := by decide +kernel
theorem d_Mo_begin_26 : decode prog_10_method_14_code 26 = .ok (.iload_n 1, 1) := by decide +kernel
theorem d_Mo_begin_27 : decode prog_10_method_14_code 27 = .ok (.imul, 1) := by decide +kernel
theorem d_Mo_begin_28 : decode prog_10_method_14_code 28 = .ok (.iload 5, 2) := by decide +kernel
theorem d_Mo_begin_30 : decode prog_10_method_14_code 30 = .ok (.iadd, 1) := by decide +kernel
theorem d_Mo_begin_31 : decode prog_10_method_14_code 31 = .ok (.istore 6, 2) := by decide +kernel
theorem d_Mo_begin_33 : decode prog_10_method_14_code 33 = .ok (.aload_n 0, 1) := by decide +kernel
theorem d_Mo_begin_34 : decode prog_10_method_14_code 34 = .ok (.getfield 55, 3) := by decide +kernel
theorem d_Mo_begin_37 : decode prog_10_method_14_code 37 = .ok (.iload 6, 2) := by decide +kernel
theorem d_Mo_begin_39 : decode prog_10_method_14_code 39 = .ok (.iaload, 1) := by decide +kernel
theorem d_Mo_begin_40 : decode prog_10_method_14_code 40 = .ok (.ifCond .lt 35, 3) := by decide +kernel
theorem d_Mo_begin_43 : decode prog_10_method_14_code 43 = .ok (.aload_n 0, 1) := by decide +kernel
theorem d_Mo_begin_44 : decode prog_10_method_14_code 44 = .ok (.aload_n 0, 1) := by decide +kernel
theorem d_Mo_begin_45 : decode prog_10_method_14_code 45 = .ok (.getfield 55, 3) := by decide +kernel
theorem d_Mo_begin_48 : decode prog_10_method_14_code 48 = .ok (.iload 6, 2) := by decide +kernel
theorem d_Mo_begin_50 : decode prog_10_method_14_code 50 = .ok (.iaload, 1) := by decide +kernel
theorem d_Mo_begin_51 : decode prog_10_method_14_code 51 = .ok (.aload_n 0, 1) := by decide +kernel
theorem d_Mo_begin_52 : decode prog_10_method_14_code 52 = .ok (.getfield 58, 3) := by decide +kernel
theorem d_Mo_begin_55 : decode prog_10_method_14_code 55 = .ok (.iload 6, 2) := by decide +kernel
theorem d_Mo_begin_57 : decode prog_10_method_14_code 57 = .ok (.iaload, 1) := by decide +kernel
theorem d_Mo_begin_58 : decode prog_10_method_14_code 58 = .ok (.iload_n 2, 1) := by decide +kernel
theorem d_Mo_begin_59 : decode prog_10_method_14_code 59 = .ok (.invokevirtual 99, 3) := by decide +kernel
theorem d_Mo_begin_62 : decode prog_10_method_14_code 62 = .ok (.ifCond .eq 13, 3) := by decide +kernel
theorem d_Mo_begin_65 : decode prog_10_method_14_code 65 = .ok (.aload_n 0, 1) := by decide +kernel
theorem d_Mo_begin_66 : decode prog_10_method_14_code 66 = .ok (.getfield 43, 3) := by decide +kernel
theorem d_Mo_begin_69 : decode prog_10_method_14_code 69 = .ok (.iload 6, 2) := by decide +kernel
theorem d_Mo_begin_71 : decode prog_10_method_14_code 71 = .ok (.iaload, 1) := by decide +kernel
theorem d_Mo_begin_72 : decode prog_10_method_14_code 72 = .ok (.goto 4, 3) := by decide +kernel
theorem d_Mo_begin_75 : decode prog_10_method_14_code 75 = .ok (.iload_n 3, 1) := by decide +kernel
theorem d_Mo_begin_76 : decode prog_10_method_14_code 76 = .ok (.istore_n 3, 1) := by decide +kernel
theorem d_Mo_begin_77 : decode prog_10_method_14_code 77 = .ok (.aload_n 0, 1) := by decide +kernel
theorem d_Mo_begin_78 : decode prog_10_method_14_code 78 = .ok (.getfield 52, 3) := by decide +kernel
theorem d_Mo_begin_81 : decode prog_10_method_14_code 81 = .ok (.iload 6, 2) := by decide +kernel
theorem d_Mo_begin_83 : decode prog_10_method_14_code 83 = .ok (.iaload, 1) := by decide +kernel
theorem d_Mo_begin_84 : decode prog_10_method_14_code 84 = .ok (.iload_n 2, 1) := by decide +kernel
theorem d_Mo_begin_85 : decode prog_10_method_14_code 85 = .ok (.if_icmp .le 8, 3) := by decide +kernel
theorem d_Mo_begin_88 : decode prog_10_method_14_code 88 = .ok (.iload 5, 2) := by decide +kernel
theorem d_Mo_begin_90 : decode prog_10_method_14_code 90 = .ok (.goto 5, 3) := by decide +kernel
theorem d_Mo_begin_93 : decode prog_10_method_14_code 93 = .ok (.iload 4, 2) := by decide +kernel
theorem d_Mo_begin_95 : decode prog_10_method_14_code 95 = .ok (.istore 4, 2) := by decide +kernel
theorem d_Mo_begin_97 : decode prog_10_method_14_code 97 = .ok (.iinc 5 (-1), 3) := by decide +kernel
theorem d_Mo_begin_100 : decode prog_10_method_14_code 100 = .ok (.goto (-80), 3) := by decide +kernel
theorem d_Mo_begin_103 : decode prog_10_method_14_code 103 = .ok (.aload_n 0, 1) := by decide +kernel
theorem d_Mo_begin_104 : decode prog_10_method_14_code 104 = .ok (.getfield 34, 3) := by decide +kernel
theorem d_Mo_begin_107 : decode prog_10_method_14_code 107 = .ok (.iload_n 1, 1) := by decide +kernel
theorem d_Mo_begin_108 : decode prog_10_method_14_code 108 = .ok (.iaload, 1) := by decide +kernel
theorem d_Mo_begin_109 : decode prog_10_method_14_code 109 = .ok (.istore 5, 2) := by decide +kernel
theorem d_Mo_begin_111 : decode prog_10_method_14_code 111 = .ok (.iload 5, 2) := by decide +kernel
theorem d_Mo_begin_113 : decode prog_10_method_14_code 113 = .ok (.iload 4, 2) := by decide +kernel
theorem d_Mo_begin_115 : decode prog_10_method_14_code 115 = .ok (.if_icmp .le 27, 3) := by decide +kernel
theorem d_Mo_begin_118 : decode prog_10_method_14_code 118 = .ok (.aload_n 0, 1) := by decide +kernel
theorem d_Mo_begin_119 : decode prog_10_method_14_code 119 = .ok (.iconst 5, 1) := by decide +kernel
theorem d_Mo_begin_120 : decode prog_10_method_14_code 120 = .ok (.iload_n 1, 1) := by decide +kernel
theorem d_Mo_begin_121 : decode prog_10_method_14_code 121 = .ok (.imul, 1) := by decide +kernel
theorem d_Mo_begin_122 : decode prog_10_method_14_code 122 = .ok (.iload 5, 2) := by decide +kernel
theorem d_Mo_begin_124 : decode prog_10_method_14_code 124 = .ok (.iadd, 1) := by decide +kernel
theorem d_Mo_begin_125 : decode prog_10_method_14_code 125 = .ok (.iconst 5, 1) := by decide +kernel
theorem d_Mo_begin_126 : decode prog_10_method_14_code 126 = .ok (.iload_n 1, 1) := by decide +kernel
theorem d_Mo_begin_127 : decode prog_10_method_14_code 127 = .ok (.imul, 1) := by decide +kernel
theorem d_Mo_begin_128 : decode prog_10_method_14_code 128 = .ok (.iload 5, 2) := by decide +kernel
theorem d_Mo_begin_130 : decode prog_10_method_14_code 130 = .ok (.iadd, 1) := by decide +kernel
theorem d_Mo_begin_131 : decode prog_10_method_14_code 131 = .ok (.iconst 1, 1) := by decide +kernel
theorem d_Mo_begin_132 : decode prog_10_method_14_code 132 = .ok (.isub, 1) := by decide +kernel
theorem d_Mo_begin_133 : decode prog_10_method_14_code 133 = .ok (.invokevirtual 107, 3) := by decide +kernel
theorem d_Mo_begin_136 : decode prog_10_method_14_code 136 = .ok (.iinc 5 (-1), 3) := by decide +kernel
theorem d_Mo_begin_139 : decode prog_10_method_14_code 139 = .ok (.goto (-28), 3) := by decide +kernel
theorem d_Mo_begin_142 : decode prog_10_method_14_code 142 = .ok (.iconst 5, 1) := by decide +kernel
theorem d_Mo_begin_143 : decode prog_10_method_14_code 143 = .ok (.iload_n 1, 1) := by decide +kernel
theorem d_Mo_begin_144 : decode prog_10_method_14_code 144 = .ok (.imul, 1) := by decide +kernel
theorem d_Mo_begin_145 : decode prog_10_method_14_code 145 = .ok (.iload 4, 2) := by decide +kernel
theorem d_Mo_begin_147 : decode prog_10_method_14_code 147 = .ok (.iadd, 1) := by decide +kernel
theorem d_Mo_begin_148 : decode prog_10_method_14_code 148 = .ok (.istore 5, 2) := by decide +kernel
theorem d_Mo_begin_150 : decode prog_10_method_14_code 150 = .ok (.aload_n 0, 1) := by decide +kernel
theorem d_Mo_begin_151 : decode prog_10_method_14_code 151 = .ok (.getfield 37, 3) := by decide +kernel
theorem d_Mo_begin_154 : decode prog_10_method_14_code 154 = .ok (.iload 5, 2) := by decide +kernel
theorem d_Mo_begin_156 : decode prog_10_method_14_code 156 = .ok (.aload_n 0, 1) := by decide +kernel
theorem d_Mo_begin_157 : decode prog_10_method_14_code 157 = .ok (.getfield 61, 3) := by decide +kernel
theorem d_Mo_begin_160 : decode prog_10_method_14_code 160 = .ok (.iload_n 2, 1) := by decide +kernel
theorem d_Mo_begin_161 : decode prog_10_method_14_code 161 = .ok (.iaload, 1) := by decide +kernel
theorem d_Mo_begin_162 : decode prog_10_method_14_code 162 = .ok (.iastore, 1) := by decide +kernel
theorem d_Mo_begin_163 : decode prog_10_method_14_code 163 = .ok (.aload_n 0, 1) := by decide +kernel
theorem d_Mo_begin_164 : decode prog_10_method_14_code 164 = .ok (.getfield 40, 3) := by decide +kernel
theorem d_Mo_begin_167 : decode prog_10_method_14_code 167 = .ok (.iload 5, 2) := by decide +kernel
theorem d_Mo_begin_169 : decode prog_10_method_14_code 169 = .ok (.aload_n 0, 1) := by decide +kernel
theorem d_Mo_begin_170 : decode prog_10_method_14_code 170 = .ok (.getfield 64, 3) := by decide +kernel
theorem d_Mo_begin_173 : decode prog_10_method_14_code 173 = .ok (.iload_n 2, 1) := by decide +kernel
theorem d_Mo_begin_174 : decode prog_10_method_14_code 174 = .ok (.iaload, 1) := by decide +kernel
theorem d_Mo_begin_175 : decode prog_10_method_14_code 175 = .ok (.iastore, 1) := by decide +kernel
theorem d_Mo_begin_176 : decode prog_10_method_14_code 176 = .ok (.aload_n 0, 1) := by decide +kernel
theorem d_Mo_begin_177 : decode prog_10_method_14_code 177 = .ok (.getfield 43, 3) := by decide +kernel
theorem d_Mo_begin_180 : decode prog_10_method_14_code 180 = .ok (.iload 5, 2) := by decide +kernel
theorem d_Mo_begin_182 : decode prog_10_method_14_code 182 = .ok (.iload_n 3, 1) := by decide +kernel
theorem d_Mo_begin_183 : decode prog_10_method_14_code 183 = .ok (.ifCond .lt 7, 3) := by decide +kernel
theorem d_Mo_begin_186 : decode prog_10_method_14_code 186 = .ok (.iload_n 3, 1) := by decide +kernel
theorem d_Mo_begin_187 : decode prog_10_method_14_code 187 = .ok (.goto 26, 3) := by decide +kernel
theorem d_Mo_begin_190 : decode prog_10_method_14_code 190 = .ok (.aload_n 0, 1) := by decide +kernel
theorem d_Mo_begin_191 : decode prog_10_method_14_code 191 = .ok (.getfield 61, 3) := by decide +kernel
theorem d_Mo_begin_194 : decode prog_10_method_14_code 194 = .ok (.iload_n 2, 1) := by decide +kernel
theorem d_Mo_begin_195 : decode prog_10_method_14_code 195 = .ok (.iaload, 1) := by decide +kernel
theorem d_Mo_begin_196 : decode prog_10_method_14_code 196 = .ok (.aload_n 0, 1) := by decide +kernel
theorem d_Mo_begin_197 : decode prog_10_method_14_code 197 = .ok (.getfield 64, 3) := by decide +kernel
theorem d_Mo_begin_200 : decode prog_10_method_14_code 200 = .ok (.iload_n 2, 1) := by decide +kernel
theorem d_Mo_begin_201 : decode prog_10_method_14_code 201 = .ok (.iaload, 1) := by decide +kernel
theorem d_Mo_begin_202 : decode prog_10_method_14_code 202 = .ok (.iadd, 1) := by decide +kernel
theorem d_Mo_begin_203 : decode prog_10_method_14_code 203 = .ok (.bipush 9, 2) := by decide +kernel
theorem d_Mo_begin_205 : decode prog_10_method_14_code 205 = .ok (.if_icmp .ge 7, 3) := by decide +kernel
theorem d_Mo_begin_208 : decode prog_10_method_14_code 208 = .ok (.iconst 0, 1) := by decide +kernel
theorem d_Mo_begin_209 : decode prog_10_method_14_code 209 = .ok (.goto 4, 3) := by decide +kernel
theorem d_Mo_begin_212 : decode prog_10_method_14_code 212 = .ok (.iconst 1, 1) := by decide +kernel
theorem d_Mo_begin_213 : decode prog_10_method_14_code 213 = .ok (.iastore, 1) := by decide +kernel
theorem d_Mo_begin_214 : decode prog_10_method_14_code 214 = .ok (.aload_n 0, 1) := by decide +kernel
theorem d_Mo_begin_215 : decode prog_10_method_14_code 215 = .ok (.getfield 46, 3) := by decide +kernel
theorem d_Mo_begin_218 : decode prog_10_method_14_code 218 = .ok (.iload 5, 2) := by decide +kernel
theorem d_Mo_begin_220 : decode prog_10_method_14_code 220 = .ok (.iconst (-1), 1) := by decide +kernel
theorem d_Mo_begin_221 : decode prog_10_method_14_code 221 = .ok (.iastore, 1) := by decide +kernel
theorem d_Mo_begin_222 : decode prog_10_method_14_code 222 = .ok (.aload_n 0, 1) := by decide +kernel
theorem d_Mo_begin_223 : decode prog_10_method_14_code 223 = .ok (.getfield 49, 3) := by decide +kernel
theorem d_Mo_begin_226 : decode prog_10_method_14_code 226 = .ok (.iload 5, 2) := by decide +kernel
theorem d_Mo_begin_228 : decode prog_10_method_14_code 228 = .ok (.aload_n 0, 1) := by decide +kernel
theorem d_Mo_begin_229 : decode prog_10_method_14_code 229 = .ok (.getfield 40, 3) := by decide +kernel
theorem d_Mo_begin_232 : decode prog_10_method_14_code 232 = .ok (.iload 5, 2) := by decide +kernel
theorem d_Mo_begin_234 : decode prog_10_method_14_code 234 = .ok (.iaload, 1) := by decide +kernel
theorem d_Mo_begin_235 : decode prog_10_method_14_code 235 = .ok (.aload_n 0, 1) := by decide +kernel
theorem d_Mo_begin_236 : decode prog_10_method_14_code 236 = .ok (.getfield 37, 3) := by decide +kernel
theorem d_Mo_begin_239 : decode prog_10_method_14_code 239 = .ok (.iload 5, 2) := by decide +kernel
theorem d_Mo_begin_241 : decode prog_10_method_14_code 241 = .ok (.iaload, 1) := by decide +kernel
theorem d_Mo_begin_242 : decode prog_10_method_14_code 242 = .ok (.isub, 1) := by decide +kernel
theorem d_Mo_begin_243 : decode prog_10_method_14_code 243 = .ok (.iconst 1, 1) := by decide +kernel
theorem d_Mo_begin_244 : decode prog_10_method_14_code 244 = .ok (.iadd, 1) := by decide +kernel
theorem d_Mo_begin_245 : decode prog_10_method_14_code 245 = .ok (.iastore, 1) := by decide +kernel
theorem d_Mo_begin_246 : decode prog_10_method_14_code 246 = .ok (.aload_n 0, 1) := by decide +kernel
theorem d_Mo_begin_247 : decode prog_10_method_14_code 247 = .ok (.getfield 52, 3) := by decide +kernel
theorem d_Mo_begin_250 : decode prog_10_method_14_code 250 = .ok (.iload 5, 2) := by decide +kernel
theorem d_Mo_begin_252 : decode prog_10_method_14_code 252 = .ok (.iload_n 2, 1) := by decide +kernel
theorem d_Mo_begin_253 : decode prog_10_method_14_code 253 = .ok (.iastore, 1) := by decide +kernel
theorem d_Mo_begin_254 : decode prog_10_method_14_code 254 = .ok (.aload_n 0, 1) := by decide +kernel
theorem d_Mo_begin_255 : decode prog_10_method_14_code 255 = .ok (.getfield 55, 3) := by decide +kernel
theorem d_Mo_begin_258 : decode prog_10_method_14_code 258 = .ok (.iload 5, 2) := by decide +kernel
theorem d_Mo_begin_260 : decode prog_10_method_14_code 260 = .ok (.bipush (-5), 2) := by decide +kernel
theorem d_Mo_begin_262 : decode prog_10_method_14_code 262 = .ok (.iastore, 1) := by decide +kernel
theorem d_Mo_begin_263 : decode prog_10_method_14_code 263 = .ok (.aload_n 0, 1) := by decide +kernel
theorem d_Mo_begin_264 : decode prog_10_method_14_code 264 = .ok (.getfield 58, 3) := by decide +kernel
theorem d_Mo_begin_267 : decode prog_10_method_14_code 267 = .ok (.iload 5, 2) := by decide +kernel
theorem d_Mo_begin_269 : decode prog_10_method_14_code 269 = .ok (.bipush (-5), 2) := by decide +kernel
theorem d_Mo_begin_271 : decode prog_10_method_14_code 271 = .ok (.iastore, 1) := by decide +kernel
theorem d_Mo_begin_272 : decode prog_10_method_14_code 272 = .ok (.aload_n 0, 1) := by decide +kernel
theorem d_Mo_begin_273 : decode prog_10_method_14_code 273 = .ok (.getfield 34, 3) := by decide +kernel
theorem d_Mo_begin_276 : decode prog_10_method_14_code 276 = .ok (.iload_n 1, 1) := by decide +kernel
theorem d_Mo_begin_277 : decode prog_10_method_14_code 277 = .ok (.dup2, 1) := by decide +kernel
theorem d_Mo_begin_278 : decode prog_10_method_14_code 278 = .ok (.iaload, 1) := by decide +kernel
theorem d_Mo_begin_279 : decode prog_10_method_14_code 279 = .ok (.iconst 1, 1) := by decide +kernel
theorem d_Mo_begin_280 : decode prog_10_method_14_code 280 = .ok (.iadd, 1) := by decide +kernel
theorem d_Mo_begin_281 : decode prog_10_method_14_code 281 = .ok (.iastore, 1) := by decide +kernel
theorem d_Mo_begin_282 : decode prog_10_method_14_code 282 = .ok (.return_, 1) := by decide +kernel
abbrev m_Mo_pay : ac_I := (⟨"PairedGatesModel", "pay", "(I)V"⟩, prog_10_method_15_code, 6, none, [])
theorem d_Mo_pay_0 : decode prog_10_method_15_code 0 = .ok (.iconst 0, 1) := by decide +kernel
theorem d_Mo_pay_1 : decode prog_10_method_15_code 1 = .ok (.istore_n 2, 1) := by decide +kernel
theorem d_Mo_pay_2 : decode prog_10_method_15_code 2 = .ok (.iload_n 2, 1) := by decide +kernel
theorem d_Mo_pay_3 : decode prog_10_method_15_code 3 = .ok (.aload_n 0, 1) := by decide +kernel
theorem d_Mo_pay_4 : decode prog_10_method_15_code 4 = .ok (.getfield 34, 3) := by decide +kernel
theorem d_Mo_pay_7 : decode prog_10_method_15_code 7 = .ok (.iload_n 1, 1) := by decide +kernel
theorem d_Mo_pay_8 : decode prog_10_method_15_code 8 = .ok (.iaload, 1) := by decide +kernel
theorem d_Mo_pay_9 : decode prog_10_method_15_code 9 = .ok (.if_icmp .ge 107, 3) := by decide +kernel
theorem d_Mo_pay_12 : decode prog_10_method_15_code 12 = .ok (.iconst 5, 1) := by decide +kernel
theorem d_Mo_pay_13 : decode prog_10_method_15_code 13 = .ok (.iload_n 1, 1) := by decide +kernel
theorem d_Mo_pay_14 : decode prog_10_method_15_code 14 = .ok (.imul, 1) := by decide +kernel
theorem d_Mo_pay_15 : decode prog_10_method_15_code 15 = .ok (.iload_n 2, 1) := by decide +kernel
theorem d_Mo_pay_16 : decode prog_10_method_15_code 16 = .ok (.iadd, 1) := by decide +kernel
theorem d_Mo_pay_17 : decode prog_10_method_15_code 17 = .ok (.istore_n 3, 1) := by decide +kernel
theorem d_Mo_pay_18 : decode prog_10_method_15_code 18 = .ok (.aload_n 0, 1) := by decide +kernel
theorem d_Mo_pay_19 : decode prog_10_method_15_code 19 = .ok (.getfield 43, 3) := by decide +kernel
theorem d_Mo_pay_22 : decode prog_10_method_15_code 22 = .ok (.iload_n 3, 1) := by decide +kernel
theorem d_Mo_pay_23 : decode prog_10_method_15_code 23 = .ok (.iaload, 1) := by decide +kernel
theorem d_Mo_pay_24 : decode prog_10_method_15_code 24 = .ok (.ifCond .ne 21, 3) := by decide +kernel
theorem d_Mo_pay_27 : decode prog_10_method_15_code 27 = .ok (.aload_n 0, 1) := by decide +kernel
theorem d_Mo_pay_28 : decode prog_10_method_15_code 28 = .ok (.getfield 40, 3) := by decide +kernel
theorem d_Mo_pay_31 : decode prog_10_method_15_code 31 = .ok (.iload_n 3, 1) := by decide +kernel
theorem d_Mo_pay_32 : decode prog_10_method_15_code 32 = .ok (.iaload, 1) := by decide +kernel
theorem d_Mo_pay_33 : decode prog_10_method_15_code 33 = .ok (.iconst 4, 1) := by decide +kernel
theorem d_Mo_pay_34 : decode prog_10_method_15_code 34 = .ok (.if_icmp .lt 7, 3) := by decide +kernel
theorem d_Mo_pay_37 : decode prog_10_method_15_code 37 = .ok (.iconst 1, 1) := by decide +kernel
theorem d_Mo_pay_38 : decode prog_10_method_15_code 38 = .ok (.goto 22, 3) := by decide +kernel
theorem d_Mo_pay_41 : decode prog_10_method_15_code 41 = .ok (.iconst 0, 1) := by decide +kernel
theorem d_Mo_pay_42 : decode prog_10_method_15_code 42 = .ok (.goto 18, 3) := by decide +kernel
theorem d_Mo_pay_45 : decode prog_10_method_15_code 45 = .ok (.aload_n 0, 1) := by decide +kernel
theorem d_Mo_pay_46 : decode prog_10_method_15_code 46 = .ok (.getfield 37, 3) := by decide +kernel
theorem d_Mo_pay_49 : decode prog_10_method_15_code 49 = .ok (.iload_n 3, 1) := by decide +kernel
theorem d_Mo_pay_50 : decode prog_10_method_15_code 50 = .ok (.iaload, 1) := by decide +kernel
theorem d_Mo_pay_51 : decode prog_10_method_15_code 51 = .ok (.iconst 5, 1) := by decide +kernel
theorem d_Mo_pay_52 : decode prog_10_method_15_code 52 = .ok (.if_icmp .gt 7, 3) := by decide +kernel
theorem d_Mo_pay_55 : decode prog_10_method_15_code 55 = .ok (.iconst 1, 1) := by decide +kernel
theorem d_Mo_pay_56 : decode prog_10_method_15_code 56 = .ok (.goto 4, 3) := by decide +kernel
theorem d_Mo_pay_59 : decode prog_10_method_15_code 59 = .ok (.iconst 0, 1) := by decide +kernel
theorem d_Mo_pay_60 : decode prog_10_method_15_code 60 = .ok (.istore 4, 2) := by decide +kernel
theorem d_Mo_pay_62 : decode prog_10_method_15_code 62 = .ok (.iconst 2, 1) := by decide +kernel
theorem d_Mo_pay_63 : decode prog_10_method_15_code 63 = .ok (.iload_n 1, 1) := by decide +kernel
theorem d_Mo_pay_64 : decode prog_10_method_15_code 64 = .ok (.imul, 1) := by decide +kernel
theorem d_Mo_pay_65 : decode prog_10_method_15_code 65 = .ok (.aload_n 0, 1) := by decide +kernel
theorem d_Mo_pay_66 : decode prog_10_method_15_code 66 = .ok (.getfield 43, 3) := by decide +kernel
theorem d_Mo_pay_69 : decode prog_10_method_15_code 69 = .ok (.iload_n 3, 1) := by decide +kernel
theorem d_Mo_pay_70 : decode prog_10_method_15_code 70 = .ok (.iaload, 1) := by decide +kernel
theorem d_Mo_pay_71 : decode prog_10_method_15_code 71 = .ok (.iadd, 1) := by decide +kernel
theorem d_Mo_pay_72 : decode prog_10_method_15_code 72 = .ok (.istore 5, 2) := by decide +kernel
theorem d_Mo_pay_74 : decode prog_10_method_15_code 74 = .ok (.aload_n 0, 1) := by decide +kernel
theorem d_Mo_pay_75 : decode prog_10_method_15_code 75 = .ok (.getfield 46, 3) := by decide +kernel
theorem d_Mo_pay_78 : decode prog_10_method_15_code 78 = .ok (.iload_n 3, 1) := by decide +kernel
theorem d_Mo_pay_79 : decode prog_10_method_15_code 79 = .ok (.iaload, 1) := by decide +kernel
theorem d_Mo_pay_80 : decode prog_10_method_15_code 80 = .ok (.ifCond .ge 30, 3) := by decide +kernel
theorem d_Mo_pay_83 : decode prog_10_method_15_code 83 = .ok (.iload 4, 2) := by decide +kernel
theorem d_Mo_pay_85 : decode prog_10_method_15_code 85 = .ok (.ifCond .eq 25, 3) := by decide +kernel
theorem d_Mo_pay_88 : decode prog_10_method_15_code 88 = .ok (.aload_n 0, 1) := by decide +kernel
theorem d_Mo_pay_89 : decode prog_10_method_15_code 89 = .ok (.getfield 67, 3) := by decide +kernel
theorem d_Mo_pay_92 : decode prog_10_method_15_code 92 = .ok (.iload 5, 2) := by decide +kernel
theorem d_Mo_pay_94 : decode prog_10_method_15_code 94 = .ok (.iaload, 1) := by decide +kernel
theorem d_Mo_pay_95 : decode prog_10_method_15_code 95 = .ok (.ifCond .le 15, 3) := by decide +kernel
theorem d_Mo_pay_98 : decode prog_10_method_15_code 98 = .ok (.aload_n 0, 1) := by decide +kernel
theorem d_Mo_pay_99 : decode prog_10_method_15_code 99 = .ok (.getfield 46, 3) := by decide +kernel
theorem d_Mo_pay_102 : decode prog_10_method_15_code 102 = .ok (.iload_n 3, 1) := by decide +kernel
theorem d_Mo_pay_103 : decode prog_10_method_15_code 103 = .ok (.aload_n 0, 1) := by decide +kernel
theorem d_Mo_pay_104 : decode prog_10_method_15_code 104 = .ok (.iload 5, 2) := by decide +kernel
theorem d_Mo_pay_106 : decode prog_10_method_15_code 106 = .ok (.invokevirtual 113, 3) := by decide +kernel
theorem d_Mo_pay_109 : decode prog_10_method_15_code 109 = .ok (.iastore, 1) := by decide +kernel
theorem d_Mo_pay_110 : decode prog_10_method_15_code 110 = .ok (.iinc 2 1, 3) := by decide +kernel
theorem d_Mo_pay_113 : decode prog_10_method_15_code 113 = .ok (.goto (-111), 3) := by decide +kernel
theorem d_Mo_pay_116 : decode prog_10_method_15_code 116 = .ok (.return_, 1) := by decide +kernel
end
section
abbrev m_Mo_turn : ac_I := (⟨"PairedGatesModel", "turn", "(I)V"⟩, prog_10_method_16_code, 4, none, [])
theorem d_Mo_turn_0 : decode prog_10_method_16_code 0 = .ok (.aload_n 0, 1) := by decide +kernel
theorem d_Mo_turn_1 : decode prog_10_method_16_code 1 = .ok (.getfield 117, 3) := by decide +kernel
theorem d_Mo_turn_4 : decode prog_10_method_16_code 4 = .ok (.istore_n 2, 1) := by decide +kernel
theorem d_Mo_turn_5 : decode prog_10_method_16_code 5 = .ok (.iconst 0, 1) := by decide +kernel
theorem d_Mo_turn_6 : decode prog_10_method_16_code 6 = .ok (.istore_n 3, 1) := by decide +kernel
theorem d_Mo_turn_7 : decode prog_10_method_16_code 7 = .ok (.iload_n 3, 1) := by decide +kernel
theorem d_Mo_turn_8 : decode prog_10_method_16_code 8 = .ok (.aload_n 0, 1) := by decide +kernel
theorem d_Mo_turn_9 : decode prog_10_method_16_code 9 = .ok (.getfield 34, 3) := by decide +kernel
theorem d_Mo_turn_12 : decode prog_10_method_16_code 12 = .ok (.iload_n 1, 1) := by decide +kernel
theorem d_Mo_turn_13 : decode prog_10_method_16_code 13 = .ok (.iaload, 1) := by decide +kernel
theorem d_Mo_turn_14 : decode prog_10_method_16_code 14 = .ok (.if_icmp .ge 32, 3) := by decide +kernel
theorem d_Mo_turn_17 : decode prog_10_method_16_code 17 = .ok (.iload_n 2, 1) := by decide +kernel
theorem d_Mo_turn_18 : decode prog_10_method_16_code 18 = .ok (.ifCond .ne 16, 3) := by decide +kernel
theorem d_Mo_turn_21 : decode prog_10_method_16_code 21 = .ok (.aload_n 0, 1) := by decide +kernel
theorem d_Mo_turn_22 : decode prog_10_method_16_code 22 = .ok (.getfield 46, 3) := by decide +kernel
theorem d_Mo_turn_25 : decode prog_10_method_16_code 25 = .ok (.iconst 5, 1) := by decide +kernel
theorem d_Mo_turn_26 : decode prog_10_method_16_code 26 = .ok (.iload_n 1, 1) := by decide +kernel
theorem d_Mo_turn_27 : decode prog_10_method_16_code 27 = .ok (.imul, 1) := by decide +kernel
theorem d_Mo_turn_28 : decode prog_10_method_16_code 28 = .ok (.iload_n 3, 1) := by decide +kernel
theorem d_Mo_turn_29 : decode prog_10_method_16_code 29 = .ok (.iadd, 1) := by decide +kernel
theorem d_Mo_turn_30 : decode prog_10_method_16_code 30 = .ok (.iaload, 1) := by decide +kernel
theorem d_Mo_turn_31 : decode prog_10_method_16_code 31 = .ok (.ifCond .lt 7, 3) := by decide +kernel
theorem d_Mo_turn_34 : decode prog_10_method_16_code 34 = .ok (.iconst 1, 1) := by decide +kernel
theorem d_Mo_turn_35 : decode prog_10_method_16_code 35 = .ok (.goto 4, 3) := by decide +kernel
theorem d_Mo_turn_38 : decode prog_10_method_16_code 38 = .ok (.iconst 0, 1) := by decide +kernel
theorem d_Mo_turn_39 : decode prog_10_method_16_code 39 = .ok (.istore_n 2, 1) := by decide +kernel
theorem d_Mo_turn_40 : decode prog_10_method_16_code 40 = .ok (.iinc 3 1, 3) := by decide +kernel
theorem d_Mo_turn_43 : decode prog_10_method_16_code 43 = .ok (.goto (-36), 3) := by decide +kernel
theorem d_Mo_turn_46 : decode prog_10_method_16_code 46 = .ok (.aload_n 0, 1) := by decide +kernel
theorem d_Mo_turn_47 : decode prog_10_method_16_code 47 = .ok (.getfield 19, 3) := by decide +kernel
theorem d_Mo_turn_50 : decode prog_10_method_16_code 50 = .ok (.iload_n 1, 1) := by decide +kernel
theorem d_Mo_turn_51 : decode prog_10_method_16_code 51 = .ok (.iaload, 1) := by decide +kernel
theorem d_Mo_turn_52 : decode prog_10_method_16_code 52 = .ok (.iconst 3, 1) := by decide +kernel
theorem d_Mo_turn_53 : decode prog_10_method_16_code 53 = .ok (.ishr, 1) := by decide +kernel
theorem d_Mo_turn_54 : decode prog_10_method_16_code 54 = .ok (.bipush 15, 2) := by decide +kernel
theorem d_Mo_turn_56 : decode prog_10_method_16_code 56 = .ok (.iand, 1) := by decide +kernel
theorem d_Mo_turn_57 : decode prog_10_method_16_code 57 = .ok (.ifCond .ne 7, 3) := by decide +kernel
theorem d_Mo_turn_60 : decode prog_10_method_16_code 60 = .ok (.iconst 1, 1) := by decide +kernel
theorem d_Mo_turn_61 : decode prog_10_method_16_code 61 = .ok (.goto 4, 3) := by decide +kernel
theorem d_Mo_turn_64 : decode prog_10_method_16_code 64 = .ok (.iconst 0, 1) := by decide +kernel
theorem d_Mo_turn_65 : decode prog_10_method_16_code 65 = .ok (.istore_n 3, 1) := by decide +kernel
theorem d_Mo_turn_66 : decode prog_10_method_16_code 66 = .ok (.aload_n 0, 1) := by decide +kernel
theorem d_Mo_turn_67 : decode prog_10_method_16_code 67 = .ok (.getfield 28, 3) := by decide +kernel
theorem d_Mo_turn_70 : decode prog_10_method_16_code 70 = .ok (.iload_n 1, 1) := by decide +kernel
theorem d_Mo_turn_71 : decode prog_10_method_16_code 71 = .ok (.iload_n 2, 1) := by decide +kernel
theorem d_Mo_turn_72 : decode prog_10_method_16_code 72 = .ok (.ifCond .eq 22, 3) := by decide +kernel
theorem d_Mo_turn_75 : decode prog_10_method_16_code 75 = .ok (.aload_n 0, 1) := by decide +kernel
theorem d_Mo_turn_76 : decode prog_10_method_16_code 76 = .ok (.getfield 25, 3) := by decide +kernel
theorem d_Mo_turn_79 : decode prog_10_method_16_code 79 = .ok (.iload_n 1, 1) := by decide +kernel
theorem d_Mo_turn_80 : decode prog_10_method_16_code 80 = .ok (.iaload, 1) := by decide +kernel
theorem d_Mo_turn_81 : decode prog_10_method_16_code 81 = .ok (.bipush 90, 2) := by decide +kernel
theorem d_Mo_turn_83 : decode prog_10_method_16_code 83 = .ok (.if_icmp .ge 7, 3) := by decide +kernel
theorem d_Mo_turn_86 : decode prog_10_method_16_code 86 = .ok (.iconst 2, 1) := by decide +kernel
theorem d_Mo_turn_87 : decode prog_10_method_16_code 87 = .ok (.goto 26, 3) := by decide +kernel
theorem d_Mo_turn_90 : decode prog_10_method_16_code 90 = .ok (.iconst 0, 1) := by decide +kernel
theorem d_Mo_turn_91 : decode prog_10_method_16_code 91 = .ok (.goto 22, 3) := by decide +kernel
theorem d_Mo_turn_94 : decode prog_10_method_16_code 94 = .ok (.aload_n 0, 1) := by decide +kernel
theorem d_Mo_turn_95 : decode prog_10_method_16_code 95 = .ok (.getfield 25, 3) := by decide +kernel
theorem d_Mo_turn_98 : decode prog_10_method_16_code 98 = .ok (.iload_n 1, 1) := by decide +kernel
theorem d_Mo_turn_99 : decode prog_10_method_16_code 99 = .ok (.iaload, 1) := by decide +kernel
theorem d_Mo_turn_100 : decode prog_10_method_16_code 100 = .ok (.ifCond .le 12, 3) := by decide +kernel
theorem d_Mo_turn_103 : decode prog_10_method_16_code 103 = .ok (.iload_n 3, 1) := by decide +kernel
theorem d_Mo_turn_104 : decode prog_10_method_16_code 104 = .ok (.ifCond .eq 8, 3) := by decide +kernel
theorem d_Mo_turn_107 : decode prog_10_method_16_code 107 = .ok (.bipush (-2), 2) := by decide +kernel
theorem d_Mo_turn_109 : decode prog_10_method_16_code 109 = .ok (.goto 4, 3) := by decide +kernel
theorem d_Mo_turn_112 : decode prog_10_method_16_code 112 = .ok (.iconst 0, 1) := by decide +kernel
theorem d_Mo_turn_113 : decode prog_10_method_16_code 113 = .ok (.iastore, 1) := by decide +kernel
theorem d_Mo_turn_114 : decode prog_10_method_16_code 114 = .ok (.aload_n 0, 1) := by decide +kernel
theorem d_Mo_turn_115 : decode prog_10_method_16_code 115 = .ok (.getfield 25, 3) := by decide +kernel
theorem d_Mo_turn_118 : decode prog_10_method_16_code 118 = .ok (.iload_n 1, 1) := by decide +kernel
theorem d_Mo_turn_119 : decode prog_10_method_16_code 119 = .ok (.aload_n 0, 1) := by decide +kernel
theorem d_Mo_turn_120 : decode prog_10_method_16_code 120 = .ok (.getfield 25, 3) := by decide +kernel
theorem d_Mo_turn_123 : decode prog_10_method_16_code 123 = .ok (.iload_n 1, 1) := by decide +kernel
theorem d_Mo_turn_124 : decode prog_10_method_16_code 124 = .ok (.iaload, 1) := by decide +kernel
theorem d_Mo_turn_125 : decode prog_10_method_16_code 125 = .ok (.aload_n 0, 1) := by decide +kernel
theorem d_Mo_turn_126 : decode prog_10_method_16_code 126 = .ok (.getfield 28, 3) := by decide +kernel
theorem d_Mo_turn_129 : decode prog_10_method_16_code 129 = .ok (.iload_n 1, 1) := by decide +kernel
theorem d_Mo_turn_130 : decode prog_10_method_16_code 130 = .ok (.iaload, 1) := by decide +kernel
theorem d_Mo_turn_131 : decode prog_10_method_16_code 131 = .ok (.iadd, 1) := by decide +kernel
theorem d_Mo_turn_132 : decode prog_10_method_16_code 132 = .ok (.iastore, 1) := by decide +kernel
theorem d_Mo_turn_133 : decode prog_10_method_16_code 133 = .ok (.return_, 1) := by decide +kernel
abbrev m_Mo_tick : ac_I := (⟨"PairedGatesModel", "tick", "(I)I"⟩, prog_10_method_17_code, 4, (some (.int)), [])
theorem d_Mo_tick_0 : decode prog_10_method_17_code 0 = .ok (.iconst 0, 1) := by decide +kernel
theorem d_Mo_tick_1 : decode prog_10_method_17_code 1 = .ok (.istore_n 2, 1) := by decide +kernel
theorem d_Mo_tick_2 : decode prog_10_method_17_code 2 = .ok (.iload_n 2, 1) := by decide +kernel
theorem d_Mo_tick_3 : decode prog_10_method_17_code 3 = .ok (.iconst 2, 1) := by decide +kernel
theorem d_Mo_tick_4 : decode prog_10_method_17_code 4 = .ok (.if_icmp .ge 56, 3) := by decide +kernel
theorem d_Mo_tick_7 : decode prog_10_method_17_code 7 = .ok (.iconst 2, 1) := by decide +kernel
theorem d_Mo_tick_8 : decode prog_10_method_17_code 8 = .ok (.iload_n 1, 1) := by decide +kernel
theorem d_Mo_tick_9 : decode prog_10_method_17_code 9 = .ok (.imul, 1) := by decide +kernel
theorem d_Mo_tick_10 : decode prog_10_method_17_code 10 = .ok (.iload_n 2, 1) := by decide +kernel
theorem d_Mo_tick_11 : decode prog_10_method_17_code 11 = .ok (.iadd, 1) := by decide +kernel
theorem d_Mo_tick_12 : decode prog_10_method_17_code 12 = .ok (.istore_n 3, 1) := by decide +kernel
theorem d_Mo_tick_13 : decode prog_10_method_17_code 13 = .ok (.aload_n 0, 1) := by decide +kernel
theorem d_Mo_tick_14 : decode prog_10_method_17_code 14 = .ok (.getfield 67, 3) := by decide +kernel
theorem d_Mo_tick_17 : decode prog_10_method_17_code 17 = .ok (.iload_n 3, 1) := by decide +kernel
theorem d_Mo_tick_18 : decode prog_10_method_17_code 18 = .ok (.iaload, 1) := by decide +kernel
theorem d_Mo_tick_19 : decode prog_10_method_17_code 19 = .ok (.ifCond .le 35, 3) := by decide +kernel
theorem d_Mo_tick_22 : decode prog_10_method_17_code 22 = .ok (.aload_n 0, 1) := by decide +kernel
theorem d_Mo_tick_23 : decode prog_10_method_17_code 23 = .ok (.getfield 121, 3) := by decide +kernel
theorem d_Mo_tick_26 : decode prog_10_method_17_code 26 = .ok (.aload_n 0, 1) := by decide +kernel
theorem d_Mo_tick_27 : decode prog_10_method_17_code 27 = .ok (.getfield 73, 3) := by decide +kernel
theorem d_Mo_tick_30 : decode prog_10_method_17_code 30 = .ok (.bipush 6, 2) := by decide +kernel
theorem d_Mo_tick_32 : decode prog_10_method_17_code 32 = .ok (.iload_n 3, 1) := by decide +kernel
theorem d_Mo_tick_33 : decode prog_10_method_17_code 33 = .ok (.imul, 1) := by decide +kernel
theorem d_Mo_tick_34 : decode prog_10_method_17_code 34 = .ok (.iaload, 1) := by decide +kernel
theorem d_Mo_tick_35 : decode prog_10_method_17_code 35 = .ok (.isub, 1) := by decide +kernel
theorem d_Mo_tick_36 : decode prog_10_method_17_code 36 = .ok (.sipush 200, 3) := by decide +kernel
theorem d_Mo_tick_39 : decode prog_10_method_17_code 39 = .ok (.if_icmp .lt 15, 3) := by decide +kernel
theorem d_Mo_tick_42 : decode prog_10_method_17_code 42 = .ok (.aload_n 0, 1) := by decide +kernel
theorem d_Mo_tick_43 : decode prog_10_method_17_code 43 = .ok (.aload_n 0, 1) := by decide +kernel
theorem d_Mo_tick_44 : decode prog_10_method_17_code 44 = .ok (.iload_n 3, 1) := by decide +kernel
theorem d_Mo_tick_45 : decode prog_10_method_17_code 45 = .ok (.invokevirtual 113, 3) := by decide +kernel
theorem d_Mo_tick_48 : decode prog_10_method_17_code 48 = .ok (.invokevirtual 95, 3) := by decide +kernel
theorem d_Mo_tick_51 : decode prog_10_method_17_code 51 = .ok (.goto (-38), 3) := by decide +kernel
theorem d_Mo_tick_54 : decode prog_10_method_17_code 54 = .ok (.iinc 2 1, 3) := by decide +kernel
theorem d_Mo_tick_57 : decode prog_10_method_17_code 57 = .ok (.goto (-55), 3) := by decide +kernel
theorem d_Mo_tick_60 : decode prog_10_method_17_code 60 = .ok (.aload_n 0, 1) := by decide +kernel
theorem d_Mo_tick_61 : decode prog_10_method_17_code 61 = .ok (.iload_n 1, 1) := by decide +kernel
theorem d_Mo_tick_62 : decode prog_10_method_17_code 62 = .ok (.invokevirtual 124, 3) := by decide +kernel
theorem d_Mo_tick_65 : decode prog_10_method_17_code 65 = .ok (.aload_n 0, 1) := by decide +kernel
theorem d_Mo_tick_66 : decode prog_10_method_17_code 66 = .ok (.iload_n 1, 1) := by decide +kernel
theorem d_Mo_tick_67 : decode prog_10_method_17_code 67 = .ok (.invokevirtual 127, 3) := by decide +kernel
theorem d_Mo_tick_70 : decode prog_10_method_17_code 70 = .ok (.istore_n 2, 1) := by decide +kernel
theorem d_Mo_tick_71 : decode prog_10_method_17_code 71 = .ok (.iconst 0, 1) := by decide +kernel
theorem d_Mo_tick_72 : decode prog_10_method_17_code 72 = .ok (.istore_n 3, 1) := by decide +kernel
theorem d_Mo_tick_73 : decode prog_10_method_17_code 73 = .ok (.iload_n 3, 1) := by decide +kernel
theorem d_Mo_tick_74 : decode prog_10_method_17_code 74 = .ok (.aload_n 0, 1) := by decide +kernel
theorem d_Mo_tick_75 : decode prog_10_method_17_code 75 = .ok (.getfield 92, 3) := by decide +kernel
theorem d_Mo_tick_78 : decode prog_10_method_17_code 78 = .ok (.if_icmp .ge 15, 3) := by decide +kernel
theorem d_Mo_tick_81 : decode prog_10_method_17_code 81 = .ok (.aload_n 0, 1) := by decide +kernel
theorem d_Mo_tick_82 : decode prog_10_method_17_code 82 = .ok (.iload_n 1, 1) := by decide +kernel
theorem d_Mo_tick_83 : decode prog_10_method_17_code 83 = .ok (.iload_n 3, 1) := by decide +kernel
theorem d_Mo_tick_84 : decode prog_10_method_17_code 84 = .ok (.invokevirtual 130, 3) := by decide +kernel
theorem d_Mo_tick_87 : decode prog_10_method_17_code 87 = .ok (.iinc 3 1, 3) := by decide +kernel
theorem d_Mo_tick_90 : decode prog_10_method_17_code 90 = .ok (.goto (-17), 3) := by decide +kernel
theorem d_Mo_tick_93 : decode prog_10_method_17_code 93 = .ok (.aload_n 0, 1) := by decide +kernel
theorem d_Mo_tick_94 : decode prog_10_method_17_code 94 = .ok (.iload_n 1, 1) := by decide +kernel
theorem d_Mo_tick_95 : decode prog_10_method_17_code 95 = .ok (.invokevirtual 133, 3) := by decide +kernel
theorem d_Mo_tick_98 : decode prog_10_method_17_code 98 = .ok (.aload_n 0, 1) := by decide +kernel
theorem d_Mo_tick_99 : decode prog_10_method_17_code 99 = .ok (.iload_n 1, 1) := by decide +kernel
theorem d_Mo_tick_100 : decode prog_10_method_17_code 100 = .ok (.invokevirtual 136, 3) := by decide +kernel
theorem d_Mo_tick_103 : decode prog_10_method_17_code 103 = .ok (.iload_n 2, 1) := by decide +kernel
theorem d_Mo_tick_104 : decode prog_10_method_17_code 104 = .ok (.ireturn, 1) := by decide +kernel
abbrev m_Mo_beams : ac_I := (⟨"PairedGatesModel", "beams", "(II)V"⟩, prog_10_method_18_code, 3, none, [])
theorem d_Mo_beams_0 : decode prog_10_method_18_code 0 = .ok (.aload_n 0, 1) := by decide +kernel
theorem d_Mo_beams_1 : decode prog_10_method_18_code 1 = .ok (.iload_n 1, 1) := by decide +kernel
theorem d_Mo_beams_2 : decode prog_10_method_18_code 2 = .ok (.invokestatic 139, 3) := by decide +kernel
theorem d_Mo_beams_5 : decode prog_10_method_18_code 5 = .ok (.ifCond .eq 7, 3) := by decide +kernel
theorem d_Mo_beams_8 : decode prog_10_method_18_code 8 = .ok (.iconst 0, 1) := by decide +kernel
theorem d_Mo_beams_9 : decode prog_10_method_18_code 9 = .ok (.goto 4, 3) := by decide +kernel
theorem d_Mo_beams_12 : decode prog_10_method_18_code 12 = .ok (.iconst 1, 1) := by decide +kernel
theorem d_Mo_beams_13 : decode prog_10_method_18_code 13 = .ok (.invokevirtual 143, 3) := by decide +kernel
theorem d_Mo_beams_16 : decode prog_10_method_18_code 16 = .ok (.ifCond .ne 14, 3) := by decide +kernel
theorem d_Mo_beams_19 : decode prog_10_method_18_code 19 = .ok (.aload_n 0, 1) := by decide +kernel
theorem d_Mo_beams_20 : decode prog_10_method_18_code 20 = .ok (.getfield 7, 3) := by decide +kernel
theorem d_Mo_beams_23 : decode prog_10_method_18_code 23 = .ok (.iload_n 1, 1) := by decide +kernel
theorem d_Mo_beams_24 : decode prog_10_method_18_code 24 = .ok (.iload_n 2, 1) := by decide +kernel
theorem d_Mo_beams_25 : decode prog_10_method_18_code 25 = .ok (.sipush 1023, 3) := by decide +kernel
theorem d_Mo_beams_28 : decode prog_10_method_18_code 28 = .ok (.iand, 1) := by decide +kernel
theorem d_Mo_beams_29 : decode prog_10_method_18_code 29 = .ok (.iastore, 1) := by decide +kernel
theorem d_Mo_beams_30 : decode prog_10_method_18_code 30 = .ok (.return_, 1) := by decide +kernel
abbrev m_Mo_ticks : ac_I := (⟨"PairedGatesModel", "ticks", "(I)I"⟩, prog_10_method_19_code, 4, (some (.int)), [])
theorem d_Mo_ticks_0 : decode prog_10_method_19_code 0 = .ok (.aload_n 0, 1) := by decide +kernel
theorem d_Mo_ticks_1 : decode prog_10_method_19_code 1 = .ok (.iload_n 1, 1) := by decide +kernel
theorem d_Mo_ticks_2 : decode prog_10_method_19_code 2 = .ok (.iconst 1, 1) := by decide +kernel
theorem d_Mo_ticks_3 : decode prog_10_method_19_code 3 = .ok (.if_icmp .lt 10, 3) := by decide +kernel
theorem d_Mo_ticks_6 : decode prog_10_method_19_code 6 = .ok (.iload_n 1, 1) := by decide +kernel
theorem d_Mo_ticks_7 : decode prog_10_method_19_code 7 = .ok (.sipush 300, 3) := by decide +kernel
theorem d_Mo_ticks_10 : decode prog_10_method_19_code 10 = .ok (.if_icmp .le 7, 3) := by decide +kernel
theorem d_Mo_ticks_13 : decode prog_10_method_19_code 13 = .ok (.iconst 1, 1) := by decide +kernel
theorem d_Mo_ticks_14 : decode prog_10_method_19_code 14 = .ok (.goto 4, 3) := by decide +kernel
theorem d_Mo_ticks_17 : decode prog_10_method_19_code 17 = .ok (.iconst 0, 1) := by decide +kernel
theorem d_Mo_ticks_18 : decode prog_10_method_19_code 18 = .ok (.invokevirtual 143, 3) := by decide +kernel
theorem d_Mo_ticks_21 : decode prog_10_method_19_code 21 = .ok (.ifCond .eq 5, 3) := by decide +kernel
theorem d_Mo_ticks_24 : decode prog_10_method_19_code 24 = .ok (.iconst 0, 1) := by decide +kernel
theorem d_Mo_ticks_25 : decode prog_10_method_19_code 25 = .ok (.ireturn, 1) := by decide +kernel
theorem d_Mo_ticks_26 : decode prog_10_method_19_code 26 = .ok (.iconst 0, 1) := by decide +kernel
theorem d_Mo_ticks_27 : decode prog_10_method_19_code 27 = .ok (.istore_n 2, 1) := by decide +kernel
theorem d_Mo_ticks_28 : decode prog_10_method_19_code 28 = .ok (.iconst 0, 1) := by decide +kernel
theorem d_Mo_ticks_29 : decode prog_10_method_19_code 29 = .ok (.istore_n 3, 1) := by decide +kernel
theorem d_Mo_ticks_30 : decode prog_10_method_19_code 30 = .ok (.iload_n 3, 1) := by decide +kernel
theorem d_Mo_ticks_31 : decode prog_10_method_19_code 31 = .ok (.iload_n 1, 1) := by decide +kernel
theorem d_Mo_ticks_32 : decode prog_10_method_19_code 32 = .ok (.if_icmp .ge 35, 3) := by decide +kernel
theorem d_Mo_ticks_35 : decode prog_10_method_19_code 35 = .ok (.aload_n 0, 1) := by decide +kernel
theorem d_Mo_ticks_36 : decode prog_10_method_19_code 36 = .ok (.dup, 1) := by decide +kernel
theorem d_Mo_ticks_37 : decode prog_10_method_19_code 37 = .ok (.getfield 121, 3) := by decide +kernel
theorem d_Mo_ticks_40 : decode prog_10_method_19_code 40 = .ok (.iconst 1, 1) := by decide +kernel
theorem d_Mo_ticks_41 : decode prog_10_method_19_code 41 = .ok (.iadd, 1) := by decide +kernel
theorem d_Mo_ticks_42 : decode prog_10_method_19_code 42 = .ok (.putfield 121, 3) := by decide +kernel
theorem d_Mo_ticks_45 : decode prog_10_method_19_code 45 = .ok (.iload_n 2, 1) := by decide +kernel
theorem d_Mo_ticks_46 : decode prog_10_method_19_code 46 = .ok (.aload_n 0, 1) := by decide +kernel
theorem d_Mo_ticks_47 : decode prog_10_method_19_code 47 = .ok (.iconst 0, 1) := by decide +kernel
theorem d_Mo_ticks_48 : decode prog_10_method_19_code 48 = .ok (.invokevirtual 146, 3) := by decide +kernel
theorem d_Mo_ticks_51 : decode prog_10_method_19_code 51 = .ok (.iadd, 1) := by decide +kernel
theorem d_Mo_ticks_52 : decode prog_10_method_19_code 52 = .ok (.istore_n 2, 1) := by decide +kernel
theorem d_Mo_ticks_53 : decode prog_10_method_19_code 53 = .ok (.iload_n 2, 1) := by decide +kernel
theorem d_Mo_ticks_54 : decode prog_10_method_19_code 54 = .ok (.aload_n 0, 1) := by decide +kernel
theorem d_Mo_ticks_55 : decode prog_10_method_19_code 55 = .ok (.iconst 1, 1) := by decide +kernel
theorem d_Mo_ticks_56 : decode prog_10_method_19_code 56 = .ok (.invokevirtual 146, 3) := by decide +kernel
theorem d_Mo_ticks_59 : decode prog_10_method_19_code 59 = .ok (.iadd, 1) := by decide +kernel
theorem d_Mo_ticks_60 : decode prog_10_method_19_code 60 = .ok (.istore_n 2, 1) := by decide +kernel
theorem d_Mo_ticks_61 : decode prog_10_method_19_code 61 = .ok (.iinc 3 1, 3) := by decide +kernel
theorem d_Mo_ticks_64 : decode prog_10_method_19_code 64 = .ok (.goto (-34), 3) := by decide +kernel
theorem d_Mo_ticks_67 : decode prog_10_method_19_code 67 = .ok (.iload_n 2, 1) := by decide +kernel
theorem d_Mo_ticks_68 : decode prog_10_method_19_code 68 = .ok (.ireturn, 1) := by decide +kernel
abbrev m_Mo_isRepeated : ac_I := (⟨"PairedGatesModel", "isRepeated", "(I)Z"⟩, prog_10_method_20_code, 4, (some (.boolean)), [])
theorem d_Mo_isRepeated_0 : decode prog_10_method_20_code 0 = .ok (.iconst 0, 1) := by decide +kernel
theorem d_Mo_isRepeated_1 : decode prog_10_method_20_code 1 = .ok (.istore_n 2, 1) := by decide +kernel
theorem d_Mo_isRepeated_2 : decode prog_10_method_20_code 2 = .ok (.iconst 0, 1) := by decide +kernel
theorem d_Mo_isRepeated_3 : decode prog_10_method_20_code 3 = .ok (.istore_n 3, 1) := by decide +kernel
theorem d_Mo_isRepeated_4 : decode prog_10_method_20_code 4 = .ok (.iload_n 3, 1) := by decide +kernel
theorem d_Mo_isRepeated_5 : decode prog_10_method_20_code 5 = .ok (.aload_n 0, 1) := by decide +kernel
theorem d_Mo_isRepeated_6 : decode prog_10_method_20_code 6 = .ok (.getfield 149, 3) := by decide +kernel
theorem d_Mo_isRepeated_9 : decode prog_10_method_20_code 9 = .ok (.if_icmp .ge 46, 3) := by decide +kernel
theorem d_Mo_isRepeated_12 : decode prog_10_method_20_code 12 = .ok (.iload_n 2, 1) := by decide +kernel
theorem d_Mo_isRepeated_13 : decode prog_10_method_20_code 13 = .ok (.ifCond .ne 30, 3) := by decide +kernel
theorem d_Mo_isRepeated_16 : decode prog_10_method_20_code 16 = .ok (.aload_n 0, 1) := by decide +kernel
theorem d_Mo_isRepeated_17 : decode prog_10_method_20_code 17 = .ok (.getfield 76, 3) := by decide +kernel
theorem d_Mo_isRepeated_20 : decode prog_10_method_20_code 20 = .ok (.iload_n 3, 1) := by decide +kernel
theorem d_Mo_isRepeated_21 : decode prog_10_method_20_code 21 = .ok (.iaload, 1) := by decide +kernel
theorem d_Mo_isRepeated_22 : decode prog_10_method_20_code 22 = .ok (.iload_n 1, 1) := by decide +kernel
theorem d_Mo_isRepeated_23 : decode prog_10_method_20_code 23 = .ok (.if_icmp .ne 24, 3) := by decide +kernel
theorem d_Mo_isRepeated_26 : decode prog_10_method_20_code 26 = .ok (.aload_n 0, 1) := by decide +kernel
theorem d_Mo_isRepeated_27 : decode prog_10_method_20_code 27 = .ok (.getfield 121, 3) := by decide +kernel
theorem d_Mo_isRepeated_30 : decode prog_10_method_20_code 30 = .ok (.aload_n 0, 1) := by decide +kernel
theorem d_Mo_isRepeated_31 : decode prog_10_method_20_code 31 = .ok (.getfield 79, 3) := by decide +kernel
theorem d_Mo_isRepeated_34 : decode prog_10_method_20_code 34 = .ok (.iload_n 3, 1) := by decide +kernel
theorem d_Mo_isRepeated_35 : decode prog_10_method_20_code 35 = .ok (.iaload, 1) := by decide +kernel
theorem d_Mo_isRepeated_36 : decode prog_10_method_20_code 36 = .ok (.isub, 1) := by decide +kernel
theorem d_Mo_isRepeated_37 : decode prog_10_method_20_code 37 = .ok (.sipush 300, 3) := by decide +kernel
theorem d_Mo_isRepeated_40 : decode prog_10_method_20_code 40 = .ok (.if_icmp .ge 7, 3) := by decide +kernel
theorem d_Mo_isRepeated_43 : decode prog_10_method_20_code 43 = .ok (.iconst 1, 1) := by decide +kernel
theorem d_Mo_isRepeated_44 : decode prog_10_method_20_code 44 = .ok (.goto 4, 3) := by decide +kernel
theorem d_Mo_isRepeated_47 : decode prog_10_method_20_code 47 = .ok (.iconst 0, 1) := by decide +kernel
theorem d_Mo_isRepeated_48 : decode prog_10_method_20_code 48 = .ok (.istore_n 2, 1) := by decide +kernel
theorem d_Mo_isRepeated_49 : decode prog_10_method_20_code 49 = .ok (.iinc 3 1, 3) := by decide +kernel
theorem d_Mo_isRepeated_52 : decode prog_10_method_20_code 52 = .ok (.goto (-48), 3) := by decide +kernel
theorem d_Mo_isRepeated_55 : decode prog_10_method_20_code 55 = .ok (.iload_n 2, 1) := by decide +kernel
theorem d_Mo_isRepeated_56 : decode prog_10_method_20_code 56 = .ok (.ireturn, 1) := by decide +kernel
abbrev m_Mo_token : ac_I := (⟨"PairedGatesModel", "token", "(III)I"⟩, prog_10_method_21_code, 6, (some (.int)), [])
theorem d_Mo_token_0 : decode prog_10_method_21_code 0 = .ok (.iload_n 1, 1) := by decide +kernel
theorem d_Mo_token_1 : decode prog_10_method_21_code 1 = .ok (.invokestatic 139, 3) := by decide +kernel
theorem d_Mo_token_4 : decode prog_10_method_21_code 4 = .ok (.ifCond .eq 14, 3) := by decide +kernel
theorem d_Mo_token_7 : decode prog_10_method_21_code 7 = .ok (.iload_n 2, 1) := by decide +kernel
theorem d_Mo_token_8 : decode prog_10_method_21_code 8 = .ok (.invokestatic 139, 3) := by decide +kernel
theorem d_Mo_token_11 : decode prog_10_method_21_code 11 = .ok (.ifCond .eq 7, 3) := by decide +kernel
theorem d_Mo_token_14 : decode prog_10_method_21_code 14 = .ok (.iconst 1, 1) := by decide +kernel
theorem d_Mo_token_15 : decode prog_10_method_21_code 15 = .ok (.goto 4, 3) := by decide +kernel
theorem d_Mo_token_18 : decode prog_10_method_21_code 18 = .ok (.iconst 0, 1) := by decide +kernel
theorem d_Mo_token_19 : decode prog_10_method_21_code 19 = .ok (.istore 4, 2) := by decide +kernel
theorem d_Mo_token_21 : decode prog_10_method_21_code 21 = .ok (.aload_n 0, 1) := by decide +kernel
theorem d_Mo_token_22 : decode prog_10_method_21_code 22 = .ok (.iload 4, 2) := by decide +kernel
theorem d_Mo_token_24 : decode prog_10_method_21_code 24 = .ok (.ifCond .ne 7, 3) := by decide +kernel
theorem d_Mo_token_27 : decode prog_10_method_21_code 27 = .ok (.iconst 1, 1) := by decide +kernel
theorem d_Mo_token_28 : decode prog_10_method_21_code 28 = .ok (.goto 12, 3) := by decide +kernel
theorem d_Mo_token_31 : decode prog_10_method_21_code 31 = .ok (.iload_n 3, 1) := by decide +kernel
theorem d_Mo_token_32 : decode prog_10_method_21_code 32 = .ok (.ifCond .ge 7, 3) := by decide +kernel
theorem d_Mo_token_35 : decode prog_10_method_21_code 35 = .ok (.iconst 2, 1) := by decide +kernel
theorem d_Mo_token_36 : decode prog_10_method_21_code 36 = .ok (.goto 4, 3) := by decide +kernel
theorem d_Mo_token_39 : decode prog_10_method_21_code 39 = .ok (.iconst 0, 1) := by decide +kernel
theorem d_Mo_token_40 : decode prog_10_method_21_code 40 = .ok (.invokevirtual 143, 3) := by decide +kernel
theorem d_Mo_token_43 : decode prog_10_method_21_code 43 = .ok (.ifCond .eq 5, 3) := by decide +kernel
theorem d_Mo_token_46 : decode prog_10_method_21_code 46 = .ok (.iconst 0, 1) := by decide +kernel
theorem d_Mo_token_47 : decode prog_10_method_21_code 47 = .ok (.ireturn, 1) := by decide +kernel
theorem d_Mo_token_48 : decode prog_10_method_21_code 48 = .ok (.iconst 2, 1) := by decide +kernel
theorem d_Mo_token_49 : decode prog_10_method_21_code 49 = .ok (.iload_n 1, 1) := by decide +kernel
theorem d_Mo_token_50 : decode prog_10_method_21_code 50 = .ok (.imul, 1) := by decide +kernel
theorem d_Mo_token_51 : decode prog_10_method_21_code 51 = .ok (.iload_n 2, 1) := by decide +kernel
theorem d_Mo_token_52 : decode prog_10_method_21_code 52 = .ok (.iadd, 1) := by decide +kernel
theorem d_Mo_token_53 : decode prog_10_method_21_code 53 = .ok (.istore 5, 2) := by decide +kernel
theorem d_Mo_token_55 : decode prog_10_method_21_code 55 = .ok (.aload_n 0, 1) := by decide +kernel
theorem d_Mo_token_56 : decode prog_10_method_21_code 56 = .ok (.iload_n 1, 1) := by decide +kernel
theorem d_Mo_token_57 : decode prog_10_method_21_code 57 = .ok (.iload_n 2, 1) := by decide +kernel
theorem d_Mo_token_58 : decode prog_10_method_21_code 58 = .ok (.invokevirtual 152, 3) := by decide +kernel
theorem d_Mo_token_61 : decode prog_10_method_21_code 61 = .ok (.ifCond .ne 5, 3) := by decide +kernel
theorem d_Mo_token_64 : decode prog_10_method_21_code 64 = .ok (.iconst 1, 1) := by decide +kernel
theorem d_Mo_token_65 : decode prog_10_method_21_code 65 = .ok (.ireturn, 1) := by decide +kernel
theorem d_Mo_token_66 : decode prog_10_method_21_code 66 = .ok (.aload_n 0, 1) := by decide +kernel
theorem d_Mo_token_67 : decode prog_10_method_21_code 67 = .ok (.iload_n 3, 1) := by decide +kernel
theorem d_Mo_token_68 : decode prog_10_method_21_code 68 = .ok (.invokevirtual 156, 3) := by decide +kernel
theorem d_Mo_token_71 : decode prog_10_method_21_code 71 = .ok (.ifCond .eq 5, 3) := by decide +kernel
theorem d_Mo_token_74 : decode prog_10_method_21_code 74 = .ok (.iconst 3, 1) := by decide +kernel
theorem d_Mo_token_75 : decode prog_10_method_21_code 75 = .ok (.ireturn, 1) := by decide +kernel
theorem d_Mo_token_76 : decode prog_10_method_21_code 76 = .ok (.aload_n 0, 1) := by decide +kernel
theorem d_Mo_token_77 : decode prog_10_method_21_code 77 = .ok (.getfield 67, 3) := by decide +kernel
theorem d_Mo_token_80 : decode prog_10_method_21_code 80 = .ok (.iload 5, 2) := by decide +kernel
theorem d_Mo_token_82 : decode prog_10_method_21_code 82 = .ok (.iaload, 1) := by decide +kernel
theorem d_Mo_token_83 : decode prog_10_method_21_code 83 = .ok (.bipush 6, 2) := by decide +kernel
theorem d_Mo_token_85 : decode prog_10_method_21_code 85 = .ok (.if_icmp .ne 5, 3) := by decide +kernel
theorem d_Mo_token_88 : decode prog_10_method_21_code 88 = .ok (.iconst 2, 1) := by decide +kernel
theorem d_Mo_token_89 : decode prog_10_method_21_code 89 = .ok (.ireturn, 1) := by decide +kernel
theorem d_Mo_token_90 : decode prog_10_method_21_code 90 = .ok (.aload_n 0, 1) := by decide +kernel
theorem d_Mo_token_91 : decode prog_10_method_21_code 91 = .ok (.getfield 70, 3) := by decide +kernel
theorem d_Mo_token_94 : decode prog_10_method_21_code 94 = .ok (.bipush 6, 2) := by decide +kernel
theorem d_Mo_token_96 : decode prog_10_method_21_code 96 = .ok (.iload 5, 2) := by decide +kernel
theorem d_Mo_token_98 : decode prog_10_method_21_code 98 = .ok (.imul, 1) := by decide +kernel
theorem d_Mo_token_99 : decode prog_10_method_21_code 99 = .ok (.aload_n 0, 1) := by decide +kernel
theorem d_Mo_token_100 : decode prog_10_method_21_code 100 = .ok (.getfield 67, 3) := by decide +kernel
theorem d_Mo_token_103 : decode prog_10_method_21_code 103 = .ok (.iload 5, 2) := by decide +kernel
theorem d_Mo_token_105 : decode prog_10_method_21_code 105 = .ok (.iaload, 1) := by decide +kernel
theorem d_Mo_token_106 : decode prog_10_method_21_code 106 = .ok (.iadd, 1) := by decide +kernel
theorem d_Mo_token_107 : decode prog_10_method_21_code 107 = .ok (.iload_n 3, 1) := by decide +kernel
theorem d_Mo_token_108 : decode prog_10_method_21_code 108 = .ok (.iastore, 1) := by decide +kernel
theorem d_Mo_token_109 : decode prog_10_method_21_code 109 = .ok (.aload_n 0, 1) := by decide +kernel
theorem d_Mo_token_110 : decode prog_10_method_21_code 110 = .ok (.getfield 73, 3) := by decide +kernel
theorem d_Mo_token_113 : decode prog_10_method_21_code 113 = .ok (.bipush 6, 2) := by decide +kernel
theorem d_Mo_token_115 : decode prog_10_method_21_code 115 = .ok (.iload 5, 2) := by decide +kernel
theorem d_Mo_token_117 : decode prog_10_method_21_code 117 = .ok (.imul, 1) := by decide +kernel
theorem d_Mo_token_118 : decode prog_10_method_21_code 118 = .ok (.aload_n 0, 1) := by decide +kernel
theorem d_Mo_token_119 : decode prog_10_method_21_code 119 = .ok (.getfield 67, 3) := by decide +kernel
theorem d_Mo_token_122 : decode prog_10_method_21_code 122 = .ok (.iload 5, 2) := by decide +kernel
theorem d_Mo_token_124 : decode prog_10_method_21_code 124 = .ok (.iaload, 1) := by decide +kernel
theorem d_Mo_token_125 : decode prog_10_method_21_code 125 = .ok (.iadd, 1) := by decide +kernel
theorem d_Mo_token_126 : decode prog_10_method_21_code 126 = .ok (.aload_n 0, 1) := by decide +kernel
theorem d_Mo_token_127 : decode prog_10_method_21_code 127 = .ok (.getfield 121, 3) := by decide +kernel
theorem d_Mo_token_130 : decode prog_10_method_21_code 130 = .ok (.iastore, 1) := by decide +kernel
theorem d_Mo_token_131 : decode prog_10_method_21_code 131 = .ok (.aload_n 0, 1) := by decide +kernel
theorem d_Mo_token_132 : decode prog_10_method_21_code 132 = .ok (.getfield 67, 3) := by decide +kernel
theorem d_Mo_token_135 : decode prog_10_method_21_code 135 = .ok (.iload 5, 2) := by decide +kernel
theorem d_Mo_token_137 : decode prog_10_method_21_code 137 = .ok (.dup2, 1) := by decide +kernel
theorem d_Mo_token_138 : decode prog_10_method_21_code 138 = .ok (.iaload, 1) := by decide +kernel
theorem d_Mo_token_139 : decode prog_10_method_21_code 139 = .ok (.iconst 1, 1) := by decide +kernel
theorem d_Mo_token_140 : decode prog_10_method_21_code 140 = .ok (.iadd, 1) := by decide +kernel
theorem d_Mo_token_141 : decode prog_10_method_21_code 141 = .ok (.iastore, 1) := by decide +kernel
theorem d_Mo_token_142 : decode prog_10_method_21_code 142 = .ok (.aload_n 0, 1) := by decide +kernel
theorem d_Mo_token_143 : decode prog_10_method_21_code 143 = .ok (.getfield 76, 3) := by decide +kernel
theorem d_Mo_token_146 : decode prog_10_method_21_code 146 = .ok (.aload_n 0, 1) := by decide +kernel
theorem d_Mo_token_147 : decode prog_10_method_21_code 147 = .ok (.getfield 149, 3) := by decide +kernel
theorem d_Mo_token_150 : decode prog_10_method_21_code 150 = .ok (.iload_n 3, 1) := by decide +kernel
theorem d_Mo_token_151 : decode prog_10_method_21_code 151 = .ok (.iastore, 1) := by decide +kernel
theorem d_Mo_token_152 : decode prog_10_method_21_code 152 = .ok (.aload_n 0, 1) := by decide +kernel
theorem d_Mo_token_153 : decode prog_10_method_21_code 153 = .ok (.getfield 79, 3) := by decide +kernel
theorem d_Mo_token_156 : decode prog_10_method_21_code 156 = .ok (.aload_n 0, 1) := by decide +kernel
theorem d_Mo_token_157 : decode prog_10_method_21_code 157 = .ok (.getfield 149, 3) := by decide +kernel
theorem d_Mo_token_160 : decode prog_10_method_21_code 160 = .ok (.aload_n 0, 1) := by decide +kernel
theorem d_Mo_token_161 : decode prog_10_method_21_code 161 = .ok (.getfield 121, 3) := by decide +kernel
theorem d_Mo_token_164 : decode prog_10_method_21_code 164 = .ok (.iastore, 1) := by decide +kernel
theorem d_Mo_token_165 : decode prog_10_method_21_code 165 = .ok (.aload_n 0, 1) := by decide +kernel
theorem d_Mo_token_166 : decode prog_10_method_21_code 166 = .ok (.dup, 1) := by decide +kernel
theorem d_Mo_token_167 : decode prog_10_method_21_code 167 = .ok (.getfield 149, 3) := by decide +kernel
theorem d_Mo_token_170 : decode prog_10_method_21_code 170 = .ok (.iconst 1, 1) := by decide +kernel
theorem d_Mo_token_171 : decode prog_10_method_21_code 171 = .ok (.iadd, 1) := by decide +kernel
theorem d_Mo_token_172 : decode prog_10_method_21_code 172 = .ok (.putfield 149, 3) := by decide +kernel
theorem d_Mo_token_175 : decode prog_10_method_21_code 175 = .ok (.iconst 0, 1) := by decide +kernel
theorem d_Mo_token_176 : decode prog_10_method_21_code 176 = .ok (.ireturn, 1) := by decide +kernel
abbrev m_Mo_cancel : ac_I := (⟨"PairedGatesModel", "cancel", "(II)I"⟩, prog_10_method_22_code, 5, (some (.int)), [])
theorem d_Mo_cancel_0 : decode prog_10_method_22_code 0 = .ok (.aload_n 0, 1) := by decide +kernel
theorem d_Mo_cancel_1 : decode prog_10_method_22_code 1 = .ok (.iload_n 1, 1) := by decide +kernel
theorem d_Mo_cancel_2 : decode prog_10_method_22_code 2 = .ok (.invokestatic 139, 3) := by decide +kernel
theorem d_Mo_cancel_5 : decode prog_10_method_22_code 5 = .ok (.ifCond .eq 14, 3) := by decide +kernel
theorem d_Mo_cancel_8 : decode prog_10_method_22_code 8 = .ok (.iload_n 2, 1) := by decide +kernel
theorem d_Mo_cancel_9 : decode prog_10_method_22_code 9 = .ok (.invokestatic 139, 3) := by decide +kernel
theorem d_Mo_cancel_12 : decode prog_10_method_22_code 12 = .ok (.ifCond .eq 7, 3) := by decide +kernel
theorem d_Mo_cancel_15 : decode prog_10_method_22_code 15 = .ok (.iconst 0, 1) := by decide +kernel
theorem d_Mo_cancel_16 : decode prog_10_method_22_code 16 = .ok (.goto 4, 3) := by decide +kernel
theorem d_Mo_cancel_19 : decode prog_10_method_22_code 19 = .ok (.iconst 1, 1) := by decide +kernel
theorem d_Mo_cancel_20 : decode prog_10_method_22_code 20 = .ok (.invokevirtual 143, 3) := by decide +kernel
theorem d_Mo_cancel_23 : decode prog_10_method_22_code 23 = .ok (.ifCond .eq 5, 3) := by decide +kernel
theorem d_Mo_cancel_26 : decode prog_10_method_22_code 26 = .ok (.iconst 0, 1) := by decide +kernel
theorem d_Mo_cancel_27 : decode prog_10_method_22_code 27 = .ok (.ireturn, 1) := by decide +kernel
theorem d_Mo_cancel_28 : decode prog_10_method_22_code 28 = .ok (.iconst 2, 1) := by decide +kernel
theorem d_Mo_cancel_29 : decode prog_10_method_22_code 29 = .ok (.iload_n 1, 1) := by decide +kernel
theorem d_Mo_cancel_30 : decode prog_10_method_22_code 30 = .ok (.imul, 1) := by decide +kernel
theorem d_Mo_cancel_31 : decode prog_10_method_22_code 31 = .ok (.iload_n 2, 1) := by decide +kernel
theorem d_Mo_cancel_32 : decode prog_10_method_22_code 32 = .ok (.iadd, 1) := by decide +kernel
theorem d_Mo_cancel_33 : decode prog_10_method_22_code 33 = .ok (.istore_n 3, 1) := by decide +kernel
theorem d_Mo_cancel_34 : decode prog_10_method_22_code 34 = .ok (.aload_n 0, 1) := by decide +kernel
theorem d_Mo_cancel_35 : decode prog_10_method_22_code 35 = .ok (.getfield 67, 3) := by decide +kernel
theorem d_Mo_cancel_38 : decode prog_10_method_22_code 38 = .ok (.iload_n 3, 1) := by decide +kernel
theorem d_Mo_cancel_39 : decode prog_10_method_22_code 39 = .ok (.iaload, 1) := by decide +kernel
theorem d_Mo_cancel_40 : decode prog_10_method_22_code 40 = .ok (.ifCond .ne 5, 3) := by decide +kernel
theorem d_Mo_cancel_43 : decode prog_10_method_22_code 43 = .ok (.iconst (-1), 1) := by decide +kernel
theorem d_Mo_cancel_44 : decode prog_10_method_22_code 44 = .ok (.ireturn, 1) := by decide +kernel
theorem d_Mo_cancel_45 : decode prog_10_method_22_code 45 = .ok (.aload_n 0, 1) := by decide +kernel
theorem d_Mo_cancel_46 : decode prog_10_method_22_code 46 = .ok (.iload_n 3, 1) := by decide +kernel
theorem d_Mo_cancel_47 : decode prog_10_method_22_code 47 = .ok (.invokevirtual 113, 3) := by decide +kernel
theorem d_Mo_cancel_50 : decode prog_10_method_22_code 50 = .ok (.istore 4, 2) := by decide +kernel
theorem d_Mo_cancel_52 : decode prog_10_method_22_code 52 = .ok (.aload_n 0, 1) := by decide +kernel
theorem d_Mo_cancel_53 : decode prog_10_method_22_code 53 = .ok (.iload 4, 2) := by decide +kernel
theorem d_Mo_cancel_55 : decode prog_10_method_22_code 55 = .ok (.invokevirtual 95, 3) := by decide +kernel
theorem d_Mo_cancel_58 : decode prog_10_method_22_code 58 = .ok (.iload 4, 2) := by decide +kernel
theorem d_Mo_cancel_60 : decode prog_10_method_22_code 60 = .ok (.ireturn, 1) := by decide +kernel
abbrev m_Mo_mode : ac_I := (⟨"PairedGatesModel", "mode", "(II)I"⟩, prog_10_method_23_code, 6, (some (.int)), [])
theorem d_Mo_mode_0 : decode prog_10_method_23_code 0 = .ok (.aload_n 0, 1) := by decide +kernel
theorem d_Mo_mode_1 : decode prog_10_method_23_code 1 = .ok (.iload_n 1, 1) := by decide +kernel
theorem d_Mo_mode_2 : decode prog_10_method_23_code 2 = .ok (.invokestatic 139, 3) := by decide +kernel
theorem d_Mo_mode_5 : decode prog_10_method_23_code 5 = .ok (.ifCond .ne 7, 3) := by decide +kernel
theorem d_Mo_mode_8 : decode prog_10_method_23_code 8 = .ok (.iconst 1, 1) := by decide +kernel
theorem d_Mo_mode_9 : decode prog_10_method_23_code 9 = .ok (.goto 30, 3) := by decide +kernel
theorem d_Mo_mode_12 : decode prog_10_method_23_code 12 = .ok (.iload_n 2, 1) := by decide +kernel
theorem d_Mo_mode_13 : decode prog_10_method_23_code 13 = .ok (.ifCond .lt 8, 3) := by decide +kernel
theorem d_Mo_mode_16 : decode prog_10_method_23_code 16 = .ok (.iload_n 2, 1) := by decide +kernel
theorem d_Mo_mode_17 : decode prog_10_method_23_code 17 = .ok (.iconst 3, 1) := by decide +kernel
theorem d_Mo_mode_18 : decode prog_10_method_23_code 18 = .ok (.if_icmp .le 7, 3) := by decide +kernel
theorem d_Mo_mode_21 : decode prog_10_method_23_code 21 = .ok (.iconst 2, 1) := by decide +kernel
theorem d_Mo_mode_22 : decode prog_10_method_23_code 22 = .ok (.goto 17, 3) := by decide +kernel
theorem d_Mo_mode_25 : decode prog_10_method_23_code 25 = .ok (.aload_n 0, 1) := by decide +kernel
theorem d_Mo_mode_26 : decode prog_10_method_23_code 26 = .ok (.getfield 34, 3) := by decide +kernel
theorem d_Mo_mode_29 : decode prog_10_method_23_code 29 = .ok (.iload_n 1, 1) := by decide +kernel
theorem d_Mo_mode_30 : decode prog_10_method_23_code 30 = .ok (.iaload, 1) := by decide +kernel
theorem d_Mo_mode_31 : decode prog_10_method_23_code 31 = .ok (.ifCond .le 7, 3) := by decide +kernel
theorem d_Mo_mode_34 : decode prog_10_method_23_code 34 = .ok (.iconst 3, 1) := by decide +kernel
theorem d_Mo_mode_35 : decode prog_10_method_23_code 35 = .ok (.goto 4, 3) := by decide +kernel
theorem d_Mo_mode_38 : decode prog_10_method_23_code 38 = .ok (.iconst 0, 1) := by decide +kernel
theorem d_Mo_mode_39 : decode prog_10_method_23_code 39 = .ok (.invokevirtual 143, 3) := by decide +kernel
theorem d_Mo_mode_42 : decode prog_10_method_23_code 42 = .ok (.ifCond .eq 5, 3) := by decide +kernel
theorem d_Mo_mode_45 : decode prog_10_method_23_code 45 = .ok (.iconst 0, 1) := by decide +kernel
theorem d_Mo_mode_46 : decode prog_10_method_23_code 46 = .ok (.ireturn, 1) := by decide +kernel
theorem d_Mo_mode_47 : decode prog_10_method_23_code 47 = .ok (.aload_n 0, 1) := by decide +kernel
theorem d_Mo_mode_48 : decode prog_10_method_23_code 48 = .ok (.getfield 22, 3) := by decide +kernel
theorem d_Mo_mode_51 : decode prog_10_method_23_code 51 = .ok (.iload_n 1, 1) := by decide +kernel
theorem d_Mo_mode_52 : decode prog_10_method_23_code 52 = .ok (.iload_n 2, 1) := by decide +kernel
theorem d_Mo_mode_53 : decode prog_10_method_23_code 53 = .ok (.iastore, 1) := by decide +kernel
theorem d_Mo_mode_54 : decode prog_10_method_23_code 54 = .ok (.iconst 0, 1) := by decide +kernel
theorem d_Mo_mode_55 : decode prog_10_method_23_code 55 = .ok (.istore_n 3, 1) := by decide +kernel
theorem d_Mo_mode_56 : decode prog_10_method_23_code 56 = .ok (.iconst 0, 1) := by decide +kernel
theorem d_Mo_mode_57 : decode prog_10_method_23_code 57 = .ok (.istore 4, 2) := by decide +kernel
theorem d_Mo_mode_59 : decode prog_10_method_23_code 59 = .ok (.iload 4, 2) := by decide +kernel
theorem d_Mo_mode_61 : decode prog_10_method_23_code 61 = .ok (.iconst 2, 1) := by decide +kernel
theorem d_Mo_mode_62 : decode prog_10_method_23_code 62 = .ok (.if_icmp .ge 53, 3) := by decide +kernel
theorem d_Mo_mode_65 : decode prog_10_method_23_code 65 = .ok (.iconst 2, 1) := by decide +kernel
theorem d_Mo_mode_66 : decode prog_10_method_23_code 66 = .ok (.iload_n 1, 1) := by decide +kernel
theorem d_Mo_mode_67 : decode prog_10_method_23_code 67 = .ok (.imul, 1) := by decide +kernel
theorem d_Mo_mode_68 : decode prog_10_method_23_code 68 = .ok (.iload 4, 2) := by decide +kernel
theorem d_Mo_mode_70 : decode prog_10_method_23_code 70 = .ok (.iadd, 1) := by decide +kernel
theorem d_Mo_mode_71 : decode prog_10_method_23_code 71 = .ok (.istore 5, 2) := by decide +kernel
theorem d_Mo_mode_73 : decode prog_10_method_23_code 73 = .ok (.aload_n 0, 1) := by decide +kernel
theorem d_Mo_mode_74 : decode prog_10_method_23_code 74 = .ok (.getfield 67, 3) := by decide +kernel
theorem d_Mo_mode_77 : decode prog_10_method_23_code 77 = .ok (.iload 5, 2) := by decide +kernel
theorem d_Mo_mode_79 : decode prog_10_method_23_code 79 = .ok (.iaload, 1) := by decide +kernel
theorem d_Mo_mode_80 : decode prog_10_method_23_code 80 = .ok (.ifCond .le 29, 3) := by decide +kernel
theorem d_Mo_mode_83 : decode prog_10_method_23_code 83 = .ok (.aload_n 0, 1) := by decide +kernel
theorem d_Mo_mode_84 : decode prog_10_method_23_code 84 = .ok (.iload_n 1, 1) := by decide +kernel
theorem d_Mo_mode_85 : decode prog_10_method_23_code 85 = .ok (.iload 4, 2) := by decide +kernel
theorem d_Mo_mode_87 : decode prog_10_method_23_code 87 = .ok (.invokevirtual 152, 3) := by decide +kernel
theorem d_Mo_mode_90 : decode prog_10_method_23_code 90 = .ok (.ifCond .ne 19, 3) := by decide +kernel
theorem d_Mo_mode_93 : decode prog_10_method_23_code 93 = .ok (.aload_n 0, 1) := by decide +kernel
theorem d_Mo_mode_94 : decode prog_10_method_23_code 94 = .ok (.aload_n 0, 1) := by decide +kernel
theorem d_Mo_mode_95 : decode prog_10_method_23_code 95 = .ok (.iload 5, 2) := by decide +kernel
theorem d_Mo_mode_97 : decode prog_10_method_23_code 97 = .ok (.invokevirtual 113, 3) := by decide +kernel
theorem d_Mo_mode_100 : decode prog_10_method_23_code 100 = .ok (.invokevirtual 95, 3) := by decide +kernel
theorem d_Mo_mode_103 : decode prog_10_method_23_code 103 = .ok (.iinc 3 1, 3) := by decide +kernel
theorem d_Mo_mode_106 : decode prog_10_method_23_code 106 = .ok (.goto (-33), 3) := by decide +kernel
theorem d_Mo_mode_109 : decode prog_10_method_23_code 109 = .ok (.iinc 4 1, 3) := by decide +kernel
theorem d_Mo_mode_112 : decode prog_10_method_23_code 112 = .ok (.goto (-53), 3) := by decide +kernel
theorem d_Mo_mode_115 : decode prog_10_method_23_code 115 = .ok (.iload_n 3, 1) := by decide +kernel
theorem d_Mo_mode_116 : decode prog_10_method_23_code 116 = .ok (.ireturn, 1) := by decide +kernel
end
section
abbrev m_Mo_alarm : ac_I := (⟨"PairedGatesModel", "alarm", "(Z)V"⟩, prog_10_method_24_code, 2, none, [])
theorem d_Mo_alarm_0 : decode prog_10_method_24_code 0 = .ok (.aload_n 0, 1) := by decide +kernel
theorem d_Mo_alarm_1 : decode prog_10_method_24_code 1 = .ok (.iconst 0, 1) := by decide +kernel
theorem d_Mo_alarm_2 : decode prog_10_method_24_code 2 = .ok (.putfield 85, 3) := by decide +kernel
theorem d_Mo_alarm_5 : decode prog_10_method_24_code 5 = .ok (.aload_n 0, 1) := by decide +kernel
theorem d_Mo_alarm_6 : decode prog_10_method_24_code 6 = .ok (.iload_n 1, 1) := by decide +kernel
theorem d_Mo_alarm_7 : decode prog_10_method_24_code 7 = .ok (.putfield 117, 3) := by decide +kernel
theorem d_Mo_alarm_10 : decode prog_10_method_24_code 10 = .ok (.return_, 1) := by decide +kernel
abbrev m_Mo_time : ac_I := (⟨"PairedGatesModel", "time", "()I"⟩, prog_10_method_25_code, 1, (some (.int)), [])
theorem d_Mo_time_0 : decode prog_10_method_25_code 0 = .ok (.aload_n 0, 1) := by decide +kernel
theorem d_Mo_time_1 : decode prog_10_method_25_code 1 = .ok (.iconst 0, 1) := by decide +kernel
theorem d_Mo_time_2 : decode prog_10_method_25_code 2 = .ok (.putfield 85, 3) := by decide +kernel
theorem d_Mo_time_5 : decode prog_10_method_25_code 5 = .ok (.aload_n 0, 1) := by decide +kernel
theorem d_Mo_time_6 : decode prog_10_method_25_code 6 = .ok (.getfield 121, 3) := by decide +kernel
theorem d_Mo_time_9 : decode prog_10_method_25_code 9 = .ok (.ireturn, 1) := by decide +kernel
abbrev m_Mo_bodies : ac_I := (⟨"PairedGatesModel", "bodies", "(I)I"⟩, prog_10_method_26_code, 2, (some (.int)), [])
theorem d_Mo_bodies_0 : decode prog_10_method_26_code 0 = .ok (.aload_n 0, 1) := by decide +kernel
theorem d_Mo_bodies_1 : decode prog_10_method_26_code 1 = .ok (.iload_n 1, 1) := by decide +kernel
theorem d_Mo_bodies_2 : decode prog_10_method_26_code 2 = .ok (.invokestatic 139, 3) := by decide +kernel
theorem d_Mo_bodies_5 : decode prog_10_method_26_code 5 = .ok (.ifCond .eq 7, 3) := by decide +kernel
theorem d_Mo_bodies_8 : decode prog_10_method_26_code 8 = .ok (.iconst 0, 1) := by decide +kernel
theorem d_Mo_bodies_9 : decode prog_10_method_26_code 9 = .ok (.goto 4, 3) := by decide +kernel
theorem d_Mo_bodies_12 : decode prog_10_method_26_code 12 = .ok (.iconst 1, 1) := by decide +kernel
theorem d_Mo_bodies_13 : decode prog_10_method_26_code 13 = .ok (.invokevirtual 143, 3) := by decide +kernel
theorem d_Mo_bodies_16 : decode prog_10_method_26_code 16 = .ok (.ifCond .eq 7, 3) := by decide +kernel
theorem d_Mo_bodies_19 : decode prog_10_method_26_code 19 = .ok (.iconst 0, 1) := by decide +kernel
theorem d_Mo_bodies_20 : decode prog_10_method_26_code 20 = .ok (.goto 9, 3) := by decide +kernel
theorem d_Mo_bodies_23 : decode prog_10_method_26_code 23 = .ok (.aload_n 0, 1) := by decide +kernel
theorem d_Mo_bodies_24 : decode prog_10_method_26_code 24 = .ok (.getfield 34, 3) := by decide +kernel
theorem d_Mo_bodies_27 : decode prog_10_method_26_code 27 = .ok (.iload_n 1, 1) := by decide +kernel
theorem d_Mo_bodies_28 : decode prog_10_method_26_code 28 = .ok (.iaload, 1) := by decide +kernel
theorem d_Mo_bodies_29 : decode prog_10_method_26_code 29 = .ok (.ireturn, 1) := by decide +kernel
abbrev m_Mo_body : ac_I := (⟨"PairedGatesModel", "body", "(III)I"⟩, prog_10_method_27_code, 6, (some (.int)), [])
theorem d_Mo_body_0 : decode prog_10_method_27_code 0 = .ok (.iload_n 1, 1) := by decide +kernel
theorem d_Mo_body_1 : decode prog_10_method_27_code 1 = .ok (.invokestatic 139, 3) := by decide +kernel
theorem d_Mo_body_4 : decode prog_10_method_27_code 4 = .ok (.ifCond .eq 21, 3) := by decide +kernel
theorem d_Mo_body_7 : decode prog_10_method_27_code 7 = .ok (.iload_n 2, 1) := by decide +kernel
theorem d_Mo_body_8 : decode prog_10_method_27_code 8 = .ok (.ifCond .lt 17, 3) := by decide +kernel
theorem d_Mo_body_11 : decode prog_10_method_27_code 11 = .ok (.iload_n 2, 1) := by decide +kernel
theorem d_Mo_body_12 : decode prog_10_method_27_code 12 = .ok (.aload_n 0, 1) := by decide +kernel
theorem d_Mo_body_13 : decode prog_10_method_27_code 13 = .ok (.getfield 34, 3) := by decide +kernel
theorem d_Mo_body_16 : decode prog_10_method_27_code 16 = .ok (.iload_n 1, 1) := by decide +kernel
theorem d_Mo_body_17 : decode prog_10_method_27_code 17 = .ok (.iaload, 1) := by decide +kernel
theorem d_Mo_body_18 : decode prog_10_method_27_code 18 = .ok (.if_icmp .ge 7, 3) := by decide +kernel
theorem d_Mo_body_21 : decode prog_10_method_27_code 21 = .ok (.iconst 1, 1) := by decide +kernel
theorem d_Mo_body_22 : decode prog_10_method_27_code 22 = .ok (.goto 4, 3) := by decide +kernel
theorem d_Mo_body_25 : decode prog_10_method_27_code 25 = .ok (.iconst 0, 1) := by decide +kernel
theorem d_Mo_body_26 : decode prog_10_method_27_code 26 = .ok (.istore 4, 2) := by decide +kernel
theorem d_Mo_body_28 : decode prog_10_method_27_code 28 = .ok (.aload_n 0, 1) := by decide +kernel
theorem d_Mo_body_29 : decode prog_10_method_27_code 29 = .ok (.iload 4, 2) := by decide +kernel
theorem d_Mo_body_31 : decode prog_10_method_27_code 31 = .ok (.ifCond .ne 7, 3) := by decide +kernel
theorem d_Mo_body_34 : decode prog_10_method_27_code 34 = .ok (.iconst 1, 1) := by decide +kernel
theorem d_Mo_body_35 : decode prog_10_method_27_code 35 = .ok (.goto 17, 3) := by decide +kernel
theorem d_Mo_body_38 : decode prog_10_method_27_code 38 = .ok (.iload_n 3, 1) := by decide +kernel
theorem d_Mo_body_39 : decode prog_10_method_27_code 39 = .ok (.ifCond .lt 8, 3) := by decide +kernel
theorem d_Mo_body_42 : decode prog_10_method_27_code 42 = .ok (.iload_n 3, 1) := by decide +kernel
theorem d_Mo_body_43 : decode prog_10_method_27_code 43 = .ok (.iconst 4, 1) := by decide +kernel
theorem d_Mo_body_44 : decode prog_10_method_27_code 44 = .ok (.if_icmp .le 7, 3) := by decide +kernel
theorem d_Mo_body_47 : decode prog_10_method_27_code 47 = .ok (.iconst 2, 1) := by decide +kernel
theorem d_Mo_body_48 : decode prog_10_method_27_code 48 = .ok (.goto 4, 3) := by decide +kernel
theorem d_Mo_body_51 : decode prog_10_method_27_code 51 = .ok (.iconst 0, 1) := by decide +kernel
theorem d_Mo_body_52 : decode prog_10_method_27_code 52 = .ok (.invokevirtual 143, 3) := by decide +kernel
theorem d_Mo_body_55 : decode prog_10_method_27_code 55 = .ok (.ifCond .eq 5, 3) := by decide +kernel
theorem d_Mo_body_58 : decode prog_10_method_27_code 58 = .ok (.iconst 0, 1) := by decide +kernel
theorem d_Mo_body_59 : decode prog_10_method_27_code 59 = .ok (.ireturn, 1) := by decide +kernel
theorem d_Mo_body_60 : decode prog_10_method_27_code 60 = .ok (.iconst 5, 1) := by decide +kernel
theorem d_Mo_body_61 : decode prog_10_method_27_code 61 = .ok (.iload_n 1, 1) := by decide +kernel
theorem d_Mo_body_62 : decode prog_10_method_27_code 62 = .ok (.imul, 1) := by decide +kernel
theorem d_Mo_body_63 : decode prog_10_method_27_code 63 = .ok (.iload_n 2, 1) := by decide +kernel
theorem d_Mo_body_64 : decode prog_10_method_27_code 64 = .ok (.iadd, 1) := by decide +kernel
theorem d_Mo_body_65 : decode prog_10_method_27_code 65 = .ok (.istore 5, 2) := by decide +kernel
theorem d_Mo_body_67 : decode prog_10_method_27_code 67 = .ok (.iload_n 3, 1) := by decide +kernel
theorem d_Mo_body_68 : decode prog_10_method_27_code 68 = .ok (.ifCond .ne 13, 3) := by decide +kernel
theorem d_Mo_body_71 : decode prog_10_method_27_code 71 = .ok (.aload_n 0, 1) := by decide +kernel
theorem d_Mo_body_72 : decode prog_10_method_27_code 72 = .ok (.getfield 37, 3) := by decide +kernel
theorem d_Mo_body_75 : decode prog_10_method_27_code 75 = .ok (.iload 5, 2) := by decide +kernel
theorem d_Mo_body_77 : decode prog_10_method_27_code 77 = .ok (.iaload, 1) := by decide +kernel
theorem d_Mo_body_78 : decode prog_10_method_27_code 78 = .ok (.goto 55, 3) := by decide +kernel
theorem d_Mo_body_81 : decode prog_10_method_27_code 81 = .ok (.iload_n 3, 1) := by decide +kernel
theorem d_Mo_body_82 : decode prog_10_method_27_code 82 = .ok (.iconst 1, 1) := by decide +kernel
theorem d_Mo_body_83 : decode prog_10_method_27_code 83 = .ok (.if_icmp .ne 13, 3) := by decide +kernel
theorem d_Mo_body_86 : decode prog_10_method_27_code 86 = .ok (.aload_n 0, 1) := by decide +kernel
theorem d_Mo_body_87 : decode prog_10_method_27_code 87 = .ok (.getfield 40, 3) := by decide +kernel
theorem d_Mo_body_90 : decode prog_10_method_27_code 90 = .ok (.iload 5, 2) := by decide +kernel
theorem d_Mo_body_92 : decode prog_10_method_27_code 92 = .ok (.iaload, 1) := by decide +kernel
theorem d_Mo_body_93 : decode prog_10_method_27_code 93 = .ok (.goto 40, 3) := by decide +kernel
theorem d_Mo_body_96 : decode prog_10_method_27_code 96 = .ok (.iload_n 3, 1) := by decide +kernel
theorem d_Mo_body_97 : decode prog_10_method_27_code 97 = .ok (.iconst 2, 1) := by decide +kernel
theorem d_Mo_body_98 : decode prog_10_method_27_code 98 = .ok (.if_icmp .ne 13, 3) := by decide +kernel
theorem d_Mo_body_101 : decode prog_10_method_27_code 101 = .ok (.aload_n 0, 1) := by decide +kernel
theorem d_Mo_body_102 : decode prog_10_method_27_code 102 = .ok (.getfield 43, 3) := by decide +kernel
theorem d_Mo_body_105 : decode prog_10_method_27_code 105 = .ok (.iload 5, 2) := by decide +kernel
theorem d_Mo_body_107 : decode prog_10_method_27_code 107 = .ok (.iaload, 1) := by decide +kernel
theorem d_Mo_body_108 : decode prog_10_method_27_code 108 = .ok (.goto 25, 3) := by decide +kernel
theorem d_Mo_body_111 : decode prog_10_method_27_code 111 = .ok (.iload_n 3, 1) := by decide +kernel
theorem d_Mo_body_112 : decode prog_10_method_27_code 112 = .ok (.iconst 3, 1) := by decide +kernel
theorem d_Mo_body_113 : decode prog_10_method_27_code 113 = .ok (.if_icmp .ne 13, 3) := by decide +kernel
theorem d_Mo_body_116 : decode prog_10_method_27_code 116 = .ok (.aload_n 0, 1) := by decide +kernel
theorem d_Mo_body_117 : decode prog_10_method_27_code 117 = .ok (.getfield 46, 3) := by decide +kernel
theorem d_Mo_body_120 : decode prog_10_method_27_code 120 = .ok (.iload 5, 2) := by decide +kernel
theorem d_Mo_body_122 : decode prog_10_method_27_code 122 = .ok (.iaload, 1) := by decide +kernel
theorem d_Mo_body_123 : decode prog_10_method_27_code 123 = .ok (.goto 10, 3) := by decide +kernel
theorem d_Mo_body_126 : decode prog_10_method_27_code 126 = .ok (.aload_n 0, 1) := by decide +kernel
theorem d_Mo_body_127 : decode prog_10_method_27_code 127 = .ok (.getfield 49, 3) := by decide +kernel
theorem d_Mo_body_130 : decode prog_10_method_27_code 130 = .ok (.iload 5, 2) := by decide +kernel
theorem d_Mo_body_132 : decode prog_10_method_27_code 132 = .ok (.iaload, 1) := by decide +kernel
theorem d_Mo_body_133 : decode prog_10_method_27_code 133 = .ok (.ireturn, 1) := by decide +kernel
abbrev m_Mo_waiting : ac_I := (⟨"PairedGatesModel", "waiting", "(II)I"⟩, prog_10_method_28_code, 3, (some (.int)), [])
theorem d_Mo_waiting_0 : decode prog_10_method_28_code 0 = .ok (.aload_n 0, 1) := by decide +kernel
theorem d_Mo_waiting_1 : decode prog_10_method_28_code 1 = .ok (.iload_n 1, 1) := by decide +kernel
theorem d_Mo_waiting_2 : decode prog_10_method_28_code 2 = .ok (.invokestatic 139, 3) := by decide +kernel
theorem d_Mo_waiting_5 : decode prog_10_method_28_code 5 = .ok (.ifCond .eq 14, 3) := by decide +kernel
theorem d_Mo_waiting_8 : decode prog_10_method_28_code 8 = .ok (.iload_n 2, 1) := by decide +kernel
theorem d_Mo_waiting_9 : decode prog_10_method_28_code 9 = .ok (.invokestatic 139, 3) := by decide +kernel
theorem d_Mo_waiting_12 : decode prog_10_method_28_code 12 = .ok (.ifCond .eq 7, 3) := by decide +kernel
theorem d_Mo_waiting_15 : decode prog_10_method_28_code 15 = .ok (.iconst 0, 1) := by decide +kernel
theorem d_Mo_waiting_16 : decode prog_10_method_28_code 16 = .ok (.goto 4, 3) := by decide +kernel
theorem d_Mo_waiting_19 : decode prog_10_method_28_code 19 = .ok (.iconst 1, 1) := by decide +kernel
theorem d_Mo_waiting_20 : decode prog_10_method_28_code 20 = .ok (.invokevirtual 143, 3) := by decide +kernel
theorem d_Mo_waiting_23 : decode prog_10_method_28_code 23 = .ok (.ifCond .eq 7, 3) := by decide +kernel
theorem d_Mo_waiting_26 : decode prog_10_method_28_code 26 = .ok (.iconst 0, 1) := by decide +kernel
theorem d_Mo_waiting_27 : decode prog_10_method_28_code 27 = .ok (.goto 13, 3) := by decide +kernel
theorem d_Mo_waiting_30 : decode prog_10_method_28_code 30 = .ok (.aload_n 0, 1) := by decide +kernel
theorem d_Mo_waiting_31 : decode prog_10_method_28_code 31 = .ok (.getfield 67, 3) := by decide +kernel
theorem d_Mo_waiting_34 : decode prog_10_method_28_code 34 = .ok (.iconst 2, 1) := by decide +kernel
theorem d_Mo_waiting_35 : decode prog_10_method_28_code 35 = .ok (.iload_n 1, 1) := by decide +kernel
theorem d_Mo_waiting_36 : decode prog_10_method_28_code 36 = .ok (.imul, 1) := by decide +kernel
theorem d_Mo_waiting_37 : decode prog_10_method_28_code 37 = .ok (.iload_n 2, 1) := by decide +kernel
theorem d_Mo_waiting_38 : decode prog_10_method_28_code 38 = .ok (.iadd, 1) := by decide +kernel
theorem d_Mo_waiting_39 : decode prog_10_method_28_code 39 = .ok (.iaload, 1) := by decide +kernel
theorem d_Mo_waiting_40 : decode prog_10_method_28_code 40 = .ok (.ireturn, 1) := by decide +kernel
abbrev m_Mo_waits : ac_I := (⟨"PairedGatesModel", "waits", "(III)I"⟩, prog_10_method_29_code, 5, (some (.int)), [])
theorem d_Mo_waits_0 : decode prog_10_method_29_code 0 = .ok (.aload_n 0, 1) := by decide +kernel
theorem d_Mo_waits_1 : decode prog_10_method_29_code 1 = .ok (.iload_n 1, 1) := by decide +kernel
theorem d_Mo_waits_2 : decode prog_10_method_29_code 2 = .ok (.invokestatic 139, 3) := by decide +kernel
theorem d_Mo_waits_5 : decode prog_10_method_29_code 5 = .ok (.ifCond .eq 14, 3) := by decide +kernel
theorem d_Mo_waits_8 : decode prog_10_method_29_code 8 = .ok (.iload_n 2, 1) := by decide +kernel
theorem d_Mo_waits_9 : decode prog_10_method_29_code 9 = .ok (.invokestatic 139, 3) := by decide +kernel
theorem d_Mo_waits_12 : decode prog_10_method_29_code 12 = .ok (.ifCond .eq 7, 3) := by decide +kernel
theorem d_Mo_waits_15 : decode prog_10_method_29_code 15 = .ok (.iconst 0, 1) := by decide +kernel
theorem d_Mo_waits_16 : decode prog_10_method_29_code 16 = .ok (.goto 4, 3) := by decide +kernel
theorem d_Mo_waits_19 : decode prog_10_method_29_code 19 = .ok (.iconst 1, 1) := by decide +kernel
theorem d_Mo_waits_20 : decode prog_10_method_29_code 20 = .ok (.invokevirtual 143, 3) := by decide +kernel
theorem d_Mo_waits_23 : decode prog_10_method_29_code 23 = .ok (.ifCond .eq 5, 3) := by decide +kernel
theorem d_Mo_waits_26 : decode prog_10_method_29_code 26 = .ok (.iconst 0, 1) := by decide +kernel
theorem d_Mo_waits_27 : decode prog_10_method_29_code 27 = .ok (.ireturn, 1) := by decide +kernel
theorem d_Mo_waits_28 : decode prog_10_method_29_code 28 = .ok (.iconst 2, 1) := by decide +kernel
theorem d_Mo_waits_29 : decode prog_10_method_29_code 29 = .ok (.iload_n 1, 1) := by decide +kernel
theorem d_Mo_waits_30 : decode prog_10_method_29_code 30 = .ok (.imul, 1) := by decide +kernel
theorem d_Mo_waits_31 : decode prog_10_method_29_code 31 = .ok (.iload_n 2, 1) := by decide +kernel
theorem d_Mo_waits_32 : decode prog_10_method_29_code 32 = .ok (.iadd, 1) := by decide +kernel
theorem d_Mo_waits_33 : decode prog_10_method_29_code 33 = .ok (.istore 4, 2) := by decide +kernel
theorem d_Mo_waits_35 : decode prog_10_method_29_code 35 = .ok (.iload_n 3, 1) := by decide +kernel
theorem d_Mo_waits_36 : decode prog_10_method_29_code 36 = .ok (.ifCond .lt 14, 3) := by decide +kernel
theorem d_Mo_waits_39 : decode prog_10_method_29_code 39 = .ok (.iload_n 3, 1) := by decide +kernel
theorem d_Mo_waits_40 : decode prog_10_method_29_code 40 = .ok (.aload_n 0, 1) := by decide +kernel
theorem d_Mo_waits_41 : decode prog_10_method_29_code 41 = .ok (.getfield 67, 3) := by decide +kernel
theorem d_Mo_waits_44 : decode prog_10_method_29_code 44 = .ok (.iload 4, 2) := by decide +kernel
theorem d_Mo_waits_46 : decode prog_10_method_29_code 46 = .ok (.iaload, 1) := by decide +kernel
theorem d_Mo_waits_47 : decode prog_10_method_29_code 47 = .ok (.if_icmp .lt 7, 3) := by decide +kernel
theorem d_Mo_waits_50 : decode prog_10_method_29_code 50 = .ok (.iconst (-1), 1) := by decide +kernel
theorem d_Mo_waits_51 : decode prog_10_method_29_code 51 = .ok (.goto 15, 3) := by decide +kernel
theorem d_Mo_waits_54 : decode prog_10_method_29_code 54 = .ok (.aload_n 0, 1) := by decide +kernel
theorem d_Mo_waits_55 : decode prog_10_method_29_code 55 = .ok (.getfield 70, 3) := by decide +kernel
theorem d_Mo_waits_58 : decode prog_10_method_29_code 58 = .ok (.bipush 6, 2) := by decide +kernel
theorem d_Mo_waits_60 : decode prog_10_method_29_code 60 = .ok (.iload 4, 2) := by decide +kernel
theorem d_Mo_waits_62 : decode prog_10_method_29_code 62 = .ok (.imul, 1) := by decide +kernel
theorem d_Mo_waits_63 : decode prog_10_method_29_code 63 = .ok (.iload_n 3, 1) := by decide +kernel
theorem d_Mo_waits_64 : decode prog_10_method_29_code 64 = .ok (.iadd, 1) := by decide +kernel
theorem d_Mo_waits_65 : decode prog_10_method_29_code 65 = .ok (.iaload, 1) := by decide +kernel
theorem d_Mo_waits_66 : decode prog_10_method_29_code 66 = .ok (.ireturn, 1) := by decide +kernel
abbrev m_Mo_count : ac_I := (⟨"PairedGatesModel", "count", "(II)I"⟩, prog_10_method_30_code, 3, (some (.int)), [])
theorem d_Mo_count_0 : decode prog_10_method_30_code 0 = .ok (.aload_n 0, 1) := by decide +kernel
theorem d_Mo_count_1 : decode prog_10_method_30_code 1 = .ok (.iload_n 1, 1) := by decide +kernel
theorem d_Mo_count_2 : decode prog_10_method_30_code 2 = .ok (.invokestatic 139, 3) := by decide +kernel
theorem d_Mo_count_5 : decode prog_10_method_30_code 5 = .ok (.ifCond .eq 7, 3) := by decide +kernel
theorem d_Mo_count_8 : decode prog_10_method_30_code 8 = .ok (.iconst 0, 1) := by decide +kernel
theorem d_Mo_count_9 : decode prog_10_method_30_code 9 = .ok (.goto 4, 3) := by decide +kernel
theorem d_Mo_count_12 : decode prog_10_method_30_code 12 = .ok (.iconst 1, 1) := by decide +kernel
theorem d_Mo_count_13 : decode prog_10_method_30_code 13 = .ok (.invokevirtual 143, 3) := by decide +kernel
theorem d_Mo_count_16 : decode prog_10_method_30_code 16 = .ok (.ifCond .eq 5, 3) := by decide +kernel
theorem d_Mo_count_19 : decode prog_10_method_30_code 19 = .ok (.iconst 0, 1) := by decide +kernel
theorem d_Mo_count_20 : decode prog_10_method_30_code 20 = .ok (.ireturn, 1) := by decide +kernel
theorem d_Mo_count_21 : decode prog_10_method_30_code 21 = .ok (.iload_n 2, 1) := by decide +kernel
theorem d_Mo_count_22 : decode prog_10_method_30_code 22 = .ok (.ifCond .lt 8, 3) := by decide +kernel
theorem d_Mo_count_25 : decode prog_10_method_30_code 25 = .ok (.iload_n 2, 1) := by decide +kernel
theorem d_Mo_count_26 : decode prog_10_method_30_code 26 = .ok (.iconst 4, 1) := by decide +kernel
theorem d_Mo_count_27 : decode prog_10_method_30_code 27 = .ok (.if_icmp .le 7, 3) := by decide +kernel
theorem d_Mo_count_30 : decode prog_10_method_30_code 30 = .ok (.iconst 0, 1) := by decide +kernel
theorem d_Mo_count_31 : decode prog_10_method_30_code 31 = .ok (.goto 13, 3) := by decide +kernel
theorem d_Mo_count_34 : decode prog_10_method_30_code 34 = .ok (.aload_n 0, 1) := by decide +kernel
theorem d_Mo_count_35 : decode prog_10_method_30_code 35 = .ok (.getfield 31, 3) := by decide +kernel
theorem d_Mo_count_38 : decode prog_10_method_30_code 38 = .ok (.iconst 5, 1) := by decide +kernel
theorem d_Mo_count_39 : decode prog_10_method_30_code 39 = .ok (.iload_n 1, 1) := by decide +kernel
theorem d_Mo_count_40 : decode prog_10_method_30_code 40 = .ok (.imul, 1) := by decide +kernel
theorem d_Mo_count_41 : decode prog_10_method_30_code 41 = .ok (.iload_n 2, 1) := by decide +kernel
theorem d_Mo_count_42 : decode prog_10_method_30_code 42 = .ok (.iadd, 1) := by decide +kernel
theorem d_Mo_count_43 : decode prog_10_method_30_code 43 = .ok (.iaload, 1) := by decide +kernel
theorem d_Mo_count_44 : decode prog_10_method_30_code 44 = .ok (.ireturn, 1) := by decide +kernel
abbrev m_Mo_angle : ac_I := (⟨"PairedGatesModel", "angle", "(I)I"⟩, prog_10_method_31_code, 2, (some (.int)), [])
theorem d_Mo_angle_0 : decode prog_10_method_31_code 0 = .ok (.aload_n 0, 1) := by decide +kernel
theorem d_Mo_angle_1 : decode prog_10_method_31_code 1 = .ok (.iload_n 1, 1) := by decide +kernel
theorem d_Mo_angle_2 : decode prog_10_method_31_code 2 = .ok (.invokestatic 139, 3) := by decide +kernel
theorem d_Mo_angle_5 : decode prog_10_method_31_code 5 = .ok (.ifCond .eq 7, 3) := by decide +kernel
theorem d_Mo_angle_8 : decode prog_10_method_31_code 8 = .ok (.iconst 0, 1) := by decide +kernel
theorem d_Mo_angle_9 : decode prog_10_method_31_code 9 = .ok (.goto 4, 3) := by decide +kernel
theorem d_Mo_angle_12 : decode prog_10_method_31_code 12 = .ok (.iconst 1, 1) := by decide +kernel
theorem d_Mo_angle_13 : decode prog_10_method_31_code 13 = .ok (.invokevirtual 143, 3) := by decide +kernel
theorem d_Mo_angle_16 : decode prog_10_method_31_code 16 = .ok (.ifCond .eq 7, 3) := by decide +kernel
theorem d_Mo_angle_19 : decode prog_10_method_31_code 19 = .ok (.iconst 0, 1) := by decide +kernel
theorem d_Mo_angle_20 : decode prog_10_method_31_code 20 = .ok (.goto 9, 3) := by decide +kernel
theorem d_Mo_angle_23 : decode prog_10_method_31_code 23 = .ok (.aload_n 0, 1) := by decide +kernel
theorem d_Mo_angle_24 : decode prog_10_method_31_code 24 = .ok (.getfield 25, 3) := by decide +kernel
theorem d_Mo_angle_27 : decode prog_10_method_31_code 27 = .ok (.iload_n 1, 1) := by decide +kernel
theorem d_Mo_angle_28 : decode prog_10_method_31_code 28 = .ok (.iaload, 1) := by decide +kernel
theorem d_Mo_angle_29 : decode prog_10_method_31_code 29 = .ok (.ireturn, 1) := by decide +kernel
abbrev m_Mo_order : ac_I := (⟨"PairedGatesModel", "order", "(I)I"⟩, prog_10_method_32_code, 2, (some (.int)), [])
theorem d_Mo_order_0 : decode prog_10_method_32_code 0 = .ok (.aload_n 0, 1) := by decide +kernel
theorem d_Mo_order_1 : decode prog_10_method_32_code 1 = .ok (.iload_n 1, 1) := by decide +kernel
theorem d_Mo_order_2 : decode prog_10_method_32_code 2 = .ok (.invokestatic 139, 3) := by decide +kernel
theorem d_Mo_order_5 : decode prog_10_method_32_code 5 = .ok (.ifCond .eq 7, 3) := by decide +kernel
theorem d_Mo_order_8 : decode prog_10_method_32_code 8 = .ok (.iconst 0, 1) := by decide +kernel
theorem d_Mo_order_9 : decode prog_10_method_32_code 9 = .ok (.goto 4, 3) := by decide +kernel
theorem d_Mo_order_12 : decode prog_10_method_32_code 12 = .ok (.iconst 1, 1) := by decide +kernel
theorem d_Mo_order_13 : decode prog_10_method_32_code 13 = .ok (.invokevirtual 143, 3) := by decide +kernel
theorem d_Mo_order_16 : decode prog_10_method_32_code 16 = .ok (.ifCond .eq 7, 3) := by decide +kernel
theorem d_Mo_order_19 : decode prog_10_method_32_code 19 = .ok (.iconst 0, 1) := by decide +kernel
theorem d_Mo_order_20 : decode prog_10_method_32_code 20 = .ok (.goto 9, 3) := by decide +kernel
theorem d_Mo_order_23 : decode prog_10_method_32_code 23 = .ok (.aload_n 0, 1) := by decide +kernel
theorem d_Mo_order_24 : decode prog_10_method_32_code 24 = .ok (.getfield 28, 3) := by decide +kernel
theorem d_Mo_order_27 : decode prog_10_method_32_code 27 = .ok (.iload_n 1, 1) := by decide +kernel
theorem d_Mo_order_28 : decode prog_10_method_32_code 28 = .ok (.iaload, 1) := by decide +kernel
theorem d_Mo_order_29 : decode prog_10_method_32_code 29 = .ok (.ireturn, 1) := by decide +kernel
abbrev m_Mo_seen : ac_I := (⟨"PairedGatesModel", "seen", "(I)I"⟩, prog_10_method_33_code, 2, (some (.int)), [])
theorem d_Mo_seen_0 : decode prog_10_method_33_code 0 = .ok (.aload_n 0, 1) := by decide +kernel
theorem d_Mo_seen_1 : decode prog_10_method_33_code 1 = .ok (.iload_n 1, 1) := by decide +kernel
theorem d_Mo_seen_2 : decode prog_10_method_33_code 2 = .ok (.invokestatic 139, 3) := by decide +kernel
theorem d_Mo_seen_5 : decode prog_10_method_33_code 5 = .ok (.ifCond .eq 7, 3) := by decide +kernel
theorem d_Mo_seen_8 : decode prog_10_method_33_code 8 = .ok (.iconst 0, 1) := by decide +kernel
theorem d_Mo_seen_9 : decode prog_10_method_33_code 9 = .ok (.goto 4, 3) := by decide +kernel
theorem d_Mo_seen_12 : decode prog_10_method_33_code 12 = .ok (.iconst 1, 1) := by decide +kernel
theorem d_Mo_seen_13 : decode prog_10_method_33_code 13 = .ok (.invokevirtual 143, 3) := by decide +kernel
theorem d_Mo_seen_16 : decode prog_10_method_33_code 16 = .ok (.ifCond .eq 7, 3) := by decide +kernel
theorem d_Mo_seen_19 : decode prog_10_method_33_code 19 = .ok (.iconst 0, 1) := by decide +kernel
theorem d_Mo_seen_20 : decode prog_10_method_33_code 20 = .ok (.goto 9, 3) := by decide +kernel
theorem d_Mo_seen_23 : decode prog_10_method_33_code 23 = .ok (.aload_n 0, 1) := by decide +kernel
theorem d_Mo_seen_24 : decode prog_10_method_33_code 24 = .ok (.getfield 19, 3) := by decide +kernel
theorem d_Mo_seen_27 : decode prog_10_method_33_code 27 = .ok (.iload_n 1, 1) := by decide +kernel
theorem d_Mo_seen_28 : decode prog_10_method_33_code 28 = .ok (.iaload, 1) := by decide +kernel
theorem d_Mo_seen_29 : decode prog_10_method_33_code 29 = .ok (.ireturn, 1) := by decide +kernel
abbrev m_Mo_accepted : ac_I := (⟨"PairedGatesModel", "accepted", "()I"⟩, prog_10_method_34_code, 1, (some (.int)), [])
theorem d_Mo_accepted_0 : decode prog_10_method_34_code 0 = .ok (.aload_n 0, 1) := by decide +kernel
theorem d_Mo_accepted_1 : decode prog_10_method_34_code 1 = .ok (.iconst 0, 1) := by decide +kernel
theorem d_Mo_accepted_2 : decode prog_10_method_34_code 2 = .ok (.putfield 85, 3) := by decide +kernel
theorem d_Mo_accepted_5 : decode prog_10_method_34_code 5 = .ok (.aload_n 0, 1) := by decide +kernel
theorem d_Mo_accepted_6 : decode prog_10_method_34_code 6 = .ok (.getfield 149, 3) := by decide +kernel
theorem d_Mo_accepted_9 : decode prog_10_method_34_code 9 = .ok (.ireturn, 1) := by decide +kernel
abbrev m_Mo_refunds : ac_I := (⟨"PairedGatesModel", "refunds", "()I"⟩, prog_10_method_35_code, 1, (some (.int)), [])
theorem d_Mo_refunds_0 : decode prog_10_method_35_code 0 = .ok (.aload_n 0, 1) := by decide +kernel
theorem d_Mo_refunds_1 : decode prog_10_method_35_code 1 = .ok (.iconst 0, 1) := by decide +kernel
theorem d_Mo_refunds_2 : decode prog_10_method_35_code 2 = .ok (.putfield 85, 3) := by decide +kernel
theorem d_Mo_refunds_5 : decode prog_10_method_35_code 5 = .ok (.aload_n 0, 1) := by decide +kernel
theorem d_Mo_refunds_6 : decode prog_10_method_35_code 6 = .ok (.getfield 89, 3) := by decide +kernel
theorem d_Mo_refunds_9 : decode prog_10_method_35_code 9 = .ok (.ireturn, 1) := by decide +kernel
abbrev m_Mo_refund : ac_I := (⟨"PairedGatesModel", "refund", "(I)I"⟩, prog_10_method_36_code, 2, (some (.int)), [])
theorem d_Mo_refund_0 : decode prog_10_method_36_code 0 = .ok (.aload_n 0, 1) := by decide +kernel
theorem d_Mo_refund_1 : decode prog_10_method_36_code 1 = .ok (.iconst 0, 1) := by decide +kernel
theorem d_Mo_refund_2 : decode prog_10_method_36_code 2 = .ok (.putfield 85, 3) := by decide +kernel
theorem d_Mo_refund_5 : decode prog_10_method_36_code 5 = .ok (.iload_n 1, 1) := by decide +kernel
theorem d_Mo_refund_6 : decode prog_10_method_36_code 6 = .ok (.ifCond .lt 11, 3) := by decide +kernel
theorem d_Mo_refund_9 : decode prog_10_method_36_code 9 = .ok (.iload_n 1, 1) := by decide +kernel
theorem d_Mo_refund_10 : decode prog_10_method_36_code 10 = .ok (.aload_n 0, 1) := by decide +kernel
theorem d_Mo_refund_11 : decode prog_10_method_36_code 11 = .ok (.getfield 89, 3) := by decide +kernel
theorem d_Mo_refund_14 : decode prog_10_method_36_code 14 = .ok (.if_icmp .lt 7, 3) := by decide +kernel
theorem d_Mo_refund_17 : decode prog_10_method_36_code 17 = .ok (.iconst (-1), 1) := by decide +kernel
theorem d_Mo_refund_18 : decode prog_10_method_36_code 18 = .ok (.goto 9, 3) := by decide +kernel
theorem d_Mo_refund_21 : decode prog_10_method_36_code 21 = .ok (.aload_n 0, 1) := by decide +kernel
theorem d_Mo_refund_22 : decode prog_10_method_36_code 22 = .ok (.getfield 82, 3) := by decide +kernel
theorem d_Mo_refund_25 : decode prog_10_method_36_code 25 = .ok (.iload_n 1, 1) := by decide +kernel
theorem d_Mo_refund_26 : decode prog_10_method_36_code 26 = .ok (.iaload, 1) := by decide +kernel
theorem d_Mo_refund_27 : decode prog_10_method_36_code 27 = .ok (.ireturn, 1) := by decide +kernel
abbrev m_Blobs_init : ac_I := (⟨"PairedGates$Blobs", "<init>", "()V"⟩, prog_2_method_1_code, 1, none, [])
theorem d_Blobs_init_0 : decode prog_2_method_1_code 0 = .ok (.aload_n 0, 1) := by decide +kernel
theorem d_Blobs_init_1 : decode prog_2_method_1_code 1 = .ok (.invokespecial 3, 3) := by decide +kernel
theorem d_Blobs_init_4 : decode prog_2_method_1_code 4 = .ok (.aload_n 0, 1) := by decide +kernel
theorem d_Blobs_init_5 : decode prog_2_method_1_code 5 = .ok (.iconst 4, 1) := by decide +kernel
theorem d_Blobs_init_6 : decode prog_2_method_1_code 6 = .ok (.newarray .int, 2) := by decide +kernel
theorem d_Blobs_init_8 : decode prog_2_method_1_code 8 = .ok (.putfield 9, 3) := by decide +kernel
theorem d_Blobs_init_11 : decode prog_2_method_1_code 11 = .ok (.aload_n 0, 1) := by decide +kernel
theorem d_Blobs_init_12 : decode prog_2_method_1_code 12 = .ok (.iconst 4, 1) := by decide +kernel
theorem d_Blobs_init_13 : decode prog_2_method_1_code 13 = .ok (.newarray .int, 2) := by decide +kernel
theorem d_Blobs_init_15 : decode prog_2_method_1_code 15 = .ok (.putfield 15, 3) := by decide +kernel
theorem d_Blobs_init_18 : decode prog_2_method_1_code 18 = .ok (.aload_n 0, 1) := by decide +kernel
theorem d_Blobs_init_19 : decode prog_2_method_1_code 19 = .ok (.iconst 0, 1) := by decide +kernel
theorem d_Blobs_init_20 : decode prog_2_method_1_code 20 = .ok (.putfield 18, 3) := by decide +kernel
theorem d_Blobs_init_23 : decode prog_2_method_1_code 23 = .ok (.return_, 1) := by decide +kernel
abbrev m_Blobs_find : ac_I := (⟨"PairedGates$Blobs", "find", "(I)V"⟩, prog_2_method_2_code, 3, none, [])
theorem d_Blobs_find_0 : decode prog_2_method_2_code 0 = .ok (.aload_n 0, 1) := by decide +kernel
theorem d_Blobs_find_1 : decode prog_2_method_2_code 1 = .ok (.iconst 0, 1) := by decide +kernel
theorem d_Blobs_find_2 : decode prog_2_method_2_code 2 = .ok (.putfield 18, 3) := by decide +kernel
theorem d_Blobs_find_5 : decode prog_2_method_2_code 5 = .ok (.iconst 0, 1) := by decide +kernel
theorem d_Blobs_find_6 : decode prog_2_method_2_code 6 = .ok (.istore_n 2, 1) := by decide +kernel
theorem d_Blobs_find_7 : decode prog_2_method_2_code 7 = .ok (.iload_n 2, 1) := by decide +kernel
theorem d_Blobs_find_8 : decode prog_2_method_2_code 8 = .ok (.bipush 10, 2) := by decide +kernel
theorem d_Blobs_find_10 : decode prog_2_method_2_code 10 = .ok (.if_icmp .ge 22, 3) := by decide +kernel
theorem d_Blobs_find_13 : decode prog_2_method_2_code 13 = .ok (.iload_n 1, 1) := by decide +kernel
theorem d_Blobs_find_14 : decode prog_2_method_2_code 14 = .ok (.iload_n 2, 1) := by decide +kernel
theorem d_Blobs_find_15 : decode prog_2_method_2_code 15 = .ok (.ishr, 1) := by decide +kernel
theorem d_Blobs_find_16 : decode prog_2_method_2_code 16 = .ok (.iconst 1, 1) := by decide +kernel
theorem d_Blobs_find_17 : decode prog_2_method_2_code 17 = .ok (.iand, 1) := by decide +kernel
theorem d_Blobs_find_18 : decode prog_2_method_2_code 18 = .ok (.ifCond .eq 8, 3) := by decide +kernel
theorem d_Blobs_find_21 : decode prog_2_method_2_code 21 = .ok (.aload_n 0, 1) := by decide +kernel
theorem d_Blobs_find_22 : decode prog_2_method_2_code 22 = .ok (.iload_n 2, 1) := by decide +kernel
theorem d_Blobs_find_23 : decode prog_2_method_2_code 23 = .ok (.invokevirtual 22, 3) := by decide +kernel
theorem d_Blobs_find_26 : decode prog_2_method_2_code 26 = .ok (.iinc 2 1, 3) := by decide +kernel
theorem d_Blobs_find_29 : decode prog_2_method_2_code 29 = .ok (.goto (-22), 3) := by decide +kernel
theorem d_Blobs_find_32 : decode prog_2_method_2_code 32 = .ok (.return_, 1) := by decide +kernel
abbrev m_Blobs_addBeam : ac_I := (⟨"PairedGates$Blobs", "addBeam", "(I)V"⟩, prog_2_method_3_code, 2, none, [])
theorem d_Blobs_addBeam_0 : decode prog_2_method_3_code 0 = .ok (.aload_n 0, 1) := by decide +kernel
theorem d_Blobs_addBeam_1 : decode prog_2_method_3_code 1 = .ok (.getfield 18, 3) := by decide +kernel
theorem d_Blobs_addBeam_4 : decode prog_2_method_3_code 4 = .ok (.ifCond .le 35, 3) := by decide +kernel
theorem d_Blobs_addBeam_7 : decode prog_2_method_3_code 7 = .ok (.iload_n 1, 1) := by decide +kernel
theorem d_Blobs_addBeam_8 : decode prog_2_method_3_code 8 = .ok (.aload_n 0, 1) := by decide +kernel
theorem d_Blobs_addBeam_9 : decode prog_2_method_3_code 9 = .ok (.getfield 15, 3) := by decide +kernel
theorem d_Blobs_addBeam_12 : decode prog_2_method_3_code 12 = .ok (.aload_n 0, 1) := by decide +kernel
theorem d_Blobs_addBeam_13 : decode prog_2_method_3_code 13 = .ok (.getfield 18, 3) := by decide +kernel
theorem d_Blobs_addBeam_16 : decode prog_2_method_3_code 16 = .ok (.iconst 1, 1) := by decide +kernel
theorem d_Blobs_addBeam_17 : decode prog_2_method_3_code 17 = .ok (.isub, 1) := by decide +kernel
theorem d_Blobs_addBeam_18 : decode prog_2_method_3_code 18 = .ok (.iaload, 1) := by decide +kernel
theorem d_Blobs_addBeam_19 : decode prog_2_method_3_code 19 = .ok (.isub, 1) := by decide +kernel
theorem d_Blobs_addBeam_20 : decode prog_2_method_3_code 20 = .ok (.iconst 2, 1) := by decide +kernel
theorem d_Blobs_addBeam_21 : decode prog_2_method_3_code 21 = .ok (.if_icmp .gt 18, 3) := by decide +kernel
theorem d_Blobs_addBeam_24 : decode prog_2_method_3_code 24 = .ok (.aload_n 0, 1) := by decide +kernel
theorem d_Blobs_addBeam_25 : decode prog_2_method_3_code 25 = .ok (.getfield 15, 3) := by decide +kernel
theorem d_Blobs_addBeam_28 : decode prog_2_method_3_code 28 = .ok (.aload_n 0, 1) := by decide +kernel
theorem d_Blobs_addBeam_29 : decode prog_2_method_3_code 29 = .ok (.getfield 18, 3) := by decide +kernel
theorem d_Blobs_addBeam_32 : decode prog_2_method_3_code 32 = .ok (.iconst 1, 1) := by decide +kernel
theorem d_Blobs_addBeam_33 : decode prog_2_method_3_code 33 = .ok (.isub, 1) := by decide +kernel
theorem d_Blobs_addBeam_34 : decode prog_2_method_3_code 34 = .ok (.iload_n 1, 1) := by decide +kernel
theorem d_Blobs_addBeam_35 : decode prog_2_method_3_code 35 = .ok (.iastore, 1) := by decide +kernel
theorem d_Blobs_addBeam_36 : decode prog_2_method_3_code 36 = .ok (.goto 45, 3) := by decide +kernel
theorem d_Blobs_addBeam_39 : decode prog_2_method_3_code 39 = .ok (.aload_n 0, 1) := by decide +kernel
theorem d_Blobs_addBeam_40 : decode prog_2_method_3_code 40 = .ok (.getfield 18, 3) := by decide +kernel
theorem d_Blobs_addBeam_43 : decode prog_2_method_3_code 43 = .ok (.aload_n 0, 1) := by decide +kernel
theorem d_Blobs_addBeam_44 : decode prog_2_method_3_code 44 = .ok (.getfield 9, 3) := by decide +kernel
theorem d_Blobs_addBeam_47 : decode prog_2_method_3_code 47 = .ok (.arraylength, 1) := by decide +kernel
theorem d_Blobs_addBeam_48 : decode prog_2_method_3_code 48 = .ok (.if_icmp .ge 33, 3) := by decide +kernel
theorem d_Blobs_addBeam_51 : decode prog_2_method_3_code 51 = .ok (.aload_n 0, 1) := by decide +kernel
theorem d_Blobs_addBeam_52 : decode prog_2_method_3_code 52 = .ok (.getfield 9, 3) := by decide +kernel
theorem d_Blobs_addBeam_55 : decode prog_2_method_3_code 55 = .ok (.aload_n 0, 1) := by decide +kernel
theorem d_Blobs_addBeam_56 : decode prog_2_method_3_code 56 = .ok (.getfield 18, 3) := by decide +kernel
theorem d_Blobs_addBeam_59 : decode prog_2_method_3_code 59 = .ok (.iload_n 1, 1) := by decide +kernel
theorem d_Blobs_addBeam_60 : decode prog_2_method_3_code 60 = .ok (.iastore, 1) := by decide +kernel
theorem d_Blobs_addBeam_61 : decode prog_2_method_3_code 61 = .ok (.aload_n 0, 1) := by decide +kernel
theorem d_Blobs_addBeam_62 : decode prog_2_method_3_code 62 = .ok (.getfield 15, 3) := by decide +kernel
theorem d_Blobs_addBeam_65 : decode prog_2_method_3_code 65 = .ok (.aload_n 0, 1) := by decide +kernel
theorem d_Blobs_addBeam_66 : decode prog_2_method_3_code 66 = .ok (.getfield 18, 3) := by decide +kernel
theorem d_Blobs_addBeam_69 : decode prog_2_method_3_code 69 = .ok (.iload_n 1, 1) := by decide +kernel
theorem d_Blobs_addBeam_70 : decode prog_2_method_3_code 70 = .ok (.iastore, 1) := by decide +kernel
theorem d_Blobs_addBeam_71 : decode prog_2_method_3_code 71 = .ok (.aload_n 0, 1) := by decide +kernel
theorem d_Blobs_addBeam_72 : decode prog_2_method_3_code 72 = .ok (.dup, 1) := by decide +kernel
theorem d_Blobs_addBeam_73 : decode prog_2_method_3_code 73 = .ok (.getfield 18, 3) := by decide +kernel
theorem d_Blobs_addBeam_76 : decode prog_2_method_3_code 76 = .ok (.iconst 1, 1) := by decide +kernel
theorem d_Blobs_addBeam_77 : decode prog_2_method_3_code 77 = .ok (.iadd, 1) := by decide +kernel
theorem d_Blobs_addBeam_78 : decode prog_2_method_3_code 78 = .ok (.putfield 18, 3) := by decide +kernel
theorem d_Blobs_addBeam_81 : decode prog_2_method_3_code 81 = .ok (.return_, 1) := by decide +kernel
abbrev m_Blobs_firstMetBy : ac_I := (⟨"PairedGates$Blobs", "firstMetBy", "(LPairedGates$Body;)I"⟩, prog_2_method_4_code, 3, (some (.int)), [])
theorem d_Blobs_firstMetBy_0 : decode prog_2_method_4_code 0 = .ok (.iconst 0, 1) := by decide +kernel
theorem d_Blobs_firstMetBy_1 : decode prog_2_method_4_code 1 = .ok (.istore_n 2, 1) := by decide +kernel
theorem d_Blobs_firstMetBy_2 : decode prog_2_method_4_code 2 = .ok (.iload_n 2, 1) := by decide +kernel
theorem d_Blobs_firstMetBy_3 : decode prog_2_method_4_code 3 = .ok (.aload_n 0, 1) := by decide +kernel
theorem d_Blobs_firstMetBy_4 : decode prog_2_method_4_code 4 = .ok (.getfield 18, 3) := by decide +kernel
theorem d_Blobs_firstMetBy_7 : decode prog_2_method_4_code 7 = .ok (.if_icmp .ge 20, 3) := by decide +kernel
theorem d_Blobs_firstMetBy_10 : decode prog_2_method_4_code 10 = .ok (.aload_n 0, 1) := by decide +kernel
theorem d_Blobs_firstMetBy_11 : decode prog_2_method_4_code 11 = .ok (.aload_n 1, 1) := by decide +kernel
theorem d_Blobs_firstMetBy_12 : decode prog_2_method_4_code 12 = .ok (.iload_n 2, 1) := by decide +kernel
theorem d_Blobs_firstMetBy_13 : decode prog_2_method_4_code 13 = .ok (.invokevirtual 26, 3) := by decide +kernel
theorem d_Blobs_firstMetBy_16 : decode prog_2_method_4_code 16 = .ok (.ifCond .eq 5, 3) := by decide +kernel
theorem d_Blobs_firstMetBy_19 : decode prog_2_method_4_code 19 = .ok (.iload_n 2, 1) := by decide +kernel
theorem d_Blobs_firstMetBy_20 : decode prog_2_method_4_code 20 = .ok (.ireturn, 1) := by decide +kernel
theorem d_Blobs_firstMetBy_21 : decode prog_2_method_4_code 21 = .ok (.iinc 2 1, 3) := by decide +kernel
theorem d_Blobs_firstMetBy_24 : decode prog_2_method_4_code 24 = .ok (.goto (-22), 3) := by decide +kernel
theorem d_Blobs_firstMetBy_27 : decode prog_2_method_4_code 27 = .ok (.iconst (-1), 1) := by decide +kernel
theorem d_Blobs_firstMetBy_28 : decode prog_2_method_4_code 28 = .ok (.ireturn, 1) := by decide +kernel
abbrev m_Blobs_isMetBy : ac_I := (⟨"PairedGates$Blobs", "isMetBy", "(LPairedGates$Body;I)Z"⟩, prog_2_method_5_code, 3, (some (.boolean)), [])
theorem d_Blobs_isMetBy_0 : decode prog_2_method_5_code 0 = .ok (.aload_n 1, 1) := by decide +kernel
theorem d_Blobs_isMetBy_1 : decode prog_2_method_5_code 1 = .ok (.getfield 30, 3) := by decide +kernel
theorem d_Blobs_isMetBy_4 : decode prog_2_method_5_code 4 = .ok (.iconst 1, 1) := by decide +kernel
theorem d_Blobs_isMetBy_5 : decode prog_2_method_5_code 5 = .ok (.isub, 1) := by decide +kernel
theorem d_Blobs_isMetBy_6 : decode prog_2_method_5_code 6 = .ok (.aload_n 0, 1) := by decide +kernel
theorem d_Blobs_isMetBy_7 : decode prog_2_method_5_code 7 = .ok (.getfield 15, 3) := by decide +kernel
theorem d_Blobs_isMetBy_10 : decode prog_2_method_5_code 10 = .ok (.iload_n 2, 1) := by decide +kernel
theorem d_Blobs_isMetBy_11 : decode prog_2_method_5_code 11 = .ok (.iaload, 1) := by decide +kernel
theorem d_Blobs_isMetBy_12 : decode prog_2_method_5_code 12 = .ok (.if_icmp .gt 22, 3) := by decide +kernel
theorem d_Blobs_isMetBy_15 : decode prog_2_method_5_code 15 = .ok (.aload_n 1, 1) := by decide +kernel
theorem d_Blobs_isMetBy_16 : decode prog_2_method_5_code 16 = .ok (.getfield 34, 3) := by decide +kernel
theorem d_Blobs_isMetBy_19 : decode prog_2_method_5_code 19 = .ok (.iconst 1, 1) := by decide +kernel
theorem d_Blobs_isMetBy_20 : decode prog_2_method_5_code 20 = .ok (.iadd, 1) := by decide +kernel
theorem d_Blobs_isMetBy_21 : decode prog_2_method_5_code 21 = .ok (.aload_n 0, 1) := by decide +kernel
theorem d_Blobs_isMetBy_22 : decode prog_2_method_5_code 22 = .ok (.getfield 9, 3) := by decide +kernel
theorem d_Blobs_isMetBy_25 : decode prog_2_method_5_code 25 = .ok (.iload_n 2, 1) := by decide +kernel
theorem d_Blobs_isMetBy_26 : decode prog_2_method_5_code 26 = .ok (.iaload, 1) := by decide +kernel
theorem d_Blobs_isMetBy_27 : decode prog_2_method_5_code 27 = .ok (.if_icmp .lt 7, 3) := by decide +kernel
theorem d_Blobs_isMetBy_30 : decode prog_2_method_5_code 30 = .ok (.iconst 1, 1) := by decide +kernel
theorem d_Blobs_isMetBy_31 : decode prog_2_method_5_code 31 = .ok (.goto 4, 3) := by decide +kernel
theorem d_Blobs_isMetBy_34 : decode prog_2_method_5_code 34 = .ok (.iconst 0, 1) := by decide +kernel
theorem d_Blobs_isMetBy_35 : decode prog_2_method_5_code 35 = .ok (.ireturn, 1) := by decide +kernel
abbrev m_Body_init : ac_I := (⟨"PairedGates$Body", "<init>", "()V"⟩, prog_3_method_1_code, 1, none, [])
theorem d_Body_init_0 : decode prog_3_method_1_code 0 = .ok (.aload_n 0, 1) := by decide +kernel
theorem d_Body_init_1 : decode prog_3_method_1_code 1 = .ok (.invokespecial 3, 3) := by decide +kernel
theorem d_Body_init_4 : decode prog_3_method_1_code 4 = .ok (.aload_n 0, 1) := by decide +kernel
theorem d_Body_init_5 : decode prog_3_method_1_code 5 = .ok (.iconst 0, 1) := by decide +kernel
theorem d_Body_init_6 : decode prog_3_method_1_code 6 = .ok (.putfield 9, 3) := by decide +kernel
theorem d_Body_init_9 : decode prog_3_method_1_code 9 = .ok (.aload_n 0, 1) := by decide +kernel
theorem d_Body_init_10 : decode prog_3_method_1_code 10 = .ok (.iconst 0, 1) := by decide +kernel
theorem d_Body_init_11 : decode prog_3_method_1_code 11 = .ok (.putfield 15, 3) := by decide +kernel
theorem d_Body_init_14 : decode prog_3_method_1_code 14 = .ok (.aload_n 0, 1) := by decide +kernel
theorem d_Body_init_15 : decode prog_3_method_1_code 15 = .ok (.iconst 0, 1) := by decide +kernel
theorem d_Body_init_16 : decode prog_3_method_1_code 16 = .ok (.putfield 18, 3) := by decide +kernel
theorem d_Body_init_19 : decode prog_3_method_1_code 19 = .ok (.aload_n 0, 1) := by decide +kernel
theorem d_Body_init_20 : decode prog_3_method_1_code 20 = .ok (.iconst (-1), 1) := by decide +kernel
theorem d_Body_init_21 : decode prog_3_method_1_code 21 = .ok (.putfield 21, 3) := by decide +kernel
theorem d_Body_init_24 : decode prog_3_method_1_code 24 = .ok (.aload_n 0, 1) := by decide +kernel
theorem d_Body_init_25 : decode prog_3_method_1_code 25 = .ok (.iconst 0, 1) := by decide +kernel
theorem d_Body_init_26 : decode prog_3_method_1_code 26 = .ok (.putfield 24, 3) := by decide +kernel
theorem d_Body_init_29 : decode prog_3_method_1_code 29 = .ok (.return_, 1) := by decide +kernel
end
section
abbrev m_Body_enter : ac_I := (⟨"PairedGates$Body", "enter", "(III)V"⟩, prog_3_method_2_code, 4, none, [])
theorem d_Body_enter_0 : decode prog_3_method_2_code 0 = .ok (.aload_n 0, 1) := by decide +kernel
theorem d_Body_enter_1 : decode prog_3_method_2_code 1 = .ok (.iload_n 1, 1) := by decide +kernel
theorem d_Body_enter_2 : decode prog_3_method_2_code 2 = .ok (.putfield 9, 3) := by decide +kernel
theorem d_Body_enter_5 : decode prog_3_method_2_code 5 = .ok (.aload_n 0, 1) := by decide +kernel
theorem d_Body_enter_6 : decode prog_3_method_2_code 6 = .ok (.iload_n 2, 1) := by decide +kernel
theorem d_Body_enter_7 : decode prog_3_method_2_code 7 = .ok (.putfield 15, 3) := by decide +kernel
theorem d_Body_enter_10 : decode prog_3_method_2_code 10 = .ok (.aload_n 0, 1) := by decide +kernel
theorem d_Body_enter_11 : decode prog_3_method_2_code 11 = .ok (.iload_n 3, 1) := by decide +kernel
theorem d_Body_enter_12 : decode prog_3_method_2_code 12 = .ok (.putfield 18, 3) := by decide +kernel
theorem d_Body_enter_15 : decode prog_3_method_2_code 15 = .ok (.aload_n 0, 1) := by decide +kernel
theorem d_Body_enter_16 : decode prog_3_method_2_code 16 = .ok (.iconst (-1), 1) := by decide +kernel
theorem d_Body_enter_17 : decode prog_3_method_2_code 17 = .ok (.putfield 21, 3) := by decide +kernel
theorem d_Body_enter_20 : decode prog_3_method_2_code 20 = .ok (.aload_n 0, 1) := by decide +kernel
theorem d_Body_enter_21 : decode prog_3_method_2_code 21 = .ok (.iload_n 2, 1) := by decide +kernel
theorem d_Body_enter_22 : decode prog_3_method_2_code 22 = .ok (.iload_n 1, 1) := by decide +kernel
theorem d_Body_enter_23 : decode prog_3_method_2_code 23 = .ok (.isub, 1) := by decide +kernel
theorem d_Body_enter_24 : decode prog_3_method_2_code 24 = .ok (.iconst 1, 1) := by decide +kernel
theorem d_Body_enter_25 : decode prog_3_method_2_code 25 = .ok (.iadd, 1) := by decide +kernel
theorem d_Body_enter_26 : decode prog_3_method_2_code 26 = .ok (.putfield 24, 3) := by decide +kernel
theorem d_Body_enter_29 : decode prog_3_method_2_code 29 = .ok (.return_, 1) := by decide +kernel
abbrev m_Body_follow : ac_I := (⟨"PairedGates$Body", "follow", "(LPairedGates$Body;II)V"⟩, prog_3_method_3_code, 4, none, [])
theorem d_Body_follow_0 : decode prog_3_method_3_code 0 = .ok (.aload_n 0, 1) := by decide +kernel
theorem d_Body_follow_1 : decode prog_3_method_3_code 1 = .ok (.iload_n 2, 1) := by decide +kernel
theorem d_Body_follow_2 : decode prog_3_method_3_code 2 = .ok (.putfield 9, 3) := by decide +kernel
theorem d_Body_follow_5 : decode prog_3_method_3_code 5 = .ok (.aload_n 0, 1) := by decide +kernel
theorem d_Body_follow_6 : decode prog_3_method_3_code 6 = .ok (.iload_n 3, 1) := by decide +kernel
theorem d_Body_follow_7 : decode prog_3_method_3_code 7 = .ok (.putfield 15, 3) := by decide +kernel
theorem d_Body_follow_10 : decode prog_3_method_3_code 10 = .ok (.aload_n 0, 1) := by decide +kernel
theorem d_Body_follow_11 : decode prog_3_method_3_code 11 = .ok (.aload_n 1, 1) := by decide +kernel
theorem d_Body_follow_12 : decode prog_3_method_3_code 12 = .ok (.getfield 18, 3) := by decide +kernel
theorem d_Body_follow_15 : decode prog_3_method_3_code 15 = .ok (.putfield 18, 3) := by decide +kernel
theorem d_Body_follow_18 : decode prog_3_method_3_code 18 = .ok (.aload_n 0, 1) := by decide +kernel
theorem d_Body_follow_19 : decode prog_3_method_3_code 19 = .ok (.aload_n 1, 1) := by decide +kernel
theorem d_Body_follow_20 : decode prog_3_method_3_code 20 = .ok (.getfield 21, 3) := by decide +kernel
theorem d_Body_follow_23 : decode prog_3_method_3_code 23 = .ok (.putfield 21, 3) := by decide +kernel
theorem d_Body_follow_26 : decode prog_3_method_3_code 26 = .ok (.aload_n 0, 1) := by decide +kernel
theorem d_Body_follow_27 : decode prog_3_method_3_code 27 = .ok (.aload_n 1, 1) := by decide +kernel
theorem d_Body_follow_28 : decode prog_3_method_3_code 28 = .ok (.getfield 24, 3) := by decide +kernel
theorem d_Body_follow_31 : decode prog_3_method_3_code 31 = .ok (.iload_n 3, 1) := by decide +kernel
theorem d_Body_follow_32 : decode prog_3_method_3_code 32 = .ok (.iload_n 2, 1) := by decide +kernel
theorem d_Body_follow_33 : decode prog_3_method_3_code 33 = .ok (.isub, 1) := by decide +kernel
theorem d_Body_follow_34 : decode prog_3_method_3_code 34 = .ok (.iconst 1, 1) := by decide +kernel
theorem d_Body_follow_35 : decode prog_3_method_3_code 35 = .ok (.iadd, 1) := by decide +kernel
theorem d_Body_follow_36 : decode prog_3_method_3_code 36 = .ok (.invokestatic 27, 3) := by decide +kernel
theorem d_Body_follow_39 : decode prog_3_method_3_code 39 = .ok (.putfield 24, 3) := by decide +kernel
theorem d_Body_follow_42 : decode prog_3_method_3_code 42 = .ok (.return_, 1) := by decide +kernel
abbrev m_Body_isThrough : ac_I := (⟨"PairedGates$Body", "isThrough", "()Z"⟩, prog_3_method_4_code, 1, (some (.boolean)), [])
theorem d_Body_isThrough_0 : decode prog_3_method_4_code 0 = .ok (.aload_n 0, 1) := by decide +kernel
theorem d_Body_isThrough_1 : decode prog_3_method_4_code 1 = .ok (.getfield 18, 3) := by decide +kernel
theorem d_Body_isThrough_4 : decode prog_3_method_4_code 4 = .ok (.ifCond .ne 10, 3) := by decide +kernel
theorem d_Body_isThrough_7 : decode prog_3_method_4_code 7 = .ok (.aload_n 0, 1) := by decide +kernel
theorem d_Body_isThrough_8 : decode prog_3_method_4_code 8 = .ok (.invokevirtual 33, 3) := by decide +kernel
theorem d_Body_isThrough_11 : decode prog_3_method_4_code 11 = .ok (.goto 7, 3) := by decide +kernel
theorem d_Body_isThrough_14 : decode prog_3_method_4_code 14 = .ok (.aload_n 0, 1) := by decide +kernel
theorem d_Body_isThrough_15 : decode prog_3_method_4_code 15 = .ok (.invokevirtual 37, 3) := by decide +kernel
theorem d_Body_isThrough_18 : decode prog_3_method_4_code 18 = .ok (.ireturn, 1) := by decide +kernel
abbrev m_Body_isTurned : ac_I := (⟨"PairedGates$Body", "isTurned", "()Z"⟩, prog_3_method_5_code, 1, (some (.boolean)), [])
theorem d_Body_isTurned_0 : decode prog_3_method_5_code 0 = .ok (.aload_n 0, 1) := by decide +kernel
theorem d_Body_isTurned_1 : decode prog_3_method_5_code 1 = .ok (.getfield 18, 3) := by decide +kernel
theorem d_Body_isTurned_4 : decode prog_3_method_5_code 4 = .ok (.ifCond .ne 10, 3) := by decide +kernel
theorem d_Body_isTurned_7 : decode prog_3_method_5_code 7 = .ok (.aload_n 0, 1) := by decide +kernel
theorem d_Body_isTurned_8 : decode prog_3_method_5_code 8 = .ok (.invokevirtual 37, 3) := by decide +kernel
theorem d_Body_isTurned_11 : decode prog_3_method_5_code 11 = .ok (.goto 7, 3) := by decide +kernel
theorem d_Body_isTurned_14 : decode prog_3_method_5_code 14 = .ok (.aload_n 0, 1) := by decide +kernel
theorem d_Body_isTurned_15 : decode prog_3_method_5_code 15 = .ok (.invokevirtual 33, 3) := by decide +kernel
theorem d_Body_isTurned_18 : decode prog_3_method_5_code 18 = .ok (.ireturn, 1) := by decide +kernel
abbrev m_Body_hasReachedPaddles : ac_I := (⟨"PairedGates$Body", "hasReachedPaddles", "()Z"⟩, prog_3_method_6_code, 1, (some (.boolean)), [])
theorem d_Body_hasReachedPaddles_0 : decode prog_3_method_6_code 0 = .ok (.aload_n 0, 1) := by decide +kernel
theorem d_Body_hasReachedPaddles_1 : decode prog_3_method_6_code 1 = .ok (.getfield 18, 3) := by decide +kernel
theorem d_Body_hasReachedPaddles_4 : decode prog_3_method_6_code 4 = .ok (.ifCond .ne 19, 3) := by decide +kernel
theorem d_Body_hasReachedPaddles_7 : decode prog_3_method_6_code 7 = .ok (.aload_n 0, 1) := by decide +kernel
theorem d_Body_hasReachedPaddles_8 : decode prog_3_method_6_code 8 = .ok (.getfield 15, 3) := by decide +kernel
theorem d_Body_hasReachedPaddles_11 : decode prog_3_method_6_code 11 = .ok (.iconst 4, 1) := by decide +kernel
theorem d_Body_hasReachedPaddles_12 : decode prog_3_method_6_code 12 = .ok (.if_icmp .lt 7, 3) := by decide +kernel
theorem d_Body_hasReachedPaddles_15 : decode prog_3_method_6_code 15 = .ok (.iconst 1, 1) := by decide +kernel
theorem d_Body_hasReachedPaddles_16 : decode prog_3_method_6_code 16 = .ok (.goto 20, 3) := by decide +kernel
theorem d_Body_hasReachedPaddles_19 : decode prog_3_method_6_code 19 = .ok (.iconst 0, 1) := by decide +kernel
theorem d_Body_hasReachedPaddles_20 : decode prog_3_method_6_code 20 = .ok (.goto 16, 3) := by decide +kernel
theorem d_Body_hasReachedPaddles_23 : decode prog_3_method_6_code 23 = .ok (.aload_n 0, 1) := by decide +kernel
theorem d_Body_hasReachedPaddles_24 : decode prog_3_method_6_code 24 = .ok (.getfield 9, 3) := by decide +kernel
theorem d_Body_hasReachedPaddles_27 : decode prog_3_method_6_code 27 = .ok (.iconst 5, 1) := by decide +kernel
theorem d_Body_hasReachedPaddles_28 : decode prog_3_method_6_code 28 = .ok (.if_icmp .gt 7, 3) := by decide +kernel
theorem d_Body_hasReachedPaddles_31 : decode prog_3_method_6_code 31 = .ok (.iconst 1, 1) := by decide +kernel
theorem d_Body_hasReachedPaddles_32 : decode prog_3_method_6_code 32 = .ok (.goto 4, 3) := by decide +kernel
theorem d_Body_hasReachedPaddles_35 : decode prog_3_method_6_code 35 = .ok (.iconst 0, 1) := by decide +kernel
theorem d_Body_hasReachedPaddles_36 : decode prog_3_method_6_code 36 = .ok (.ireturn, 1) := by decide +kernel
abbrev m_Body_startsLow : ac_I := (⟨"PairedGates$Body", "startsLow", "()Z"⟩, prog_3_method_7_code, 1, (some (.boolean)), [])
theorem d_Body_startsLow_0 : decode prog_3_method_7_code 0 = .ok (.aload_n 0, 1) := by decide +kernel
theorem d_Body_startsLow_1 : decode prog_3_method_7_code 1 = .ok (.getfield 9, 3) := by decide +kernel
theorem d_Body_startsLow_4 : decode prog_3_method_7_code 4 = .ok (.iconst 2, 1) := by decide +kernel
theorem d_Body_startsLow_5 : decode prog_3_method_7_code 5 = .ok (.if_icmp .gt 7, 3) := by decide +kernel
theorem d_Body_startsLow_8 : decode prog_3_method_7_code 8 = .ok (.iconst 1, 1) := by decide +kernel
theorem d_Body_startsLow_9 : decode prog_3_method_7_code 9 = .ok (.goto 4, 3) := by decide +kernel
theorem d_Body_startsLow_12 : decode prog_3_method_7_code 12 = .ok (.iconst 0, 1) := by decide +kernel
theorem d_Body_startsLow_13 : decode prog_3_method_7_code 13 = .ok (.ireturn, 1) := by decide +kernel
abbrev m_Body_endsHigh : ac_I := (⟨"PairedGates$Body", "endsHigh", "()Z"⟩, prog_3_method_8_code, 1, (some (.boolean)), [])
theorem d_Body_endsHigh_0 : decode prog_3_method_8_code 0 = .ok (.aload_n 0, 1) := by decide +kernel
theorem d_Body_endsHigh_1 : decode prog_3_method_8_code 1 = .ok (.getfield 15, 3) := by decide +kernel
theorem d_Body_endsHigh_4 : decode prog_3_method_8_code 4 = .ok (.bipush 7, 2) := by decide +kernel
theorem d_Body_endsHigh_6 : decode prog_3_method_8_code 6 = .ok (.if_icmp .lt 7, 3) := by decide +kernel
theorem d_Body_endsHigh_9 : decode prog_3_method_8_code 9 = .ok (.iconst 1, 1) := by decide +kernel
theorem d_Body_endsHigh_10 : decode prog_3_method_8_code 10 = .ok (.goto 4, 3) := by decide +kernel
theorem d_Body_endsHigh_13 : decode prog_3_method_8_code 13 = .ok (.iconst 0, 1) := by decide +kernel
theorem d_Body_endsHigh_14 : decode prog_3_method_8_code 14 = .ok (.ireturn, 1) := by decide +kernel
abbrev m_Eye_init : ac_I := (⟨"PairedGates$Eye", "<init>", "()V"⟩, prog_4_method_1_code, 1, none, [])
theorem d_Eye_init_0 : decode prog_4_method_1_code 0 = .ok (.aload_n 0, 1) := by decide +kernel
theorem d_Eye_init_1 : decode prog_4_method_1_code 1 = .ok (.invokespecial 3, 3) := by decide +kernel
theorem d_Eye_init_4 : decode prog_4_method_1_code 4 = .ok (.aload_n 0, 1) := by decide +kernel
theorem d_Eye_init_5 : decode prog_4_method_1_code 5 = .ok (.iconst 0, 1) := by decide +kernel
theorem d_Eye_init_6 : decode prog_4_method_1_code 6 = .ok (.putfield 9, 3) := by decide +kernel
theorem d_Eye_init_9 : decode prog_4_method_1_code 9 = .ok (.aload_n 0, 1) := by decide +kernel
theorem d_Eye_init_10 : decode prog_4_method_1_code 10 = .ok (.iconst 0, 1) := by decide +kernel
theorem d_Eye_init_11 : decode prog_4_method_1_code 11 = .ok (.putfield 15, 3) := by decide +kernel
theorem d_Eye_init_14 : decode prog_4_method_1_code 14 = .ok (.aload_n 0, 1) := by decide +kernel
theorem d_Eye_init_15 : decode prog_4_method_1_code 15 = .ok (.iconst 0, 1) := by decide +kernel
theorem d_Eye_init_16 : decode prog_4_method_1_code 16 = .ok (.putfield 18, 3) := by decide +kernel
theorem d_Eye_init_19 : decode prog_4_method_1_code 19 = .ok (.aload_n 0, 1) := by decide +kernel
theorem d_Eye_init_20 : decode prog_4_method_1_code 20 = .ok (.iconst 0, 1) := by decide +kernel
theorem d_Eye_init_21 : decode prog_4_method_1_code 21 = .ok (.putfield 21, 3) := by decide +kernel
theorem d_Eye_init_24 : decode prog_4_method_1_code 24 = .ok (.return_, 1) := by decide +kernel
abbrev m_Eye_tell : ac_I := (⟨"PairedGates$Eye", "tell", "(I)V"⟩, prog_4_method_2_code, 2, none, [])
theorem d_Eye_tell_0 : decode prog_4_method_2_code 0 = .ok (.aload_n 0, 1) := by decide +kernel
theorem d_Eye_tell_1 : decode prog_4_method_2_code 1 = .ok (.iload_n 1, 1) := by decide +kernel
theorem d_Eye_tell_2 : decode prog_4_method_2_code 2 = .ok (.sipush 1023, 3) := by decide +kernel
theorem d_Eye_tell_5 : decode prog_4_method_2_code 5 = .ok (.iand, 1) := by decide +kernel
theorem d_Eye_tell_6 : decode prog_4_method_2_code 6 = .ok (.putfield 9, 3) := by decide +kernel
theorem d_Eye_tell_9 : decode prog_4_method_2_code 9 = .ok (.return_, 1) := by decide +kernel
abbrev m_Eye_take : ac_I := (⟨"PairedGates$Eye", "take", "()V"⟩, prog_4_method_3_code, 1, none, [])
theorem d_Eye_take_0 : decode prog_4_method_3_code 0 = .ok (.aload_n 0, 1) := by decide +kernel
theorem d_Eye_take_1 : decode prog_4_method_3_code 1 = .ok (.aload_n 0, 1) := by decide +kernel
theorem d_Eye_take_2 : decode prog_4_method_3_code 2 = .ok (.getfield 9, 3) := by decide +kernel
theorem d_Eye_take_5 : decode prog_4_method_3_code 5 = .ok (.aload_n 0, 1) := by decide +kernel
theorem d_Eye_take_6 : decode prog_4_method_3_code 6 = .ok (.getfield 15, 3) := by decide +kernel
theorem d_Eye_take_9 : decode prog_4_method_3_code 9 = .ok (.iand, 1) := by decide +kernel
theorem d_Eye_take_10 : decode prog_4_method_3_code 10 = .ok (.aload_n 0, 1) := by decide +kernel
theorem d_Eye_take_11 : decode prog_4_method_3_code 11 = .ok (.getfield 9, 3) := by decide +kernel
theorem d_Eye_take_14 : decode prog_4_method_3_code 14 = .ok (.aload_n 0, 1) := by decide +kernel
theorem d_Eye_take_15 : decode prog_4_method_3_code 15 = .ok (.getfield 18, 3) := by decide +kernel
theorem d_Eye_take_18 : decode prog_4_method_3_code 18 = .ok (.iand, 1) := by decide +kernel
theorem d_Eye_take_19 : decode prog_4_method_3_code 19 = .ok (.ior, 1) := by decide +kernel
theorem d_Eye_take_20 : decode prog_4_method_3_code 20 = .ok (.aload_n 0, 1) := by decide +kernel
theorem d_Eye_take_21 : decode prog_4_method_3_code 21 = .ok (.getfield 15, 3) := by decide +kernel
theorem d_Eye_take_24 : decode prog_4_method_3_code 24 = .ok (.aload_n 0, 1) := by decide +kernel
theorem d_Eye_take_25 : decode prog_4_method_3_code 25 = .ok (.getfield 18, 3) := by decide +kernel
theorem d_Eye_take_28 : decode prog_4_method_3_code 28 = .ok (.iand, 1) := by decide +kernel
theorem d_Eye_take_29 : decode prog_4_method_3_code 29 = .ok (.ior, 1) := by decide +kernel
theorem d_Eye_take_30 : decode prog_4_method_3_code 30 = .ok (.putfield 21, 3) := by decide +kernel
theorem d_Eye_take_33 : decode prog_4_method_3_code 33 = .ok (.aload_n 0, 1) := by decide +kernel
theorem d_Eye_take_34 : decode prog_4_method_3_code 34 = .ok (.aload_n 0, 1) := by decide +kernel
theorem d_Eye_take_35 : decode prog_4_method_3_code 35 = .ok (.getfield 15, 3) := by decide +kernel
theorem d_Eye_take_38 : decode prog_4_method_3_code 38 = .ok (.putfield 18, 3) := by decide +kernel
theorem d_Eye_take_41 : decode prog_4_method_3_code 41 = .ok (.aload_n 0, 1) := by decide +kernel
theorem d_Eye_take_42 : decode prog_4_method_3_code 42 = .ok (.aload_n 0, 1) := by decide +kernel
theorem d_Eye_take_43 : decode prog_4_method_3_code 43 = .ok (.getfield 9, 3) := by decide +kernel
theorem d_Eye_take_46 : decode prog_4_method_3_code 46 = .ok (.putfield 15, 3) := by decide +kernel
theorem d_Eye_take_49 : decode prog_4_method_3_code 49 = .ok (.return_, 1) := by decide +kernel
abbrev m_Lane_init : ac_I := (⟨"PairedGates$Lane", "<init>", "()V"⟩, prog_5_method_1_code, 1, none, [])
theorem d_Lane_init_0 : decode prog_5_method_1_code 0 = .ok (.aload_n 0, 1) := by decide +kernel
theorem d_Lane_init_1 : decode prog_5_method_1_code 1 = .ok (.invokespecial 3, 3) := by decide +kernel
theorem d_Lane_init_4 : decode prog_5_method_1_code 4 = .ok (.aload_n 0, 1) := by decide +kernel
theorem d_Lane_init_5 : decode prog_5_method_1_code 5 = .ok (.new 9, 3) := by decide +kernel
theorem d_Lane_init_8 : decode prog_5_method_1_code 8 = .ok (.dup, 1) := by decide +kernel
theorem d_Lane_init_9 : decode prog_5_method_1_code 9 = .ok (.invokespecial 11, 3) := by decide +kernel
theorem d_Lane_init_12 : decode prog_5_method_1_code 12 = .ok (.putfield 12, 3) := by decide +kernel
theorem d_Lane_init_15 : decode prog_5_method_1_code 15 = .ok (.aload_n 0, 1) := by decide +kernel
theorem d_Lane_init_16 : decode prog_5_method_1_code 16 = .ok (.new 18, 3) := by decide +kernel
theorem d_Lane_init_19 : decode prog_5_method_1_code 19 = .ok (.dup, 1) := by decide +kernel
theorem d_Lane_init_20 : decode prog_5_method_1_code 20 = .ok (.invokespecial 20, 3) := by decide +kernel
theorem d_Lane_init_23 : decode prog_5_method_1_code 23 = .ok (.putfield 21, 3) := by decide +kernel
theorem d_Lane_init_26 : decode prog_5_method_1_code 26 = .ok (.aload_n 0, 1) := by decide +kernel
theorem d_Lane_init_27 : decode prog_5_method_1_code 27 = .ok (.new 25, 3) := by decide +kernel
theorem d_Lane_init_30 : decode prog_5_method_1_code 30 = .ok (.dup, 1) := by decide +kernel
theorem d_Lane_init_31 : decode prog_5_method_1_code 31 = .ok (.invokespecial 27, 3) := by decide +kernel
theorem d_Lane_init_34 : decode prog_5_method_1_code 34 = .ok (.putfield 28, 3) := by decide +kernel
theorem d_Lane_init_37 : decode prog_5_method_1_code 37 = .ok (.aload_n 0, 1) := by decide +kernel
theorem d_Lane_init_38 : decode prog_5_method_1_code 38 = .ok (.iconst 2, 1) := by decide +kernel
theorem d_Lane_init_39 : decode prog_5_method_1_code 39 = .ok (.anewarray 32, 3) := by decide +kernel
theorem d_Lane_init_42 : decode prog_5_method_1_code 42 = .ok (.dup, 1) := by decide +kernel
theorem d_Lane_init_43 : decode prog_5_method_1_code 43 = .ok (.iconst 0, 1) := by decide +kernel
theorem d_Lane_init_44 : decode prog_5_method_1_code 44 = .ok (.new 32, 3) := by decide +kernel
theorem d_Lane_init_47 : decode prog_5_method_1_code 47 = .ok (.dup, 1) := by decide +kernel
theorem d_Lane_init_48 : decode prog_5_method_1_code 48 = .ok (.bipush 6, 2) := by decide +kernel
theorem d_Lane_init_50 : decode prog_5_method_1_code 50 = .ok (.invokespecial 34, 3) := by decide +kernel
theorem d_Lane_init_53 : decode prog_5_method_1_code 53 = .ok (.aastore, 1) := by decide +kernel
theorem d_Lane_init_54 : decode prog_5_method_1_code 54 = .ok (.dup, 1) := by decide +kernel
theorem d_Lane_init_55 : decode prog_5_method_1_code 55 = .ok (.iconst 1, 1) := by decide +kernel
theorem d_Lane_init_56 : decode prog_5_method_1_code 56 = .ok (.new 32, 3) := by decide +kernel
theorem d_Lane_init_59 : decode prog_5_method_1_code 59 = .ok (.dup, 1) := by decide +kernel
theorem d_Lane_init_60 : decode prog_5_method_1_code 60 = .ok (.bipush 6, 2) := by decide +kernel
theorem d_Lane_init_62 : decode prog_5_method_1_code 62 = .ok (.invokespecial 34, 3) := by decide +kernel
theorem d_Lane_init_65 : decode prog_5_method_1_code 65 = .ok (.aastore, 1) := by decide +kernel
theorem d_Lane_init_66 : decode prog_5_method_1_code 66 = .ok (.putfield 37, 3) := by decide +kernel
theorem d_Lane_init_69 : decode prog_5_method_1_code 69 = .ok (.aload_n 0, 1) := by decide +kernel
theorem d_Lane_init_70 : decode prog_5_method_1_code 70 = .ok (.iconst 5, 1) := by decide +kernel
theorem d_Lane_init_71 : decode prog_5_method_1_code 71 = .ok (.newarray .int, 2) := by decide +kernel
theorem d_Lane_init_73 : decode prog_5_method_1_code 73 = .ok (.putfield 41, 3) := by decide +kernel
theorem d_Lane_init_76 : decode prog_5_method_1_code 76 = .ok (.aload_n 0, 1) := by decide +kernel
theorem d_Lane_init_77 : decode prog_5_method_1_code 77 = .ok (.iconst 4, 1) := by decide +kernel
theorem d_Lane_init_78 : decode prog_5_method_1_code 78 = .ok (.newarray .int, 2) := by decide +kernel
theorem d_Lane_init_80 : decode prog_5_method_1_code 80 = .ok (.putfield 45, 3) := by decide +kernel
theorem d_Lane_init_83 : decode prog_5_method_1_code 83 = .ok (.aload_n 0, 1) := by decide +kernel
theorem d_Lane_init_84 : decode prog_5_method_1_code 84 = .ok (.iconst 0, 1) := by decide +kernel
theorem d_Lane_init_85 : decode prog_5_method_1_code 85 = .ok (.putfield 48, 3) := by decide +kernel
theorem d_Lane_init_88 : decode prog_5_method_1_code 88 = .ok (.aload_n 0, 1) := by decide +kernel
theorem d_Lane_init_89 : decode prog_5_method_1_code 89 = .ok (.iconst 0, 1) := by decide +kernel
theorem d_Lane_init_90 : decode prog_5_method_1_code 90 = .ok (.putfield 52, 3) := by decide +kernel
theorem d_Lane_init_93 : decode prog_5_method_1_code 93 = .ok (.aload_n 0, 1) := by decide +kernel
theorem d_Lane_init_94 : decode prog_5_method_1_code 94 = .ok (.invokestatic 55, 3) := by decide +kernel
theorem d_Lane_init_97 : decode prog_5_method_1_code 97 = .ok (.putfield 59, 3) := by decide +kernel
theorem d_Lane_init_100 : decode prog_5_method_1_code 100 = .ok (.aload_n 0, 1) := by decide +kernel
theorem d_Lane_init_101 : decode prog_5_method_1_code 101 = .ok (.invokestatic 55, 3) := by decide +kernel
theorem d_Lane_init_104 : decode prog_5_method_1_code 104 = .ok (.putfield 63, 3) := by decide +kernel
theorem d_Lane_init_107 : decode prog_5_method_1_code 107 = .ok (.return_, 1) := by decide +kernel
abbrev m_Lane_newRow : ac_I := (⟨"PairedGates$Lane", "newRow", "()[LPairedGates$Body;"⟩, prog_5_method_2_code, 2, (some ((.array (.object "PairedGates$Body")))), [])
theorem d_Lane_newRow_0 : decode prog_5_method_2_code 0 = .ok (.iconst 4, 1) := by decide +kernel
theorem d_Lane_newRow_1 : decode prog_5_method_2_code 1 = .ok (.anewarray 66, 3) := by decide +kernel
theorem d_Lane_newRow_4 : decode prog_5_method_2_code 4 = .ok (.astore_n 0, 1) := by decide +kernel
theorem d_Lane_newRow_5 : decode prog_5_method_2_code 5 = .ok (.iconst 0, 1) := by decide +kernel
theorem d_Lane_newRow_6 : decode prog_5_method_2_code 6 = .ok (.istore_n 1, 1) := by decide +kernel
theorem d_Lane_newRow_7 : decode prog_5_method_2_code 7 = .ok (.iload_n 1, 1) := by decide +kernel
theorem d_Lane_newRow_8 : decode prog_5_method_2_code 8 = .ok (.aload_n 0, 1) := by decide +kernel
theorem d_Lane_newRow_9 : decode prog_5_method_2_code 9 = .ok (.arraylength, 1) := by decide +kernel
theorem d_Lane_newRow_10 : decode prog_5_method_2_code 10 = .ok (.if_icmp .ge 19, 3) := by decide +kernel
theorem d_Lane_newRow_13 : decode prog_5_method_2_code 13 = .ok (.aload_n 0, 1) := by decide +kernel
theorem d_Lane_newRow_14 : decode prog_5_method_2_code 14 = .ok (.iload_n 1, 1) := by decide +kernel
theorem d_Lane_newRow_15 : decode prog_5_method_2_code 15 = .ok (.new 66, 3) := by decide +kernel
theorem d_Lane_newRow_18 : decode prog_5_method_2_code 18 = .ok (.dup, 1) := by decide +kernel
theorem d_Lane_newRow_19 : decode prog_5_method_2_code 19 = .ok (.invokespecial 68, 3) := by decide +kernel
theorem d_Lane_newRow_22 : decode prog_5_method_2_code 22 = .ok (.aastore, 1) := by decide +kernel
theorem d_Lane_newRow_23 : decode prog_5_method_2_code 23 = .ok (.iinc 1 1, 3) := by decide +kernel
theorem d_Lane_newRow_26 : decode prog_5_method_2_code 26 = .ok (.goto (-19), 3) := by decide +kernel
theorem d_Lane_newRow_29 : decode prog_5_method_2_code 29 = .ok (.aload_n 0, 1) := by decide +kernel
theorem d_Lane_newRow_30 : decode prog_5_method_2_code 30 = .ok (.areturn, 1) := by decide +kernel
abbrev m_Lane_takesSide : ac_I := (⟨"PairedGates$Lane", "takesSide", "(I)Z"⟩, prog_5_method_3_code, 2, (some (.boolean)), [])
theorem d_Lane_takesSide_0 : decode prog_5_method_3_code 0 = .ok (.aload_n 0, 1) := by decide +kernel
theorem d_Lane_takesSide_1 : decode prog_5_method_3_code 1 = .ok (.getfield 48, 3) := by decide +kernel
theorem d_Lane_takesSide_4 : decode prog_5_method_3_code 4 = .ok (.ifCond .eq 13, 3) := by decide +kernel
theorem d_Lane_takesSide_7 : decode prog_5_method_3_code 7 = .ok (.aload_n 0, 1) := by decide +kernel
theorem d_Lane_takesSide_8 : decode prog_5_method_3_code 8 = .ok (.getfield 48, 3) := by decide +kernel
theorem d_Lane_takesSide_11 : decode prog_5_method_3_code 11 = .ok (.iload_n 1, 1) := by decide +kernel
theorem d_Lane_takesSide_12 : decode prog_5_method_3_code 12 = .ok (.iconst 1, 1) := by decide +kernel
theorem d_Lane_takesSide_13 : decode prog_5_method_3_code 13 = .ok (.iadd, 1) := by decide +kernel
theorem d_Lane_takesSide_14 : decode prog_5_method_3_code 14 = .ok (.if_icmp .ne 7, 3) := by decide +kernel
theorem d_Lane_takesSide_17 : decode prog_5_method_3_code 17 = .ok (.iconst 1, 1) := by decide +kernel
theorem d_Lane_takesSide_18 : decode prog_5_method_3_code 18 = .ok (.goto 4, 3) := by decide +kernel
theorem d_Lane_takesSide_21 : decode prog_5_method_3_code 21 = .ok (.iconst 0, 1) := by decide +kernel
theorem d_Lane_takesSide_22 : decode prog_5_method_3_code 22 = .ok (.ireturn, 1) := by decide +kernel
abbrev m_Lane_changeMode : ac_I := (⟨"PairedGates$Lane", "changeMode", "(ILPairedGates$Refunds;)I"⟩, prog_5_method_4_code, 5, (some (.int)), [])
theorem d_Lane_changeMode_0 : decode prog_5_method_4_code 0 = .ok (.aload_n 0, 1) := by decide +kernel
theorem d_Lane_changeMode_1 : decode prog_5_method_4_code 1 = .ok (.iload_n 1, 1) := by decide +kernel
theorem d_Lane_changeMode_2 : decode prog_5_method_4_code 2 = .ok (.putfield 48, 3) := by decide +kernel
theorem d_Lane_changeMode_5 : decode prog_5_method_4_code 5 = .ok (.iconst 0, 1) := by decide +kernel
theorem d_Lane_changeMode_6 : decode prog_5_method_4_code 6 = .ok (.istore_n 3, 1) := by decide +kernel
theorem d_Lane_changeMode_7 : decode prog_5_method_4_code 7 = .ok (.iconst 0, 1) := by decide +kernel
theorem d_Lane_changeMode_8 : decode prog_5_method_4_code 8 = .ok (.istore 4, 2) := by decide +kernel
theorem d_Lane_changeMode_10 : decode prog_5_method_4_code 10 = .ok (.iload 4, 2) := by decide +kernel
theorem d_Lane_changeMode_12 : decode prog_5_method_4_code 12 = .ok (.aload_n 0, 1) := by decide +kernel
theorem d_Lane_changeMode_13 : decode prog_5_method_4_code 13 = .ok (.getfield 37, 3) := by decide +kernel
theorem d_Lane_changeMode_16 : decode prog_5_method_4_code 16 = .ok (.arraylength, 1) := by decide +kernel
theorem d_Lane_changeMode_17 : decode prog_5_method_4_code 17 = .ok (.if_icmp .ge 32, 3) := by decide +kernel
theorem d_Lane_changeMode_20 : decode prog_5_method_4_code 20 = .ok (.aload_n 0, 1) := by decide +kernel
theorem d_Lane_changeMode_21 : decode prog_5_method_4_code 21 = .ok (.iload 4, 2) := by decide +kernel
theorem d_Lane_changeMode_23 : decode prog_5_method_4_code 23 = .ok (.invokevirtual 69, 3) := by decide +kernel
theorem d_Lane_changeMode_26 : decode prog_5_method_4_code 26 = .ok (.ifCond .ne 17, 3) := by decide +kernel
theorem d_Lane_changeMode_29 : decode prog_5_method_4_code 29 = .ok (.iload_n 3, 1) := by decide +kernel
theorem d_Lane_changeMode_30 : decode prog_5_method_4_code 30 = .ok (.aload_n 0, 1) := by decide +kernel
theorem d_Lane_changeMode_31 : decode prog_5_method_4_code 31 = .ok (.getfield 37, 3) := by decide +kernel
theorem d_Lane_changeMode_34 : decode prog_5_method_4_code 34 = .ok (.iload 4, 2) := by decide +kernel
theorem d_Lane_changeMode_36 : decode prog_5_method_4_code 36 = .ok (.aaload, 1) := by decide +kernel
theorem d_Lane_changeMode_37 : decode prog_5_method_4_code 37 = .ok (.aload_n 2, 1) := by decide +kernel
theorem d_Lane_changeMode_38 : decode prog_5_method_4_code 38 = .ok (.invokevirtual 73, 3) := by decide +kernel
theorem d_Lane_changeMode_41 : decode prog_5_method_4_code 41 = .ok (.iadd, 1) := by decide +kernel
theorem d_Lane_changeMode_42 : decode prog_5_method_4_code 42 = .ok (.istore_n 3, 1) := by decide +kernel
theorem d_Lane_changeMode_43 : decode prog_5_method_4_code 43 = .ok (.iinc 4 1, 3) := by decide +kernel
theorem d_Lane_changeMode_46 : decode prog_5_method_4_code 46 = .ok (.goto (-36), 3) := by decide +kernel
theorem d_Lane_changeMode_49 : decode prog_5_method_4_code 49 = .ok (.iload_n 3, 1) := by decide +kernel
theorem d_Lane_changeMode_50 : decode prog_5_method_4_code 50 = .ok (.ireturn, 1) := by decide +kernel
abbrev m_Lane_tick : ac_I := (⟨"PairedGates$Lane", "tick", "(IZLPairedGates$Refunds;)I"⟩, prog_5_method_5_code, 5, (some (.int)), [])
theorem d_Lane_tick_0 : decode prog_5_method_5_code 0 = .ok (.iconst 0, 1) := by decide +kernel
theorem d_Lane_tick_1 : decode prog_5_method_5_code 1 = .ok (.istore 4, 2) := by decide +kernel
theorem d_Lane_tick_3 : decode prog_5_method_5_code 3 = .ok (.iload 4, 2) := by decide +kernel
theorem d_Lane_tick_5 : decode prog_5_method_5_code 5 = .ok (.aload_n 0, 1) := by decide +kernel
theorem d_Lane_tick_6 : decode prog_5_method_5_code 6 = .ok (.getfield 37, 3) := by decide +kernel
theorem d_Lane_tick_9 : decode prog_5_method_5_code 9 = .ok (.arraylength, 1) := by decide +kernel
theorem d_Lane_tick_10 : decode prog_5_method_5_code 10 = .ok (.if_icmp .ge 21, 3) := by decide +kernel
theorem d_Lane_tick_13 : decode prog_5_method_5_code 13 = .ok (.aload_n 0, 1) := by decide +kernel
theorem d_Lane_tick_14 : decode prog_5_method_5_code 14 = .ok (.getfield 37, 3) := by decide +kernel
theorem d_Lane_tick_17 : decode prog_5_method_5_code 17 = .ok (.iload 4, 2) := by decide +kernel
theorem d_Lane_tick_19 : decode prog_5_method_5_code 19 = .ok (.aaload, 1) := by decide +kernel
theorem d_Lane_tick_20 : decode prog_5_method_5_code 20 = .ok (.iload_n 1, 1) := by decide +kernel
theorem d_Lane_tick_21 : decode prog_5_method_5_code 21 = .ok (.aload_n 3, 1) := by decide +kernel
theorem d_Lane_tick_22 : decode prog_5_method_5_code 22 = .ok (.invokevirtual 77, 3) := by decide +kernel
theorem d_Lane_tick_25 : decode prog_5_method_5_code 25 = .ok (.iinc 4 1, 3) := by decide +kernel
theorem d_Lane_tick_28 : decode prog_5_method_5_code 28 = .ok (.goto (-25), 3) := by decide +kernel
theorem d_Lane_tick_31 : decode prog_5_method_5_code 31 = .ok (.aload_n 0, 1) := by decide +kernel
theorem d_Lane_tick_32 : decode prog_5_method_5_code 32 = .ok (.getfield 12, 3) := by decide +kernel
theorem d_Lane_tick_35 : decode prog_5_method_5_code 35 = .ok (.invokevirtual 81, 3) := by decide +kernel
theorem d_Lane_tick_38 : decode prog_5_method_5_code 38 = .ok (.aload_n 0, 1) := by decide +kernel
theorem d_Lane_tick_39 : decode prog_5_method_5_code 39 = .ok (.getfield 21, 3) := by decide +kernel
theorem d_Lane_tick_42 : decode prog_5_method_5_code 42 = .ok (.aload_n 0, 1) := by decide +kernel
theorem d_Lane_tick_43 : decode prog_5_method_5_code 43 = .ok (.getfield 12, 3) := by decide +kernel
theorem d_Lane_tick_46 : decode prog_5_method_5_code 46 = .ok (.getfield 84, 3) := by decide +kernel
theorem d_Lane_tick_49 : decode prog_5_method_5_code 49 = .ok (.invokevirtual 87, 3) := by decide +kernel
theorem d_Lane_tick_52 : decode prog_5_method_5_code 52 = .ok (.aload_n 0, 1) := by decide +kernel
theorem d_Lane_tick_53 : decode prog_5_method_5_code 53 = .ok (.aload_n 3, 1) := by decide +kernel
theorem d_Lane_tick_54 : decode prog_5_method_5_code 54 = .ok (.invokevirtual 90, 3) := by decide +kernel
theorem d_Lane_tick_57 : decode prog_5_method_5_code 57 = .ok (.istore 4, 2) := by decide +kernel
theorem d_Lane_tick_59 : decode prog_5_method_5_code 59 = .ok (.aload_n 0, 1) := by decide +kernel
theorem d_Lane_tick_60 : decode prog_5_method_5_code 60 = .ok (.aload_n 0, 1) := by decide +kernel
theorem d_Lane_tick_61 : decode prog_5_method_5_code 61 = .ok (.getfield 52, 3) := by decide +kernel
theorem d_Lane_tick_64 : decode prog_5_method_5_code 64 = .ok (.iload 4, 2) := by decide +kernel
theorem d_Lane_tick_66 : decode prog_5_method_5_code 66 = .ok (.isub, 1) := by decide +kernel
theorem d_Lane_tick_67 : decode prog_5_method_5_code 67 = .ok (.invokevirtual 93, 3) := by decide +kernel
theorem d_Lane_tick_70 : decode prog_5_method_5_code 70 = .ok (.aload_n 0, 1) := by decide +kernel
theorem d_Lane_tick_71 : decode prog_5_method_5_code 71 = .ok (.invokevirtual 96, 3) := by decide +kernel
theorem d_Lane_tick_74 : decode prog_5_method_5_code 74 = .ok (.aload_n 0, 1) := by decide +kernel
theorem d_Lane_tick_75 : decode prog_5_method_5_code 75 = .ok (.getfield 28, 3) := by decide +kernel
theorem d_Lane_tick_78 : decode prog_5_method_5_code 78 = .ok (.iload_n 2, 1) := by decide +kernel
theorem d_Lane_tick_79 : decode prog_5_method_5_code 79 = .ok (.ifCond .ne 10, 3) := by decide +kernel
theorem d_Lane_tick_82 : decode prog_5_method_5_code 82 = .ok (.aload_n 0, 1) := by decide +kernel
theorem d_Lane_tick_83 : decode prog_5_method_5_code 83 = .ok (.invokevirtual 99, 3) := by decide +kernel
theorem d_Lane_tick_86 : decode prog_5_method_5_code 86 = .ok (.ifCond .eq 7, 3) := by decide +kernel
theorem d_Lane_tick_89 : decode prog_5_method_5_code 89 = .ok (.iconst 1, 1) := by decide +kernel
theorem d_Lane_tick_90 : decode prog_5_method_5_code 90 = .ok (.goto 4, 3) := by decide +kernel
theorem d_Lane_tick_93 : decode prog_5_method_5_code 93 = .ok (.iconst 0, 1) := by decide +kernel
theorem d_Lane_tick_94 : decode prog_5_method_5_code 94 = .ok (.aload_n 0, 1) := by decide +kernel
theorem d_Lane_tick_95 : decode prog_5_method_5_code 95 = .ok (.getfield 12, 3) := by decide +kernel
theorem d_Lane_tick_98 : decode prog_5_method_5_code 98 = .ok (.getfield 84, 3) := by decide +kernel
theorem d_Lane_tick_101 : decode prog_5_method_5_code 101 = .ok (.bipush 120, 2) := by decide +kernel
theorem d_Lane_tick_103 : decode prog_5_method_5_code 103 = .ok (.iand, 1) := by decide +kernel
theorem d_Lane_tick_104 : decode prog_5_method_5_code 104 = .ok (.ifCond .eq 7, 3) := by decide +kernel
theorem d_Lane_tick_107 : decode prog_5_method_5_code 107 = .ok (.iconst 1, 1) := by decide +kernel
theorem d_Lane_tick_108 : decode prog_5_method_5_code 108 = .ok (.goto 4, 3) := by decide +kernel
theorem d_Lane_tick_111 : decode prog_5_method_5_code 111 = .ok (.iconst 0, 1) := by decide +kernel
theorem d_Lane_tick_112 : decode prog_5_method_5_code 112 = .ok (.invokevirtual 103, 3) := by decide +kernel
theorem d_Lane_tick_115 : decode prog_5_method_5_code 115 = .ok (.iload 4, 2) := by decide +kernel
theorem d_Lane_tick_117 : decode prog_5_method_5_code 117 = .ok (.ireturn, 1) := by decide +kernel
abbrev m_Lane_sendBodies : ac_I := (⟨"PairedGates$Lane", "sendBodies", "(LPairedGates$Refunds;)I"⟩, prog_5_method_6_code, 4, (some (.int)), [])
theorem d_Lane_sendBodies_0 : decode prog_5_method_6_code 0 = .ok (.iconst 0, 1) := by decide +kernel
theorem d_Lane_sendBodies_1 : decode prog_5_method_6_code 1 = .ok (.istore_n 2, 1) := by decide +kernel
theorem d_Lane_sendBodies_2 : decode prog_5_method_6_code 2 = .ok (.iconst 0, 1) := by decide +kernel
theorem d_Lane_sendBodies_3 : decode prog_5_method_6_code 3 = .ok (.istore_n 3, 1) := by decide +kernel
theorem d_Lane_sendBodies_4 : decode prog_5_method_6_code 4 = .ok (.iload_n 3, 1) := by decide +kernel
theorem d_Lane_sendBodies_5 : decode prog_5_method_6_code 5 = .ok (.aload_n 0, 1) := by decide +kernel
theorem d_Lane_sendBodies_6 : decode prog_5_method_6_code 6 = .ok (.getfield 52, 3) := by decide +kernel
theorem d_Lane_sendBodies_9 : decode prog_5_method_6_code 9 = .ok (.if_icmp .ge 52, 3) := by decide +kernel
theorem d_Lane_sendBodies_12 : decode prog_5_method_6_code 12 = .ok (.aload_n 0, 1) := by decide +kernel
theorem d_Lane_sendBodies_13 : decode prog_5_method_6_code 13 = .ok (.getfield 45, 3) := by decide +kernel
theorem d_Lane_sendBodies_16 : decode prog_5_method_6_code 16 = .ok (.iload_n 3, 1) := by decide +kernel
theorem d_Lane_sendBodies_17 : decode prog_5_method_6_code 17 = .ok (.aload_n 0, 1) := by decide +kernel
theorem d_Lane_sendBodies_18 : decode prog_5_method_6_code 18 = .ok (.getfield 21, 3) := by decide +kernel
theorem d_Lane_sendBodies_21 : decode prog_5_method_6_code 21 = .ok (.aload_n 0, 1) := by decide +kernel
theorem d_Lane_sendBodies_22 : decode prog_5_method_6_code 22 = .ok (.getfield 59, 3) := by decide +kernel
theorem d_Lane_sendBodies_25 : decode prog_5_method_6_code 25 = .ok (.iload_n 3, 1) := by decide +kernel
theorem d_Lane_sendBodies_26 : decode prog_5_method_6_code 26 = .ok (.aaload, 1) := by decide +kernel
theorem d_Lane_sendBodies_27 : decode prog_5_method_6_code 27 = .ok (.invokevirtual 107, 3) := by decide +kernel
theorem d_Lane_sendBodies_30 : decode prog_5_method_6_code 30 = .ok (.iastore, 1) := by decide +kernel
theorem d_Lane_sendBodies_31 : decode prog_5_method_6_code 31 = .ok (.aload_n 0, 1) := by decide +kernel
theorem d_Lane_sendBodies_32 : decode prog_5_method_6_code 32 = .ok (.getfield 45, 3) := by decide +kernel
theorem d_Lane_sendBodies_35 : decode prog_5_method_6_code 35 = .ok (.iload_n 3, 1) := by decide +kernel
theorem d_Lane_sendBodies_36 : decode prog_5_method_6_code 36 = .ok (.iaload, 1) := by decide +kernel
theorem d_Lane_sendBodies_37 : decode prog_5_method_6_code 37 = .ok (.iconst (-1), 1) := by decide +kernel
theorem d_Lane_sendBodies_38 : decode prog_5_method_6_code 38 = .ok (.if_icmp .ne 17, 3) := by decide +kernel
theorem d_Lane_sendBodies_41 : decode prog_5_method_6_code 41 = .ok (.aload_n 0, 1) := by decide +kernel
theorem d_Lane_sendBodies_42 : decode prog_5_method_6_code 42 = .ok (.aload_n 0, 1) := by decide +kernel
theorem d_Lane_sendBodies_43 : decode prog_5_method_6_code 43 = .ok (.getfield 59, 3) := by decide +kernel
theorem d_Lane_sendBodies_46 : decode prog_5_method_6_code 46 = .ok (.iload_n 3, 1) := by decide +kernel
theorem d_Lane_sendBodies_47 : decode prog_5_method_6_code 47 = .ok (.aaload, 1) := by decide +kernel
theorem d_Lane_sendBodies_48 : decode prog_5_method_6_code 48 = .ok (.aload_n 1, 1) := by decide +kernel
theorem d_Lane_sendBodies_49 : decode prog_5_method_6_code 49 = .ok (.invokevirtual 111, 3) := by decide +kernel
theorem d_Lane_sendBodies_52 : decode prog_5_method_6_code 52 = .ok (.iinc 2 1, 3) := by decide +kernel
theorem d_Lane_sendBodies_55 : decode prog_5_method_6_code 55 = .ok (.iinc 3 1, 3) := by decide +kernel
theorem d_Lane_sendBodies_58 : decode prog_5_method_6_code 58 = .ok (.goto (-54), 3) := by decide +kernel
theorem d_Lane_sendBodies_61 : decode prog_5_method_6_code 61 = .ok (.iload_n 2, 1) := by decide +kernel
theorem d_Lane_sendBodies_62 : decode prog_5_method_6_code 62 = .ok (.ireturn, 1) := by decide +kernel
abbrev m_Lane_countLeaver : ac_I := (⟨"PairedGates$Lane", "countLeaver", "(LPairedGates$Body;LPairedGates$Refunds;)V"⟩, prog_5_method_7_code, 4, none, [])
theorem d_Lane_countLeaver_0 : decode prog_5_method_7_code 0 = .ok (.aload_n 1, 1) := by decide +kernel
theorem d_Lane_countLeaver_1 : decode prog_5_method_7_code 1 = .ok (.getfield 115, 3) := by decide +kernel
theorem d_Lane_countLeaver_4 : decode prog_5_method_7_code 4 = .ok (.iconst (-1), 1) := by decide +kernel
theorem d_Lane_countLeaver_5 : decode prog_5_method_7_code 5 = .ok (.if_icmp .eq 7, 3) := by decide +kernel
theorem d_Lane_countLeaver_8 : decode prog_5_method_7_code 8 = .ok (.iconst 1, 1) := by decide +kernel
theorem d_Lane_countLeaver_9 : decode prog_5_method_7_code 9 = .ok (.goto 4, 3) := by decide +kernel
theorem d_Lane_countLeaver_12 : decode prog_5_method_7_code 12 = .ok (.iconst 0, 1) := by decide +kernel
theorem d_Lane_countLeaver_13 : decode prog_5_method_7_code 13 = .ok (.istore_n 3, 1) := by decide +kernel
theorem d_Lane_countLeaver_14 : decode prog_5_method_7_code 14 = .ok (.aload_n 1, 1) := by decide +kernel
theorem d_Lane_countLeaver_15 : decode prog_5_method_7_code 15 = .ok (.invokevirtual 118, 3) := by decide +kernel
theorem d_Lane_countLeaver_18 : decode prog_5_method_7_code 18 = .ok (.ifCond .eq 41, 3) := by decide +kernel
theorem d_Lane_countLeaver_21 : decode prog_5_method_7_code 21 = .ok (.aload_n 0, 1) := by decide +kernel
theorem d_Lane_countLeaver_22 : decode prog_5_method_7_code 22 = .ok (.getfield 41, 3) := by decide +kernel
theorem d_Lane_countLeaver_25 : decode prog_5_method_7_code 25 = .ok (.iload_n 3, 1) := by decide +kernel
theorem d_Lane_countLeaver_26 : decode prog_5_method_7_code 26 = .ok (.ifCond .eq 7, 3) := by decide +kernel
theorem d_Lane_countLeaver_29 : decode prog_5_method_7_code 29 = .ok (.iconst 0, 1) := by decide +kernel
theorem d_Lane_countLeaver_30 : decode prog_5_method_7_code 30 = .ok (.goto 4, 3) := by decide +kernel
theorem d_Lane_countLeaver_33 : decode prog_5_method_7_code 33 = .ok (.iconst 1, 1) := by decide +kernel
theorem d_Lane_countLeaver_34 : decode prog_5_method_7_code 34 = .ok (.dup2, 1) := by decide +kernel
theorem d_Lane_countLeaver_35 : decode prog_5_method_7_code 35 = .ok (.iaload, 1) := by decide +kernel
theorem d_Lane_countLeaver_36 : decode prog_5_method_7_code 36 = .ok (.iconst 1, 1) := by decide +kernel
theorem d_Lane_countLeaver_37 : decode prog_5_method_7_code 37 = .ok (.iadd, 1) := by decide +kernel
theorem d_Lane_countLeaver_38 : decode prog_5_method_7_code 38 = .ok (.iastore, 1) := by decide +kernel
theorem d_Lane_countLeaver_39 : decode prog_5_method_7_code 39 = .ok (.aload_n 1, 1) := by decide +kernel
theorem d_Lane_countLeaver_40 : decode prog_5_method_7_code 40 = .ok (.getfield 121, 3) := by decide +kernel
theorem d_Lane_countLeaver_43 : decode prog_5_method_7_code 43 = .ok (.bipush 6, 2) := by decide +kernel
theorem d_Lane_countLeaver_45 : decode prog_5_method_7_code 45 = .ok (.if_icmp .lt 13, 3) := by decide +kernel
theorem d_Lane_countLeaver_48 : decode prog_5_method_7_code 48 = .ok (.aload_n 0, 1) := by decide +kernel
theorem d_Lane_countLeaver_49 : decode prog_5_method_7_code 49 = .ok (.getfield 41, 3) := by decide +kernel
theorem d_Lane_countLeaver_52 : decode prog_5_method_7_code 52 = .ok (.iconst 4, 1) := by decide +kernel
theorem d_Lane_countLeaver_53 : decode prog_5_method_7_code 53 = .ok (.dup2, 1) := by decide +kernel
theorem d_Lane_countLeaver_54 : decode prog_5_method_7_code 54 = .ok (.iaload, 1) := by decide +kernel
theorem d_Lane_countLeaver_55 : decode prog_5_method_7_code 55 = .ok (.iconst 1, 1) := by decide +kernel
theorem d_Lane_countLeaver_56 : decode prog_5_method_7_code 56 = .ok (.iadd, 1) := by decide +kernel
theorem d_Lane_countLeaver_57 : decode prog_5_method_7_code 57 = .ok (.iastore, 1) := by decide +kernel
theorem d_Lane_countLeaver_58 : decode prog_5_method_7_code 58 = .ok (.return_, 1) := by decide +kernel
theorem d_Lane_countLeaver_59 : decode prog_5_method_7_code 59 = .ok (.aload_n 0, 1) := by decide +kernel
theorem d_Lane_countLeaver_60 : decode prog_5_method_7_code 60 = .ok (.getfield 41, 3) := by decide +kernel
theorem d_Lane_countLeaver_63 : decode prog_5_method_7_code 63 = .ok (.aload_n 1, 1) := by decide +kernel
theorem d_Lane_countLeaver_64 : decode prog_5_method_7_code 64 = .ok (.invokevirtual 124, 3) := by decide +kernel
theorem d_Lane_countLeaver_67 : decode prog_5_method_7_code 67 = .ok (.ifCond .eq 7, 3) := by decide +kernel
theorem d_Lane_countLeaver_70 : decode prog_5_method_7_code 70 = .ok (.iconst 2, 1) := by decide +kernel
theorem d_Lane_countLeaver_71 : decode prog_5_method_7_code 71 = .ok (.goto 4, 3) := by decide +kernel
theorem d_Lane_countLeaver_74 : decode prog_5_method_7_code 74 = .ok (.iconst 3, 1) := by decide +kernel
theorem d_Lane_countLeaver_75 : decode prog_5_method_7_code 75 = .ok (.dup2, 1) := by decide +kernel
theorem d_Lane_countLeaver_76 : decode prog_5_method_7_code 76 = .ok (.iaload, 1) := by decide +kernel
theorem d_Lane_countLeaver_77 : decode prog_5_method_7_code 77 = .ok (.iconst 1, 1) := by decide +kernel
theorem d_Lane_countLeaver_78 : decode prog_5_method_7_code 78 = .ok (.iadd, 1) := by decide +kernel
theorem d_Lane_countLeaver_79 : decode prog_5_method_7_code 79 = .ok (.iastore, 1) := by decide +kernel
theorem d_Lane_countLeaver_80 : decode prog_5_method_7_code 80 = .ok (.iload_n 3, 1) := by decide +kernel
theorem d_Lane_countLeaver_81 : decode prog_5_method_7_code 81 = .ok (.ifCond .eq 11, 3) := by decide +kernel
theorem d_Lane_countLeaver_84 : decode prog_5_method_7_code 84 = .ok (.aload_n 2, 1) := by decide +kernel
theorem d_Lane_countLeaver_85 : decode prog_5_method_7_code 85 = .ok (.aload_n 1, 1) := by decide +kernel
theorem d_Lane_countLeaver_86 : decode prog_5_method_7_code 86 = .ok (.getfield 115, 3) := by decide +kernel
theorem d_Lane_countLeaver_89 : decode prog_5_method_7_code 89 = .ok (.invokevirtual 127, 3) := by decide +kernel
theorem d_Lane_countLeaver_92 : decode prog_5_method_7_code 92 = .ok (.return_, 1) := by decide +kernel
end
section
abbrev m_Lane_renewRow : ac_I := (⟨"PairedGates$Lane", "renewRow", "(I)V"⟩, prog_5_method_8_code, 6, none, [])
theorem d_Lane_renewRow_0 : decode prog_5_method_8_code 0 = .ok (.iconst 4, 1) := by decide +kernel
theorem d_Lane_renewRow_1 : decode prog_5_method_8_code 1 = .ok (.iload_n 1, 1) := by decide +kernel
theorem d_Lane_renewRow_2 : decode prog_5_method_8_code 2 = .ok (.isub, 1) := by decide +kernel
theorem d_Lane_renewRow_3 : decode prog_5_method_8_code 3 = .ok (.istore_n 2, 1) := by decide +kernel
theorem d_Lane_renewRow_4 : decode prog_5_method_8_code 4 = .ok (.iconst 0, 1) := by decide +kernel
theorem d_Lane_renewRow_5 : decode prog_5_method_8_code 5 = .ok (.istore_n 3, 1) := by decide +kernel
theorem d_Lane_renewRow_6 : decode prog_5_method_8_code 6 = .ok (.iconst 0, 1) := by decide +kernel
theorem d_Lane_renewRow_7 : decode prog_5_method_8_code 7 = .ok (.istore 4, 2) := by decide +kernel
theorem d_Lane_renewRow_9 : decode prog_5_method_8_code 9 = .ok (.iload 4, 2) := by decide +kernel
theorem d_Lane_renewRow_11 : decode prog_5_method_8_code 11 = .ok (.aload_n 0, 1) := by decide +kernel
theorem d_Lane_renewRow_12 : decode prog_5_method_8_code 12 = .ok (.getfield 21, 3) := by decide +kernel
theorem d_Lane_renewRow_15 : decode prog_5_method_8_code 15 = .ok (.getfield 132, 3) := by decide +kernel
theorem d_Lane_renewRow_18 : decode prog_5_method_8_code 18 = .ok (.if_icmp .ge 89, 3) := by decide +kernel
theorem d_Lane_renewRow_21 : decode prog_5_method_8_code 21 = .ok (.aload_n 0, 1) := by decide +kernel
theorem d_Lane_renewRow_22 : decode prog_5_method_8_code 22 = .ok (.iload 4, 2) := by decide +kernel
theorem d_Lane_renewRow_24 : decode prog_5_method_8_code 24 = .ok (.invokevirtual 133, 3) := by decide +kernel
theorem d_Lane_renewRow_27 : decode prog_5_method_8_code 27 = .ok (.istore 5, 2) := by decide +kernel
theorem d_Lane_renewRow_29 : decode prog_5_method_8_code 29 = .ok (.iload 5, 2) := by decide +kernel
theorem d_Lane_renewRow_31 : decode prog_5_method_8_code 31 = .ok (.ifCond .le 16, 3) := by decide +kernel
theorem d_Lane_renewRow_34 : decode prog_5_method_8_code 34 = .ok (.aload_n 0, 1) := by decide +kernel
theorem d_Lane_renewRow_35 : decode prog_5_method_8_code 35 = .ok (.iload 4, 2) := by decide +kernel
theorem d_Lane_renewRow_37 : decode prog_5_method_8_code 37 = .ok (.iload 5, 2) := by decide +kernel
theorem d_Lane_renewRow_39 : decode prog_5_method_8_code 39 = .ok (.iload_n 3, 1) := by decide +kernel
theorem d_Lane_renewRow_40 : decode prog_5_method_8_code 40 = .ok (.invokevirtual 137, 3) := by decide +kernel
theorem d_Lane_renewRow_43 : decode prog_5_method_8_code 43 = .ok (.istore_n 3, 1) := by decide +kernel
theorem d_Lane_renewRow_44 : decode prog_5_method_8_code 44 = .ok (.goto 57, 3) := by decide +kernel
theorem d_Lane_renewRow_47 : decode prog_5_method_8_code 47 = .ok (.iload_n 2, 1) := by decide +kernel
theorem d_Lane_renewRow_48 : decode prog_5_method_8_code 48 = .ok (.ifCond .le 53, 3) := by decide +kernel
theorem d_Lane_renewRow_51 : decode prog_5_method_8_code 51 = .ok (.iload_n 3, 1) := by decide +kernel
theorem d_Lane_renewRow_52 : decode prog_5_method_8_code 52 = .ok (.aload_n 0, 1) := by decide +kernel
theorem d_Lane_renewRow_53 : decode prog_5_method_8_code 53 = .ok (.getfield 63, 3) := by decide +kernel
theorem d_Lane_renewRow_56 : decode prog_5_method_8_code 56 = .ok (.arraylength, 1) := by decide +kernel
theorem d_Lane_renewRow_57 : decode prog_5_method_8_code 57 = .ok (.if_icmp .ge 44, 3) := by decide +kernel
theorem d_Lane_renewRow_60 : decode prog_5_method_8_code 60 = .ok (.aload_n 0, 1) := by decide +kernel
theorem d_Lane_renewRow_61 : decode prog_5_method_8_code 61 = .ok (.getfield 63, 3) := by decide +kernel
theorem d_Lane_renewRow_64 : decode prog_5_method_8_code 64 = .ok (.iload_n 3, 1) := by decide +kernel
theorem d_Lane_renewRow_65 : decode prog_5_method_8_code 65 = .ok (.aaload, 1) := by decide +kernel
theorem d_Lane_renewRow_66 : decode prog_5_method_8_code 66 = .ok (.aload_n 0, 1) := by decide +kernel
theorem d_Lane_renewRow_67 : decode prog_5_method_8_code 67 = .ok (.getfield 21, 3) := by decide +kernel
theorem d_Lane_renewRow_70 : decode prog_5_method_8_code 70 = .ok (.getfield 141, 3) := by decide +kernel
theorem d_Lane_renewRow_73 : decode prog_5_method_8_code 73 = .ok (.iload 4, 2) := by decide +kernel
theorem d_Lane_renewRow_75 : decode prog_5_method_8_code 75 = .ok (.iaload, 1) := by decide +kernel
theorem d_Lane_renewRow_76 : decode prog_5_method_8_code 76 = .ok (.aload_n 0, 1) := by decide +kernel
theorem d_Lane_renewRow_77 : decode prog_5_method_8_code 77 = .ok (.getfield 21, 3) := by decide +kernel
theorem d_Lane_renewRow_80 : decode prog_5_method_8_code 80 = .ok (.getfield 144, 3) := by decide +kernel
theorem d_Lane_renewRow_83 : decode prog_5_method_8_code 83 = .ok (.iload 4, 2) := by decide +kernel
theorem d_Lane_renewRow_85 : decode prog_5_method_8_code 85 = .ok (.iaload, 1) := by decide +kernel
theorem d_Lane_renewRow_86 : decode prog_5_method_8_code 86 = .ok (.aload_n 0, 1) := by decide +kernel
theorem d_Lane_renewRow_87 : decode prog_5_method_8_code 87 = .ok (.iload 4, 2) := by decide +kernel
theorem d_Lane_renewRow_89 : decode prog_5_method_8_code 89 = .ok (.invokevirtual 147, 3) := by decide +kernel
theorem d_Lane_renewRow_92 : decode prog_5_method_8_code 92 = .ok (.invokevirtual 150, 3) := by decide +kernel
theorem d_Lane_renewRow_95 : decode prog_5_method_8_code 95 = .ok (.iinc 3 1, 3) := by decide +kernel
theorem d_Lane_renewRow_98 : decode prog_5_method_8_code 98 = .ok (.iinc 2 (-1), 3) := by decide +kernel
theorem d_Lane_renewRow_101 : decode prog_5_method_8_code 101 = .ok (.iinc 4 1, 3) := by decide +kernel
theorem d_Lane_renewRow_104 : decode prog_5_method_8_code 104 = .ok (.goto (-95), 3) := by decide +kernel
theorem d_Lane_renewRow_107 : decode prog_5_method_8_code 107 = .ok (.aload_n 0, 1) := by decide +kernel
theorem d_Lane_renewRow_108 : decode prog_5_method_8_code 108 = .ok (.getfield 59, 3) := by decide +kernel
theorem d_Lane_renewRow_111 : decode prog_5_method_8_code 111 = .ok (.astore 4, 2) := by decide +kernel
theorem d_Lane_renewRow_113 : decode prog_5_method_8_code 113 = .ok (.aload_n 0, 1) := by decide +kernel
theorem d_Lane_renewRow_114 : decode prog_5_method_8_code 114 = .ok (.aload_n 0, 1) := by decide +kernel
theorem d_Lane_renewRow_115 : decode prog_5_method_8_code 115 = .ok (.getfield 63, 3) := by decide +kernel
theorem d_Lane_renewRow_118 : decode prog_5_method_8_code 118 = .ok (.putfield 59, 3) := by decide +kernel
theorem d_Lane_renewRow_121 : decode prog_5_method_8_code 121 = .ok (.aload_n 0, 1) := by decide +kernel
theorem d_Lane_renewRow_122 : decode prog_5_method_8_code 122 = .ok (.aload 4, 2) := by decide +kernel
theorem d_Lane_renewRow_124 : decode prog_5_method_8_code 124 = .ok (.putfield 63, 3) := by decide +kernel
theorem d_Lane_renewRow_127 : decode prog_5_method_8_code 127 = .ok (.aload_n 0, 1) := by decide +kernel
theorem d_Lane_renewRow_128 : decode prog_5_method_8_code 128 = .ok (.iload_n 3, 1) := by decide +kernel
theorem d_Lane_renewRow_129 : decode prog_5_method_8_code 129 = .ok (.putfield 52, 3) := by decide +kernel
theorem d_Lane_renewRow_132 : decode prog_5_method_8_code 132 = .ok (.return_, 1) := by decide +kernel
abbrev m_Lane_sharersOf : ac_I := (⟨"PairedGates$Lane", "sharersOf", "(I)I"⟩, prog_5_method_9_code, 4, (some (.int)), [])
theorem d_Lane_sharersOf_0 : decode prog_5_method_9_code 0 = .ok (.iconst 0, 1) := by decide +kernel
theorem d_Lane_sharersOf_1 : decode prog_5_method_9_code 1 = .ok (.istore_n 2, 1) := by decide +kernel
theorem d_Lane_sharersOf_2 : decode prog_5_method_9_code 2 = .ok (.iconst 0, 1) := by decide +kernel
theorem d_Lane_sharersOf_3 : decode prog_5_method_9_code 3 = .ok (.istore_n 3, 1) := by decide +kernel
theorem d_Lane_sharersOf_4 : decode prog_5_method_9_code 4 = .ok (.iload_n 3, 1) := by decide +kernel
theorem d_Lane_sharersOf_5 : decode prog_5_method_9_code 5 = .ok (.aload_n 0, 1) := by decide +kernel
theorem d_Lane_sharersOf_6 : decode prog_5_method_9_code 6 = .ok (.getfield 52, 3) := by decide +kernel
theorem d_Lane_sharersOf_9 : decode prog_5_method_9_code 9 = .ok (.if_icmp .ge 22, 3) := by decide +kernel
theorem d_Lane_sharersOf_12 : decode prog_5_method_9_code 12 = .ok (.aload_n 0, 1) := by decide +kernel
theorem d_Lane_sharersOf_13 : decode prog_5_method_9_code 13 = .ok (.getfield 45, 3) := by decide +kernel
theorem d_Lane_sharersOf_16 : decode prog_5_method_9_code 16 = .ok (.iload_n 3, 1) := by decide +kernel
theorem d_Lane_sharersOf_17 : decode prog_5_method_9_code 17 = .ok (.iaload, 1) := by decide +kernel
theorem d_Lane_sharersOf_18 : decode prog_5_method_9_code 18 = .ok (.iload_n 1, 1) := by decide +kernel
theorem d_Lane_sharersOf_19 : decode prog_5_method_9_code 19 = .ok (.if_icmp .ne 6, 3) := by decide +kernel
theorem d_Lane_sharersOf_22 : decode prog_5_method_9_code 22 = .ok (.iinc 2 1, 3) := by decide +kernel
theorem d_Lane_sharersOf_25 : decode prog_5_method_9_code 25 = .ok (.iinc 3 1, 3) := by decide +kernel
theorem d_Lane_sharersOf_28 : decode prog_5_method_9_code 28 = .ok (.goto (-24), 3) := by decide +kernel
theorem d_Lane_sharersOf_31 : decode prog_5_method_9_code 31 = .ok (.iload_n 2, 1) := by decide +kernel
theorem d_Lane_sharersOf_32 : decode prog_5_method_9_code 32 = .ok (.ireturn, 1) := by decide +kernel
abbrev m_Lane_shareBlob : ac_I := (⟨"PairedGates$Lane", "shareBlob", "(III)I"⟩, prog_5_method_10_code, 11, (some (.int)), [])
theorem d_Lane_shareBlob_0 : decode prog_5_method_10_code 0 = .ok (.aload_n 0, 1) := by decide +kernel
theorem d_Lane_shareBlob_1 : decode prog_5_method_10_code 1 = .ok (.getfield 21, 3) := by decide +kernel
theorem d_Lane_shareBlob_4 : decode prog_5_method_10_code 4 = .ok (.getfield 141, 3) := by decide +kernel
theorem d_Lane_shareBlob_7 : decode prog_5_method_10_code 7 = .ok (.iload_n 1, 1) := by decide +kernel
theorem d_Lane_shareBlob_8 : decode prog_5_method_10_code 8 = .ok (.iaload, 1) := by decide +kernel
theorem d_Lane_shareBlob_9 : decode prog_5_method_10_code 9 = .ok (.istore 4, 2) := by decide +kernel
theorem d_Lane_shareBlob_11 : decode prog_5_method_10_code 11 = .ok (.aload_n 0, 1) := by decide +kernel
theorem d_Lane_shareBlob_12 : decode prog_5_method_10_code 12 = .ok (.getfield 21, 3) := by decide +kernel
theorem d_Lane_shareBlob_15 : decode prog_5_method_10_code 15 = .ok (.getfield 144, 3) := by decide +kernel
theorem d_Lane_shareBlob_18 : decode prog_5_method_10_code 18 = .ok (.iload_n 1, 1) := by decide +kernel
theorem d_Lane_shareBlob_19 : decode prog_5_method_10_code 19 = .ok (.iaload, 1) := by decide +kernel
theorem d_Lane_shareBlob_20 : decode prog_5_method_10_code 20 = .ok (.iload 4, 2) := by decide +kernel
theorem d_Lane_shareBlob_22 : decode prog_5_method_10_code 22 = .ok (.isub, 1) := by decide +kernel
theorem d_Lane_shareBlob_23 : decode prog_5_method_10_code 23 = .ok (.iconst 1, 1) := by decide +kernel
theorem d_Lane_shareBlob_24 : decode prog_5_method_10_code 24 = .ok (.iadd, 1) := by decide +kernel
theorem d_Lane_shareBlob_25 : decode prog_5_method_10_code 25 = .ok (.istore 5, 2) := by decide +kernel
theorem d_Lane_shareBlob_27 : decode prog_5_method_10_code 27 = .ok (.iconst 0, 1) := by decide +kernel
theorem d_Lane_shareBlob_28 : decode prog_5_method_10_code 28 = .ok (.istore 6, 2) := by decide +kernel
theorem d_Lane_shareBlob_30 : decode prog_5_method_10_code 30 = .ok (.iload_n 3, 1) := by decide +kernel
theorem d_Lane_shareBlob_31 : decode prog_5_method_10_code 31 = .ok (.istore 7, 2) := by decide +kernel
theorem d_Lane_shareBlob_33 : decode prog_5_method_10_code 33 = .ok (.iconst 0, 1) := by decide +kernel
theorem d_Lane_shareBlob_34 : decode prog_5_method_10_code 34 = .ok (.istore 8, 2) := by decide +kernel
theorem d_Lane_shareBlob_36 : decode prog_5_method_10_code 36 = .ok (.iload 8, 2) := by decide +kernel
theorem d_Lane_shareBlob_38 : decode prog_5_method_10_code 38 = .ok (.aload_n 0, 1) := by decide +kernel
theorem d_Lane_shareBlob_39 : decode prog_5_method_10_code 39 = .ok (.getfield 52, 3) := by decide +kernel
theorem d_Lane_shareBlob_42 : decode prog_5_method_10_code 42 = .ok (.if_icmp .ge 94, 3) := by decide +kernel
theorem d_Lane_shareBlob_45 : decode prog_5_method_10_code 45 = .ok (.iload 7, 2) := by decide +kernel
theorem d_Lane_shareBlob_47 : decode prog_5_method_10_code 47 = .ok (.aload_n 0, 1) := by decide +kernel
theorem d_Lane_shareBlob_48 : decode prog_5_method_10_code 48 = .ok (.getfield 63, 3) := by decide +kernel
theorem d_Lane_shareBlob_51 : decode prog_5_method_10_code 51 = .ok (.arraylength, 1) := by decide +kernel
theorem d_Lane_shareBlob_52 : decode prog_5_method_10_code 52 = .ok (.if_icmp .ge 84, 3) := by decide +kernel
theorem d_Lane_shareBlob_55 : decode prog_5_method_10_code 55 = .ok (.iload_n 2, 1) := by decide +kernel
theorem d_Lane_shareBlob_56 : decode prog_5_method_10_code 56 = .ok (.ifCond .le 80, 3) := by decide +kernel
theorem d_Lane_shareBlob_59 : decode prog_5_method_10_code 59 = .ok (.aload_n 0, 1) := by decide +kernel
theorem d_Lane_shareBlob_60 : decode prog_5_method_10_code 60 = .ok (.getfield 45, 3) := by decide +kernel
theorem d_Lane_shareBlob_63 : decode prog_5_method_10_code 63 = .ok (.iload 8, 2) := by decide +kernel
theorem d_Lane_shareBlob_65 : decode prog_5_method_10_code 65 = .ok (.iaload, 1) := by decide +kernel
theorem d_Lane_shareBlob_66 : decode prog_5_method_10_code 66 = .ok (.iload_n 1, 1) := by decide +kernel
theorem d_Lane_shareBlob_67 : decode prog_5_method_10_code 67 = .ok (.if_icmp .ne 63, 3) := by decide +kernel
theorem d_Lane_shareBlob_70 : decode prog_5_method_10_code 70 = .ok (.iload 4, 2) := by decide +kernel
theorem d_Lane_shareBlob_72 : decode prog_5_method_10_code 72 = .ok (.iload 6, 2) := by decide +kernel
theorem d_Lane_shareBlob_74 : decode prog_5_method_10_code 74 = .ok (.iload 5, 2) := by decide +kernel
theorem d_Lane_shareBlob_76 : decode prog_5_method_10_code 76 = .ok (.imul, 1) := by decide +kernel
theorem d_Lane_shareBlob_77 : decode prog_5_method_10_code 77 = .ok (.iload_n 2, 1) := by decide +kernel
theorem d_Lane_shareBlob_78 : decode prog_5_method_10_code 78 = .ok (.idiv, 1) := by decide +kernel
theorem d_Lane_shareBlob_79 : decode prog_5_method_10_code 79 = .ok (.iadd, 1) := by decide +kernel
theorem d_Lane_shareBlob_80 : decode prog_5_method_10_code 80 = .ok (.istore 9, 2) := by decide +kernel
theorem d_Lane_shareBlob_82 : decode prog_5_method_10_code 82 = .ok (.iload 4, 2) := by decide +kernel
theorem d_Lane_shareBlob_84 : decode prog_5_method_10_code 84 = .ok (.iload 6, 2) := by decide +kernel
theorem d_Lane_shareBlob_86 : decode prog_5_method_10_code 86 = .ok (.iconst 1, 1) := by decide +kernel
theorem d_Lane_shareBlob_87 : decode prog_5_method_10_code 87 = .ok (.iadd, 1) := by decide +kernel
theorem d_Lane_shareBlob_88 : decode prog_5_method_10_code 88 = .ok (.iload 5, 2) := by decide +kernel
theorem d_Lane_shareBlob_90 : decode prog_5_method_10_code 90 = .ok (.imul, 1) := by decide +kernel
theorem d_Lane_shareBlob_91 : decode prog_5_method_10_code 91 = .ok (.iload_n 2, 1) := by decide +kernel
theorem d_Lane_shareBlob_92 : decode prog_5_method_10_code 92 = .ok (.idiv, 1) := by decide +kernel
theorem d_Lane_shareBlob_93 : decode prog_5_method_10_code 93 = .ok (.iadd, 1) := by decide +kernel
theorem d_Lane_shareBlob_94 : decode prog_5_method_10_code 94 = .ok (.iconst 1, 1) := by decide +kernel
theorem d_Lane_shareBlob_95 : decode prog_5_method_10_code 95 = .ok (.isub, 1) := by decide +kernel
theorem d_Lane_shareBlob_96 : decode prog_5_method_10_code 96 = .ok (.istore 10, 2) := by decide +kernel
theorem d_Lane_shareBlob_98 : decode prog_5_method_10_code 98 = .ok (.aload_n 0, 1) := by decide +kernel
theorem d_Lane_shareBlob_99 : decode prog_5_method_10_code 99 = .ok (.getfield 63, 3) := by decide +kernel
theorem d_Lane_shareBlob_102 : decode prog_5_method_10_code 102 = .ok (.iload 7, 2) := by decide +kernel
theorem d_Lane_shareBlob_104 : decode prog_5_method_10_code 104 = .ok (.aaload, 1) := by decide +kernel
theorem d_Lane_shareBlob_105 : decode prog_5_method_10_code 105 = .ok (.aload_n 0, 1) := by decide +kernel
theorem d_Lane_shareBlob_106 : decode prog_5_method_10_code 106 = .ok (.getfield 59, 3) := by decide +kernel
theorem d_Lane_shareBlob_109 : decode prog_5_method_10_code 109 = .ok (.iload 8, 2) := by decide +kernel
theorem d_Lane_shareBlob_111 : decode prog_5_method_10_code 111 = .ok (.aaload, 1) := by decide +kernel
theorem d_Lane_shareBlob_112 : decode prog_5_method_10_code 112 = .ok (.iload 9, 2) := by decide +kernel
theorem d_Lane_shareBlob_114 : decode prog_5_method_10_code 114 = .ok (.iload 9, 2) := by decide +kernel
theorem d_Lane_shareBlob_116 : decode prog_5_method_10_code 116 = .ok (.iload 10, 2) := by decide +kernel
theorem d_Lane_shareBlob_118 : decode prog_5_method_10_code 118 = .ok (.invokestatic 154, 3) := by decide +kernel
theorem d_Lane_shareBlob_121 : decode prog_5_method_10_code 121 = .ok (.invokevirtual 160, 3) := by decide +kernel
theorem d_Lane_shareBlob_124 : decode prog_5_method_10_code 124 = .ok (.iinc 6 1, 3) := by decide +kernel
theorem d_Lane_shareBlob_127 : decode prog_5_method_10_code 127 = .ok (.iinc 7 1, 3) := by decide +kernel
theorem d_Lane_shareBlob_130 : decode prog_5_method_10_code 130 = .ok (.iinc 8 1, 3) := by decide +kernel
theorem d_Lane_shareBlob_133 : decode prog_5_method_10_code 133 = .ok (.goto (-97), 3) := by decide +kernel
theorem d_Lane_shareBlob_136 : decode prog_5_method_10_code 136 = .ok (.iload 7, 2) := by decide +kernel
theorem d_Lane_shareBlob_138 : decode prog_5_method_10_code 138 = .ok (.ireturn, 1) := by decide +kernel
abbrev m_Lane_sideFor : ac_I := (⟨"PairedGates$Lane", "sideFor", "(I)I"⟩, prog_5_method_11_code, 3, (some (.int)), [])
theorem d_Lane_sideFor_0 : decode prog_5_method_11_code 0 = .ok (.iconst 0, 1) := by decide +kernel
theorem d_Lane_sideFor_1 : decode prog_5_method_11_code 1 = .ok (.istore_n 2, 1) := by decide +kernel
theorem d_Lane_sideFor_2 : decode prog_5_method_11_code 2 = .ok (.iload_n 2, 1) := by decide +kernel
theorem d_Lane_sideFor_3 : decode prog_5_method_11_code 3 = .ok (.aload_n 0, 1) := by decide +kernel
theorem d_Lane_sideFor_4 : decode prog_5_method_11_code 4 = .ok (.getfield 52, 3) := by decide +kernel
theorem d_Lane_sideFor_7 : decode prog_5_method_11_code 7 = .ok (.if_icmp .ge 36, 3) := by decide +kernel
theorem d_Lane_sideFor_10 : decode prog_5_method_11_code 10 = .ok (.aload_n 0, 1) := by decide +kernel
theorem d_Lane_sideFor_11 : decode prog_5_method_11_code 11 = .ok (.getfield 21, 3) := by decide +kernel
theorem d_Lane_sideFor_14 : decode prog_5_method_11_code 14 = .ok (.aload_n 0, 1) := by decide +kernel
theorem d_Lane_sideFor_15 : decode prog_5_method_11_code 15 = .ok (.getfield 59, 3) := by decide +kernel
theorem d_Lane_sideFor_18 : decode prog_5_method_11_code 18 = .ok (.iload_n 2, 1) := by decide +kernel
theorem d_Lane_sideFor_19 : decode prog_5_method_11_code 19 = .ok (.aaload, 1) := by decide +kernel
theorem d_Lane_sideFor_20 : decode prog_5_method_11_code 20 = .ok (.iload_n 1, 1) := by decide +kernel
theorem d_Lane_sideFor_21 : decode prog_5_method_11_code 21 = .ok (.invokevirtual 164, 3) := by decide +kernel
theorem d_Lane_sideFor_24 : decode prog_5_method_11_code 24 = .ok (.ifCond .eq 13, 3) := by decide +kernel
theorem d_Lane_sideFor_27 : decode prog_5_method_11_code 27 = .ok (.aload_n 0, 1) := by decide +kernel
theorem d_Lane_sideFor_28 : decode prog_5_method_11_code 28 = .ok (.getfield 59, 3) := by decide +kernel
theorem d_Lane_sideFor_31 : decode prog_5_method_11_code 31 = .ok (.iload_n 2, 1) := by decide +kernel
theorem d_Lane_sideFor_32 : decode prog_5_method_11_code 32 = .ok (.aaload, 1) := by decide +kernel
theorem d_Lane_sideFor_33 : decode prog_5_method_11_code 33 = .ok (.getfield 168, 3) := by decide +kernel
theorem d_Lane_sideFor_36 : decode prog_5_method_11_code 36 = .ok (.ireturn, 1) := by decide +kernel
theorem d_Lane_sideFor_37 : decode prog_5_method_11_code 37 = .ok (.iinc 2 1, 3) := by decide +kernel
theorem d_Lane_sideFor_40 : decode prog_5_method_11_code 40 = .ok (.goto (-38), 3) := by decide +kernel
theorem d_Lane_sideFor_43 : decode prog_5_method_11_code 43 = .ok (.aload_n 0, 1) := by decide +kernel
theorem d_Lane_sideFor_44 : decode prog_5_method_11_code 44 = .ok (.getfield 21, 3) := by decide +kernel
theorem d_Lane_sideFor_47 : decode prog_5_method_11_code 47 = .ok (.getfield 141, 3) := by decide +kernel
theorem d_Lane_sideFor_50 : decode prog_5_method_11_code 50 = .ok (.iload_n 1, 1) := by decide +kernel
theorem d_Lane_sideFor_51 : decode prog_5_method_11_code 51 = .ok (.iaload, 1) := by decide +kernel
theorem d_Lane_sideFor_52 : decode prog_5_method_11_code 52 = .ok (.aload_n 0, 1) := by decide +kernel
theorem d_Lane_sideFor_53 : decode prog_5_method_11_code 53 = .ok (.getfield 21, 3) := by decide +kernel
theorem d_Lane_sideFor_56 : decode prog_5_method_11_code 56 = .ok (.getfield 144, 3) := by decide +kernel
theorem d_Lane_sideFor_59 : decode prog_5_method_11_code 59 = .ok (.iload_n 1, 1) := by decide +kernel
theorem d_Lane_sideFor_60 : decode prog_5_method_11_code 60 = .ok (.iaload, 1) := by decide +kernel
theorem d_Lane_sideFor_61 : decode prog_5_method_11_code 61 = .ok (.iadd, 1) := by decide +kernel
theorem d_Lane_sideFor_62 : decode prog_5_method_11_code 62 = .ok (.bipush 9, 2) := by decide +kernel
theorem d_Lane_sideFor_64 : decode prog_5_method_11_code 64 = .ok (.if_icmp .ge 7, 3) := by decide +kernel
theorem d_Lane_sideFor_67 : decode prog_5_method_11_code 67 = .ok (.iconst 0, 1) := by decide +kernel
theorem d_Lane_sideFor_68 : decode prog_5_method_11_code 68 = .ok (.goto 4, 3) := by decide +kernel
theorem d_Lane_sideFor_71 : decode prog_5_method_11_code 71 = .ok (.iconst 1, 1) := by decide +kernel
theorem d_Lane_sideFor_72 : decode prog_5_method_11_code 72 = .ok (.ireturn, 1) := by decide +kernel
abbrev m_Lane_handOutTokens : ac_I := (⟨"PairedGates$Lane", "handOutTokens", "()V"⟩, prog_5_method_12_code, 3, none, [])
theorem d_Lane_handOutTokens_0 : decode prog_5_method_12_code 0 = .ok (.iconst 0, 1) := by decide +kernel
theorem d_Lane_handOutTokens_1 : decode prog_5_method_12_code 1 = .ok (.istore_n 1, 1) := by decide +kernel
theorem d_Lane_handOutTokens_2 : decode prog_5_method_12_code 2 = .ok (.iload_n 1, 1) := by decide +kernel
theorem d_Lane_handOutTokens_3 : decode prog_5_method_12_code 3 = .ok (.aload_n 0, 1) := by decide +kernel
theorem d_Lane_handOutTokens_4 : decode prog_5_method_12_code 4 = .ok (.getfield 52, 3) := by decide +kernel
theorem d_Lane_handOutTokens_7 : decode prog_5_method_12_code 7 = .ok (.if_icmp .ge 55, 3) := by decide +kernel
theorem d_Lane_handOutTokens_10 : decode prog_5_method_12_code 10 = .ok (.aload_n 0, 1) := by decide +kernel
theorem d_Lane_handOutTokens_11 : decode prog_5_method_12_code 11 = .ok (.getfield 59, 3) := by decide +kernel
theorem d_Lane_handOutTokens_14 : decode prog_5_method_12_code 14 = .ok (.iload_n 1, 1) := by decide +kernel
theorem d_Lane_handOutTokens_15 : decode prog_5_method_12_code 15 = .ok (.aaload, 1) := by decide +kernel
theorem d_Lane_handOutTokens_16 : decode prog_5_method_12_code 16 = .ok (.astore_n 2, 1) := by decide +kernel
theorem d_Lane_handOutTokens_17 : decode prog_5_method_12_code 17 = .ok (.aload_n 2, 1) := by decide +kernel
theorem d_Lane_handOutTokens_18 : decode prog_5_method_12_code 18 = .ok (.getfield 115, 3) := by decide +kernel
theorem d_Lane_handOutTokens_21 : decode prog_5_method_12_code 21 = .ok (.iconst (-1), 1) := by decide +kernel
theorem d_Lane_handOutTokens_22 : decode prog_5_method_12_code 22 = .ok (.if_icmp .ne 34, 3) := by decide +kernel
theorem d_Lane_handOutTokens_25 : decode prog_5_method_12_code 25 = .ok (.aload_n 2, 1) := by decide +kernel
theorem d_Lane_handOutTokens_26 : decode prog_5_method_12_code 26 = .ok (.invokevirtual 171, 3) := by decide +kernel
theorem d_Lane_handOutTokens_29 : decode prog_5_method_12_code 29 = .ok (.ifCond .eq 27, 3) := by decide +kernel
theorem d_Lane_handOutTokens_32 : decode prog_5_method_12_code 32 = .ok (.aload_n 2, 1) := by decide +kernel
theorem d_Lane_handOutTokens_33 : decode prog_5_method_12_code 33 = .ok (.aload_n 0, 1) := by decide +kernel
theorem d_Lane_handOutTokens_34 : decode prog_5_method_12_code 34 = .ok (.getfield 37, 3) := by decide +kernel
theorem d_Lane_handOutTokens_37 : decode prog_5_method_12_code 37 = .ok (.aload_n 2, 1) := by decide +kernel
theorem d_Lane_handOutTokens_38 : decode prog_5_method_12_code 38 = .ok (.getfield 168, 3) := by decide +kernel
theorem d_Lane_handOutTokens_41 : decode prog_5_method_12_code 41 = .ok (.ifCond .ne 7, 3) := by decide +kernel
theorem d_Lane_handOutTokens_44 : decode prog_5_method_12_code 44 = .ok (.iconst 0, 1) := by decide +kernel
theorem d_Lane_handOutTokens_45 : decode prog_5_method_12_code 45 = .ok (.goto 4, 3) := by decide +kernel
theorem d_Lane_handOutTokens_48 : decode prog_5_method_12_code 48 = .ok (.iconst 1, 1) := by decide +kernel
theorem d_Lane_handOutTokens_49 : decode prog_5_method_12_code 49 = .ok (.aaload, 1) := by decide +kernel
theorem d_Lane_handOutTokens_50 : decode prog_5_method_12_code 50 = .ok (.invokevirtual 174, 3) := by decide +kernel
theorem d_Lane_handOutTokens_53 : decode prog_5_method_12_code 53 = .ok (.putfield 115, 3) := by decide +kernel
theorem d_Lane_handOutTokens_56 : decode prog_5_method_12_code 56 = .ok (.iinc 1 1, 3) := by decide +kernel
theorem d_Lane_handOutTokens_59 : decode prog_5_method_12_code 59 = .ok (.goto (-57), 3) := by decide +kernel
theorem d_Lane_handOutTokens_62 : decode prog_5_method_12_code 62 = .ok (.return_, 1) := by decide +kernel
abbrev m_Lane_someBodyHasToken : ac_I := (⟨"PairedGates$Lane", "someBodyHasToken", "()Z"⟩, prog_5_method_13_code, 2, (some (.boolean)), [])
theorem d_Lane_someBodyHasToken_0 : decode prog_5_method_13_code 0 = .ok (.iconst 0, 1) := by decide +kernel
theorem d_Lane_someBodyHasToken_1 : decode prog_5_method_13_code 1 = .ok (.istore_n 1, 1) := by decide +kernel
theorem d_Lane_someBodyHasToken_2 : decode prog_5_method_13_code 2 = .ok (.iload_n 1, 1) := by decide +kernel
theorem d_Lane_someBodyHasToken_3 : decode prog_5_method_13_code 3 = .ok (.aload_n 0, 1) := by decide +kernel
theorem d_Lane_someBodyHasToken_4 : decode prog_5_method_13_code 4 = .ok (.getfield 52, 3) := by decide +kernel
theorem d_Lane_someBodyHasToken_7 : decode prog_5_method_13_code 7 = .ok (.if_icmp .ge 24, 3) := by decide +kernel
theorem d_Lane_someBodyHasToken_10 : decode prog_5_method_13_code 10 = .ok (.aload_n 0, 1) := by decide +kernel
theorem d_Lane_someBodyHasToken_11 : decode prog_5_method_13_code 11 = .ok (.getfield 59, 3) := by decide +kernel
theorem d_Lane_someBodyHasToken_14 : decode prog_5_method_13_code 14 = .ok (.iload_n 1, 1) := by decide +kernel
theorem d_Lane_someBodyHasToken_15 : decode prog_5_method_13_code 15 = .ok (.aaload, 1) := by decide +kernel
theorem d_Lane_someBodyHasToken_16 : decode prog_5_method_13_code 16 = .ok (.getfield 115, 3) := by decide +kernel
theorem d_Lane_someBodyHasToken_19 : decode prog_5_method_13_code 19 = .ok (.iconst (-1), 1) := by decide +kernel
theorem d_Lane_someBodyHasToken_20 : decode prog_5_method_13_code 20 = .ok (.if_icmp .eq 5, 3) := by decide +kernel
theorem d_Lane_someBodyHasToken_23 : decode prog_5_method_13_code 23 = .ok (.iconst 1, 1) := by decide +kernel
theorem d_Lane_someBodyHasToken_24 : decode prog_5_method_13_code 24 = .ok (.ireturn, 1) := by decide +kernel
theorem d_Lane_someBodyHasToken_25 : decode prog_5_method_13_code 25 = .ok (.iinc 1 1, 3) := by decide +kernel
theorem d_Lane_someBodyHasToken_28 : decode prog_5_method_13_code 28 = .ok (.goto (-26), 3) := by decide +kernel
theorem d_Lane_someBodyHasToken_31 : decode prog_5_method_13_code 31 = .ok (.iconst 0, 1) := by decide +kernel
theorem d_Lane_someBodyHasToken_32 : decode prog_5_method_13_code 32 = .ok (.ireturn, 1) := by decide +kernel
abbrev m_Pad_init : ac_I := (⟨"PairedGates$Paddles", "<init>", "()V"⟩, prog_6_method_1_code, 1, none, [])
theorem d_Pad_init_0 : decode prog_6_method_1_code 0 = .ok (.aload_n 0, 1) := by decide +kernel
theorem d_Pad_init_1 : decode prog_6_method_1_code 1 = .ok (.invokespecial 3, 3) := by decide +kernel
theorem d_Pad_init_4 : decode prog_6_method_1_code 4 = .ok (.aload_n 0, 1) := by decide +kernel
theorem d_Pad_init_5 : decode prog_6_method_1_code 5 = .ok (.iconst 0, 1) := by decide +kernel
theorem d_Pad_init_6 : decode prog_6_method_1_code 6 = .ok (.putfield 9, 3) := by decide +kernel
theorem d_Pad_init_9 : decode prog_6_method_1_code 9 = .ok (.aload_n 0, 1) := by decide +kernel
theorem d_Pad_init_10 : decode prog_6_method_1_code 10 = .ok (.iconst 0, 1) := by decide +kernel
theorem d_Pad_init_11 : decode prog_6_method_1_code 11 = .ok (.putfield 15, 3) := by decide +kernel
theorem d_Pad_init_14 : decode prog_6_method_1_code 14 = .ok (.return_, 1) := by decide +kernel
abbrev m_Pad_move : ac_I := (⟨"PairedGates$Paddles", "move", "(ZZ)V"⟩, prog_6_method_2_code, 3, none, [])
theorem d_Pad_move_0 : decode prog_6_method_2_code 0 = .ok (.aload_n 0, 1) := by decide +kernel
theorem d_Pad_move_1 : decode prog_6_method_2_code 1 = .ok (.iconst 0, 1) := by decide +kernel
theorem d_Pad_move_2 : decode prog_6_method_2_code 2 = .ok (.putfield 15, 3) := by decide +kernel
theorem d_Pad_move_5 : decode prog_6_method_2_code 5 = .ok (.iload_n 1, 1) := by decide +kernel
theorem d_Pad_move_6 : decode prog_6_method_2_code 6 = .ok (.ifCond .eq 20, 3) := by decide +kernel
theorem d_Pad_move_9 : decode prog_6_method_2_code 9 = .ok (.aload_n 0, 1) := by decide +kernel
theorem d_Pad_move_10 : decode prog_6_method_2_code 10 = .ok (.getfield 9, 3) := by decide +kernel
theorem d_Pad_move_13 : decode prog_6_method_2_code 13 = .ok (.bipush 90, 2) := by decide +kernel
theorem d_Pad_move_15 : decode prog_6_method_2_code 15 = .ok (.if_icmp .ge 28, 3) := by decide +kernel
theorem d_Pad_move_18 : decode prog_6_method_2_code 18 = .ok (.aload_n 0, 1) := by decide +kernel
theorem d_Pad_move_19 : decode prog_6_method_2_code 19 = .ok (.iconst 2, 1) := by decide +kernel
theorem d_Pad_move_20 : decode prog_6_method_2_code 20 = .ok (.putfield 15, 3) := by decide +kernel
theorem d_Pad_move_23 : decode prog_6_method_2_code 23 = .ok (.goto 20, 3) := by decide +kernel
theorem d_Pad_move_26 : decode prog_6_method_2_code 26 = .ok (.aload_n 0, 1) := by decide +kernel
theorem d_Pad_move_27 : decode prog_6_method_2_code 27 = .ok (.getfield 9, 3) := by decide +kernel
theorem d_Pad_move_30 : decode prog_6_method_2_code 30 = .ok (.ifCond .le 13, 3) := by decide +kernel
theorem d_Pad_move_33 : decode prog_6_method_2_code 33 = .ok (.iload_n 2, 1) := by decide +kernel
theorem d_Pad_move_34 : decode prog_6_method_2_code 34 = .ok (.ifCond .ne 9, 3) := by decide +kernel
theorem d_Pad_move_37 : decode prog_6_method_2_code 37 = .ok (.aload_n 0, 1) := by decide +kernel
theorem d_Pad_move_38 : decode prog_6_method_2_code 38 = .ok (.bipush (-2), 2) := by decide +kernel
theorem d_Pad_move_40 : decode prog_6_method_2_code 40 = .ok (.putfield 15, 3) := by decide +kernel
theorem d_Pad_move_43 : decode prog_6_method_2_code 43 = .ok (.aload_n 0, 1) := by decide +kernel
theorem d_Pad_move_44 : decode prog_6_method_2_code 44 = .ok (.dup, 1) := by decide +kernel
theorem d_Pad_move_45 : decode prog_6_method_2_code 45 = .ok (.getfield 9, 3) := by decide +kernel
theorem d_Pad_move_48 : decode prog_6_method_2_code 48 = .ok (.aload_n 0, 1) := by decide +kernel
theorem d_Pad_move_49 : decode prog_6_method_2_code 49 = .ok (.getfield 15, 3) := by decide +kernel
theorem d_Pad_move_52 : decode prog_6_method_2_code 52 = .ok (.iadd, 1) := by decide +kernel
theorem d_Pad_move_53 : decode prog_6_method_2_code 53 = .ok (.putfield 9, 3) := by decide +kernel
theorem d_Pad_move_56 : decode prog_6_method_2_code 56 = .ok (.return_, 1) := by decide +kernel
abbrev m_Rf_init : ac_I := (⟨"PairedGates$Refunds", "<init>", "()V"⟩, prog_7_method_1_code, 1, none, [])
theorem d_Rf_init_0 : decode prog_7_method_1_code 0 = .ok (.aload_n 0, 1) := by decide +kernel
theorem d_Rf_init_1 : decode prog_7_method_1_code 1 = .ok (.invokespecial 3, 3) := by decide +kernel
theorem d_Rf_init_4 : decode prog_7_method_1_code 4 = .ok (.aload_n 0, 1) := by decide +kernel
theorem d_Rf_init_5 : decode prog_7_method_1_code 5 = .ok (.sipush 512, 3) := by decide +kernel
theorem d_Rf_init_8 : decode prog_7_method_1_code 8 = .ok (.newarray .int, 2) := by decide +kernel
theorem d_Rf_init_10 : decode prog_7_method_1_code 10 = .ok (.putfield 9, 3) := by decide +kernel
theorem d_Rf_init_13 : decode prog_7_method_1_code 13 = .ok (.aload_n 0, 1) := by decide +kernel
theorem d_Rf_init_14 : decode prog_7_method_1_code 14 = .ok (.iconst 0, 1) := by decide +kernel
theorem d_Rf_init_15 : decode prog_7_method_1_code 15 = .ok (.putfield 15, 3) := by decide +kernel
theorem d_Rf_init_18 : decode prog_7_method_1_code 18 = .ok (.return_, 1) := by decide +kernel
abbrev m_Rf_add : ac_I := (⟨"PairedGates$Refunds", "add", "(I)V"⟩, prog_7_method_2_code, 2, none, [])
theorem d_Rf_add_0 : decode prog_7_method_2_code 0 = .ok (.aload_n 0, 1) := by decide +kernel
theorem d_Rf_add_1 : decode prog_7_method_2_code 1 = .ok (.getfield 15, 3) := by decide +kernel
theorem d_Rf_add_4 : decode prog_7_method_2_code 4 = .ok (.aload_n 0, 1) := by decide +kernel
theorem d_Rf_add_5 : decode prog_7_method_2_code 5 = .ok (.getfield 9, 3) := by decide +kernel
theorem d_Rf_add_8 : decode prog_7_method_2_code 8 = .ok (.arraylength, 1) := by decide +kernel
theorem d_Rf_add_9 : decode prog_7_method_2_code 9 = .ok (.if_icmp .ge 23, 3) := by decide +kernel
theorem d_Rf_add_12 : decode prog_7_method_2_code 12 = .ok (.aload_n 0, 1) := by decide +kernel
theorem d_Rf_add_13 : decode prog_7_method_2_code 13 = .ok (.getfield 9, 3) := by decide +kernel
theorem d_Rf_add_16 : decode prog_7_method_2_code 16 = .ok (.aload_n 0, 1) := by decide +kernel
theorem d_Rf_add_17 : decode prog_7_method_2_code 17 = .ok (.getfield 15, 3) := by decide +kernel
theorem d_Rf_add_20 : decode prog_7_method_2_code 20 = .ok (.iload_n 1, 1) := by decide +kernel
theorem d_Rf_add_21 : decode prog_7_method_2_code 21 = .ok (.iastore, 1) := by decide +kernel
theorem d_Rf_add_22 : decode prog_7_method_2_code 22 = .ok (.aload_n 0, 1) := by decide +kernel
theorem d_Rf_add_23 : decode prog_7_method_2_code 23 = .ok (.dup, 1) := by decide +kernel
theorem d_Rf_add_24 : decode prog_7_method_2_code 24 = .ok (.getfield 15, 3) := by decide +kernel
theorem d_Rf_add_27 : decode prog_7_method_2_code 27 = .ok (.iconst 1, 1) := by decide +kernel
theorem d_Rf_add_28 : decode prog_7_method_2_code 28 = .ok (.iadd, 1) := by decide +kernel
theorem d_Rf_add_29 : decode prog_7_method_2_code 29 = .ok (.putfield 15, 3) := by decide +kernel
theorem d_Rf_add_32 : decode prog_7_method_2_code 32 = .ok (.return_, 1) := by decide +kernel
abbrev m_Rf_accountAt : ac_I := (⟨"PairedGates$Refunds", "accountAt", "(I)I"⟩, prog_7_method_3_code, 2, (some (.int)), [])
theorem d_Rf_accountAt_0 : decode prog_7_method_3_code 0 = .ok (.iload_n 1, 1) := by decide +kernel
theorem d_Rf_accountAt_1 : decode prog_7_method_3_code 1 = .ok (.ifCond .lt 20, 3) := by decide +kernel
theorem d_Rf_accountAt_4 : decode prog_7_method_3_code 4 = .ok (.iload_n 1, 1) := by decide +kernel
theorem d_Rf_accountAt_5 : decode prog_7_method_3_code 5 = .ok (.aload_n 0, 1) := by decide +kernel
theorem d_Rf_accountAt_6 : decode prog_7_method_3_code 6 = .ok (.getfield 15, 3) := by decide +kernel
theorem d_Rf_accountAt_9 : decode prog_7_method_3_code 9 = .ok (.if_icmp .ge 12, 3) := by decide +kernel
theorem d_Rf_accountAt_12 : decode prog_7_method_3_code 12 = .ok (.aload_n 0, 1) := by decide +kernel
theorem d_Rf_accountAt_13 : decode prog_7_method_3_code 13 = .ok (.getfield 9, 3) := by decide +kernel
theorem d_Rf_accountAt_16 : decode prog_7_method_3_code 16 = .ok (.iload_n 1, 1) := by decide +kernel
theorem d_Rf_accountAt_17 : decode prog_7_method_3_code 17 = .ok (.iaload, 1) := by decide +kernel
theorem d_Rf_accountAt_18 : decode prog_7_method_3_code 18 = .ok (.goto 4, 3) := by decide +kernel
theorem d_Rf_accountAt_21 : decode prog_7_method_3_code 21 = .ok (.iconst (-1), 1) := by decide +kernel
theorem d_Rf_accountAt_22 : decode prog_7_method_3_code 22 = .ok (.ireturn, 1) := by decide +kernel
abbrev m_TL_init : ac_I := (⟨"PairedGates$TokenList", "<init>", "(I)V"⟩, prog_8_method_1_code, 3, none, [])
theorem d_TL_init_0 : decode prog_8_method_1_code 0 = .ok (.aload_n 0, 1) := by decide +kernel
theorem d_TL_init_1 : decode prog_8_method_1_code 1 = .ok (.invokespecial 3, 3) := by decide +kernel
theorem d_TL_init_4 : decode prog_8_method_1_code 4 = .ok (.aload_n 0, 1) := by decide +kernel
theorem d_TL_init_5 : decode prog_8_method_1_code 5 = .ok (.iconst 0, 1) := by decide +kernel
theorem d_TL_init_6 : decode prog_8_method_1_code 6 = .ok (.putfield 9, 3) := by decide +kernel
theorem d_TL_init_9 : decode prog_8_method_1_code 9 = .ok (.iload_n 1, 1) := by decide +kernel
theorem d_TL_init_10 : decode prog_8_method_1_code 10 = .ok (.iconst 0, 1) := by decide +kernel
theorem d_TL_init_11 : decode prog_8_method_1_code 11 = .ok (.invokestatic 15, 3) := by decide +kernel
theorem d_TL_init_14 : decode prog_8_method_1_code 14 = .ok (.istore_n 2, 1) := by decide +kernel
theorem d_TL_init_15 : decode prog_8_method_1_code 15 = .ok (.aload_n 0, 1) := by decide +kernel
theorem d_TL_init_16 : decode prog_8_method_1_code 16 = .ok (.iload_n 2, 1) := by decide +kernel
theorem d_TL_init_17 : decode prog_8_method_1_code 17 = .ok (.newarray .int, 2) := by decide +kernel
theorem d_TL_init_19 : decode prog_8_method_1_code 19 = .ok (.putfield 21, 3) := by decide +kernel
theorem d_TL_init_22 : decode prog_8_method_1_code 22 = .ok (.aload_n 0, 1) := by decide +kernel
theorem d_TL_init_23 : decode prog_8_method_1_code 23 = .ok (.iload_n 2, 1) := by decide +kernel
theorem d_TL_init_24 : decode prog_8_method_1_code 24 = .ok (.newarray .int, 2) := by decide +kernel
theorem d_TL_init_26 : decode prog_8_method_1_code 26 = .ok (.putfield 25, 3) := by decide +kernel
theorem d_TL_init_29 : decode prog_8_method_1_code 29 = .ok (.return_, 1) := by decide +kernel
abbrev m_TL_isFull : ac_I := (⟨"PairedGates$TokenList", "isFull", "()Z"⟩, prog_8_method_2_code, 1, (some (.boolean)), [])
theorem d_TL_isFull_0 : decode prog_8_method_2_code 0 = .ok (.aload_n 0, 1) := by decide +kernel
theorem d_TL_isFull_1 : decode prog_8_method_2_code 1 = .ok (.getfield 9, 3) := by decide +kernel
theorem d_TL_isFull_4 : decode prog_8_method_2_code 4 = .ok (.aload_n 0, 1) := by decide +kernel
theorem d_TL_isFull_5 : decode prog_8_method_2_code 5 = .ok (.getfield 21, 3) := by decide +kernel
theorem d_TL_isFull_8 : decode prog_8_method_2_code 8 = .ok (.arraylength, 1) := by decide +kernel
theorem d_TL_isFull_9 : decode prog_8_method_2_code 9 = .ok (.if_icmp .lt 7, 3) := by decide +kernel
theorem d_TL_isFull_12 : decode prog_8_method_2_code 12 = .ok (.iconst 1, 1) := by decide +kernel
theorem d_TL_isFull_13 : decode prog_8_method_2_code 13 = .ok (.goto 4, 3) := by decide +kernel
theorem d_TL_isFull_16 : decode prog_8_method_2_code 16 = .ok (.iconst 0, 1) := by decide +kernel
theorem d_TL_isFull_17 : decode prog_8_method_2_code 17 = .ok (.ireturn, 1) := by decide +kernel
abbrev m_TL_add : ac_I := (⟨"PairedGates$TokenList", "add", "(II)V"⟩, prog_8_method_3_code, 3, none, [])
theorem d_TL_add_0 : decode prog_8_method_3_code 0 = .ok (.aload_n 0, 1) := by decide +kernel
theorem d_TL_add_1 : decode prog_8_method_3_code 1 = .ok (.getfield 9, 3) := by decide +kernel
theorem d_TL_add_4 : decode prog_8_method_3_code 4 = .ok (.aload_n 0, 1) := by decide +kernel
theorem d_TL_add_5 : decode prog_8_method_3_code 5 = .ok (.getfield 21, 3) := by decide +kernel
theorem d_TL_add_8 : decode prog_8_method_3_code 8 = .ok (.arraylength, 1) := by decide +kernel
theorem d_TL_add_9 : decode prog_8_method_3_code 9 = .ok (.if_icmp .ge 33, 3) := by decide +kernel
theorem d_TL_add_12 : decode prog_8_method_3_code 12 = .ok (.aload_n 0, 1) := by decide +kernel
theorem d_TL_add_13 : decode prog_8_method_3_code 13 = .ok (.getfield 21, 3) := by decide +kernel
theorem d_TL_add_16 : decode prog_8_method_3_code 16 = .ok (.aload_n 0, 1) := by decide +kernel
theorem d_TL_add_17 : decode prog_8_method_3_code 17 = .ok (.getfield 9, 3) := by decide +kernel
theorem d_TL_add_20 : decode prog_8_method_3_code 20 = .ok (.iload_n 1, 1) := by decide +kernel
theorem d_TL_add_21 : decode prog_8_method_3_code 21 = .ok (.iastore, 1) := by decide +kernel
theorem d_TL_add_22 : decode prog_8_method_3_code 22 = .ok (.aload_n 0, 1) := by decide +kernel
theorem d_TL_add_23 : decode prog_8_method_3_code 23 = .ok (.getfield 25, 3) := by decide +kernel
theorem d_TL_add_26 : decode prog_8_method_3_code 26 = .ok (.aload_n 0, 1) := by decide +kernel
theorem d_TL_add_27 : decode prog_8_method_3_code 27 = .ok (.getfield 9, 3) := by decide +kernel
theorem d_TL_add_30 : decode prog_8_method_3_code 30 = .ok (.iload_n 2, 1) := by decide +kernel
theorem d_TL_add_31 : decode prog_8_method_3_code 31 = .ok (.iastore, 1) := by decide +kernel
theorem d_TL_add_32 : decode prog_8_method_3_code 32 = .ok (.aload_n 0, 1) := by decide +kernel
theorem d_TL_add_33 : decode prog_8_method_3_code 33 = .ok (.dup, 1) := by decide +kernel
theorem d_TL_add_34 : decode prog_8_method_3_code 34 = .ok (.getfield 9, 3) := by decide +kernel
theorem d_TL_add_37 : decode prog_8_method_3_code 37 = .ok (.iconst 1, 1) := by decide +kernel
theorem d_TL_add_38 : decode prog_8_method_3_code 38 = .ok (.iadd, 1) := by decide +kernel
theorem d_TL_add_39 : decode prog_8_method_3_code 39 = .ok (.putfield 9, 3) := by decide +kernel
theorem d_TL_add_42 : decode prog_8_method_3_code 42 = .ok (.return_, 1) := by decide +kernel
abbrev m_TL_accountAt : ac_I := (⟨"PairedGates$TokenList", "accountAt", "(I)I"⟩, prog_8_method_4_code, 2, (some (.int)), [])
theorem d_TL_accountAt_0 : decode prog_8_method_4_code 0 = .ok (.iload_n 1, 1) := by decide +kernel
theorem d_TL_accountAt_1 : decode prog_8_method_4_code 1 = .ok (.ifCond .lt 20, 3) := by decide +kernel
theorem d_TL_accountAt_4 : decode prog_8_method_4_code 4 = .ok (.iload_n 1, 1) := by decide +kernel
theorem d_TL_accountAt_5 : decode prog_8_method_4_code 5 = .ok (.aload_n 0, 1) := by decide +kernel
theorem d_TL_accountAt_6 : decode prog_8_method_4_code 6 = .ok (.getfield 9, 3) := by decide +kernel
theorem d_TL_accountAt_9 : decode prog_8_method_4_code 9 = .ok (.if_icmp .ge 12, 3) := by decide +kernel
theorem d_TL_accountAt_12 : decode prog_8_method_4_code 12 = .ok (.aload_n 0, 1) := by decide +kernel
theorem d_TL_accountAt_13 : decode prog_8_method_4_code 13 = .ok (.getfield 21, 3) := by decide +kernel
theorem d_TL_accountAt_16 : decode prog_8_method_4_code 16 = .ok (.iload_n 1, 1) := by decide +kernel
theorem d_TL_accountAt_17 : decode prog_8_method_4_code 17 = .ok (.iaload, 1) := by decide +kernel
theorem d_TL_accountAt_18 : decode prog_8_method_4_code 18 = .ok (.goto 4, 3) := by decide +kernel
theorem d_TL_accountAt_21 : decode prog_8_method_4_code 21 = .ok (.iconst (-1), 1) := by decide +kernel
theorem d_TL_accountAt_22 : decode prog_8_method_4_code 22 = .ok (.ireturn, 1) := by decide +kernel
abbrev m_TL_hasRecent : ac_I := (⟨"PairedGates$TokenList", "hasRecent", "(II)Z"⟩, prog_8_method_5_code, 4, (some (.boolean)), [])
theorem d_TL_hasRecent_0 : decode prog_8_method_5_code 0 = .ok (.aload_n 0, 1) := by decide +kernel
theorem d_TL_hasRecent_1 : decode prog_8_method_5_code 1 = .ok (.getfield 9, 3) := by decide +kernel
theorem d_TL_hasRecent_4 : decode prog_8_method_5_code 4 = .ok (.iconst 1, 1) := by decide +kernel
theorem d_TL_hasRecent_5 : decode prog_8_method_5_code 5 = .ok (.isub, 1) := by decide +kernel
theorem d_TL_hasRecent_6 : decode prog_8_method_5_code 6 = .ok (.istore_n 3, 1) := by decide +kernel
theorem d_TL_hasRecent_7 : decode prog_8_method_5_code 7 = .ok (.iload_n 3, 1) := by decide +kernel
theorem d_TL_hasRecent_8 : decode prog_8_method_5_code 8 = .ok (.ifCond .lt 35, 3) := by decide +kernel
theorem d_TL_hasRecent_11 : decode prog_8_method_5_code 11 = .ok (.iload_n 2, 1) := by decide +kernel
theorem d_TL_hasRecent_12 : decode prog_8_method_5_code 12 = .ok (.aload_n 0, 1) := by decide +kernel
theorem d_TL_hasRecent_13 : decode prog_8_method_5_code 13 = .ok (.getfield 25, 3) := by decide +kernel
theorem d_TL_hasRecent_16 : decode prog_8_method_5_code 16 = .ok (.iload_n 3, 1) := by decide +kernel
theorem d_TL_hasRecent_17 : decode prog_8_method_5_code 17 = .ok (.iaload, 1) := by decide +kernel
theorem d_TL_hasRecent_18 : decode prog_8_method_5_code 18 = .ok (.isub, 1) := by decide +kernel
theorem d_TL_hasRecent_19 : decode prog_8_method_5_code 19 = .ok (.sipush 300, 3) := by decide +kernel
theorem d_TL_hasRecent_22 : decode prog_8_method_5_code 22 = .ok (.if_icmp .ge 21, 3) := by decide +kernel
theorem d_TL_hasRecent_25 : decode prog_8_method_5_code 25 = .ok (.aload_n 0, 1) := by decide +kernel
theorem d_TL_hasRecent_26 : decode prog_8_method_5_code 26 = .ok (.getfield 21, 3) := by decide +kernel
theorem d_TL_hasRecent_29 : decode prog_8_method_5_code 29 = .ok (.iload_n 3, 1) := by decide +kernel
theorem d_TL_hasRecent_30 : decode prog_8_method_5_code 30 = .ok (.iaload, 1) := by decide +kernel
theorem d_TL_hasRecent_31 : decode prog_8_method_5_code 31 = .ok (.iload_n 1, 1) := by decide +kernel
theorem d_TL_hasRecent_32 : decode prog_8_method_5_code 32 = .ok (.if_icmp .ne 5, 3) := by decide +kernel
theorem d_TL_hasRecent_35 : decode prog_8_method_5_code 35 = .ok (.iconst 1, 1) := by decide +kernel
theorem d_TL_hasRecent_36 : decode prog_8_method_5_code 36 = .ok (.ireturn, 1) := by decide +kernel
theorem d_TL_hasRecent_37 : decode prog_8_method_5_code 37 = .ok (.iinc 3 (-1), 3) := by decide +kernel
theorem d_TL_hasRecent_40 : decode prog_8_method_5_code 40 = .ok (.goto (-33), 3) := by decide +kernel
theorem d_TL_hasRecent_43 : decode prog_8_method_5_code 43 = .ok (.iconst 0, 1) := by decide +kernel
theorem d_TL_hasRecent_44 : decode prog_8_method_5_code 44 = .ok (.ireturn, 1) := by decide +kernel
end
section
abbrev m_TL_removeOldest : ac_I := (⟨"PairedGates$TokenList", "removeOldest", "()I"⟩, prog_8_method_6_code, 3, (some (.int)), [])
theorem d_TL_removeOldest_0 : decode prog_8_method_6_code 0 = .ok (.aload_n 0, 1) := by decide +kernel
theorem d_TL_removeOldest_1 : decode prog_8_method_6_code 1 = .ok (.getfield 9, 3) := by decide +kernel
theorem d_TL_removeOldest_4 : decode prog_8_method_6_code 4 = .ok (.ifCond .ne 5, 3) := by decide +kernel
theorem d_TL_removeOldest_7 : decode prog_8_method_6_code 7 = .ok (.iconst (-1), 1) := by decide +kernel
theorem d_TL_removeOldest_8 : decode prog_8_method_6_code 8 = .ok (.ireturn, 1) := by decide +kernel
theorem d_TL_removeOldest_9 : decode prog_8_method_6_code 9 = .ok (.aload_n 0, 1) := by decide +kernel
theorem d_TL_removeOldest_10 : decode prog_8_method_6_code 10 = .ok (.getfield 21, 3) := by decide +kernel
theorem d_TL_removeOldest_13 : decode prog_8_method_6_code 13 = .ok (.iconst 0, 1) := by decide +kernel
theorem d_TL_removeOldest_14 : decode prog_8_method_6_code 14 = .ok (.iaload, 1) := by decide +kernel
theorem d_TL_removeOldest_15 : decode prog_8_method_6_code 15 = .ok (.istore_n 1, 1) := by decide +kernel
theorem d_TL_removeOldest_16 : decode prog_8_method_6_code 16 = .ok (.aload_n 0, 1) := by decide +kernel
theorem d_TL_removeOldest_17 : decode prog_8_method_6_code 17 = .ok (.dup, 1) := by decide +kernel
theorem d_TL_removeOldest_18 : decode prog_8_method_6_code 18 = .ok (.getfield 9, 3) := by decide +kernel
theorem d_TL_removeOldest_21 : decode prog_8_method_6_code 21 = .ok (.iconst 1, 1) := by decide +kernel
theorem d_TL_removeOldest_22 : decode prog_8_method_6_code 22 = .ok (.isub, 1) := by decide +kernel
theorem d_TL_removeOldest_23 : decode prog_8_method_6_code 23 = .ok (.putfield 9, 3) := by decide +kernel
theorem d_TL_removeOldest_26 : decode prog_8_method_6_code 26 = .ok (.iconst 0, 1) := by decide +kernel
theorem d_TL_removeOldest_27 : decode prog_8_method_6_code 27 = .ok (.istore_n 2, 1) := by decide +kernel
theorem d_TL_removeOldest_28 : decode prog_8_method_6_code 28 = .ok (.iload_n 2, 1) := by decide +kernel
theorem d_TL_removeOldest_29 : decode prog_8_method_6_code 29 = .ok (.aload_n 0, 1) := by decide +kernel
theorem d_TL_removeOldest_30 : decode prog_8_method_6_code 30 = .ok (.getfield 9, 3) := by decide +kernel
theorem d_TL_removeOldest_33 : decode prog_8_method_6_code 33 = .ok (.if_icmp .ge 37, 3) := by decide +kernel
theorem d_TL_removeOldest_36 : decode prog_8_method_6_code 36 = .ok (.aload_n 0, 1) := by decide +kernel
theorem d_TL_removeOldest_37 : decode prog_8_method_6_code 37 = .ok (.getfield 21, 3) := by decide +kernel
theorem d_TL_removeOldest_40 : decode prog_8_method_6_code 40 = .ok (.iload_n 2, 1) := by decide +kernel
theorem d_TL_removeOldest_41 : decode prog_8_method_6_code 41 = .ok (.aload_n 0, 1) := by decide +kernel
theorem d_TL_removeOldest_42 : decode prog_8_method_6_code 42 = .ok (.getfield 21, 3) := by decide +kernel
theorem d_TL_removeOldest_45 : decode prog_8_method_6_code 45 = .ok (.iload_n 2, 1) := by decide +kernel
theorem d_TL_removeOldest_46 : decode prog_8_method_6_code 46 = .ok (.iconst 1, 1) := by decide +kernel
theorem d_TL_removeOldest_47 : decode prog_8_method_6_code 47 = .ok (.iadd, 1) := by decide +kernel
theorem d_TL_removeOldest_48 : decode prog_8_method_6_code 48 = .ok (.iaload, 1) := by decide +kernel
theorem d_TL_removeOldest_49 : decode prog_8_method_6_code 49 = .ok (.iastore, 1) := by decide +kernel
theorem d_TL_removeOldest_50 : decode prog_8_method_6_code 50 = .ok (.aload_n 0, 1) := by decide +kernel
theorem d_TL_removeOldest_51 : decode prog_8_method_6_code 51 = .ok (.getfield 25, 3) := by decide +kernel
theorem d_TL_removeOldest_54 : decode prog_8_method_6_code 54 = .ok (.iload_n 2, 1) := by decide +kernel
theorem d_TL_removeOldest_55 : decode prog_8_method_6_code 55 = .ok (.aload_n 0, 1) := by decide +kernel
theorem d_TL_removeOldest_56 : decode prog_8_method_6_code 56 = .ok (.getfield 25, 3) := by decide +kernel
theorem d_TL_removeOldest_59 : decode prog_8_method_6_code 59 = .ok (.iload_n 2, 1) := by decide +kernel
theorem d_TL_removeOldest_60 : decode prog_8_method_6_code 60 = .ok (.iconst 1, 1) := by decide +kernel
theorem d_TL_removeOldest_61 : decode prog_8_method_6_code 61 = .ok (.iadd, 1) := by decide +kernel
theorem d_TL_removeOldest_62 : decode prog_8_method_6_code 62 = .ok (.iaload, 1) := by decide +kernel
theorem d_TL_removeOldest_63 : decode prog_8_method_6_code 63 = .ok (.iastore, 1) := by decide +kernel
theorem d_TL_removeOldest_64 : decode prog_8_method_6_code 64 = .ok (.iinc 2 1, 3) := by decide +kernel
theorem d_TL_removeOldest_67 : decode prog_8_method_6_code 67 = .ok (.goto (-39), 3) := by decide +kernel
theorem d_TL_removeOldest_70 : decode prog_8_method_6_code 70 = .ok (.iload_n 1, 1) := by decide +kernel
theorem d_TL_removeOldest_71 : decode prog_8_method_6_code 71 = .ok (.ireturn, 1) := by decide +kernel
abbrev m_TL_refundExpired : ac_I := (⟨"PairedGates$TokenList", "refundExpired", "(ILPairedGates$Refunds;)V"⟩, prog_8_method_7_code, 5, none, [])
theorem d_TL_refundExpired_0 : decode prog_8_method_7_code 0 = .ok (.aload_n 0, 1) := by decide +kernel
theorem d_TL_refundExpired_1 : decode prog_8_method_7_code 1 = .ok (.getfield 9, 3) := by decide +kernel
theorem d_TL_refundExpired_4 : decode prog_8_method_7_code 4 = .ok (.istore_n 3, 1) := by decide +kernel
theorem d_TL_refundExpired_5 : decode prog_8_method_7_code 5 = .ok (.iconst 0, 1) := by decide +kernel
theorem d_TL_refundExpired_6 : decode prog_8_method_7_code 6 = .ok (.istore 4, 2) := by decide +kernel
theorem d_TL_refundExpired_8 : decode prog_8_method_7_code 8 = .ok (.iload 4, 2) := by decide +kernel
theorem d_TL_refundExpired_10 : decode prog_8_method_7_code 10 = .ok (.iload_n 3, 1) := by decide +kernel
theorem d_TL_refundExpired_11 : decode prog_8_method_7_code 11 = .ok (.if_icmp .ge 31, 3) := by decide +kernel
theorem d_TL_refundExpired_14 : decode prog_8_method_7_code 14 = .ok (.iload_n 1, 1) := by decide +kernel
theorem d_TL_refundExpired_15 : decode prog_8_method_7_code 15 = .ok (.aload_n 0, 1) := by decide +kernel
theorem d_TL_refundExpired_16 : decode prog_8_method_7_code 16 = .ok (.getfield 25, 3) := by decide +kernel
theorem d_TL_refundExpired_19 : decode prog_8_method_7_code 19 = .ok (.iconst 0, 1) := by decide +kernel
theorem d_TL_refundExpired_20 : decode prog_8_method_7_code 20 = .ok (.iaload, 1) := by decide +kernel
theorem d_TL_refundExpired_21 : decode prog_8_method_7_code 21 = .ok (.isub, 1) := by decide +kernel
theorem d_TL_refundExpired_22 : decode prog_8_method_7_code 22 = .ok (.sipush 200, 3) := by decide +kernel
theorem d_TL_refundExpired_25 : decode prog_8_method_7_code 25 = .ok (.if_icmp .lt 17, 3) := by decide +kernel
theorem d_TL_refundExpired_28 : decode prog_8_method_7_code 28 = .ok (.aload_n 2, 1) := by decide +kernel
theorem d_TL_refundExpired_29 : decode prog_8_method_7_code 29 = .ok (.aload_n 0, 1) := by decide +kernel
theorem d_TL_refundExpired_30 : decode prog_8_method_7_code 30 = .ok (.invokevirtual 28, 3) := by decide +kernel
theorem d_TL_refundExpired_33 : decode prog_8_method_7_code 33 = .ok (.invokevirtual 32, 3) := by decide +kernel
theorem d_TL_refundExpired_36 : decode prog_8_method_7_code 36 = .ok (.iinc 4 1, 3) := by decide +kernel
theorem d_TL_refundExpired_39 : decode prog_8_method_7_code 39 = .ok (.goto (-31), 3) := by decide +kernel
theorem d_TL_refundExpired_42 : decode prog_8_method_7_code 42 = .ok (.return_, 1) := by decide +kernel
abbrev m_TL_refundAll : ac_I := (⟨"PairedGates$TokenList", "refundAll", "(LPairedGates$Refunds;)I"⟩, prog_8_method_8_code, 4, (some (.int)), [])
theorem d_TL_refundAll_0 : decode prog_8_method_8_code 0 = .ok (.aload_n 0, 1) := by decide +kernel
theorem d_TL_refundAll_1 : decode prog_8_method_8_code 1 = .ok (.getfield 9, 3) := by decide +kernel
theorem d_TL_refundAll_4 : decode prog_8_method_8_code 4 = .ok (.istore_n 2, 1) := by decide +kernel
theorem d_TL_refundAll_5 : decode prog_8_method_8_code 5 = .ok (.iconst 0, 1) := by decide +kernel
theorem d_TL_refundAll_6 : decode prog_8_method_8_code 6 = .ok (.istore_n 3, 1) := by decide +kernel
theorem d_TL_refundAll_7 : decode prog_8_method_8_code 7 = .ok (.iload_n 3, 1) := by decide +kernel
theorem d_TL_refundAll_8 : decode prog_8_method_8_code 8 = .ok (.iload_n 2, 1) := by decide +kernel
theorem d_TL_refundAll_9 : decode prog_8_method_8_code 9 = .ok (.if_icmp .ge 17, 3) := by decide +kernel
theorem d_TL_refundAll_12 : decode prog_8_method_8_code 12 = .ok (.aload_n 1, 1) := by decide +kernel
theorem d_TL_refundAll_13 : decode prog_8_method_8_code 13 = .ok (.aload_n 0, 1) := by decide +kernel
theorem d_TL_refundAll_14 : decode prog_8_method_8_code 14 = .ok (.invokevirtual 28, 3) := by decide +kernel
theorem d_TL_refundAll_17 : decode prog_8_method_8_code 17 = .ok (.invokevirtual 32, 3) := by decide +kernel
theorem d_TL_refundAll_20 : decode prog_8_method_8_code 20 = .ok (.iinc 3 1, 3) := by decide +kernel
theorem d_TL_refundAll_23 : decode prog_8_method_8_code 23 = .ok (.goto (-16), 3) := by decide +kernel
theorem d_TL_refundAll_26 : decode prog_8_method_8_code 26 = .ok (.iload_n 2, 1) := by decide +kernel
theorem d_TL_refundAll_27 : decode prog_8_method_8_code 27 = .ok (.ireturn, 1) := by decide +kernel
abbrev m_La_beams : ac_I := (⟨"PairedGatesLaw", "beams", "(LPairedGates;II)I"⟩, method_3_code, 4, (some (.int)), [(0, 6, 9, 13)])
theorem d_La_beams_0 : decode method_3_code 0 = .ok (.aload_n 0, 1) := by decide +kernel
theorem d_La_beams_1 : decode method_3_code 1 = .ok (.iload_n 1, 1) := by decide +kernel
theorem d_La_beams_2 : decode method_3_code 2 = .ok (.iload_n 2, 1) := by decide +kernel
theorem d_La_beams_3 : decode method_3_code 3 = .ok (.invokevirtual 7, 3) := by decide +kernel
theorem d_La_beams_6 : decode method_3_code 6 = .ok (.goto 6, 3) := by decide +kernel
theorem d_La_beams_9 : decode method_3_code 9 = .ok (.astore_n 3, 1) := by decide +kernel
theorem d_La_beams_10 : decode method_3_code 10 = .ok (.iconst 1, 1) := by decide +kernel
theorem d_La_beams_11 : decode method_3_code 11 = .ok (.ireturn, 1) := by decide +kernel
theorem d_La_beams_12 : decode method_3_code 12 = .ok (.iconst 0, 1) := by decide +kernel
theorem d_La_beams_13 : decode method_3_code 13 = .ok (.ireturn, 1) := by decide +kernel
abbrev m_La_ticks : ac_I := (⟨"PairedGatesLaw", "ticks", "(LPairedGates;I[J)I"⟩, method_4_code, 4, (some (.int)), [(0, 9, 12, 19)])
theorem d_La_ticks_0 : decode method_4_code 0 = .ok (.aload_n 2, 1) := by decide +kernel
theorem d_La_ticks_1 : decode method_4_code 1 = .ok (.iconst 0, 1) := by decide +kernel
theorem d_La_ticks_2 : decode method_4_code 2 = .ok (.aload_n 0, 1) := by decide +kernel
theorem d_La_ticks_3 : decode method_4_code 3 = .ok (.iload_n 1, 1) := by decide +kernel
theorem d_La_ticks_4 : decode method_4_code 4 = .ok (.invokevirtual 15, 3) := by decide +kernel
theorem d_La_ticks_7 : decode method_4_code 7 = .ok (.i2l, 1) := by decide +kernel
theorem d_La_ticks_8 : decode method_4_code 8 = .ok (.lastore, 1) := by decide +kernel
theorem d_La_ticks_9 : decode method_4_code 9 = .ok (.goto 6, 3) := by decide +kernel
theorem d_La_ticks_12 : decode method_4_code 12 = .ok (.astore_n 3, 1) := by decide +kernel
theorem d_La_ticks_13 : decode method_4_code 13 = .ok (.iconst 1, 1) := by decide +kernel
theorem d_La_ticks_14 : decode method_4_code 14 = .ok (.ireturn, 1) := by decide +kernel
theorem d_La_ticks_15 : decode method_4_code 15 = .ok (.iconst 0, 1) := by decide +kernel
theorem d_La_ticks_16 : decode method_4_code 16 = .ok (.ireturn, 1) := by decide +kernel
abbrev m_La_token : ac_I := (⟨"PairedGatesLaw", "token", "(LPairedGates;III[J)I"⟩, method_5_code, 6, (some (.int)), [(0, 12, 15, 13), (0, 12, 19, 19)])
theorem d_La_token_0 : decode method_5_code 0 = .ok (.aload 4, 2) := by decide +kernel
theorem d_La_token_2 : decode method_5_code 2 = .ok (.iconst 0, 1) := by decide +kernel
theorem d_La_token_3 : decode method_5_code 3 = .ok (.aload_n 0, 1) := by decide +kernel
theorem d_La_token_4 : decode method_5_code 4 = .ok (.iload_n 1, 1) := by decide +kernel
theorem d_La_token_5 : decode method_5_code 5 = .ok (.iload_n 2, 1) := by decide +kernel
theorem d_La_token_6 : decode method_5_code 6 = .ok (.iload_n 3, 1) := by decide +kernel
theorem d_La_token_7 : decode method_5_code 7 = .ok (.invokevirtual 21, 3) := by decide +kernel
theorem d_La_token_10 : decode method_5_code 10 = .ok (.i2l, 1) := by decide +kernel
theorem d_La_token_11 : decode method_5_code 11 = .ok (.lastore, 1) := by decide +kernel
theorem d_La_token_12 : decode method_5_code 12 = .ok (.goto 11, 3) := by decide +kernel
theorem d_La_token_15 : decode method_5_code 15 = .ok (.astore 5, 2) := by decide +kernel
theorem d_La_token_17 : decode method_5_code 17 = .ok (.iconst 1, 1) := by decide +kernel
theorem d_La_token_18 : decode method_5_code 18 = .ok (.ireturn, 1) := by decide +kernel
theorem d_La_token_19 : decode method_5_code 19 = .ok (.astore 5, 2) := by decide +kernel
theorem d_La_token_21 : decode method_5_code 21 = .ok (.iconst 2, 1) := by decide +kernel
theorem d_La_token_22 : decode method_5_code 22 = .ok (.ireturn, 1) := by decide +kernel
theorem d_La_token_23 : decode method_5_code 23 = .ok (.iconst 0, 1) := by decide +kernel
theorem d_La_token_24 : decode method_5_code 24 = .ok (.ireturn, 1) := by decide +kernel
abbrev m_La_cancel : ac_I := (⟨"PairedGatesLaw", "cancel", "(LPairedGates;II[J)I"⟩, method_6_code, 5, (some (.int)), [(0, 10, 13, 13)])
theorem d_La_cancel_0 : decode method_6_code 0 = .ok (.aload_n 3, 1) := by decide +kernel
theorem d_La_cancel_1 : decode method_6_code 1 = .ok (.iconst 0, 1) := by decide +kernel
theorem d_La_cancel_2 : decode method_6_code 2 = .ok (.aload_n 0, 1) := by decide +kernel
theorem d_La_cancel_3 : decode method_6_code 3 = .ok (.iload_n 1, 1) := by decide +kernel
theorem d_La_cancel_4 : decode method_6_code 4 = .ok (.iload_n 2, 1) := by decide +kernel
theorem d_La_cancel_5 : decode method_6_code 5 = .ok (.invokevirtual 25, 3) := by decide +kernel
theorem d_La_cancel_8 : decode method_6_code 8 = .ok (.i2l, 1) := by decide +kernel
theorem d_La_cancel_9 : decode method_6_code 9 = .ok (.lastore, 1) := by decide +kernel
theorem d_La_cancel_10 : decode method_6_code 10 = .ok (.goto 7, 3) := by decide +kernel
theorem d_La_cancel_13 : decode method_6_code 13 = .ok (.astore 4, 2) := by decide +kernel
theorem d_La_cancel_15 : decode method_6_code 15 = .ok (.iconst 1, 1) := by decide +kernel
theorem d_La_cancel_16 : decode method_6_code 16 = .ok (.ireturn, 1) := by decide +kernel
theorem d_La_cancel_17 : decode method_6_code 17 = .ok (.iconst 0, 1) := by decide +kernel
theorem d_La_cancel_18 : decode method_6_code 18 = .ok (.ireturn, 1) := by decide +kernel
abbrev m_La_mode : ac_I := (⟨"PairedGatesLaw", "mode", "(LPairedGates;II[J)I"⟩, method_7_code, 5, (some (.int)), [(0, 10, 13, 13), (0, 10, 17, 19), (0, 10, 21, 32)])
theorem d_La_mode_0 : decode method_7_code 0 = .ok (.aload_n 3, 1) := by decide +kernel
theorem d_La_mode_1 : decode method_7_code 1 = .ok (.iconst 0, 1) := by decide +kernel
theorem d_La_mode_2 : decode method_7_code 2 = .ok (.aload_n 0, 1) := by decide +kernel
theorem d_La_mode_3 : decode method_7_code 3 = .ok (.iload_n 1, 1) := by decide +kernel
theorem d_La_mode_4 : decode method_7_code 4 = .ok (.iload_n 2, 1) := by decide +kernel
theorem d_La_mode_5 : decode method_7_code 5 = .ok (.invokevirtual 29, 3) := by decide +kernel
theorem d_La_mode_8 : decode method_7_code 8 = .ok (.i2l, 1) := by decide +kernel
theorem d_La_mode_9 : decode method_7_code 9 = .ok (.lastore, 1) := by decide +kernel
theorem d_La_mode_10 : decode method_7_code 10 = .ok (.goto 15, 3) := by decide +kernel
theorem d_La_mode_13 : decode method_7_code 13 = .ok (.astore 4, 2) := by decide +kernel
theorem d_La_mode_15 : decode method_7_code 15 = .ok (.iconst 1, 1) := by decide +kernel
theorem d_La_mode_16 : decode method_7_code 16 = .ok (.ireturn, 1) := by decide +kernel
theorem d_La_mode_17 : decode method_7_code 17 = .ok (.astore 4, 2) := by decide +kernel
theorem d_La_mode_19 : decode method_7_code 19 = .ok (.iconst 2, 1) := by decide +kernel
theorem d_La_mode_20 : decode method_7_code 20 = .ok (.ireturn, 1) := by decide +kernel
theorem d_La_mode_21 : decode method_7_code 21 = .ok (.astore 4, 2) := by decide +kernel
theorem d_La_mode_23 : decode method_7_code 23 = .ok (.iconst 3, 1) := by decide +kernel
theorem d_La_mode_24 : decode method_7_code 24 = .ok (.ireturn, 1) := by decide +kernel
theorem d_La_mode_25 : decode method_7_code 25 = .ok (.iconst 0, 1) := by decide +kernel
theorem d_La_mode_26 : decode method_7_code 26 = .ok (.ireturn, 1) := by decide +kernel
abbrev m_La_bodies : ac_I := (⟨"PairedGatesLaw", "bodies", "(LPairedGates;I[J)I"⟩, method_8_code, 4, (some (.int)), [(0, 9, 12, 13)])
theorem d_La_bodies_0 : decode method_8_code 0 = .ok (.aload_n 2, 1) := by decide +kernel
theorem d_La_bodies_1 : decode method_8_code 1 = .ok (.iconst 0, 1) := by decide +kernel
theorem d_La_bodies_2 : decode method_8_code 2 = .ok (.aload_n 0, 1) := by decide +kernel
theorem d_La_bodies_3 : decode method_8_code 3 = .ok (.iload_n 1, 1) := by decide +kernel
theorem d_La_bodies_4 : decode method_8_code 4 = .ok (.invokevirtual 34, 3) := by decide +kernel
theorem d_La_bodies_7 : decode method_8_code 7 = .ok (.i2l, 1) := by decide +kernel
theorem d_La_bodies_8 : decode method_8_code 8 = .ok (.lastore, 1) := by decide +kernel
theorem d_La_bodies_9 : decode method_8_code 9 = .ok (.goto 6, 3) := by decide +kernel
theorem d_La_bodies_12 : decode method_8_code 12 = .ok (.astore_n 3, 1) := by decide +kernel
theorem d_La_bodies_13 : decode method_8_code 13 = .ok (.iconst 1, 1) := by decide +kernel
theorem d_La_bodies_14 : decode method_8_code 14 = .ok (.ireturn, 1) := by decide +kernel
theorem d_La_bodies_15 : decode method_8_code 15 = .ok (.iconst 0, 1) := by decide +kernel
theorem d_La_bodies_16 : decode method_8_code 16 = .ok (.ireturn, 1) := by decide +kernel
abbrev m_La_body : ac_I := (⟨"PairedGatesLaw", "body", "(LPairedGates;III[J)I"⟩, method_9_code, 6, (some (.int)), [(0, 12, 15, 13), (0, 12, 19, 19)])
theorem d_La_body_0 : decode method_9_code 0 = .ok (.aload 4, 2) := by decide +kernel
theorem d_La_body_2 : decode method_9_code 2 = .ok (.iconst 0, 1) := by decide +kernel
theorem d_La_body_3 : decode method_9_code 3 = .ok (.aload_n 0, 1) := by decide +kernel
theorem d_La_body_4 : decode method_9_code 4 = .ok (.iload_n 1, 1) := by decide +kernel
theorem d_La_body_5 : decode method_9_code 5 = .ok (.iload_n 2, 1) := by decide +kernel
theorem d_La_body_6 : decode method_9_code 6 = .ok (.iload_n 3, 1) := by decide +kernel
theorem d_La_body_7 : decode method_9_code 7 = .ok (.invokevirtual 37, 3) := by decide +kernel
theorem d_La_body_10 : decode method_9_code 10 = .ok (.i2l, 1) := by decide +kernel
theorem d_La_body_11 : decode method_9_code 11 = .ok (.lastore, 1) := by decide +kernel
theorem d_La_body_12 : decode method_9_code 12 = .ok (.goto 11, 3) := by decide +kernel
theorem d_La_body_15 : decode method_9_code 15 = .ok (.astore 5, 2) := by decide +kernel
theorem d_La_body_17 : decode method_9_code 17 = .ok (.iconst 1, 1) := by decide +kernel
theorem d_La_body_18 : decode method_9_code 18 = .ok (.ireturn, 1) := by decide +kernel
theorem d_La_body_19 : decode method_9_code 19 = .ok (.astore 5, 2) := by decide +kernel
theorem d_La_body_21 : decode method_9_code 21 = .ok (.iconst 2, 1) := by decide +kernel
theorem d_La_body_22 : decode method_9_code 22 = .ok (.ireturn, 1) := by decide +kernel
theorem d_La_body_23 : decode method_9_code 23 = .ok (.iconst 0, 1) := by decide +kernel
theorem d_La_body_24 : decode method_9_code 24 = .ok (.ireturn, 1) := by decide +kernel
abbrev m_La_waiting : ac_I := (⟨"PairedGatesLaw", "waiting", "(LPairedGates;II[J)I"⟩, method_10_code, 5, (some (.int)), [(0, 10, 13, 13)])
theorem d_La_waiting_0 : decode method_10_code 0 = .ok (.aload_n 3, 1) := by decide +kernel
theorem d_La_waiting_1 : decode method_10_code 1 = .ok (.iconst 0, 1) := by decide +kernel
theorem d_La_waiting_2 : decode method_10_code 2 = .ok (.aload_n 0, 1) := by decide +kernel
theorem d_La_waiting_3 : decode method_10_code 3 = .ok (.iload_n 1, 1) := by decide +kernel
theorem d_La_waiting_4 : decode method_10_code 4 = .ok (.iload_n 2, 1) := by decide +kernel
theorem d_La_waiting_5 : decode method_10_code 5 = .ok (.invokevirtual 40, 3) := by decide +kernel
theorem d_La_waiting_8 : decode method_10_code 8 = .ok (.i2l, 1) := by decide +kernel
theorem d_La_waiting_9 : decode method_10_code 9 = .ok (.lastore, 1) := by decide +kernel
theorem d_La_waiting_10 : decode method_10_code 10 = .ok (.goto 7, 3) := by decide +kernel
theorem d_La_waiting_13 : decode method_10_code 13 = .ok (.astore 4, 2) := by decide +kernel
theorem d_La_waiting_15 : decode method_10_code 15 = .ok (.iconst 1, 1) := by decide +kernel
theorem d_La_waiting_16 : decode method_10_code 16 = .ok (.ireturn, 1) := by decide +kernel
theorem d_La_waiting_17 : decode method_10_code 17 = .ok (.iconst 0, 1) := by decide +kernel
theorem d_La_waiting_18 : decode method_10_code 18 = .ok (.ireturn, 1) := by decide +kernel
abbrev m_La_waits : ac_I := (⟨"PairedGatesLaw", "waits", "(LPairedGates;III[J)I"⟩, method_11_code, 6, (some (.int)), [(0, 12, 15, 13)])
theorem d_La_waits_0 : decode method_11_code 0 = .ok (.aload 4, 2) := by decide +kernel
theorem d_La_waits_2 : decode method_11_code 2 = .ok (.iconst 0, 1) := by decide +kernel
theorem d_La_waits_3 : decode method_11_code 3 = .ok (.aload_n 0, 1) := by decide +kernel
theorem d_La_waits_4 : decode method_11_code 4 = .ok (.iload_n 1, 1) := by decide +kernel
theorem d_La_waits_5 : decode method_11_code 5 = .ok (.iload_n 2, 1) := by decide +kernel
theorem d_La_waits_6 : decode method_11_code 6 = .ok (.iload_n 3, 1) := by decide +kernel
theorem d_La_waits_7 : decode method_11_code 7 = .ok (.invokevirtual 43, 3) := by decide +kernel
theorem d_La_waits_10 : decode method_11_code 10 = .ok (.i2l, 1) := by decide +kernel
theorem d_La_waits_11 : decode method_11_code 11 = .ok (.lastore, 1) := by decide +kernel
theorem d_La_waits_12 : decode method_11_code 12 = .ok (.goto 7, 3) := by decide +kernel
theorem d_La_waits_15 : decode method_11_code 15 = .ok (.astore 5, 2) := by decide +kernel
theorem d_La_waits_17 : decode method_11_code 17 = .ok (.iconst 1, 1) := by decide +kernel
theorem d_La_waits_18 : decode method_11_code 18 = .ok (.ireturn, 1) := by decide +kernel
theorem d_La_waits_19 : decode method_11_code 19 = .ok (.iconst 0, 1) := by decide +kernel
theorem d_La_waits_20 : decode method_11_code 20 = .ok (.ireturn, 1) := by decide +kernel
abbrev m_La_count : ac_I := (⟨"PairedGatesLaw", "count", "(LPairedGates;II[J)I"⟩, method_12_code, 5, (some (.int)), [(0, 10, 13, 13)])
theorem d_La_count_0 : decode method_12_code 0 = .ok (.aload_n 3, 1) := by decide +kernel
theorem d_La_count_1 : decode method_12_code 1 = .ok (.iconst 0, 1) := by decide +kernel
theorem d_La_count_2 : decode method_12_code 2 = .ok (.aload_n 0, 1) := by decide +kernel
theorem d_La_count_3 : decode method_12_code 3 = .ok (.iload_n 1, 1) := by decide +kernel
theorem d_La_count_4 : decode method_12_code 4 = .ok (.iload_n 2, 1) := by decide +kernel
theorem d_La_count_5 : decode method_12_code 5 = .ok (.invokevirtual 46, 3) := by decide +kernel
theorem d_La_count_8 : decode method_12_code 8 = .ok (.i2l, 1) := by decide +kernel
theorem d_La_count_9 : decode method_12_code 9 = .ok (.lastore, 1) := by decide +kernel
theorem d_La_count_10 : decode method_12_code 10 = .ok (.goto 7, 3) := by decide +kernel
theorem d_La_count_13 : decode method_12_code 13 = .ok (.astore 4, 2) := by decide +kernel
theorem d_La_count_15 : decode method_12_code 15 = .ok (.iconst 1, 1) := by decide +kernel
theorem d_La_count_16 : decode method_12_code 16 = .ok (.ireturn, 1) := by decide +kernel
theorem d_La_count_17 : decode method_12_code 17 = .ok (.iconst 0, 1) := by decide +kernel
theorem d_La_count_18 : decode method_12_code 18 = .ok (.ireturn, 1) := by decide +kernel
abbrev m_La_angle : ac_I := (⟨"PairedGatesLaw", "angle", "(LPairedGates;I[J)I"⟩, method_13_code, 4, (some (.int)), [(0, 9, 12, 13)])
theorem d_La_angle_0 : decode method_13_code 0 = .ok (.aload_n 2, 1) := by decide +kernel
theorem d_La_angle_1 : decode method_13_code 1 = .ok (.iconst 0, 1) := by decide +kernel
theorem d_La_angle_2 : decode method_13_code 2 = .ok (.aload_n 0, 1) := by decide +kernel
theorem d_La_angle_3 : decode method_13_code 3 = .ok (.iload_n 1, 1) := by decide +kernel
theorem d_La_angle_4 : decode method_13_code 4 = .ok (.invokevirtual 49, 3) := by decide +kernel
theorem d_La_angle_7 : decode method_13_code 7 = .ok (.i2l, 1) := by decide +kernel
theorem d_La_angle_8 : decode method_13_code 8 = .ok (.lastore, 1) := by decide +kernel
theorem d_La_angle_9 : decode method_13_code 9 = .ok (.goto 6, 3) := by decide +kernel
theorem d_La_angle_12 : decode method_13_code 12 = .ok (.astore_n 3, 1) := by decide +kernel
theorem d_La_angle_13 : decode method_13_code 13 = .ok (.iconst 1, 1) := by decide +kernel
theorem d_La_angle_14 : decode method_13_code 14 = .ok (.ireturn, 1) := by decide +kernel
theorem d_La_angle_15 : decode method_13_code 15 = .ok (.iconst 0, 1) := by decide +kernel
theorem d_La_angle_16 : decode method_13_code 16 = .ok (.ireturn, 1) := by decide +kernel
abbrev m_La_order : ac_I := (⟨"PairedGatesLaw", "order", "(LPairedGates;I[J)I"⟩, method_14_code, 4, (some (.int)), [(0, 9, 12, 13)])
theorem d_La_order_0 : decode method_14_code 0 = .ok (.aload_n 2, 1) := by decide +kernel
theorem d_La_order_1 : decode method_14_code 1 = .ok (.iconst 0, 1) := by decide +kernel
theorem d_La_order_2 : decode method_14_code 2 = .ok (.aload_n 0, 1) := by decide +kernel
theorem d_La_order_3 : decode method_14_code 3 = .ok (.iload_n 1, 1) := by decide +kernel
theorem d_La_order_4 : decode method_14_code 4 = .ok (.invokevirtual 52, 3) := by decide +kernel
theorem d_La_order_7 : decode method_14_code 7 = .ok (.i2l, 1) := by decide +kernel
theorem d_La_order_8 : decode method_14_code 8 = .ok (.lastore, 1) := by decide +kernel
theorem d_La_order_9 : decode method_14_code 9 = .ok (.goto 6, 3) := by decide +kernel
theorem d_La_order_12 : decode method_14_code 12 = .ok (.astore_n 3, 1) := by decide +kernel
theorem d_La_order_13 : decode method_14_code 13 = .ok (.iconst 1, 1) := by decide +kernel
theorem d_La_order_14 : decode method_14_code 14 = .ok (.ireturn, 1) := by decide +kernel
theorem d_La_order_15 : decode method_14_code 15 = .ok (.iconst 0, 1) := by decide +kernel
theorem d_La_order_16 : decode method_14_code 16 = .ok (.ireturn, 1) := by decide +kernel
abbrev m_La_seen : ac_I := (⟨"PairedGatesLaw", "seen", "(LPairedGates;I[J)I"⟩, method_15_code, 4, (some (.int)), [(0, 9, 12, 13)])
theorem d_La_seen_0 : decode method_15_code 0 = .ok (.aload_n 2, 1) := by decide +kernel
theorem d_La_seen_1 : decode method_15_code 1 = .ok (.iconst 0, 1) := by decide +kernel
theorem d_La_seen_2 : decode method_15_code 2 = .ok (.aload_n 0, 1) := by decide +kernel
theorem d_La_seen_3 : decode method_15_code 3 = .ok (.iload_n 1, 1) := by decide +kernel
theorem d_La_seen_4 : decode method_15_code 4 = .ok (.invokevirtual 55, 3) := by decide +kernel
theorem d_La_seen_7 : decode method_15_code 7 = .ok (.i2l, 1) := by decide +kernel
theorem d_La_seen_8 : decode method_15_code 8 = .ok (.lastore, 1) := by decide +kernel
theorem d_La_seen_9 : decode method_15_code 9 = .ok (.goto 6, 3) := by decide +kernel
theorem d_La_seen_12 : decode method_15_code 12 = .ok (.astore_n 3, 1) := by decide +kernel
theorem d_La_seen_13 : decode method_15_code 13 = .ok (.iconst 1, 1) := by decide +kernel
theorem d_La_seen_14 : decode method_15_code 14 = .ok (.ireturn, 1) := by decide +kernel
theorem d_La_seen_15 : decode method_15_code 15 = .ok (.iconst 0, 1) := by decide +kernel
theorem d_La_seen_16 : decode method_15_code 16 = .ok (.ireturn, 1) := by decide +kernel
abbrev m_La_law : ac_I := (⟨"PairedGatesLaw", "law", "([I)Z"⟩, code, 7, (some (.boolean)), [])
theorem d_La_law_0 : decode code 0 = .ok (.new 8, 3) := by decide +kernel
theorem d_La_law_3 : decode code 3 = .ok (.dup, 1) := by decide +kernel
theorem d_La_law_4 : decode code 4 = .ok (.invokespecial 58, 3) := by decide +kernel
theorem d_La_law_7 : decode code 7 = .ok (.astore_n 1, 1) := by decide +kernel
theorem d_La_law_8 : decode code 8 = .ok (.new 59, 3) := by decide +kernel
theorem d_La_law_11 : decode code 11 = .ok (.dup, 1) := by decide +kernel
theorem d_La_law_12 : decode code 12 = .ok (.invokespecial 61, 3) := by decide +kernel
theorem d_La_law_15 : decode code 15 = .ok (.astore_n 2, 1) := by decide +kernel
theorem d_La_law_16 : decode code 16 = .ok (.iconst 1, 1) := by decide +kernel
theorem d_La_law_17 : decode code 17 = .ok (.newarray .long, 2) := by decide +kernel
theorem d_La_law_19 : decode code 19 = .ok (.astore_n 3, 1) := by decide +kernel
theorem d_La_law_20 : decode code 20 = .ok (.iconst 0, 1) := by decide +kernel
theorem d_La_law_21 : decode code 21 = .ok (.istore 4, 2) := by decide +kernel
theorem d_La_law_23 : decode code 23 = .ok (.iload 4, 2) := by decide +kernel
theorem d_La_law_25 : decode code 25 = .ok (.aload_n 0, 1) := by decide +kernel
theorem d_La_law_26 : decode code 26 = .ok (.arraylength, 1) := by decide +kernel
theorem d_La_law_27 : decode code 27 = .ok (.iconst 4, 1) := by decide +kernel
theorem d_La_law_28 : decode code 28 = .ok (.isub, 1) := by decide +kernel
theorem d_La_law_29 : decode code 29 = .ok (.if_icmp .gt 1044, 3) := by decide +kernel
theorem d_La_law_32 : decode code 32 = .ok (.aload_n 0, 1) := by decide +kernel
theorem d_La_law_33 : decode code 33 = .ok (.iload 4, 2) := by decide +kernel
theorem d_La_law_35 : decode code 35 = .ok (.iaload, 1) := by decide +kernel
theorem d_La_law_36 : decode code 36 = .ok (.bipush 31, 2) := by decide +kernel
theorem d_La_law_38 : decode code 38 = .ok (.iand, 1) := by decide +kernel
theorem d_La_law_39 : decode code 39 = .ok (.tableswitch 1028 0 17 #[85, 133, 189, 269, 337, 405, 444, 457, 513, 593, 661, 741, 809, 865, 921, 977, 990, 1003], 85) := by decide +kernel
theorem d_La_law_124 : decode code 124 = .ok (.aload_n 1, 1) := by decide +kernel
theorem d_La_law_125 : decode code 125 = .ok (.aload_n 0, 1) := by decide +kernel
theorem d_La_law_126 : decode code 126 = .ok (.iload 4, 2) := by decide +kernel
theorem d_La_law_128 : decode code 128 = .ok (.iconst 1, 1) := by decide +kernel
theorem d_La_law_129 : decode code 129 = .ok (.iadd, 1) := by decide +kernel
theorem d_La_law_130 : decode code 130 = .ok (.iaload, 1) := by decide +kernel
theorem d_La_law_131 : decode code 131 = .ok (.aload_n 0, 1) := by decide +kernel
theorem d_La_law_132 : decode code 132 = .ok (.iload 4, 2) := by decide +kernel
theorem d_La_law_134 : decode code 134 = .ok (.iconst 2, 1) := by decide +kernel
theorem d_La_law_135 : decode code 135 = .ok (.iadd, 1) := by decide +kernel
theorem d_La_law_136 : decode code 136 = .ok (.iaload, 1) := by decide +kernel
theorem d_La_law_137 : decode code 137 = .ok (.invokestatic 62, 3) := by decide +kernel
theorem d_La_law_140 : decode code 140 = .ok (.istore 5, 2) := by decide +kernel
theorem d_La_law_142 : decode code 142 = .ok (.aload_n 2, 1) := by decide +kernel
theorem d_La_law_143 : decode code 143 = .ok (.aload_n 0, 1) := by decide +kernel
theorem d_La_law_144 : decode code 144 = .ok (.iload 4, 2) := by decide +kernel
theorem d_La_law_146 : decode code 146 = .ok (.iconst 1, 1) := by decide +kernel
theorem d_La_law_147 : decode code 147 = .ok (.iadd, 1) := by decide +kernel
theorem d_La_law_148 : decode code 148 = .ok (.iaload, 1) := by decide +kernel
theorem d_La_law_149 : decode code 149 = .ok (.aload_n 0, 1) := by decide +kernel
theorem d_La_law_150 : decode code 150 = .ok (.iload 4, 2) := by decide +kernel
theorem d_La_law_152 : decode code 152 = .ok (.iconst 2, 1) := by decide +kernel
theorem d_La_law_153 : decode code 153 = .ok (.iadd, 1) := by decide +kernel
theorem d_La_law_154 : decode code 154 = .ok (.iaload, 1) := by decide +kernel
theorem d_La_law_155 : decode code 155 = .ok (.invokevirtual 67, 3) := by decide +kernel
theorem d_La_law_158 : decode code 158 = .ok (.aload_n 2, 1) := by decide +kernel
theorem d_La_law_159 : decode code 159 = .ok (.invokevirtual 68, 3) := by decide +kernel
theorem d_La_law_162 : decode code 162 = .ok (.iload 5, 2) := by decide +kernel
theorem d_La_law_164 : decode code 164 = .ok (.if_icmp .eq 5, 3) := by decide +kernel
theorem d_La_law_167 : decode code 167 = .ok (.iconst 0, 1) := by decide +kernel
theorem d_La_law_168 : decode code 168 = .ok (.ireturn, 1) := by decide +kernel
theorem d_La_law_169 : decode code 169 = .ok (.goto 898, 3) := by decide +kernel
theorem d_La_law_172 : decode code 172 = .ok (.aload_n 1, 1) := by decide +kernel
theorem d_La_law_173 : decode code 173 = .ok (.aload_n 0, 1) := by decide +kernel
theorem d_La_law_174 : decode code 174 = .ok (.iload 4, 2) := by decide +kernel
theorem d_La_law_176 : decode code 176 = .ok (.iconst 1, 1) := by decide +kernel
theorem d_La_law_177 : decode code 177 = .ok (.iadd, 1) := by decide +kernel
theorem d_La_law_178 : decode code 178 = .ok (.iaload, 1) := by decide +kernel
theorem d_La_law_179 : decode code 179 = .ok (.aload_n 3, 1) := by decide +kernel
theorem d_La_law_180 : decode code 180 = .ok (.invokestatic 72, 3) := by decide +kernel
theorem d_La_law_183 : decode code 183 = .ok (.istore 5, 2) := by decide +kernel
theorem d_La_law_185 : decode code 185 = .ok (.aload_n 2, 1) := by decide +kernel
theorem d_La_law_186 : decode code 186 = .ok (.aload_n 0, 1) := by decide +kernel
theorem d_La_law_187 : decode code 187 = .ok (.iload 4, 2) := by decide +kernel
theorem d_La_law_189 : decode code 189 = .ok (.iconst 1, 1) := by decide +kernel
theorem d_La_law_190 : decode code 190 = .ok (.iadd, 1) := by decide +kernel
theorem d_La_law_191 : decode code 191 = .ok (.iaload, 1) := by decide +kernel
theorem d_La_law_192 : decode code 192 = .ok (.invokevirtual 75, 3) := by decide +kernel
theorem d_La_law_195 : decode code 195 = .ok (.istore 6, 2) := by decide +kernel
theorem d_La_law_197 : decode code 197 = .ok (.aload_n 2, 1) := by decide +kernel
theorem d_La_law_198 : decode code 198 = .ok (.invokevirtual 68, 3) := by decide +kernel
theorem d_La_law_201 : decode code 201 = .ok (.iload 5, 2) := by decide +kernel
theorem d_La_law_203 : decode code 203 = .ok (.if_icmp .eq 5, 3) := by decide +kernel
theorem d_La_law_206 : decode code 206 = .ok (.iconst 0, 1) := by decide +kernel
theorem d_La_law_207 : decode code 207 = .ok (.ireturn, 1) := by decide +kernel
theorem d_La_law_208 : decode code 208 = .ok (.iload 5, 2) := by decide +kernel
theorem d_La_law_210 : decode code 210 = .ok (.ifCond .ne 15, 3) := by decide +kernel
theorem d_La_law_213 : decode code 213 = .ok (.aload_n 3, 1) := by decide +kernel
theorem d_La_law_214 : decode code 214 = .ok (.iconst 0, 1) := by decide +kernel
theorem d_La_law_215 : decode code 215 = .ok (.laload, 1) := by decide +kernel
theorem d_La_law_216 : decode code 216 = .ok (.iload 6, 2) := by decide +kernel
theorem d_La_law_218 : decode code 218 = .ok (.i2l, 1) := by decide +kernel
theorem d_La_law_219 : decode code 219 = .ok (.lcmp, 1) := by decide +kernel
theorem d_La_law_220 : decode code 220 = .ok (.ifCond .eq 5, 3) := by decide +kernel
theorem d_La_law_223 : decode code 223 = .ok (.iconst 0, 1) := by decide +kernel
theorem d_La_law_224 : decode code 224 = .ok (.ireturn, 1) := by decide +kernel
theorem d_La_law_225 : decode code 225 = .ok (.goto 842, 3) := by decide +kernel
theorem d_La_law_228 : decode code 228 = .ok (.aload_n 1, 1) := by decide +kernel
theorem d_La_law_229 : decode code 229 = .ok (.aload_n 0, 1) := by decide +kernel
theorem d_La_law_230 : decode code 230 = .ok (.iload 4, 2) := by decide +kernel
theorem d_La_law_232 : decode code 232 = .ok (.iconst 1, 1) := by decide +kernel
theorem d_La_law_233 : decode code 233 = .ok (.iadd, 1) := by decide +kernel
theorem d_La_law_234 : decode code 234 = .ok (.iaload, 1) := by decide +kernel
theorem d_La_law_235 : decode code 235 = .ok (.aload_n 0, 1) := by decide +kernel
theorem d_La_law_236 : decode code 236 = .ok (.iload 4, 2) := by decide +kernel
theorem d_La_law_238 : decode code 238 = .ok (.iconst 2, 1) := by decide +kernel
theorem d_La_law_239 : decode code 239 = .ok (.iadd, 1) := by decide +kernel
theorem d_La_law_240 : decode code 240 = .ok (.iaload, 1) := by decide +kernel
theorem d_La_law_241 : decode code 241 = .ok (.aload_n 0, 1) := by decide +kernel
theorem d_La_law_242 : decode code 242 = .ok (.iload 4, 2) := by decide +kernel
theorem d_La_law_244 : decode code 244 = .ok (.iconst 3, 1) := by decide +kernel
theorem d_La_law_245 : decode code 245 = .ok (.iadd, 1) := by decide +kernel
theorem d_La_law_246 : decode code 246 = .ok (.iaload, 1) := by decide +kernel
theorem d_La_law_247 : decode code 247 = .ok (.aload_n 3, 1) := by decide +kernel
theorem d_La_law_248 : decode code 248 = .ok (.invokestatic 76, 3) := by decide +kernel
theorem d_La_law_251 : decode code 251 = .ok (.istore 5, 2) := by decide +kernel
theorem d_La_law_253 : decode code 253 = .ok (.aload_n 2, 1) := by decide +kernel
theorem d_La_law_254 : decode code 254 = .ok (.aload_n 0, 1) := by decide +kernel
theorem d_La_law_255 : decode code 255 = .ok (.iload 4, 2) := by decide +kernel
theorem d_La_law_257 : decode code 257 = .ok (.iconst 1, 1) := by decide +kernel
theorem d_La_law_258 : decode code 258 = .ok (.iadd, 1) := by decide +kernel
theorem d_La_law_259 : decode code 259 = .ok (.iaload, 1) := by decide +kernel
theorem d_La_law_260 : decode code 260 = .ok (.aload_n 0, 1) := by decide +kernel
theorem d_La_law_261 : decode code 261 = .ok (.iload 4, 2) := by decide +kernel
theorem d_La_law_263 : decode code 263 = .ok (.iconst 2, 1) := by decide +kernel
theorem d_La_law_264 : decode code 264 = .ok (.iadd, 1) := by decide +kernel
theorem d_La_law_265 : decode code 265 = .ok (.iaload, 1) := by decide +kernel
theorem d_La_law_266 : decode code 266 = .ok (.aload_n 0, 1) := by decide +kernel
theorem d_La_law_267 : decode code 267 = .ok (.iload 4, 2) := by decide +kernel
theorem d_La_law_269 : decode code 269 = .ok (.iconst 3, 1) := by decide +kernel
theorem d_La_law_270 : decode code 270 = .ok (.iadd, 1) := by decide +kernel
theorem d_La_law_271 : decode code 271 = .ok (.iaload, 1) := by decide +kernel
theorem d_La_law_272 : decode code 272 = .ok (.invokevirtual 79, 3) := by decide +kernel
theorem d_La_law_275 : decode code 275 = .ok (.istore 6, 2) := by decide +kernel
theorem d_La_law_277 : decode code 277 = .ok (.aload_n 2, 1) := by decide +kernel
theorem d_La_law_278 : decode code 278 = .ok (.invokevirtual 68, 3) := by decide +kernel
theorem d_La_law_281 : decode code 281 = .ok (.iload 5, 2) := by decide +kernel
theorem d_La_law_283 : decode code 283 = .ok (.if_icmp .eq 5, 3) := by decide +kernel
theorem d_La_law_286 : decode code 286 = .ok (.iconst 0, 1) := by decide +kernel
theorem d_La_law_287 : decode code 287 = .ok (.ireturn, 1) := by decide +kernel
theorem d_La_law_288 : decode code 288 = .ok (.iload 5, 2) := by decide +kernel
theorem d_La_law_290 : decode code 290 = .ok (.ifCond .ne 15, 3) := by decide +kernel
theorem d_La_law_293 : decode code 293 = .ok (.aload_n 3, 1) := by decide +kernel
theorem d_La_law_294 : decode code 294 = .ok (.iconst 0, 1) := by decide +kernel
theorem d_La_law_295 : decode code 295 = .ok (.laload, 1) := by decide +kernel
theorem d_La_law_296 : decode code 296 = .ok (.iload 6, 2) := by decide +kernel
theorem d_La_law_298 : decode code 298 = .ok (.i2l, 1) := by decide +kernel
theorem d_La_law_299 : decode code 299 = .ok (.lcmp, 1) := by decide +kernel
theorem d_La_law_300 : decode code 300 = .ok (.ifCond .eq 5, 3) := by decide +kernel
theorem d_La_law_303 : decode code 303 = .ok (.iconst 0, 1) := by decide +kernel
theorem d_La_law_304 : decode code 304 = .ok (.ireturn, 1) := by decide +kernel
theorem d_La_law_305 : decode code 305 = .ok (.goto 762, 3) := by decide +kernel
theorem d_La_law_308 : decode code 308 = .ok (.aload_n 1, 1) := by decide +kernel
theorem d_La_law_309 : decode code 309 = .ok (.aload_n 0, 1) := by decide +kernel
theorem d_La_law_310 : decode code 310 = .ok (.iload 4, 2) := by decide +kernel
theorem d_La_law_312 : decode code 312 = .ok (.iconst 1, 1) := by decide +kernel
theorem d_La_law_313 : decode code 313 = .ok (.iadd, 1) := by decide +kernel
theorem d_La_law_314 : decode code 314 = .ok (.iaload, 1) := by decide +kernel
theorem d_La_law_315 : decode code 315 = .ok (.aload_n 0, 1) := by decide +kernel
theorem d_La_law_316 : decode code 316 = .ok (.iload 4, 2) := by decide +kernel
theorem d_La_law_318 : decode code 318 = .ok (.iconst 2, 1) := by decide +kernel
theorem d_La_law_319 : decode code 319 = .ok (.iadd, 1) := by decide +kernel
theorem d_La_law_320 : decode code 320 = .ok (.iaload, 1) := by decide +kernel
theorem d_La_law_321 : decode code 321 = .ok (.aload_n 3, 1) := by decide +kernel
theorem d_La_law_322 : decode code 322 = .ok (.invokestatic 80, 3) := by decide +kernel
theorem d_La_law_325 : decode code 325 = .ok (.istore 5, 2) := by decide +kernel
theorem d_La_law_327 : decode code 327 = .ok (.aload_n 2, 1) := by decide +kernel
theorem d_La_law_328 : decode code 328 = .ok (.aload_n 0, 1) := by decide +kernel
theorem d_La_law_329 : decode code 329 = .ok (.iload 4, 2) := by decide +kernel
theorem d_La_law_331 : decode code 331 = .ok (.iconst 1, 1) := by decide +kernel
theorem d_La_law_332 : decode code 332 = .ok (.iadd, 1) := by decide +kernel
theorem d_La_law_333 : decode code 333 = .ok (.iaload, 1) := by decide +kernel
theorem d_La_law_334 : decode code 334 = .ok (.aload_n 0, 1) := by decide +kernel
theorem d_La_law_335 : decode code 335 = .ok (.iload 4, 2) := by decide +kernel
theorem d_La_law_337 : decode code 337 = .ok (.iconst 2, 1) := by decide +kernel
theorem d_La_law_338 : decode code 338 = .ok (.iadd, 1) := by decide +kernel
theorem d_La_law_339 : decode code 339 = .ok (.iaload, 1) := by decide +kernel
theorem d_La_law_340 : decode code 340 = .ok (.invokevirtual 83, 3) := by decide +kernel
theorem d_La_law_343 : decode code 343 = .ok (.istore 6, 2) := by decide +kernel
theorem d_La_law_345 : decode code 345 = .ok (.aload_n 2, 1) := by decide +kernel
theorem d_La_law_346 : decode code 346 = .ok (.invokevirtual 68, 3) := by decide +kernel
theorem d_La_law_349 : decode code 349 = .ok (.iload 5, 2) := by decide +kernel
theorem d_La_law_351 : decode code 351 = .ok (.if_icmp .eq 5, 3) := by decide +kernel
theorem d_La_law_354 : decode code 354 = .ok (.iconst 0, 1) := by decide +kernel
theorem d_La_law_355 : decode code 355 = .ok (.ireturn, 1) := by decide +kernel
theorem d_La_law_356 : decode code 356 = .ok (.iload 5, 2) := by decide +kernel
theorem d_La_law_358 : decode code 358 = .ok (.ifCond .ne 15, 3) := by decide +kernel
theorem d_La_law_361 : decode code 361 = .ok (.aload_n 3, 1) := by decide +kernel
theorem d_La_law_362 : decode code 362 = .ok (.iconst 0, 1) := by decide +kernel
theorem d_La_law_363 : decode code 363 = .ok (.laload, 1) := by decide +kernel
theorem d_La_law_364 : decode code 364 = .ok (.iload 6, 2) := by decide +kernel
theorem d_La_law_366 : decode code 366 = .ok (.i2l, 1) := by decide +kernel
theorem d_La_law_367 : decode code 367 = .ok (.lcmp, 1) := by decide +kernel
theorem d_La_law_368 : decode code 368 = .ok (.ifCond .eq 5, 3) := by decide +kernel
theorem d_La_law_371 : decode code 371 = .ok (.iconst 0, 1) := by decide +kernel
theorem d_La_law_372 : decode code 372 = .ok (.ireturn, 1) := by decide +kernel
theorem d_La_law_373 : decode code 373 = .ok (.goto 694, 3) := by decide +kernel
theorem d_La_law_376 : decode code 376 = .ok (.aload_n 1, 1) := by decide +kernel
theorem d_La_law_377 : decode code 377 = .ok (.aload_n 0, 1) := by decide +kernel
theorem d_La_law_378 : decode code 378 = .ok (.iload 4, 2) := by decide +kernel
theorem d_La_law_380 : decode code 380 = .ok (.iconst 1, 1) := by decide +kernel
theorem d_La_law_381 : decode code 381 = .ok (.iadd, 1) := by decide +kernel
theorem d_La_law_382 : decode code 382 = .ok (.iaload, 1) := by decide +kernel
theorem d_La_law_383 : decode code 383 = .ok (.aload_n 0, 1) := by decide +kernel
theorem d_La_law_384 : decode code 384 = .ok (.iload 4, 2) := by decide +kernel
theorem d_La_law_386 : decode code 386 = .ok (.iconst 2, 1) := by decide +kernel
theorem d_La_law_387 : decode code 387 = .ok (.iadd, 1) := by decide +kernel
theorem d_La_law_388 : decode code 388 = .ok (.iaload, 1) := by decide +kernel
theorem d_La_law_389 : decode code 389 = .ok (.aload_n 3, 1) := by decide +kernel
theorem d_La_law_390 : decode code 390 = .ok (.invokestatic 84, 3) := by decide +kernel
theorem d_La_law_393 : decode code 393 = .ok (.istore 5, 2) := by decide +kernel
theorem d_La_law_395 : decode code 395 = .ok (.aload_n 2, 1) := by decide +kernel
theorem d_La_law_396 : decode code 396 = .ok (.aload_n 0, 1) := by decide +kernel
theorem d_La_law_397 : decode code 397 = .ok (.iload 4, 2) := by decide +kernel
theorem d_La_law_399 : decode code 399 = .ok (.iconst 1, 1) := by decide +kernel
theorem d_La_law_400 : decode code 400 = .ok (.iadd, 1) := by decide +kernel
theorem d_La_law_401 : decode code 401 = .ok (.iaload, 1) := by decide +kernel
theorem d_La_law_402 : decode code 402 = .ok (.aload_n 0, 1) := by decide +kernel
theorem d_La_law_403 : decode code 403 = .ok (.iload 4, 2) := by decide +kernel
theorem d_La_law_405 : decode code 405 = .ok (.iconst 2, 1) := by decide +kernel
theorem d_La_law_406 : decode code 406 = .ok (.iadd, 1) := by decide +kernel
theorem d_La_law_407 : decode code 407 = .ok (.iaload, 1) := by decide +kernel
theorem d_La_law_408 : decode code 408 = .ok (.invokevirtual 86, 3) := by decide +kernel
theorem d_La_law_411 : decode code 411 = .ok (.istore 6, 2) := by decide +kernel
theorem d_La_law_413 : decode code 413 = .ok (.aload_n 2, 1) := by decide +kernel
theorem d_La_law_414 : decode code 414 = .ok (.invokevirtual 68, 3) := by decide +kernel
theorem d_La_law_417 : decode code 417 = .ok (.iload 5, 2) := by decide +kernel
theorem d_La_law_419 : decode code 419 = .ok (.if_icmp .eq 5, 3) := by decide +kernel
theorem d_La_law_422 : decode code 422 = .ok (.iconst 0, 1) := by decide +kernel
theorem d_La_law_423 : decode code 423 = .ok (.ireturn, 1) := by decide +kernel
theorem d_La_law_424 : decode code 424 = .ok (.iload 5, 2) := by decide +kernel
theorem d_La_law_426 : decode code 426 = .ok (.ifCond .ne 15, 3) := by decide +kernel
theorem d_La_law_429 : decode code 429 = .ok (.aload_n 3, 1) := by decide +kernel
theorem d_La_law_430 : decode code 430 = .ok (.iconst 0, 1) := by decide +kernel
theorem d_La_law_431 : decode code 431 = .ok (.laload, 1) := by decide +kernel
theorem d_La_law_432 : decode code 432 = .ok (.iload 6, 2) := by decide +kernel
theorem d_La_law_434 : decode code 434 = .ok (.i2l, 1) := by decide +kernel
theorem d_La_law_435 : decode code 435 = .ok (.lcmp, 1) := by decide +kernel
theorem d_La_law_436 : decode code 436 = .ok (.ifCond .eq 5, 3) := by decide +kernel
theorem d_La_law_439 : decode code 439 = .ok (.iconst 0, 1) := by decide +kernel
theorem d_La_law_440 : decode code 440 = .ok (.ireturn, 1) := by decide +kernel
theorem d_La_law_441 : decode code 441 = .ok (.goto 626, 3) := by decide +kernel
theorem d_La_law_444 : decode code 444 = .ok (.aload_n 1, 1) := by decide +kernel
theorem d_La_law_445 : decode code 445 = .ok (.aload_n 0, 1) := by decide +kernel
theorem d_La_law_446 : decode code 446 = .ok (.iload 4, 2) := by decide +kernel
theorem d_La_law_448 : decode code 448 = .ok (.iconst 1, 1) := by decide +kernel
theorem d_La_law_449 : decode code 449 = .ok (.iadd, 1) := by decide +kernel
theorem d_La_law_450 : decode code 450 = .ok (.iaload, 1) := by decide +kernel
theorem d_La_law_451 : decode code 451 = .ok (.ifCond .eq 7, 3) := by decide +kernel
theorem d_La_law_454 : decode code 454 = .ok (.iconst 1, 1) := by decide +kernel
theorem d_La_law_455 : decode code 455 = .ok (.goto 4, 3) := by decide +kernel
theorem d_La_law_458 : decode code 458 = .ok (.iconst 0, 1) := by decide +kernel
theorem d_La_law_459 : decode code 459 = .ok (.invokevirtual 87, 3) := by decide +kernel
theorem d_La_law_462 : decode code 462 = .ok (.aload_n 2, 1) := by decide +kernel
theorem d_La_law_463 : decode code 463 = .ok (.aload_n 0, 1) := by decide +kernel
theorem d_La_law_464 : decode code 464 = .ok (.iload 4, 2) := by decide +kernel
theorem d_La_law_466 : decode code 466 = .ok (.iconst 1, 1) := by decide +kernel
theorem d_La_law_467 : decode code 467 = .ok (.iadd, 1) := by decide +kernel
theorem d_La_law_468 : decode code 468 = .ok (.iaload, 1) := by decide +kernel
theorem d_La_law_469 : decode code 469 = .ok (.ifCond .eq 7, 3) := by decide +kernel
theorem d_La_law_472 : decode code 472 = .ok (.iconst 1, 1) := by decide +kernel
theorem d_La_law_473 : decode code 473 = .ok (.goto 4, 3) := by decide +kernel
theorem d_La_law_476 : decode code 476 = .ok (.iconst 0, 1) := by decide +kernel
theorem d_La_law_477 : decode code 477 = .ok (.invokevirtual 91, 3) := by decide +kernel
theorem d_La_law_480 : decode code 480 = .ok (.goto 587, 3) := by decide +kernel
theorem d_La_law_483 : decode code 483 = .ok (.aload_n 1, 1) := by decide +kernel
theorem d_La_law_484 : decode code 484 = .ok (.invokevirtual 92, 3) := by decide +kernel
theorem d_La_law_487 : decode code 487 = .ok (.aload_n 2, 1) := by decide +kernel
theorem d_La_law_488 : decode code 488 = .ok (.invokevirtual 95, 3) := by decide +kernel
theorem d_La_law_491 : decode code 491 = .ok (.if_icmp .eq 576, 3) := by decide +kernel
theorem d_La_law_494 : decode code 494 = .ok (.iconst 0, 1) := by decide +kernel
theorem d_La_law_495 : decode code 495 = .ok (.ireturn, 1) := by decide +kernel
theorem d_La_law_496 : decode code 496 = .ok (.aload_n 1, 1) := by decide +kernel
theorem d_La_law_497 : decode code 497 = .ok (.aload_n 0, 1) := by decide +kernel
theorem d_La_law_498 : decode code 498 = .ok (.iload 4, 2) := by decide +kernel
theorem d_La_law_500 : decode code 500 = .ok (.iconst 1, 1) := by decide +kernel
theorem d_La_law_501 : decode code 501 = .ok (.iadd, 1) := by decide +kernel
theorem d_La_law_502 : decode code 502 = .ok (.iaload, 1) := by decide +kernel
theorem d_La_law_503 : decode code 503 = .ok (.aload_n 3, 1) := by decide +kernel
theorem d_La_law_504 : decode code 504 = .ok (.invokestatic 96, 3) := by decide +kernel
theorem d_La_law_507 : decode code 507 = .ok (.istore 5, 2) := by decide +kernel
theorem d_La_law_509 : decode code 509 = .ok (.aload_n 2, 1) := by decide +kernel
theorem d_La_law_510 : decode code 510 = .ok (.aload_n 0, 1) := by decide +kernel
theorem d_La_law_511 : decode code 511 = .ok (.iload 4, 2) := by decide +kernel
theorem d_La_law_513 : decode code 513 = .ok (.iconst 1, 1) := by decide +kernel
theorem d_La_law_514 : decode code 514 = .ok (.iadd, 1) := by decide +kernel
theorem d_La_law_515 : decode code 515 = .ok (.iaload, 1) := by decide +kernel
theorem d_La_law_516 : decode code 516 = .ok (.invokevirtual 98, 3) := by decide +kernel
theorem d_La_law_519 : decode code 519 = .ok (.istore 6, 2) := by decide +kernel
theorem d_La_law_521 : decode code 521 = .ok (.aload_n 2, 1) := by decide +kernel
theorem d_La_law_522 : decode code 522 = .ok (.invokevirtual 68, 3) := by decide +kernel
theorem d_La_law_525 : decode code 525 = .ok (.iload 5, 2) := by decide +kernel
theorem d_La_law_527 : decode code 527 = .ok (.if_icmp .eq 5, 3) := by decide +kernel
theorem d_La_law_530 : decode code 530 = .ok (.iconst 0, 1) := by decide +kernel
theorem d_La_law_531 : decode code 531 = .ok (.ireturn, 1) := by decide +kernel
theorem d_La_law_532 : decode code 532 = .ok (.iload 5, 2) := by decide +kernel
theorem d_La_law_534 : decode code 534 = .ok (.ifCond .ne 15, 3) := by decide +kernel
theorem d_La_law_537 : decode code 537 = .ok (.aload_n 3, 1) := by decide +kernel
theorem d_La_law_538 : decode code 538 = .ok (.iconst 0, 1) := by decide +kernel
theorem d_La_law_539 : decode code 539 = .ok (.laload, 1) := by decide +kernel
theorem d_La_law_540 : decode code 540 = .ok (.iload 6, 2) := by decide +kernel
theorem d_La_law_542 : decode code 542 = .ok (.i2l, 1) := by decide +kernel
theorem d_La_law_543 : decode code 543 = .ok (.lcmp, 1) := by decide +kernel
theorem d_La_law_544 : decode code 544 = .ok (.ifCond .eq 5, 3) := by decide +kernel
theorem d_La_law_547 : decode code 547 = .ok (.iconst 0, 1) := by decide +kernel
theorem d_La_law_548 : decode code 548 = .ok (.ireturn, 1) := by decide +kernel
theorem d_La_law_549 : decode code 549 = .ok (.goto 518, 3) := by decide +kernel
theorem d_La_law_552 : decode code 552 = .ok (.aload_n 1, 1) := by decide +kernel
theorem d_La_law_553 : decode code 553 = .ok (.aload_n 0, 1) := by decide +kernel
theorem d_La_law_554 : decode code 554 = .ok (.iload 4, 2) := by decide +kernel
theorem d_La_law_556 : decode code 556 = .ok (.iconst 1, 1) := by decide +kernel
theorem d_La_law_557 : decode code 557 = .ok (.iadd, 1) := by decide +kernel
theorem d_La_law_558 : decode code 558 = .ok (.iaload, 1) := by decide +kernel
theorem d_La_law_559 : decode code 559 = .ok (.aload_n 0, 1) := by decide +kernel
theorem d_La_law_560 : decode code 560 = .ok (.iload 4, 2) := by decide +kernel
theorem d_La_law_562 : decode code 562 = .ok (.iconst 2, 1) := by decide +kernel
theorem d_La_law_563 : decode code 563 = .ok (.iadd, 1) := by decide +kernel
theorem d_La_law_564 : decode code 564 = .ok (.iaload, 1) := by decide +kernel
theorem d_La_law_565 : decode code 565 = .ok (.aload_n 0, 1) := by decide +kernel
theorem d_La_law_566 : decode code 566 = .ok (.iload 4, 2) := by decide +kernel
theorem d_La_law_568 : decode code 568 = .ok (.iconst 3, 1) := by decide +kernel
theorem d_La_law_569 : decode code 569 = .ok (.iadd, 1) := by decide +kernel
theorem d_La_law_570 : decode code 570 = .ok (.iaload, 1) := by decide +kernel
theorem d_La_law_571 : decode code 571 = .ok (.aload_n 3, 1) := by decide +kernel
theorem d_La_law_572 : decode code 572 = .ok (.invokestatic 99, 3) := by decide +kernel
theorem d_La_law_575 : decode code 575 = .ok (.istore 5, 2) := by decide +kernel
theorem d_La_law_577 : decode code 577 = .ok (.aload_n 2, 1) := by decide +kernel
theorem d_La_law_578 : decode code 578 = .ok (.aload_n 0, 1) := by decide +kernel
theorem d_La_law_579 : decode code 579 = .ok (.iload 4, 2) := by decide +kernel
theorem d_La_law_581 : decode code 581 = .ok (.iconst 1, 1) := by decide +kernel
theorem d_La_law_582 : decode code 582 = .ok (.iadd, 1) := by decide +kernel
theorem d_La_law_583 : decode code 583 = .ok (.iaload, 1) := by decide +kernel
theorem d_La_law_584 : decode code 584 = .ok (.aload_n 0, 1) := by decide +kernel
theorem d_La_law_585 : decode code 585 = .ok (.iload 4, 2) := by decide +kernel
theorem d_La_law_587 : decode code 587 = .ok (.iconst 2, 1) := by decide +kernel
theorem d_La_law_588 : decode code 588 = .ok (.iadd, 1) := by decide +kernel
theorem d_La_law_589 : decode code 589 = .ok (.iaload, 1) := by decide +kernel
theorem d_La_law_590 : decode code 590 = .ok (.aload_n 0, 1) := by decide +kernel
theorem d_La_law_591 : decode code 591 = .ok (.iload 4, 2) := by decide +kernel
theorem d_La_law_593 : decode code 593 = .ok (.iconst 3, 1) := by decide +kernel
theorem d_La_law_594 : decode code 594 = .ok (.iadd, 1) := by decide +kernel
theorem d_La_law_595 : decode code 595 = .ok (.iaload, 1) := by decide +kernel
theorem d_La_law_596 : decode code 596 = .ok (.invokevirtual 101, 3) := by decide +kernel
theorem d_La_law_599 : decode code 599 = .ok (.istore 6, 2) := by decide +kernel
theorem d_La_law_601 : decode code 601 = .ok (.aload_n 2, 1) := by decide +kernel
theorem d_La_law_602 : decode code 602 = .ok (.invokevirtual 68, 3) := by decide +kernel
theorem d_La_law_605 : decode code 605 = .ok (.iload 5, 2) := by decide +kernel
theorem d_La_law_607 : decode code 607 = .ok (.if_icmp .eq 5, 3) := by decide +kernel
theorem d_La_law_610 : decode code 610 = .ok (.iconst 0, 1) := by decide +kernel
theorem d_La_law_611 : decode code 611 = .ok (.ireturn, 1) := by decide +kernel
theorem d_La_law_612 : decode code 612 = .ok (.iload 5, 2) := by decide +kernel
theorem d_La_law_614 : decode code 614 = .ok (.ifCond .ne 15, 3) := by decide +kernel
theorem d_La_law_617 : decode code 617 = .ok (.aload_n 3, 1) := by decide +kernel
theorem d_La_law_618 : decode code 618 = .ok (.iconst 0, 1) := by decide +kernel
theorem d_La_law_619 : decode code 619 = .ok (.laload, 1) := by decide +kernel
theorem d_La_law_620 : decode code 620 = .ok (.iload 6, 2) := by decide +kernel
theorem d_La_law_622 : decode code 622 = .ok (.i2l, 1) := by decide +kernel
theorem d_La_law_623 : decode code 623 = .ok (.lcmp, 1) := by decide +kernel
theorem d_La_law_624 : decode code 624 = .ok (.ifCond .eq 5, 3) := by decide +kernel
theorem d_La_law_627 : decode code 627 = .ok (.iconst 0, 1) := by decide +kernel
theorem d_La_law_628 : decode code 628 = .ok (.ireturn, 1) := by decide +kernel
theorem d_La_law_629 : decode code 629 = .ok (.goto 438, 3) := by decide +kernel
theorem d_La_law_632 : decode code 632 = .ok (.aload_n 1, 1) := by decide +kernel
theorem d_La_law_633 : decode code 633 = .ok (.aload_n 0, 1) := by decide +kernel
theorem d_La_law_634 : decode code 634 = .ok (.iload 4, 2) := by decide +kernel
theorem d_La_law_636 : decode code 636 = .ok (.iconst 1, 1) := by decide +kernel
theorem d_La_law_637 : decode code 637 = .ok (.iadd, 1) := by decide +kernel
theorem d_La_law_638 : decode code 638 = .ok (.iaload, 1) := by decide +kernel
theorem d_La_law_639 : decode code 639 = .ok (.aload_n 0, 1) := by decide +kernel
theorem d_La_law_640 : decode code 640 = .ok (.iload 4, 2) := by decide +kernel
theorem d_La_law_642 : decode code 642 = .ok (.iconst 2, 1) := by decide +kernel
theorem d_La_law_643 : decode code 643 = .ok (.iadd, 1) := by decide +kernel
theorem d_La_law_644 : decode code 644 = .ok (.iaload, 1) := by decide +kernel
theorem d_La_law_645 : decode code 645 = .ok (.aload_n 3, 1) := by decide +kernel
theorem d_La_law_646 : decode code 646 = .ok (.invokestatic 102, 3) := by decide +kernel
theorem d_La_law_649 : decode code 649 = .ok (.istore 5, 2) := by decide +kernel
theorem d_La_law_651 : decode code 651 = .ok (.aload_n 2, 1) := by decide +kernel
theorem d_La_law_652 : decode code 652 = .ok (.aload_n 0, 1) := by decide +kernel
theorem d_La_law_653 : decode code 653 = .ok (.iload 4, 2) := by decide +kernel
theorem d_La_law_655 : decode code 655 = .ok (.iconst 1, 1) := by decide +kernel
theorem d_La_law_656 : decode code 656 = .ok (.iadd, 1) := by decide +kernel
theorem d_La_law_657 : decode code 657 = .ok (.iaload, 1) := by decide +kernel
theorem d_La_law_658 : decode code 658 = .ok (.aload_n 0, 1) := by decide +kernel
theorem d_La_law_659 : decode code 659 = .ok (.iload 4, 2) := by decide +kernel
theorem d_La_law_661 : decode code 661 = .ok (.iconst 2, 1) := by decide +kernel
theorem d_La_law_662 : decode code 662 = .ok (.iadd, 1) := by decide +kernel
theorem d_La_law_663 : decode code 663 = .ok (.iaload, 1) := by decide +kernel
theorem d_La_law_664 : decode code 664 = .ok (.invokevirtual 104, 3) := by decide +kernel
theorem d_La_law_667 : decode code 667 = .ok (.istore 6, 2) := by decide +kernel
theorem d_La_law_669 : decode code 669 = .ok (.aload_n 2, 1) := by decide +kernel
theorem d_La_law_670 : decode code 670 = .ok (.invokevirtual 68, 3) := by decide +kernel
theorem d_La_law_673 : decode code 673 = .ok (.iload 5, 2) := by decide +kernel
theorem d_La_law_675 : decode code 675 = .ok (.if_icmp .eq 5, 3) := by decide +kernel
theorem d_La_law_678 : decode code 678 = .ok (.iconst 0, 1) := by decide +kernel
theorem d_La_law_679 : decode code 679 = .ok (.ireturn, 1) := by decide +kernel
theorem d_La_law_680 : decode code 680 = .ok (.iload 5, 2) := by decide +kernel
theorem d_La_law_682 : decode code 682 = .ok (.ifCond .ne 15, 3) := by decide +kernel
theorem d_La_law_685 : decode code 685 = .ok (.aload_n 3, 1) := by decide +kernel
theorem d_La_law_686 : decode code 686 = .ok (.iconst 0, 1) := by decide +kernel
theorem d_La_law_687 : decode code 687 = .ok (.laload, 1) := by decide +kernel
theorem d_La_law_688 : decode code 688 = .ok (.iload 6, 2) := by decide +kernel
theorem d_La_law_690 : decode code 690 = .ok (.i2l, 1) := by decide +kernel
theorem d_La_law_691 : decode code 691 = .ok (.lcmp, 1) := by decide +kernel
theorem d_La_law_692 : decode code 692 = .ok (.ifCond .eq 5, 3) := by decide +kernel
theorem d_La_law_695 : decode code 695 = .ok (.iconst 0, 1) := by decide +kernel
theorem d_La_law_696 : decode code 696 = .ok (.ireturn, 1) := by decide +kernel
theorem d_La_law_697 : decode code 697 = .ok (.goto 370, 3) := by decide +kernel
theorem d_La_law_700 : decode code 700 = .ok (.aload_n 1, 1) := by decide +kernel
theorem d_La_law_701 : decode code 701 = .ok (.aload_n 0, 1) := by decide +kernel
theorem d_La_law_702 : decode code 702 = .ok (.iload 4, 2) := by decide +kernel
theorem d_La_law_704 : decode code 704 = .ok (.iconst 1, 1) := by decide +kernel
theorem d_La_law_705 : decode code 705 = .ok (.iadd, 1) := by decide +kernel
theorem d_La_law_706 : decode code 706 = .ok (.iaload, 1) := by decide +kernel
theorem d_La_law_707 : decode code 707 = .ok (.aload_n 0, 1) := by decide +kernel
theorem d_La_law_708 : decode code 708 = .ok (.iload 4, 2) := by decide +kernel
theorem d_La_law_710 : decode code 710 = .ok (.iconst 2, 1) := by decide +kernel
theorem d_La_law_711 : decode code 711 = .ok (.iadd, 1) := by decide +kernel
theorem d_La_law_712 : decode code 712 = .ok (.iaload, 1) := by decide +kernel
theorem d_La_law_713 : decode code 713 = .ok (.aload_n 0, 1) := by decide +kernel
theorem d_La_law_714 : decode code 714 = .ok (.iload 4, 2) := by decide +kernel
theorem d_La_law_716 : decode code 716 = .ok (.iconst 3, 1) := by decide +kernel
theorem d_La_law_717 : decode code 717 = .ok (.iadd, 1) := by decide +kernel
theorem d_La_law_718 : decode code 718 = .ok (.iaload, 1) := by decide +kernel
theorem d_La_law_719 : decode code 719 = .ok (.aload_n 3, 1) := by decide +kernel
theorem d_La_law_720 : decode code 720 = .ok (.invokestatic 105, 3) := by decide +kernel
theorem d_La_law_723 : decode code 723 = .ok (.istore 5, 2) := by decide +kernel
theorem d_La_law_725 : decode code 725 = .ok (.aload_n 2, 1) := by decide +kernel
theorem d_La_law_726 : decode code 726 = .ok (.aload_n 0, 1) := by decide +kernel
theorem d_La_law_727 : decode code 727 = .ok (.iload 4, 2) := by decide +kernel
theorem d_La_law_729 : decode code 729 = .ok (.iconst 1, 1) := by decide +kernel
theorem d_La_law_730 : decode code 730 = .ok (.iadd, 1) := by decide +kernel
theorem d_La_law_731 : decode code 731 = .ok (.iaload, 1) := by decide +kernel
theorem d_La_law_732 : decode code 732 = .ok (.aload_n 0, 1) := by decide +kernel
theorem d_La_law_733 : decode code 733 = .ok (.iload 4, 2) := by decide +kernel
theorem d_La_law_735 : decode code 735 = .ok (.iconst 2, 1) := by decide +kernel
theorem d_La_law_736 : decode code 736 = .ok (.iadd, 1) := by decide +kernel
theorem d_La_law_737 : decode code 737 = .ok (.iaload, 1) := by decide +kernel
theorem d_La_law_738 : decode code 738 = .ok (.aload_n 0, 1) := by decide +kernel
theorem d_La_law_739 : decode code 739 = .ok (.iload 4, 2) := by decide +kernel
theorem d_La_law_741 : decode code 741 = .ok (.iconst 3, 1) := by decide +kernel
theorem d_La_law_742 : decode code 742 = .ok (.iadd, 1) := by decide +kernel
theorem d_La_law_743 : decode code 743 = .ok (.iaload, 1) := by decide +kernel
theorem d_La_law_744 : decode code 744 = .ok (.invokevirtual 107, 3) := by decide +kernel
theorem d_La_law_747 : decode code 747 = .ok (.istore 6, 2) := by decide +kernel
theorem d_La_law_749 : decode code 749 = .ok (.aload_n 2, 1) := by decide +kernel
theorem d_La_law_750 : decode code 750 = .ok (.invokevirtual 68, 3) := by decide +kernel
theorem d_La_law_753 : decode code 753 = .ok (.iload 5, 2) := by decide +kernel
theorem d_La_law_755 : decode code 755 = .ok (.if_icmp .eq 5, 3) := by decide +kernel
theorem d_La_law_758 : decode code 758 = .ok (.iconst 0, 1) := by decide +kernel
theorem d_La_law_759 : decode code 759 = .ok (.ireturn, 1) := by decide +kernel
theorem d_La_law_760 : decode code 760 = .ok (.iload 5, 2) := by decide +kernel
theorem d_La_law_762 : decode code 762 = .ok (.ifCond .ne 15, 3) := by decide +kernel
theorem d_La_law_765 : decode code 765 = .ok (.aload_n 3, 1) := by decide +kernel
theorem d_La_law_766 : decode code 766 = .ok (.iconst 0, 1) := by decide +kernel
theorem d_La_law_767 : decode code 767 = .ok (.laload, 1) := by decide +kernel
theorem d_La_law_768 : decode code 768 = .ok (.iload 6, 2) := by decide +kernel
theorem d_La_law_770 : decode code 770 = .ok (.i2l, 1) := by decide +kernel
theorem d_La_law_771 : decode code 771 = .ok (.lcmp, 1) := by decide +kernel
theorem d_La_law_772 : decode code 772 = .ok (.ifCond .eq 5, 3) := by decide +kernel
theorem d_La_law_775 : decode code 775 = .ok (.iconst 0, 1) := by decide +kernel
theorem d_La_law_776 : decode code 776 = .ok (.ireturn, 1) := by decide +kernel
theorem d_La_law_777 : decode code 777 = .ok (.goto 290, 3) := by decide +kernel
theorem d_La_law_780 : decode code 780 = .ok (.aload_n 1, 1) := by decide +kernel
theorem d_La_law_781 : decode code 781 = .ok (.aload_n 0, 1) := by decide +kernel
theorem d_La_law_782 : decode code 782 = .ok (.iload 4, 2) := by decide +kernel
theorem d_La_law_784 : decode code 784 = .ok (.iconst 1, 1) := by decide +kernel
theorem d_La_law_785 : decode code 785 = .ok (.iadd, 1) := by decide +kernel
theorem d_La_law_786 : decode code 786 = .ok (.iaload, 1) := by decide +kernel
theorem d_La_law_787 : decode code 787 = .ok (.aload_n 0, 1) := by decide +kernel
theorem d_La_law_788 : decode code 788 = .ok (.iload 4, 2) := by decide +kernel
theorem d_La_law_790 : decode code 790 = .ok (.iconst 2, 1) := by decide +kernel
theorem d_La_law_791 : decode code 791 = .ok (.iadd, 1) := by decide +kernel
theorem d_La_law_792 : decode code 792 = .ok (.iaload, 1) := by decide +kernel
theorem d_La_law_793 : decode code 793 = .ok (.aload_n 3, 1) := by decide +kernel
theorem d_La_law_794 : decode code 794 = .ok (.invokestatic 108, 3) := by decide +kernel
theorem d_La_law_797 : decode code 797 = .ok (.istore 5, 2) := by decide +kernel
theorem d_La_law_799 : decode code 799 = .ok (.aload_n 2, 1) := by decide +kernel
theorem d_La_law_800 : decode code 800 = .ok (.aload_n 0, 1) := by decide +kernel
theorem d_La_law_801 : decode code 801 = .ok (.iload 4, 2) := by decide +kernel
theorem d_La_law_803 : decode code 803 = .ok (.iconst 1, 1) := by decide +kernel
theorem d_La_law_804 : decode code 804 = .ok (.iadd, 1) := by decide +kernel
theorem d_La_law_805 : decode code 805 = .ok (.iaload, 1) := by decide +kernel
theorem d_La_law_806 : decode code 806 = .ok (.aload_n 0, 1) := by decide +kernel
theorem d_La_law_807 : decode code 807 = .ok (.iload 4, 2) := by decide +kernel
theorem d_La_law_809 : decode code 809 = .ok (.iconst 2, 1) := by decide +kernel
theorem d_La_law_810 : decode code 810 = .ok (.iadd, 1) := by decide +kernel
theorem d_La_law_811 : decode code 811 = .ok (.iaload, 1) := by decide +kernel
theorem d_La_law_812 : decode code 812 = .ok (.invokevirtual 110, 3) := by decide +kernel
theorem d_La_law_815 : decode code 815 = .ok (.istore 6, 2) := by decide +kernel
theorem d_La_law_817 : decode code 817 = .ok (.aload_n 2, 1) := by decide +kernel
theorem d_La_law_818 : decode code 818 = .ok (.invokevirtual 68, 3) := by decide +kernel
theorem d_La_law_821 : decode code 821 = .ok (.iload 5, 2) := by decide +kernel
theorem d_La_law_823 : decode code 823 = .ok (.if_icmp .eq 5, 3) := by decide +kernel
theorem d_La_law_826 : decode code 826 = .ok (.iconst 0, 1) := by decide +kernel
theorem d_La_law_827 : decode code 827 = .ok (.ireturn, 1) := by decide +kernel
theorem d_La_law_828 : decode code 828 = .ok (.iload 5, 2) := by decide +kernel
theorem d_La_law_830 : decode code 830 = .ok (.ifCond .ne 15, 3) := by decide +kernel
theorem d_La_law_833 : decode code 833 = .ok (.aload_n 3, 1) := by decide +kernel
theorem d_La_law_834 : decode code 834 = .ok (.iconst 0, 1) := by decide +kernel
theorem d_La_law_835 : decode code 835 = .ok (.laload, 1) := by decide +kernel
theorem d_La_law_836 : decode code 836 = .ok (.iload 6, 2) := by decide +kernel
theorem d_La_law_838 : decode code 838 = .ok (.i2l, 1) := by decide +kernel
theorem d_La_law_839 : decode code 839 = .ok (.lcmp, 1) := by decide +kernel
theorem d_La_law_840 : decode code 840 = .ok (.ifCond .eq 5, 3) := by decide +kernel
theorem d_La_law_843 : decode code 843 = .ok (.iconst 0, 1) := by decide +kernel
theorem d_La_law_844 : decode code 844 = .ok (.ireturn, 1) := by decide +kernel
theorem d_La_law_845 : decode code 845 = .ok (.goto 222, 3) := by decide +kernel
theorem d_La_law_848 : decode code 848 = .ok (.aload_n 1, 1) := by decide +kernel
theorem d_La_law_849 : decode code 849 = .ok (.aload_n 0, 1) := by decide +kernel
theorem d_La_law_850 : decode code 850 = .ok (.iload 4, 2) := by decide +kernel
theorem d_La_law_852 : decode code 852 = .ok (.iconst 1, 1) := by decide +kernel
theorem d_La_law_853 : decode code 853 = .ok (.iadd, 1) := by decide +kernel
theorem d_La_law_854 : decode code 854 = .ok (.iaload, 1) := by decide +kernel
theorem d_La_law_855 : decode code 855 = .ok (.aload_n 3, 1) := by decide +kernel
theorem d_La_law_856 : decode code 856 = .ok (.invokestatic 111, 3) := by decide +kernel
theorem d_La_law_859 : decode code 859 = .ok (.istore 5, 2) := by decide +kernel
theorem d_La_law_861 : decode code 861 = .ok (.aload_n 2, 1) := by decide +kernel
theorem d_La_law_862 : decode code 862 = .ok (.aload_n 0, 1) := by decide +kernel
theorem d_La_law_863 : decode code 863 = .ok (.iload 4, 2) := by decide +kernel
theorem d_La_law_865 : decode code 865 = .ok (.iconst 1, 1) := by decide +kernel
theorem d_La_law_866 : decode code 866 = .ok (.iadd, 1) := by decide +kernel
theorem d_La_law_867 : decode code 867 = .ok (.iaload, 1) := by decide +kernel
theorem d_La_law_868 : decode code 868 = .ok (.invokevirtual 113, 3) := by decide +kernel
theorem d_La_law_871 : decode code 871 = .ok (.istore 6, 2) := by decide +kernel
theorem d_La_law_873 : decode code 873 = .ok (.aload_n 2, 1) := by decide +kernel
theorem d_La_law_874 : decode code 874 = .ok (.invokevirtual 68, 3) := by decide +kernel
theorem d_La_law_877 : decode code 877 = .ok (.iload 5, 2) := by decide +kernel
theorem d_La_law_879 : decode code 879 = .ok (.if_icmp .eq 5, 3) := by decide +kernel
theorem d_La_law_882 : decode code 882 = .ok (.iconst 0, 1) := by decide +kernel
theorem d_La_law_883 : decode code 883 = .ok (.ireturn, 1) := by decide +kernel
theorem d_La_law_884 : decode code 884 = .ok (.iload 5, 2) := by decide +kernel
theorem d_La_law_886 : decode code 886 = .ok (.ifCond .ne 15, 3) := by decide +kernel
theorem d_La_law_889 : decode code 889 = .ok (.aload_n 3, 1) := by decide +kernel
theorem d_La_law_890 : decode code 890 = .ok (.iconst 0, 1) := by decide +kernel
theorem d_La_law_891 : decode code 891 = .ok (.laload, 1) := by decide +kernel
theorem d_La_law_892 : decode code 892 = .ok (.iload 6, 2) := by decide +kernel
theorem d_La_law_894 : decode code 894 = .ok (.i2l, 1) := by decide +kernel
theorem d_La_law_895 : decode code 895 = .ok (.lcmp, 1) := by decide +kernel
theorem d_La_law_896 : decode code 896 = .ok (.ifCond .eq 5, 3) := by decide +kernel
theorem d_La_law_899 : decode code 899 = .ok (.iconst 0, 1) := by decide +kernel
theorem d_La_law_900 : decode code 900 = .ok (.ireturn, 1) := by decide +kernel
theorem d_La_law_901 : decode code 901 = .ok (.goto 166, 3) := by decide +kernel
theorem d_La_law_904 : decode code 904 = .ok (.aload_n 1, 1) := by decide +kernel
theorem d_La_law_905 : decode code 905 = .ok (.aload_n 0, 1) := by decide +kernel
theorem d_La_law_906 : decode code 906 = .ok (.iload 4, 2) := by decide +kernel
theorem d_La_law_908 : decode code 908 = .ok (.iconst 1, 1) := by decide +kernel
theorem d_La_law_909 : decode code 909 = .ok (.iadd, 1) := by decide +kernel
theorem d_La_law_910 : decode code 910 = .ok (.iaload, 1) := by decide +kernel
theorem d_La_law_911 : decode code 911 = .ok (.aload_n 3, 1) := by decide +kernel
theorem d_La_law_912 : decode code 912 = .ok (.invokestatic 114, 3) := by decide +kernel
theorem d_La_law_915 : decode code 915 = .ok (.istore 5, 2) := by decide +kernel
theorem d_La_law_917 : decode code 917 = .ok (.aload_n 2, 1) := by decide +kernel
theorem d_La_law_918 : decode code 918 = .ok (.aload_n 0, 1) := by decide +kernel
theorem d_La_law_919 : decode code 919 = .ok (.iload 4, 2) := by decide +kernel
theorem d_La_law_921 : decode code 921 = .ok (.iconst 1, 1) := by decide +kernel
theorem d_La_law_922 : decode code 922 = .ok (.iadd, 1) := by decide +kernel
theorem d_La_law_923 : decode code 923 = .ok (.iaload, 1) := by decide +kernel
theorem d_La_law_924 : decode code 924 = .ok (.invokevirtual 116, 3) := by decide +kernel
theorem d_La_law_927 : decode code 927 = .ok (.istore 6, 2) := by decide +kernel
theorem d_La_law_929 : decode code 929 = .ok (.aload_n 2, 1) := by decide +kernel
theorem d_La_law_930 : decode code 930 = .ok (.invokevirtual 68, 3) := by decide +kernel
theorem d_La_law_933 : decode code 933 = .ok (.iload 5, 2) := by decide +kernel
theorem d_La_law_935 : decode code 935 = .ok (.if_icmp .eq 5, 3) := by decide +kernel
theorem d_La_law_938 : decode code 938 = .ok (.iconst 0, 1) := by decide +kernel
theorem d_La_law_939 : decode code 939 = .ok (.ireturn, 1) := by decide +kernel
theorem d_La_law_940 : decode code 940 = .ok (.iload 5, 2) := by decide +kernel
theorem d_La_law_942 : decode code 942 = .ok (.ifCond .ne 15, 3) := by decide +kernel
theorem d_La_law_945 : decode code 945 = .ok (.aload_n 3, 1) := by decide +kernel
theorem d_La_law_946 : decode code 946 = .ok (.iconst 0, 1) := by decide +kernel
theorem d_La_law_947 : decode code 947 = .ok (.laload, 1) := by decide +kernel
theorem d_La_law_948 : decode code 948 = .ok (.iload 6, 2) := by decide +kernel
theorem d_La_law_950 : decode code 950 = .ok (.i2l, 1) := by decide +kernel
theorem d_La_law_951 : decode code 951 = .ok (.lcmp, 1) := by decide +kernel
theorem d_La_law_952 : decode code 952 = .ok (.ifCond .eq 5, 3) := by decide +kernel
theorem d_La_law_955 : decode code 955 = .ok (.iconst 0, 1) := by decide +kernel
theorem d_La_law_956 : decode code 956 = .ok (.ireturn, 1) := by decide +kernel
theorem d_La_law_957 : decode code 957 = .ok (.goto 110, 3) := by decide +kernel
theorem d_La_law_960 : decode code 960 = .ok (.aload_n 1, 1) := by decide +kernel
theorem d_La_law_961 : decode code 961 = .ok (.aload_n 0, 1) := by decide +kernel
theorem d_La_law_962 : decode code 962 = .ok (.iload 4, 2) := by decide +kernel
theorem d_La_law_964 : decode code 964 = .ok (.iconst 1, 1) := by decide +kernel
theorem d_La_law_965 : decode code 965 = .ok (.iadd, 1) := by decide +kernel
theorem d_La_law_966 : decode code 966 = .ok (.iaload, 1) := by decide +kernel
theorem d_La_law_967 : decode code 967 = .ok (.aload_n 3, 1) := by decide +kernel
theorem d_La_law_968 : decode code 968 = .ok (.invokestatic 117, 3) := by decide +kernel
theorem d_La_law_971 : decode code 971 = .ok (.istore 5, 2) := by decide +kernel
theorem d_La_law_973 : decode code 973 = .ok (.aload_n 2, 1) := by decide +kernel
theorem d_La_law_974 : decode code 974 = .ok (.aload_n 0, 1) := by decide +kernel
theorem d_La_law_975 : decode code 975 = .ok (.iload 4, 2) := by decide +kernel
theorem d_La_law_977 : decode code 977 = .ok (.iconst 1, 1) := by decide +kernel
theorem d_La_law_978 : decode code 978 = .ok (.iadd, 1) := by decide +kernel
theorem d_La_law_979 : decode code 979 = .ok (.iaload, 1) := by decide +kernel
theorem d_La_law_980 : decode code 980 = .ok (.invokevirtual 119, 3) := by decide +kernel
theorem d_La_law_983 : decode code 983 = .ok (.istore 6, 2) := by decide +kernel
theorem d_La_law_985 : decode code 985 = .ok (.aload_n 2, 1) := by decide +kernel
theorem d_La_law_986 : decode code 986 = .ok (.invokevirtual 68, 3) := by decide +kernel
theorem d_La_law_989 : decode code 989 = .ok (.iload 5, 2) := by decide +kernel
theorem d_La_law_991 : decode code 991 = .ok (.if_icmp .eq 5, 3) := by decide +kernel
theorem d_La_law_994 : decode code 994 = .ok (.iconst 0, 1) := by decide +kernel
theorem d_La_law_995 : decode code 995 = .ok (.ireturn, 1) := by decide +kernel
theorem d_La_law_996 : decode code 996 = .ok (.iload 5, 2) := by decide +kernel
theorem d_La_law_998 : decode code 998 = .ok (.ifCond .ne 15, 3) := by decide +kernel
theorem d_La_law_1001 : decode code 1001 = .ok (.aload_n 3, 1) := by decide +kernel
theorem d_La_law_1002 : decode code 1002 = .ok (.iconst 0, 1) := by decide +kernel
theorem d_La_law_1003 : decode code 1003 = .ok (.laload, 1) := by decide +kernel
theorem d_La_law_1004 : decode code 1004 = .ok (.iload 6, 2) := by decide +kernel
theorem d_La_law_1006 : decode code 1006 = .ok (.i2l, 1) := by decide +kernel
theorem d_La_law_1007 : decode code 1007 = .ok (.lcmp, 1) := by decide +kernel
theorem d_La_law_1008 : decode code 1008 = .ok (.ifCond .eq 5, 3) := by decide +kernel
theorem d_La_law_1011 : decode code 1011 = .ok (.iconst 0, 1) := by decide +kernel
theorem d_La_law_1012 : decode code 1012 = .ok (.ireturn, 1) := by decide +kernel
theorem d_La_law_1013 : decode code 1013 = .ok (.goto 54, 3) := by decide +kernel
theorem d_La_law_1016 : decode code 1016 = .ok (.aload_n 1, 1) := by decide +kernel
theorem d_La_law_1017 : decode code 1017 = .ok (.invokevirtual 120, 3) := by decide +kernel
theorem d_La_law_1020 : decode code 1020 = .ok (.aload_n 2, 1) := by decide +kernel
theorem d_La_law_1021 : decode code 1021 = .ok (.invokevirtual 123, 3) := by decide +kernel
theorem d_La_law_1024 : decode code 1024 = .ok (.if_icmp .eq 43, 3) := by decide +kernel
theorem d_La_law_1027 : decode code 1027 = .ok (.iconst 0, 1) := by decide +kernel
theorem d_La_law_1028 : decode code 1028 = .ok (.ireturn, 1) := by decide +kernel
theorem d_La_law_1029 : decode code 1029 = .ok (.aload_n 1, 1) := by decide +kernel
theorem d_La_law_1030 : decode code 1030 = .ok (.invokevirtual 124, 3) := by decide +kernel
theorem d_La_law_1033 : decode code 1033 = .ok (.aload_n 2, 1) := by decide +kernel
theorem d_La_law_1034 : decode code 1034 = .ok (.invokevirtual 127, 3) := by decide +kernel
theorem d_La_law_1037 : decode code 1037 = .ok (.if_icmp .eq 30, 3) := by decide +kernel
theorem d_La_law_1040 : decode code 1040 = .ok (.iconst 0, 1) := by decide +kernel
theorem d_La_law_1041 : decode code 1041 = .ok (.ireturn, 1) := by decide +kernel
theorem d_La_law_1042 : decode code 1042 = .ok (.aload_n 1, 1) := by decide +kernel
theorem d_La_law_1043 : decode code 1043 = .ok (.aload_n 0, 1) := by decide +kernel
theorem d_La_law_1044 : decode code 1044 = .ok (.iload 4, 2) := by decide +kernel
theorem d_La_law_1046 : decode code 1046 = .ok (.iconst 1, 1) := by decide +kernel
theorem d_La_law_1047 : decode code 1047 = .ok (.iadd, 1) := by decide +kernel
theorem d_La_law_1048 : decode code 1048 = .ok (.iaload, 1) := by decide +kernel
theorem d_La_law_1049 : decode code 1049 = .ok (.invokevirtual 128, 3) := by decide +kernel
theorem d_La_law_1052 : decode code 1052 = .ok (.aload_n 2, 1) := by decide +kernel
theorem d_La_law_1053 : decode code 1053 = .ok (.aload_n 0, 1) := by decide +kernel
theorem d_La_law_1054 : decode code 1054 = .ok (.iload 4, 2) := by decide +kernel
theorem d_La_law_1056 : decode code 1056 = .ok (.iconst 1, 1) := by decide +kernel
theorem d_La_law_1057 : decode code 1057 = .ok (.iadd, 1) := by decide +kernel
theorem d_La_law_1058 : decode code 1058 = .ok (.iaload, 1) := by decide +kernel
theorem d_La_law_1059 : decode code 1059 = .ok (.invokevirtual 131, 3) := by decide +kernel
theorem d_La_law_1062 : decode code 1062 = .ok (.if_icmp .eq 5, 3) := by decide +kernel
theorem d_La_law_1065 : decode code 1065 = .ok (.iconst 0, 1) := by decide +kernel
theorem d_La_law_1066 : decode code 1066 = .ok (.ireturn, 1) := by decide +kernel
theorem d_La_law_1067 : decode code 1067 = .ok (.iinc 4 4, 3) := by decide +kernel
theorem d_La_law_1070 : decode code 1070 = .ok (.goto (-1047), 3) := by decide +kernel
theorem d_La_law_1073 : decode code 1073 = .ok (.iconst 1, 1) := by decide +kernel
theorem d_La_law_1074 : decode code 1074 = .ok (.ireturn, 1) := by decide +kernel
end
section
/-! WHAT IS THROWN, in rows of our own: a contract that says both ends, calls by it, the way out of a frame, the way into a handler -/
section XQ
/-- the frame g, with the object q thrown over it, comes to Q -/
def xq_W (p : Program) (l : Launch) (e : Env) (R : Room) (s : State) (m : MethodId) (args : Array Value) (below : List Frame) (meth : Method) (c : Code) (H : Heap) (locs : List Loc) (k z : Nat) (Q : State → Prop) (g : JFrame) (q : Addr) : Prop :=
  ∀ T : State, T.heap = H → Stand p l e R s m args below meth c T locs k z → ∃ t, Steps p.tables e below ((T.setTop g).pushFrame (.throwing q)) t ∧ Q t
/-- both ends of a method in one: Qr where it went back, Qx where it threw -/
def xq_P (Qr : State → Option Value → State → Prop) (Qx : State → String → State → Prop) (mc ms : Nat) (free : Addr → Prop) : Array Value → State → Outcome → State → Prop := fun _ st o t =>
  ∃ L : List Loc, st.WarmedH t.vm ∧ st.sameButNew ({ t with vm := st.vm } : State) L mc ms ∧ (∀ q ∈ L, free q.base) ∧
    ((∃ v, o = .returned v ∧ Qr st v t) ∨ ∃ (q : Addr) (E : String) (ce : Cell), o = .threw q ∧ Qx st E t ∧ t.heap[q]? = some ce ∧ ce.vm = .none ∧ st.vm.findClass E = some ce.cls)
abbrev xq_M (l : Launch) (y : MethodName) (ws : List Cond) (rm : Room) (Pc : Array Value → State → Prop) (Qr : State → Option Value → State → Prop) (Qx : State → String → State → Prop) (mc ms : Nat) (free : Addr → Prop) : Prop :=
  MetFree l y (headSpec ws rm) Pc (fun _ _ _ _ _ => True) (xq_P Qr Qx mc ms free)
/-- a call has been made at T: it stands again, behind the call or with something thrown over it -/
def xq_R (p : Program) (l : Launch) (e : Env) (R : Room) (s : State) (m : MethodId) (args : Array Value) (below : List Frame) (meth : Method) (c : Code) (H : Heap) (locs : List Loc) (k z mc ms : Nat) (g : JFrame) (rest : List Value) (Qr : State → Option Value → State → Prop) (Qx : State → String → State → Prop) (free : Addr → Prop) : Prop :=
  ∀ T : State, T.heap = H → Stand p l e R s m args below meth c T locs k z → ∃ (st t T' : State) (L : List Loc), st.heap = H ∧ Stand p l e R s m args below meth c T' (locs ++ L) (k + mc) (z + ms) ∧ (∀ q ∈ L, free q.base) ∧ T'.heap = t.heap ∧
    ((∃ v, Qr st v t ∧ ∀ tg, Steps p.tables e below (T'.setTop { g with pc := g.pc + 3, stack := v.toList ++ rest }) tg → Steps p.tables e below (T.setTop g) tg) ∨
     ∃ (q : Addr) (E : String) (ce : Cell), Qx st E t ∧ t.heap[q]? = some ce ∧ ce.vm = .none ∧ s.vm.findClass E = some ce.cls ∧ Steps p.tables e below (T.setTop g) ((T'.setTop { g with stack := rest }).pushFrame (.throwing q)))
variable {p : Program} {l : Launch} {e : Env} {R : Room} {s : State} {m : MethodId} {args : Array Value} {below : List Frame} {meth : Method} {c : Code} {H : Heap} {locs : List Loc} {k z : Nat}
variable {y : MethodName} {ws : List Cond} {rm : Room} {Pc : Array Value → State → Prop} {Qr : State → Option Value → State → Prop} {Qx : State → String → State → Prop} {mc ms : Nat} {free : Addr → Prop}
/-- the body of a called method, from the point where its frame is laid (after Back.of_free of the library, with the thrown end beside it) -/
theorem xq_body (hM : xq_M l y ws rm Pc Qr Qx mc ms free) (hrc : rm.cells = mc) (hrs : rm.slots = ms) {maxL : Nat} (hfr : rm.frames + 1 ≤ R.frames) (hlo : 8 + (maxL + 11) + rm.locals ≤ R.locals)
    {U : State} (X : Stand p l e R s m args below meth c U locs k z) {g : JFrame} (hg : g.method = m) (hsize : g.locals.size = c.maxLocals) {ig : Instr} {len : Nat} (hdg : decode c.code g.pc = .ok (ig, len)) (hW : 2 * g.monitorRoom + (g.stack.map fun v => v.category).sum ≤ 8)
    {mk : MethodId} {a : Array Value} (hn : U.methodNamed? y = some mk) {methY : Method} {cY : Code} (hmY : U.vm.method? mk = some methY) (hcY : methY.code = some cY) (hlY : cY.maxLocals = maxL) (hpre : ∀ w ∈ ws, w.before a U = true) (hini : (Cond.initialized y.cls).before a U = true) (hk : k + mc ≤ R.cells) (hz : z + ms ≤ R.slots) (hPc : Pc a (U.calling g mk a)) :
    ∃ (t T' : State) (L : List Loc), Stand p l e R s m args below meth c T' (locs ++ L) (k + mc) (z + ms) ∧ (∀ q ∈ L, free q.base) ∧ T'.heap = t.heap ∧
      ((∃ v, Qr (U.calling g mk a) v t ∧ Steps p.tables e below (doInvoke e (U.setTop g) [] mk a).1 (T'.setTop { g with pc := g.pc + len, stack := v.toList ++ g.stack })) ∨
       ∃ (q : Addr) (E : String) (ce : Cell), Qx (U.calling g mk a) E t ∧ t.heap[q]? = some ce ∧ ce.vm = .none ∧ U.vm.findClass E = some ce.cls ∧ Steps p.tables e below (doInvoke e (U.setTop g) [] mk a).1 ((T'.setTop g).pushFrame (.throwing q))) := by
  obtain ⟨kY, hkY, -⟩ := className_of_methodNamed hn
  have hiY : kY.init = .initialized := Cond.initialized_spec (findClass_of_methodNamed hn) hkY hini
  have h : At U g.method c below := by rw [hg]; exact X.here
  have happ : (headSpec ws rm).appliesLoose y e.platform (U.calling g mk a) = true :=
    Spec.appliesLoose_calling (g := g) h hdg hn hkY hiY
      (X.room_calling (g := g) (R' := (headSpec ws rm).room) hsize hmY hcY hfr (by rw [hlY]; show _ + rm.locals ≤ _; omega) (by show k + rm.cells ≤ _; omega) (by show z + rm.slots ≤ _; omega)) (atoms_intro hpre)
  obtain ⟨mid, hmid⟩ := h.above
  have hfs : (U.setTop g).frames = (.java g :: mid) ++ below := by rw [State.frames_setTop' g h.top, hmid]; rfl
  obtain ⟨o, s₂, hsteps, -, hend, hq⟩ := Steps.callFree hM p X.admits X.cas X.clock (acts := []) hfs happ hPc trivial
  have hq' : xq_P Qr Qx mc ms free a (U.calling g mk a) o s₂ := hq
  obtain ⟨L, hWm, hsm, hL, hor⟩ := hq'
  rw [State.frames_setTop' g h.top] at hend
  obtain ⟨g₀, hg0⟩ := Option.isSome_iff_exists.mp h.top
  obtain ⟨r, hr⟩ := State.topJava?_eq_some.mp hg0
  obtain ⟨e2, q2, q3, q4, q5, q6⟩ := id hsm
  have e3 : s₂ = ({ (U.calling g mk a).setFrames s₂.frames with heap := s₂.heap, slotsUsed := s₂.slotsUsed } : State).setVm s₂.vm := by
    have e4 : s₂ = ({ s₂ with vm := (U.calling g mk a).vm } : State).setVm s₂.vm := rfl
    rw [e2] at e4
    exact e4
  have hWU : U.WarmedH s₂.vm := hWm
  have hr' : (({ U with heap := s₂.heap, slotsUsed := s₂.slotsUsed } : State).setVm s₂.vm).frames = .java g₀ :: r := hr
  have hsame : U.sameButNew ({ U with heap := s₂.heap, slotsUsed := s₂.slotsUsed } : State) L mc ms := by
    refine ⟨?_, q2, q3, q4, q5, q6⟩
    obtain ⟨t, ht, -⟩ := State.frames_cons hr
    show ({ U with heap := s₂.heap, slotsUsed := s₂.slotsUsed } : State) = { U.setFrames U.frames with heap := s₂.heap, slotsUsed := s₂.slotsUsed }
    rw [State.setFrames_self ht]
  have hSt : Stand p l e R s m args below meth c (({ U with heap := s₂.heap, slotsUsed := s₂.slotsUsed } : State).setVm s₂.vm) (locs ++ L) (k + mc) (z + ms) :=
    ⟨X.admits, X.cas, X.clock, X.frames, X.room, X.hears, X.method, X.code, (X.here.setHeapUsed s₂.heap s₂.slotsUsed).setVm hWU.alike, X.tail, State.WarmedH.trans X.warmed hWU, X.limits, X.bytes, X.same.trans (hsame.setVm s.vm)⟩
  refine ⟨s₂, _, L, hSt, hL, rfl, ?_⟩
  rcases hor with ⟨v, rfl, hv⟩ | ⟨q, E, ce, rfl, hE, hce, hcv, hcl⟩
  · obtain ⟨c₂, i₂, len₂, hc₂, hd₂, hf₂⟩ := hend
    have hcc : c₂ = c := by
      have h1 : s₂.code? g.method = U.code? g.method := by
        rw [State.code?_eq, State.code?_eq, hWU.alike.method?]
      exact Option.some.inj (hc₂.symm.trans (h1.trans h.code))
    subst hcc
    have hlen : len₂ = len := by rw [hdg] at hd₂; cases hd₂; rfl
    subst hlen
    have hs₂ : s₂ = (({ U with heap := s₂.heap, slotsUsed := s₂.slotsUsed } : State).setVm s₂.vm).setTop { g with pc := g.pc + len₂, stack := v.toList ++ g.stack } := by
      refine e3.trans ?_
      rw [hf₂, State.calling_eq h.top, State.setFrames_setFrames, State.setTop_of_frames _ hr', hr]
      rfl
    refine Or.inl ⟨v, hv, ?_⟩
    rw [← hs₂]
    exact hsteps
  · have hf₂ : s₂.frames = .throwing q :: .java g :: U.frames.tail := hend
    have hs₂ : s₂ = ((({ U with heap := s₂.heap, slotsUsed := s₂.slotsUsed } : State).setVm s₂.vm).setTop g).pushFrame (.throwing q) := by
      refine e3.trans ?_
      rw [hf₂, State.calling_eq h.top, State.setFrames_setFrames, State.pushFrame, State.frames_setTop _ hr', State.setTop_of_frames _ hr', State.setFrames_setFrames, hr]
      rfl
    refine Or.inr ⟨q, E, ce, hE, hce, hcv, hcl, ?_⟩
    rw [← hs₂]
    exact hsteps
/-- a call by a receiver -/
theorem xq_V (hM : xq_M l y ws rm Pc Qr Qx mc ms free) (hbl : FrameBlind Pc) (hx : p.tables.exec = Jvm.exec) {cc : ByteArray} (hb : c.code = cc) {nL : Nat} (hml : c.maxLocals = nL) {own C : String} (hown : s.vm.findClass own = some m.cls) {idx maxL n : Nat} {bytes : ByteArray} {ret : Option FieldType}
    (hrc : rm.cells = mc) (hrs : rm.slots = ms) (hfr : rm.frames + 1 ≤ R.frames) (hlo : 8 + (maxL + 11) + rm.locals ≤ R.locals) (hws : ∀ w ∈ ws, ∀ (a' : Array Value) (U : State), s.WarmedH U.vm → w.before a' U = true) (hini : (Cond.initialized y.cls).before args s = true) (hy : y.cls ≠ "java/lang/invoke/MethodHandle" ∧ y.cls ≠ "java/lang/invoke/VarHandle") (hlen : ∀ sig, parseMethodDescriptor y.desc = some sig → n = sig.parameters.length)
    (hl : (Cond.methodLink own idx y).before args s = true) (hin : (Cond.instanceMethod y).before args s = true) (hse : (Cond.selects C y y).before args s = true) (hcode : (Cond.code y bytes maxL ret).before args s = true)
    {b : Addr} {As rest : List Value} (hrv : ∃ cellB : Cell, H[b]? = some cellB ∧ cellB.vm.isStatics = false ∧ s.vm.findClass C = some cellB.cls) (hpay : ∀ U : State, U.heap = H → s.WarmedH U.vm → Pc (Value.ref b :: As).toArray U)
    {g : JFrame} (hg : g.method = m) (hn : As.length = n) (hsize : g.locals.size = nL) (hstack : g.stack = As.reverse ++ .ref b :: rest) (hW : 2 * g.monitorRoom + (rest.map fun v => v.category).sum ≤ 8) (hdg : decode cc g.pc = .ok (.invokevirtual idx, 3)) (hk : k + mc ≤ R.cells) (hz : z + ms ≤ R.slots) :
    xq_R p l e R s m args below meth c H locs k z mc ms g rest Qr Qx free := by
  intro T hT X
  obtain ⟨cellB, hcB, hoB, hclB⟩ := hrv
  obtain ⟨mk, methM, hnamed, hmethM, hstM, habM⟩ := Cond.instanceMethod_spec hin
  obtain ⟨methM', cM, hmM', hcM, -, hlM, -, -, -, hsigM⟩ := Cond.code_spec hnamed hcode
  cases hmethM.symm.trans hmM'
  obtain ⟨c2, r2, m2, q1, q2, q3, q4, kP, hkP, hkPi⟩ := Cond.selects_spec hse
  cases hclB.symm.trans q1
  cases (State.methodFound?_of_named hnamed hy).symm.trans q2
  cases hnamed.symm.trans q3
  have hsel : selectMethod e.platform s.vm cellB.cls mk = .method mk := by rw [Launch.admits_selectMethod X.admits]; exact q4
  obtain ⟨vm₁, X₁, hstep⟩ := X.invokevirtual hx hown hl hnamed hmethM hstM hkP hkPi hy (a := b) (cell := cellB) (by rw [hT]; exact hcB)
    (fun z9 h9 => by rw [h9] at hoB; cases hoB) hsel hmethM habM hkP hkPi (g := g) hg (argsL := As) (rest := rest) (hn.trans (hlen _ hsigM)) hstack (by rw [hb]; exact hdg)
  have hmU : (T.setVm vm₁).vm.method? mk = some methM := by
    rw [X₁.warmed.alike.method?]; exact hmethM
  obtain ⟨t, T', L, hSt, hL, hh, hor⟩ := xq_body (a := (Value.ref b :: As).toArray) hM hrc hrs hfr hlo X₁ (g := { g with stack := rest }) hg (hsize.trans hml.symm) (by rw [hb]; exact hdg) hW (X₁.named hnamed) hmU hcM hlM (fun w hw => hws w hw _ _ X₁.warmed)
    (word_at X₁.warmed (Or.inl (by first | rfl | simp [Cond.onTables, Cond.keeps, Cond.steady])) hini) hk hz (hbl _ _ _ _ (hpay (T.setVm vm₁) hT X₁.warmed))
  refine ⟨_, t, T', L, (show ((T.setVm vm₁).calling { g with stack := rest } mk (Value.ref b :: As).toArray).heap = H from hT), hSt, hL, hh, ?_⟩
  rcases hor with ⟨v, hv, hs⟩ | ⟨q, E, ce, hE, hce, hcv, hcl, hs⟩
  · exact Or.inl ⟨v, hv, fun tg h9 => hstep _ fun acts => by rw [doInvoke_state]; exact hs.trans h9⟩
  · refine Or.inr ⟨q, E, ce, hE, hce, hcv, ?_, hstep _ fun acts => by rw [doInvoke_state]; exact hs⟩
    rw [X₁.warmed.alike.findClass] at hcl
    exact hcl
/-- a call of a static method, by what its code is known to be -/
theorem xq_S (hM : xq_M l y ws rm Pc Qr Qx mc ms free) (hbl : FrameBlind Pc) (hx : p.tables.exec = Jvm.exec) {cc : ByteArray} (hb : c.code = cc) {nL : Nat} (hml : c.maxLocals = nL) {own : String} (hown : s.vm.findClass own = some m.cls) {idx maxL n : Nat}
    (hrc : rm.cells = mc) (hrs : rm.slots = ms) (hfr : rm.frames + 1 ≤ R.frames) (hlo : 8 + (maxL + 11) + rm.locals ≤ R.locals) (hws : ∀ w ∈ ws, ∀ (a' : Array Value) (U : State), s.WarmedH U.vm → w.before a' U = true) (hini : (Cond.initialized y.cls).before args s = true) (hy : y.cls ≠ "java/lang/invoke/MethodHandle" ∧ y.cls ≠ "java/lang/invoke/VarHandle") (hlen : ∀ sig, parseMethodDescriptor y.desc = some sig → n = sig.parameters.length)
    (hl : (Cond.methodLink own idx y).before args s = true) (hst : (Cond.static y).before args s = true) {mk : MethodId} {methM : Method} {cM : Code} (hnamed : s.methodNamed? y = some mk) (hmethM : s.vm.method? mk = some methM) (hcM : methM.code = some cM) (hlM : cM.maxLocals = maxL) (hsigM : parseMethodDescriptor y.desc = some methM.sig)
    {As rest : List Value} (hpay : ∀ U : State, U.heap = H → s.WarmedH U.vm → Pc As.toArray U)
    {g : JFrame} (hg : g.method = m) (hn : As.length = n) (hsize : g.locals.size = nL) (hstack : g.stack = As.reverse ++ rest) (hW : 2 * g.monitorRoom + (rest.map fun v => v.category).sum ≤ 8) (hdg : decode cc g.pc = .ok (.invokestatic idx, 3)) (hk : k + mc ≤ R.cells) (hz : z + ms ≤ R.slots) :
    xq_R p l e R s m args below meth c H locs k z mc ms g rest Qr Qx free := by
  intro T hT X
  have hstatic : methM.isStatic = true := Cond.static_spec hnamed hmethM hst
  obtain ⟨kP, hkP, -⟩ := className_of_methodNamed hnamed
  have hiP : kP.init = .initialized := Cond.initialized_spec (findClass_of_methodNamed hnamed) hkP hini
  obtain ⟨vm₁, X₁, hstep⟩ := X.invokestatic hx hown hl hnamed hmethM hstatic hkP hiP hy (g := g) hg (argsL := As) (rest := rest) (hn.trans (hlen _ hsigM)) hstack (by rw [hb]; exact hdg)
  have hmU : (T.setVm vm₁).vm.method? mk = some methM := by
    rw [X₁.warmed.alike.method?]; exact hmethM
  obtain ⟨t, T', L, hSt, hL, hh, hor⟩ := xq_body (a := As.toArray) hM hrc hrs hfr hlo X₁ (g := { g with stack := rest }) hg (hsize.trans hml.symm) (by rw [hb]; exact hdg) hW (X₁.named hnamed) hmU hcM hlM (fun w hw => hws w hw _ _ X₁.warmed)
    (word_at X₁.warmed (Or.inl (by first | rfl | simp [Cond.onTables, Cond.keeps, Cond.steady])) hini) hk hz (hbl _ _ _ _ (hpay (T.setVm vm₁) hT X₁.warmed))
  refine ⟨_, t, T', L, (show ((T.setVm vm₁).calling { g with stack := rest } mk As.toArray).heap = H from hT), hSt, hL, hh, ?_⟩
  rcases hor with ⟨v, hv, hs⟩ | ⟨q, E, ce, hE, hce, hcv, hcl, hs⟩
  · exact Or.inl ⟨v, hv, fun tg h9 => hstep _ fun acts => by rw [doInvoke_state]; exact hs.trans h9⟩
  · refine Or.inr ⟨q, E, ce, hE, hce, hcv, ?_, hstep _ fun acts => by rw [doInvoke_state]; exact hs⟩
    rw [X₁.warmed.alike.findClass] at hcl
    exact hcl
/-- what a body owes that may throw -/
def xq_Q (below : List Frame) (Qr : State → Option Value → State → Prop) (Qx : State → String → State → Prop) (a : Array Value) (s : State) (mc ms : Nat) (free : Addr → Prop) : State → Prop := fun t => ∃ o, t.status = .running ∧ Ended t below o ∧ xq_P Qr Qx mc ms free a s o t
theorem xq_ret {Qc : Array Value → State → Outcome → State → Prop} {g : JFrame} (hq : ∀ o t, Qc args s o t → ∃ v, o = .returned v ∧ Qr s v t) (kk : W p l e R s m args below meth c H locs k z (MQ below Qc args s mc ms free) g) : W p l e R s m args below meth c H locs k z (xq_Q below Qr Qx args s mc ms free) g := by
  intro T hT X
  obtain ⟨t, a1, o, b1, b2, b3, L, ⟨b4, b5, b6⟩, b7⟩ := kk T hT X
  exact ⟨t, a1, o, b1, b2, L, b5, b6, b7, Or.inl (hq o t b3)⟩
/-- out of the frame: no handler here -/
theorem xq_out {pc : Nat} {ls : Array Slot} {rest : List Value} {E : String} {ce : Cell} {q : Addr} (hout : ∀ x ∈ c.exceptionTable.toList, covers x pc = false) (hlk : meth.locks = false) (hce : H[q]? = some ce) (hv : ce.vm = .none) (hcl : s.vm.findClass E = some ce.cls) (hx : ∀ t : State, t.heap = H → s.vm.Alike t.vm → Qx s E t) (hf : ∀ q ∈ locs, free q.base) (hk : k ≤ mc) (hz : z ≤ ms) :
    xq_W p l e R s m args below meth c H locs k z (xq_Q below Qr Qx args s mc ms free) (F0 m pc ls rest) q := by
  intro T hT X
  obtain ⟨a1, a2, a3, a4, a5⟩ := X.leaveThrown q (g := F0 m pc ls rest) rfl rfl rfl hout hlk
  refine ⟨_, a1, .threw q, a2, a3, locs, a4, a5.mono hk hz, hf, Or.inr ⟨q, E, ce, rfl, hx _ hT a4.alike, ?_, hv, hcl⟩⟩
  show T.heap[q]? = some ce
  rw [hT]; exact hce
/-- a contract by its body -/
theorem xq_ofW {ws' : List Cond} {cc : ByteArray} {maxL : Nat} {ret : Option FieldType} (hy : plainName y.cls = true) (hw : ws = Cond.code y cc maxL ret :: ws')
    (body : ∀ p e s m args below meth c s₁, BodyLoose p l y (headSpec ws rm) cc maxL ret e s m args below meth c s₁ → c.maxLocals = maxL → c.exceptionTable.toList = [] → Pc args s →
      W p l e (headSpec ws rm).room s m args below meth c s.heap [] 0 0 (xq_Q below Qr Qx args s mc ms free) (entryFrame m args maxL)) : xq_M l y ws rm Pc Qr Qx mc ms free := by
  have hin : Cond.code y cc maxL ret ∈ ws := by rw [hw]; exact List.mem_cons_self
  refine MetFree.of_bodyS (code := cc) (maxLocals := maxL) (ret := ret) hy ?_ ?_
  · intro args s m h hn
    obtain ⟨meth, c, h1, h2, h3, h4, h5, h6, -, -⟩ := Cond.code_spec hn (atoms_spec (ws := ws) h _ hin)
    exact ⟨meth, c, h1, h2, h3, h4, h5, h6⟩
  · intro p e s m args below meth c s₁ B hml hP _
    have htab : c.exceptionTable.toList = [] := by
      obtain ⟨meth9, c9, h1, h2, -, -, -, -, h7, -⟩ := Cond.code_spec B.named (atoms_spec (ws := ws) B.pre _ hin)
      cases Option.some.inj (h1.symm.trans B.method)
      cases Option.some.inj (h2.symm.trans (Stand.of_body B).code)
      rw [Array.isEmpty_iff.mp h7]
    obtain ⟨t, a1, o, b1, b2, b3⟩ := body p e s m args below meth c s₁ B hml htab hP s₁ (by rw [B.state]; rfl) (Stand.of_body B)
    exact ⟨t, o, a1, b1, b2, b3⟩
/-- .. with handlers of its own -/
theorem xq_ofWH {ws' : List Cond} {cc : ByteArray} {maxL : Nat} {ret : Option FieldType} {hh : List (Nat × Nat × Nat × Nat)} (hy : plainName y.cls = true) (hw : ws = Cond.codeWith y cc maxL ret hh :: ws')
    (body : ∀ p e s m args below meth c s₁, BodyLoose p l y (headSpec ws rm) cc maxL ret e s m args below meth c s₁ → c.maxLocals = maxL → c.exceptionTable.toList = tableOf hh → Pc args s →
      W p l e (headSpec ws rm).room s m args below meth c s.heap [] 0 0 (xq_Q below Qr Qx args s mc ms free) (entryFrame m args maxL)) : xq_M l y ws rm Pc Qr Qx mc ms free := by
  have hin : Cond.codeWith y cc maxL ret hh ∈ ws := by rw [hw]; exact List.mem_cons_self
  refine MetFree.of_bodyS (code := cc) (maxLocals := maxL) (ret := ret) hy ?_ ?_
  · intro args s m h hn
    obtain ⟨m9, meth, c, hn9, h1, h2, h3, h4, -, h5, h6, -⟩ := Cond.codeWith_spec (atoms_spec (ws := ws) h _ hin)
    cases hn.symm.trans hn9
    exact ⟨meth, c, h1, h2, h3, h4, h5, h6⟩
  · intro p e s m args below meth c s₁ B hml hP _
    have htab : c.exceptionTable.toList = tableOf hh := by
      obtain ⟨m9, meth9, c9, hn9, h1, h2, -, -, h7, -⟩ := Cond.codeWith_spec (atoms_spec (ws := ws) B.pre _ hin)
      cases hn9.symm.trans B.named
      cases Option.some.inj (h1.symm.trans B.method)
      cases Option.some.inj (h2.symm.trans (Stand.of_body B).code)
      rw [← h7, table_eq]
    obtain ⟨t, a1, o, b1, b2, b3⟩ := body p e s m args below meth c s₁ B hml htab hP s₁ (by rw [B.state]; rfl) (Stand.of_body B)
    exact ⟨t, o, a1, b1, b2, b3⟩
/-! into a handler: the search goes down the table, each row's name is linked where it covers -/
def xq_F (e : Env) (S : State) (f : JFrame) (a : Addr) (h : Handler) (vm' : Vm) : Prop := ∀ (Q : Handler → Pre) (E : CtlPost) (d : Bool) (acts : List Action), wp (findHandler f a) Q E e d acts S ↔ Q h d acts (S.setVm vm')
theorem xq_row {Q : Handler → Pre} {E : CtlPost} {d : Bool} {acts : List Action} {S : State} {f : JFrame} {a : Addr} {x : ExceptionTableEntry} {t : List ExceptionTableEntry} {cT : ClassId} {cell : Cell} (hx : covers x f.pc = true) (h0 : x.catchType ≠ 0) (hl : S.vm.ClassLinks e.platform f.method.cls x.catchType cT) (hcell : S.heap[a]? = some cell) (hobj : ∀ k, cell.vm ≠ .statics k) (hk : ∃ k, S.vm.classes[cell.cls]? = some k) (hc : ∃ k, S.vm.classes[cT]? = some k) :
    wp (findHandler.go f a (x :: t)) Q E e d acts S ↔ if S.vm.assignable cell.cls cT = true then Q (.found x.handlerPc) d acts (S.setVm (S.vm.noted f.method.cls x.catchType (.cls cT))) else wp (findHandler.go f a t) Q E e d acts (S.setVm (S.vm.noted f.method.cls x.catchType (.cls cT))) := by
  simp only [covers] at hx
  obtain ⟨ha, ht⟩ := (resolveClass_links e.toSetting hl).op (op := VmOp.resolveClass f.method.cls x.catchType) rfl
  have hal : S.vm.Alike (S.vm.noted f.method.cls x.catchType (.cls cT)) := (Vm.Alike.refl S.vm).noted _ _ _
  obtain ⟨k1, hk1⟩ := hk
  obtain ⟨k2, hk2⟩ := hc
  obtain ⟨k1', hk1', -⟩ := hal.2.2 _ _ hk1
  obtain ⟨k2', hk2', -⟩ := hal.2.2 _ _ hk2
  have has := hal.assignable cell.cls cT
  cases hfit : S.vm.assignable cell.cls cT <;> rw [hfit] at has <;> simp [findHandler.go, hx, h0, ha, ht, hcell, hobj, hk1', hk2', has, VmOp.dirties, VmOp.acts]
theorem xq_down {s₀ : State} {f : JFrame} {a : Addr} {cell : Cell} (hobj : ∀ k, cell.vm ≠ .statics k) (hk0 : ∃ k, s₀.vm.classes[cell.cls]? = some k) (x : ExceptionTableEntry) (suf : List ExceptionTableEntry) (hx : covers x f.pc = true) (h0 : x.catchType ≠ 0) {cT : ClassId} (hl : s₀.vm.ClassLinks e.platform f.method.cls x.catchType cT) (hfit : s₀.vm.assignable cell.cls cT = true) :
    ∀ (pre : List ExceptionTableEntry) (S : State), s₀.WarmedH S.vm → S.heap[a]? = some cell → (∀ y ∈ pre, covers y f.pc = false ∨ (y.catchType ≠ 0 ∧ ∃ c9, s₀.vm.ClassLinks e.platform f.method.cls y.catchType c9 ∧ s₀.vm.assignable cell.cls c9 = false)) →
      ∃ vm', s₀.WarmedH vm' ∧ ∀ (Q : Handler → Pre) (E : CtlPost) (d : Bool) (acts : List Action), wp (findHandler.go f a (pre ++ x :: suf)) Q E e d acts S ↔ Q (.found x.handlerPc) d acts (S.setVm vm') := by
  obtain ⟨k0, hk0⟩ := hk0
  intro pre
  induction pre with
  | nil =>
    intro S hW hcell _
    obtain ⟨k0', hk0', -⟩ := hW.alike.2.2 _ _ hk0
    obtain ⟨dk, _, _, kt, hd, _, _, _, _, hkt, _, hop⟩ := hl.here
    obtain ⟨kt', hkt', -⟩ := hW.alike.2.2 _ _ hkt
    refine ⟨_, hW.noted hd hop (State.rightAt_cls hl), fun Q E d acts => ?_⟩
    rw [List.nil_append, xq_row hx h0 (hW.classLinks hl) hcell hobj ⟨k0', hk0'⟩ ⟨kt', hkt'⟩, if_pos (by rw [hW.alike.assignable]; exact hfit)]
  | cons y ys ih =>
    intro S hW hcell hpass
    obtain ⟨k0', hk0', -⟩ := hW.alike.2.2 _ _ hk0
    have hrest := fun z9 hz9 => hpass z9 (List.mem_cons_of_mem y hz9)
    cases hcov : covers y f.pc with
    | false =>
      obtain ⟨vm', hW', hq⟩ := ih S hW hcell hrest
      exact ⟨vm', hW', fun Q E d acts => by rw [List.cons_append, W.findHandler_go_skip hcov]; exact hq Q E d acts⟩
    | true =>
      rcases hpass y List.mem_cons_self with h9 | ⟨h9, c9, hl9, hno⟩
      · rw [h9] at hcov; cases hcov
      · obtain ⟨dk, _, _, kt, hd, _, _, _, _, hkt, _, hop⟩ := hl9.here
        obtain ⟨kt', hkt', -⟩ := hW.alike.2.2 _ _ hkt
        obtain ⟨vm', hW', hq⟩ := ih (S.setVm (S.vm.noted f.method.cls y.catchType (.cls c9))) (hW.noted hd hop (State.rightAt_cls hl9)) hcell hrest
        refine ⟨vm', hW', fun Q E d acts => ?_⟩
        rw [List.cons_append, xq_row hcov h9 (hW.classLinks hl9) hcell hobj ⟨k0', hk0'⟩ ⟨kt', hkt'⟩, if_neg (by rw [hW.alike.assignable, hno]; decide)]
        exact hq Q E d acts
theorem xq_step {tb : Tables} {S target : State} {g : JFrame} {a : Addr} (h : At S g.method c below) {pc : Nat} {vm' : Vm} (hfind : xq_F e ((S.setTop g).pushFrame (.throwing a)) g a (.found pc) vm') (hrest : Steps tb e below ((S.setVm vm').setTop { g with pc := pc, stack := [.ref a] }) target) : Steps tb e below ((S.setTop g).pushFrame (.throwing a)) target := by
  obtain ⟨hgo, hw⟩ := h.throwing a
  refine Steps.head hgo hw ?_
  rw [stepThread_throwing (frames_entered h.top _)]
  have key : (stepThrowing e ((S.setTop g).pushFrame (.throwing a)) a (.java g :: S.frames.tail)).1 = ((((S.setTop g).pushFrame (.throwing a)).setVm vm').setFrames (.java { g with pc := pc, stack := [.ref a] } :: S.frames.tail)) := by
    simp only [stepThrowing, searchFrame, vmDo]
    generalize hr : Sem.go _ e false [] ((S.setTop g).pushFrame (.throwing a)) = res
    obtain ⟨as, rfl, ha⟩ := Sem.eq_ok_of hr (a := Handler.found pc) (s' := ((S.setTop g).pushFrame (.throwing a)).setVm vm') (acts' := []) (by simp [hfind _ _ _ _])
    rfl
  rw [key]
  obtain ⟨g₀, hg⟩ := Option.isSome_iff_exists.mp h.top
  obtain ⟨r, hr⟩ := State.topJava?_eq_some.mp hg
  have hr' : (S.setVm vm').frames = .java g₀ :: r := hr
  have hmv : ∀ (u : State) (F G : List Frame), ((u.setFrames F).setVm vm').setFrames G = (u.setVm vm').setFrames G := fun u F G => by
    have h1 : (u.setFrames F).setVm vm' = (u.setVm vm').setFrames F := rfl
    rw [h1, State.setFrames_setFrames]
  rw [State.setTop_of_frames _ hr'] at hrest
  rw [hr, List.tail_cons, State.pushFrame, hmv, State.setTop_of_frames _ hr, hmv]
  exact hrest
/-- caught by the row x; the rows ahead don't cover, or name what E isn't -/
theorem xq_catch {Q : State → Prop} {pc : Nat} {ls : Array Slot} {rest : List Value} {own nm E : String} {ce : Cell} {q : Addr} (hown : s.vm.findClass own = some m.cls) (pre : List ExceptionTableEntry) (x : ExceptionTableEntry) (suf : List ExceptionTableEntry) (hsplit : c.exceptionTable.toList = pre ++ x :: suf)
    (hpass : ∀ y ∈ pre, covers y pc = false ∨ (y.catchType ≠ 0 ∧ ∃ n9 : String, (Cond.classLink own y.catchType n9).before args s = true ∧ va_Nc E n9 s)) (hx : covers x pc = true) (h0 : x.catchType ≠ 0) (hlink : (Cond.classLink own x.catchType nm).before args s = true) (hcast : (Cond.castable E nm).before args s = true) (hce : H[q]? = some ce) (hv : ce.vm = .none) (hcl : s.vm.findClass E = some ce.cls)
    (kk : W p l e R s m args below meth c H locs k z Q (F0 m x.handlerPc ls [.ref q])) : xq_W p l e R s m args below meth c H locs k z Q (F0 m pc ls rest) q := by
  intro T hT X
  have hpl : e.platform.magicAccessors = ({} : Platform).magicAccessors := by rw [X.admits.platform]
  obtain ⟨c3, c4, hc3, hc4, hasg⟩ := Cond.castable_spec hcast
  cases Option.some.inj (hc3.symm.trans hcl)
  obtain ⟨c5, hc5, hcl5⟩ := Cond.classLink_spec hown hlink e.platform hpl
  cases Option.some.inj (hc4.symm.trans hc5)
  have hk0 : ∃ k9, s.vm.classes[ce.cls]? = some k9 := by obtain ⟨k9, h9, -⟩ := Vm.findClass_spec hcl; exact ⟨k9, h9⟩
  obtain ⟨vm', hW', hq⟩ := xq_down (e := e) (f := F0 m pc ls rest) (a := q) (fun k9 h9 => by rw [hv] at h9; cases h9) hk0 x suf hx h0 hcl5 hasg pre ((T.setTop (F0 m pc ls rest)).pushFrame (.throwing q)) X.warmed (by show T.heap[q]? = _; rw [hT]; exact hce) (fun y hy => by
    rcases hpass y hy with h9 | ⟨h9, n9, hl9, hn9⟩
    · exact Or.inl h9
    · obtain ⟨c6, hc6, hcl6⟩ := Cond.classLink_spec hown hl9 e.platform hpl
      obtain ⟨a8, b8, h1, h2, h3⟩ := hn9
      cases Option.some.inj (h1.symm.trans hcl)
      cases Option.some.inj (h2.symm.trans hc6)
      exact Or.inr ⟨h9, _, hcl6, h3⟩)
  obtain ⟨t, a1, b1⟩ := kk (T.setVm vm') hT (X.noted hW')
  refine ⟨t, xq_step (g := F0 m pc ls rest) X.here (vm' := vm') (pc := x.handlerPc) (fun Q9 E9 d9 as9 => ?_) a1, b1⟩
  rw [W.findHandler_eq (meth := meth) (code := c) X.method' X.code, hsplit]
  exact hq Q9 E9 d9 as9
/-! words that read a cell of statics: they hold as long as that cell stays -/
def xq_Z (w : Cond) (A : Nat → Prop) (U : State) (H : Heap) : Prop := ∃ a : Nat, a < H.size ∧ ¬ A a ∧ ∀ (U' : State) (av : Array Value), U.vm.Alike U'.vm → U'.heap[a]? = H[a]? → w.before av U' = true
theorem xq_Z.at {w : Cond} {A B : Nat → Prop} {U U1 : State} {H H1 : Heap} (h : xq_Z w A U H) (hvm : U.vm.Alike U1.vm) (hq : ∀ a : Nat, a < H.size → ¬ A a → H1[a]? = H[a]?) (hAB : ∀ q, B q → A q) : xq_Z w B U1 H1 := by
  obtain ⟨a, h1, h2, h3⟩ := h
  have h4 := hq a h1 h2
  refine ⟨a, ?_, fun z9 => h2 (hAB a z9), fun U' av h5 h6 => h3 U' av (hvm.trans h5) (h6.trans h4)⟩
  rw [Array.getElem?_eq_getElem h1] at h4
  exact (Array.getElem?_eq_some_iff.mp h4).1
theorem xq_Z.use {w : Cond} {A : Nat → Prop} {U : State} {H : Heap} (h : xq_Z w A U H) {U' : State} (av : Array Value) (hvm : U.vm.Alike U'.vm) (hq : ∀ a : Nat, a < H.size → ¬ A a → U'.heap[a]? = H[a]?) : w.before av U' = true := by
  obtain ⟨a, h1, h2, h3⟩ := h
  exact h3 U' av hvm (hq a h1 h2)
theorem xq_Zlay {av : Array Value} {C n d : String} {A : Nat → Prop} (h : (Cond.laysStatic C n d).before av s = true) (hA : ∀ a : Nat, a < s.heap.size → ¬ A a) : xq_Z (.laysStatic C n d) A s s.heap := by
  obtain ⟨c9, k9, i9, f9, a9, ce, h1, h2, h3, h4, h5, h6, h7, h8, h9⟩ := Cond.laysStatic_spec h
  have hlt := (Array.getElem?_eq_some_iff.mp h5).1
  refine ⟨a9, hlt, hA a9 hlt, fun U' av' hvm hq => ?_⟩
  obtain ⟨k', hi', he⟩ := State.fieldFound?_setVm hvm h2
  show (Cond.laysStatic C n d).holds av' U' none U' [] = true
  exact Cond.laysStatic_of (by rw [hvm.findClass]; exact h1) hi' h3 (by rw [he]; exact h4) (by rw [hq]; exact h5) h6 h7 h8 (by rw [he]; exact h9)
theorem xq_Zref {av : Array Value} {C n d : String} {A : Nat → Prop} (hl : (Cond.laysStatic C n d).before av s = true) (hini : (Cond.initialized C).before av s = true) (h : (Cond.isRef (.static C n d)).before av s = true) (hA : ∀ a : Nat, a < s.heap.size → ¬ A a) : xq_Z (.isRef (.static C n d)) A s s.heap := by
  have key : ∀ {v : Value}, v.isRef = true → va_Z C n d v A s s.heap → xq_Z (.isRef (.static C n d)) A s s.heap := by
    intro v hv ⟨cf, kf, fi, f9, a9, ce, h1, h2, h3, h4, h5, h6, h7, h8⟩
    refine ⟨a9, (Array.getElem?_eq_some_iff.mp h5).1, h8, fun U' av' hvm hq => ?_⟩
    obtain ⟨k', hi', he⟩ := State.fieldFound?_setVm hvm h1
    have h4' : k'.statics = some a9 := by rw [he]; exact h4
    have hi2 : U'.fieldFound? C n d = some (cf, k', fi, f9) := hi'
    have h3' : k'.init = .initialized := by rw [he]; exact h3
    have hev : (Term.static C n d).eval av' U' none [] U' = some v := by
      simp [Term.eval, State.fieldNamed?, hi2, h2, h4', hq, h5, h6, h7]
    simp only [Cond.before, Cond.holds, Cond.value, hev]
    clear he hi' hi2 hev h7
    cases v <;> first | rfl | (simp [Value.isRef] at hv)
  rcases va_Zqof hl hini h hA with h9 | ⟨t, h9⟩
  · exact key rfl h9
  · exact key rfl h9
/-- the same frame, seen as if the method were called at the heap that is there now -/
theorem xq_anew {T : State} (X : Stand p l e R s m args below meth c T locs k z) {R' : Room} (h1 : R'.frames ≤ R.frames) (h2 : R'.locals ≤ R.locals) (h3 : k + R'.cells ≤ R.cells) (h4 : z + R'.slots ≤ R.slots) : Stand p l e R' ((T.setVm s.vm).setFrames (.invoking m args :: below)) m args below meth c T [] 0 0 := by
  have htop : (T.setVm s.vm).topJava?.isSome := X.here.top
  have hF : ((T.setVm s.vm).setFrames (.invoking m args :: below)).frames = .invoking m args :: below := State.frames_setFrames _ (State.cur_lt_of_top htop)
  have hlim : e.platform.stackLimits (T.setVm s.vm).me = e.platform.stackLimits s.me := X.limits
  have hbyt : (T.setVm s.vm).me.stackBytes = s.me.stackBytes := X.bytes
  have hdrop : T.heap.toList.drop T.heap.size = [] := List.drop_eq_nil_of_le (Nat.le_of_eq Array.length_toList)
  obtain ⟨g₀, hg0⟩ := Option.isSome_iff_exists.mp htop
  obtain ⟨r, hr⟩ := State.topJava?_eq_some.mp hg0
  refine ⟨X.admits, X.cas, X.clock, hF, ?_, X.hears, X.method, X.code, X.here, X.tail, X.warmed, ?_, ?_, ?_, Nat.le_refl _, Nat.le_refl _, ?_, ?_, fun a c9 h9 => ⟨c9, h9, rfl, rfl, fun _ _ => rfl⟩⟩
  · have hroom := X.room
    have hU : ((T.setVm s.vm).setFrames (.invoking m args :: below)).localsInUse = s.localsInUse := by
      rw [State.localsInUse_invoking hF (meth := meth) (c := c) X.method X.code, State.localsInUse_invoking X.frames X.method X.code]
    have q1 := X.heapSize
    have q2 := X.used
    simp only [State.hasRoom, Bool.and_eq_true, decide_eq_true_eq] at hroom ⊢
    obtain ⟨⟨⟨⟨a1, a2, a3, a4, a5, a6⟩, a7⟩, a8⟩, a9⟩ := hroom
    rw [X.frames, List.length_cons] at a2 a3
    simp only [hF, hU, List.length_cons, State.stackLimits_setFrames, State.stackBytes_setFrames, hlim, hbyt]
    refine ⟨⟨⟨⟨by omega, by omega, by omega, by omega, by omega, a6⟩, ?_⟩, ?_⟩, X.book⟩
    · show T.heap.size + R'.cells ≤ e.platform.maxCells
      omega
    · show T.slotsUsed + R'.slots ≤ e.platform.maxSlots
      omega
  · rw [State.stackLimits_setFrames]; rfl
  · rw [State.stackBytes_setFrames]; rfl
  · obtain ⟨t, ht, -⟩ := State.frames_cons hr
    show T.setVm s.vm = { ((T.setVm s.vm).setFrames (.invoking m args :: below)).setFrames (T.setVm s.vm).frames with heap := T.heap, slotsUsed := T.slotsUsed }
    rw [State.setFrames_setFrames, State.setFrames_self ht]
    rfl
  · show T.slotsUsed = T.slotsUsed + ((T.heap.toList.drop T.heap.size).map (·.slots.size)).sum
    rw [hdrop]; rfl
  · show ((T.heap.toList.drop T.heap.size).map (·.slots.size)).sum ≤ 0
    rw [hdrop]; exact Nat.le_refl _
/-- the four words of a throw that read statics -/
def xq_sw : List Cond := [.isRef (.static Bundle.tN "UNASSIGNED_STACK" Bundle.steD), .isRef (.static Bundle.tN "SUPPRESSED_SENTINEL" Bundle.listD), .laysStatic Bundle.tN "UNASSIGNED_STACK" Bundle.steD, .laysStatic Bundle.tN "SUPPRESSED_SENTINEL" Bundle.listD]
/-- 'throw new E("text")' and out: new; dup; ldc; invokespecial; athrow. hat: each word that is asked holds by the tables, or reads a static that stays -/
theorem xq_throw {cc : ByteArray} {pc : Nat} {ls : Array Slot} {rest : List Value} {A : Nat → Prop} (hx : p.tables.exec = Jvm.exec) (hb : c.code = cc) (htr : l.stackTraces = false) {own E text : String} {names : List String} {ik is ic sa : Nat} (hown : s.vm.findClass own = some m.cls) (hE : Bundle.fit E = true) (hnames : ∀ n ∈ names, Bundle.fit n = true)
    (hk9 : (Cond.classLink own ik E).onTables = true ∧ (Cond.classLink own ik E).before args s = true) (hi9 : (Cond.initialized E).onTables = true ∧ (Cond.initialized E).before args s = true) (hstr : vk_R own is text sa s) (hat : ∀ w ∈ Bundle.ownAtoms own ic E names, (w.onTables = true ∧ w.before args s = true) ∨ xq_Z w A s s.heap) (hS : va_S A s.heap H locs) (hsize : ls.size = c.maxLocals)
    (d0 : decode cc pc = .ok (.new ik, 3)) (d3 : decode cc (pc + 3) = .ok (.dup, 1)) (d4 : decode cc (pc + 4) = .ok (.ldc is, 2)) (d6 : decode cc (pc + 6) = .ok (.invokespecial ic, 3)) (d9 : decode cc (pc + 9) = .ok (.athrow, 1)) (hout : c.exceptionTable.toList = [])
    (hR1 : names.length + 3 < R.frames) (hR2 : (rest.map fun v => v.category).sum + (13 * (names.length + 1) + 43) ≤ R.locals) (hR3 : k + 1 ≤ R.cells) (hR4 : z + 6 ≤ R.slots) (hlk : meth.locks = false)
    (hend : ∀ t : State, s.vm.Alike t.vm → H.size ≤ t.heap.size → (∀ q : Nat, q < H.size → t.heap[q]? = H[q]?) → Qx s E t) (hf : ∀ q ∈ locs, free q.base) (hk : k + 1 ≤ mc) (hz : z + 6 ≤ ms) :
    W p l e R s m args below meth c H locs k z (xq_Q below Qr Qx args s mc ms free) (F0 m pc ls rest) := by
  intro T hT X
  have htp : e.platform.stackTraces = false := (show e.platform.stackTraces = l.stackTraces by rw [X.admits.platform]).trans htr
  have Y := xq_anew X (R' := { frames := R.frames, locals := R.locals, cells := 1, slots := 6 }) (Nat.le_refl _) (Nat.le_refl _) hR3 hR4
  obtain ⟨u, hu⟩ : ∃ u, u = (T.setVm s.vm).setFrames (.invoking m args :: below) := ⟨_, rfl⟩
  rw [← hu] at Y
  have hvm : u.vm = s.vm := by rw [hu]; rfl
  have hhp : u.heap = H := by rw [hu]; exact hT
  have hW0 : s.WarmedH u.vm := by rw [hvm]; exact State.WarmedH.refl s
  have hto : ∀ w : Cond, w.onTables = true → w.before args s = true → w.before args u = true := fun w h1 h2 => va_tabs h1 hvm.symm h2
  have hall : ∀ w ∈ Bundle.ownAtoms own ic E names, w.before args u = true := fun w hw => by
    rcases hat w hw with ⟨h1, h2⟩ | h1
    · exact hto w h1 h2
    · exact h1.use args hW0.alike (fun a h2 h3 => by rw [hhp]; exact hS.2.1 a h2 h3)
  have hown' : u.vm.findClass own = some m.cls := by rw [hvm]; exact hown
  obtain ⟨vm₁, cX, kX, hfX, hkX, -, -, X₁, st1⟩ := Y.newCold hx (own := own) (C := E) (index := ik) (n := 6) hown' (hto _ hk9.1 hk9.2) (hall _ (by simp [Bundle.ownAtoms])) (hto _ hi9.1 hi9.2) (g := F0 m pc ls rest) rfl (by rw [hb]; exact d0) (Nat.le_refl _) (Nat.le_refl _)
  generalize hT1 : (T.setVm vm₁).pushCell { cls := cX, slots := kX.instanceTypes.map defaultValue, vm := .none } = T1 at X₁ st1
  have hcat : (Value.ref T.heap.size).category = 1 := rfl
  have hnew : T1.heap[T.heap.size]? = some (freshCell cX kX) := by rw [← hT1]; exact State.heap_pushCell_size _ _
  have d3' : decode c.code (pc + 3) = .ok (.dup, 1) := by rw [hb]; exact d3
  have hstr' : vk_R own is text sa u := hstr.warm hW0
  obtain ⟨U, hst, hrun, hended, hW, hsame, ce, hce, hO⟩ := X₁.ctorThrowS hx htp (own := own) (cls := E) (names := names) (ic := ic) hown' hE hnames hall (fun x9 hx9 => nomatch hx9) hfX hkX hnew (by rw [hhp, hT]; exact Nat.le_refl _) (msg := .ref sa) rfl
    (g := { method := m, pc := pc + 6, locals := ls, stack := .ref sa :: .ref T.heap.size :: .ref T.heap.size :: rest, locked := none }) rfl hsize rfl rfl (rest := rest) rfl (by rw [hb]; exact d6) (by rw [hb]; exact d9) (fun x9 hx9 => by rw [hout] at hx9; cases hx9) hR1 (by simp only [List.map_cons, List.sum_cons, hcat]; omega) hlk
  have hWs : s.WarmedH U.vm := State.WarmedH.trans hW0 hW
  obtain ⟨e1, e2, e3, e4, e5, e6⟩ := id hsame
  rw [hhp] at e2
  have hkeep : ∀ q : Nat, q < H.size → U.heap[q]? = H[q]? := by
    intro q hq
    have hq' : u.heap[q]? = some H[q] := by rw [hhp]; exact Array.getElem?_eq_getElem hq
    obtain ⟨c9, g1, g2, g3, g4⟩ := e6 q _ hq'
    have hs9 : c9.slots = (H[q]).slots := Array.ext_getElem? fun i => g4 i (fun h9 => nomatch h9)
    have h9 : c9 = H[q] := by rw [g2, hs9]
    have g5 : U.heap[q]? = some c9 := g1
    rw [g5, h9, Array.getElem?_eq_getElem hq]
  have hcl : s.vm.findClass E = some ce.cls := by
    have h9 := hO.cls
    rw [hvm] at h9
    exact h9
  have hnewS : s.sameButNew ({ U with vm := s.vm } : State) locs mc ms := by
    subst hu
    obtain ⟨f1, f2⟩ := hsame
    rw [State.setFrames_setFrames] at f1
    have h2 : (T.setVm s.vm).sameButNew ({ U with vm := s.vm } : State) [] (0 + 1) (0 + 6) := ⟨f1, f2⟩
    have h3 := X.same.trans h2
    rw [List.append_nil] at h3
    exact h3.mono hk hz
  refine ⟨U, st1 _ ?_, .threw T.heap.size, hrun, hended, locs, hWs, hnewS, hf, Or.inr ⟨T.heap.size, E, ce, rfl, hend U hWs.alike e2 hkeep, hce, hO.vm, hcl⟩⟩
  show Steps p.tables e below (T1.setTop { method := m, pc := pc + 3, locals := ls, stack := .ref T.heap.size :: rest, locked := none }) _
  jvm_step X₁.here [X₁.here.top, hx, d3', Value.category]
  exact X₁.ldcString hx (own := own) (text := text) (index := is) (a := sa) hown' hstr'.1 hstr'.2
    (g := { method := m, pc := pc + 4, locals := ls, stack := .ref T.heap.size :: .ref T.heap.size :: rest, locked := none }) rfl (by rw [hb]; exact d4) _ hst
end XQ
end
section
/-! THE ABSTRACT MACHINE: heaps as lists of cells (an address is a place in the list), values whose references are such places. -/
abbrev ac_E : Type := ((Nat × (Nat → Int32)) ⊕ (Nat × (Nat → Int64)) ⊕ (Nat × Nat × (Nat → Option Nat))) ⊕ (Nat × List Value)
abbrev ac_H : Type := List ac_E
/-- an answer, or the class that was thrown -/
abbrev ac_R : Type := Option Value ⊕ String
/-- where the script lies, and where each abstract address lies -/
abbrev ac_A : Type := Nat × (Nat → Nat)
def ac_v (σ : ac_A) : Value → Value
  | .ref a => .ref (σ.2 a)
  | .retAddr _ => .ref σ.1
  | v => v
theorem ac_v_cat (σ : ac_A) (v : Value) : (ac_v σ v).category = v.category := by cases v <;> rfl
def ac_lv (σ : ac_A) (q : Nat × Value) : Nat × Value := (q.1, ac_v σ q.2)
def ac_c (σ : ac_A) (dA : Nat → ClassId) : ac_E → va_E
  | .inl (.inl (n, f)) => .inl (dA 0, n, .inl f)
  | .inl (.inr (.inl (n, f))) => .inl (dA 1, n, .inr (.inl f))
  | .inl (.inr (.inr (k, n, g))) => .inl (dA (k + 2), n, .inr (.inr (.inr (.inr (fun j => (g j).map σ.2)))))
  | .inr (ci, fs) => .inr (ci, fs.map (ac_v σ))
def ac_w (σ : ac_A) (dA : Nat → ClassId) (h : ac_H) : va_W := h.mapIdx (fun i e => (σ.2 i, ac_c σ dA e))
/-- references lie in the heap -/
def ac_ok (n : Nat) (v : Value) : Prop := ∀ a, v = .ref a → a < n
def ac_okE (n : Nat) (e : ac_E) : Prop := match e with
  | .inl (.inl _) => True
  | .inl (.inr (.inl _)) => True
  | .inl (.inr (.inr (_, _, g))) => ∀ j a, g j = some a → a < n
  | .inr (_, fs) => ∀ v ∈ fs, ac_ok n v
def ac_okH (h : ac_H) : Prop := ∀ (i : Nat) (e : ac_E), h[i]? = some e → ac_okE h.length e
def ac_ag (n : Nat) (σ τ : ac_A) : Prop := σ.1 = τ.1 ∧ ∀ i, i < n → σ.2 i = τ.2 i
theorem ac_ag_rf {n : Nat} {σ : ac_A} : ac_ag n σ σ := ⟨rfl, fun _ _ => rfl⟩
theorem ac_ag_tr {n k : Nat} {σ τ ρ : ac_A} (h1 : ac_ag k σ τ) (h2 : ac_ag n τ ρ) (h : n ≤ k) : ac_ag n σ ρ := ⟨h1.1.trans h2.1, fun i hi => (h1.2 i (Nat.lt_of_lt_of_le hi h)).trans (h2.2 i hi)⟩
theorem ac_v_ag {n : Nat} {σ τ : ac_A} (h : ac_ag n σ τ) {v : Value} (hv : ac_ok n v) : ac_v σ v = ac_v τ v := by
  cases v with
  | ref a => exact congrArg Value.ref (h.2 a (hv a rfl))
  | retAddr p => exact congrArg Value.ref h.1
  | _ => rfl
theorem ac_S_ag {n : Nat} {σ τ : ac_A} (h : ac_ag n σ τ) {S : List Value} (hS : ∀ v ∈ S, ac_ok n v) : S.map (ac_v σ) = S.map (ac_v τ) := List.map_congr_left fun v hv => ac_v_ag h (hS v hv)
theorem ac_L_ag {n : Nat} {σ τ : ac_A} (h : ac_ag n σ τ) {L : List (Nat × Value)} (hL : ∀ q ∈ L, ac_ok n q.2) : L.map (ac_lv σ) = L.map (ac_lv τ) := List.map_congr_left fun q hq => by
  show (q.1, ac_v σ q.2) = (q.1, ac_v τ q.2)
  rw [ac_v_ag h (hL q hq)]
theorem ac_c_ag {n : Nat} {σ τ : ac_A} (dA : Nat → ClassId) (h : ac_ag n σ τ) {e : ac_E} (he : ac_okE n e) : ac_c σ dA e = ac_c τ dA e := by
  match e, he with
  | .inl (.inl (_, _)), _ => rfl
  | .inl (.inr (.inl (_, _))), _ => rfl
  | .inl (.inr (.inr (k, m, g))), he =>
    have : (fun j => (g j).map σ.2) = (fun j => (g j).map τ.2) := by
      funext j
      cases hj : g j with
      | none => rfl
      | some a => exact congrArg some (h.2 a (he j a hj))
    simp only [ac_c, this]
  | .inr (ci, fs), he => simp only [ac_c, ac_S_ag h he]
theorem ac_w_get (σ : ac_A) (dA : Nat → ClassId) (h : ac_H) (i : Nat) : (ac_w σ dA h)[i]? = (h[i]?).map (fun e => (σ.2 i, ac_c σ dA e)) := by simp [ac_w]
theorem ac_w_at {σ : ac_A} {dA : Nat → ClassId} {h : ac_H} {i : Nat} {e : ac_E} (he : h[i]? = some e) : (ac_w σ dA h)[i]? = some (σ.2 i, ac_c σ dA e) := by rw [ac_w_get, he]; rfl
theorem ac_w_set (σ : ac_A) (dA : Nat → ClassId) (h : ac_H) (i : Nat) (e : ac_E) : ac_w σ dA (h.set i e) = (ac_w σ dA h).set i (σ.2 i, ac_c σ dA e) := by
  apply List.ext_getElem?
  intro j
  rw [ac_w_get, List.getElem?_set, List.getElem?_set, ac_w_get]
  have hl : (ac_w σ dA h).length = h.length := by simp [ac_w]
  rw [hl]
  by_cases hij : i = j
  · subst hij
    by_cases hi : i < h.length <;> simp [hi]
  · simp [hij]
theorem ac_w_ag {σ τ : ac_A} (dA : Nat → ClassId) {h : ac_H} (ha : ac_ag h.length σ τ) (ho : ac_okH h) : ac_w σ dA h = ac_w τ dA h := by
  apply List.ext_getElem?
  intro j
  rw [ac_w_get, ac_w_get]
  cases hj : h[j]? with
  | none => rfl
  | some e =>
    have hl : j < h.length := (List.getElem?_eq_some_iff.mp hj).1
    show some (σ.2 j, ac_c σ dA e) = some (τ.2 j, ac_c τ dA e)
    rw [ha.2 j hl, ac_c_ag dA ha (ho j e hj)]
theorem ac_w_push (σ : ac_A) (dA : Nat → ClassId) (h : ac_H) (e : ac_E) : ac_w σ dA (h ++ [e]) = ac_w σ dA h ++ [(σ.2 h.length, ac_c σ dA e)] := by
  simp [ac_w, List.mapIdx_append]
theorem ac_ok_mono {n k : Nat} {v : Value} (h : ac_ok n v) (hk : n ≤ k) : ac_ok k v := fun a ha => Nat.lt_of_lt_of_le (h a ha) hk
theorem ac_okE_mono {n k : Nat} {e : ac_E} (h : ac_okE n e) (hk : n ≤ k) : ac_okE k e := by
  match e, h with
  | .inl (.inl _), _ => trivial
  | .inl (.inr (.inl _)), _ => trivial
  | .inl (.inr (.inr (_, _, _))), h => exact fun j a hj => Nat.lt_of_lt_of_le (h j a hj) hk
  | .inr (_, _), h => exact fun v hv => ac_ok_mono (h v hv) hk
theorem ac_okH_set {h : ac_H} (ho : ac_okH h) {i : Nat} {e : ac_E} (he : ac_okE h.length e) : ac_okH (h.set i e) := by
  intro j x hj
  rw [List.length_set]
  rw [List.getElem?_set] at hj
  by_cases hij : i = j
  · rw [if_pos hij] at hj
    by_cases hi : i < h.length
    · rw [if_pos hi] at hj
      cases hj
      exact he
    · rw [if_neg hi] at hj
      cases hj
  · rw [if_neg hij] at hj
    exact ho j x hj
theorem ac_okH_push {h : ac_H} (ho : ac_okH h) {e : ac_E} (he : ac_okE (h.length + 1) e) : ac_okH (h ++ [e]) := by
  intro j x hj
  have hl : (h ++ [e]).length = h.length + 1 := by simp
  rw [hl]
  by_cases hjl : j < h.length
  · rw [List.getElem?_append_left hjl] at hj
    exact ac_okE_mono (ho j x hj) (Nat.le_succ _)
  · rw [List.getElem?_append_right (by omega)] at hj
    have h0 : j - h.length < [e].length := (List.getElem?_eq_some_iff.mp hj).1
    have h1 : j - h.length = 0 := by
      have : [e].length = 1 := rfl
      omega
    rw [h1] at hj
    cases hj
    exact he
theorem ac_ok_int {n : Nat} {x : Int32} : ac_ok n (.int x) := fun _ h => nomatch h
theorem ac_ok_long {n : Nat} {x : Int64} : ac_ok n (.long x) := fun _ h => nomatch h
theorem ac_ok_scr {n k : Nat} : ac_ok n (.retAddr k) := fun _ h => nomatch h
theorem ac_ok_ref {n a : Nat} (h : a < n) : ac_ok n (.ref a) := fun b e => by cases e; exact h
theorem ac_okc {n : Nat} {v : Value} {S : List Value} (hv : ac_ok n v) (hS : ∀ x ∈ S, ac_ok n x) : ∀ x ∈ v :: S, ac_ok n x := fun x hx => (List.mem_cons.mp hx).elim (fun e => by rw [e]; exact hv) (hS x)
theorem ac_oku {n : Nat} {v : Value} {S : List Value} (hS : ∀ x ∈ v :: S, ac_ok n x) : ac_ok n v ∧ ∀ x ∈ S, ac_ok n x := ⟨hS v List.mem_cons_self, fun x hx => hS x (List.mem_cons_of_mem _ hx)⟩
theorem ac_lt {h : ac_H} {a : Nat} {e : ac_E} (he : h[a]? = some e) : a < h.length := (List.getElem?_eq_some_iff.mp he).1
/-- locals -/
def ac_get : List (Nat × Value) → Nat → Option Value
  | [], _ => none
  | (i, v) :: t, k => if i = k then some v else ac_get t k
def ac_del (L : List (Nat × Value)) (k : Nat) : List (Nat × Value) := L.filter (fun q => !(q.1 == k) && !(q.1 + 1 == k && q.2.category == 2))
def ac_put (L : List (Nat × Value)) (k : Nat) (v : Value) : List (Nat × Value) := (k, v) :: ac_del L k
theorem ac_get_mem : ∀ {L : List (Nat × Value)} {k : Nat} {v : Value}, ac_get L k = some v → (k, v) ∈ L
  | [], _, _, h => nomatch h
  | (i, w) :: t, k, v, h => by
    unfold ac_get at h
    by_cases e : i = k
    · rw [if_pos e] at h
      cases h
      rw [e]
      exact List.mem_cons_self
    · rw [if_neg e] at h
      exact List.mem_cons_of_mem _ (ac_get_mem h)
theorem ac_look {σ : ac_A} {ls : Array Slot} {n : Nat} {L : List (Nat × Value)} (h : lv_has ls n (L.map (ac_lv σ))) {k : Nat} {v : Value} (hl : ac_get L k = some v) : ls[k]? = some (.val (ac_v σ v)) := h.2.2 (k, ac_v σ v) (List.mem_map.mpr ⟨(k, v), ac_get_mem hl, rfl⟩)
theorem ac_del_map (σ : ac_A) (L : List (Nat × Value)) (k : Nat) : (ac_del L k).map (ac_lv σ) = (L.map (ac_lv σ)).filter (fun q => !(q.1 == k) && !(q.1 + 1 == k && q.2.category == 2)) := by
  unfold ac_del
  rw [List.filter_map]
  congr 1
  apply List.filter_congr
  intro q _
  simp [ac_lv, ac_v_cat]
theorem ac_put_map (σ : ac_A) (L : List (Nat × Value)) (k : Nat) (v : Value) : (k, ac_v σ v) :: (L.map (ac_lv σ)).filter (fun q => !(q.1 == k) && !(q.1 + 1 == k && q.2.category == 2)) = (ac_put L k v).map (ac_lv σ) := by
  rw [← ac_del_map]; rfl
theorem ac_okL_del {n k : Nat} {L : List (Nat × Value)} (h : ∀ q ∈ L, ac_ok n q.2) : ∀ q ∈ ac_del L k, ac_ok n q.2 := fun q hq => h q (List.mem_filter.mp hq).1
theorem ac_okL_put {n k : Nat} {v : Value} {L : List (Nat × Value)} (hv : ac_ok n v) (h : ∀ q ∈ L, ac_ok n q.2) : ∀ q ∈ ac_put L k v, ac_ok n q.2 := fun q hq => by
  rcases List.mem_cons.mp hq with e | e
  · rw [e]; exact hv
  · exact ac_okL_del h q e
theorem ac_args_map (σ : ac_A) : ∀ (i : Nat) (a : List Value), lv_args i (a.map (ac_v σ)) = (lv_args i a).map (ac_lv σ)
  | _, [] => rfl
  | i, v :: a => by
    simp only [List.map_cons, lv_args, ac_v_cat]
    rw [ac_args_map σ _ a]
    rfl
theorem ac_args_ok {n : Nat} : ∀ (i : Nat) (a : List Value), (∀ v ∈ a, ac_ok n v) → ∀ q ∈ lv_args i a, ac_ok n q.2
  | _, [], _, q, hq => nomatch hq
  | i, v :: a, h, q, hq => by
    rcases List.mem_cons.mp hq with e | e
    · rw [e]; exact h v List.mem_cons_self
    · exact ac_args_ok _ a (fun x hx => h x (List.mem_cons_of_mem _ hx)) q e
theorem ac_cats (σ : ac_A) (S : List Value) : ((S.map (ac_v σ)).map fun v => v.category) = (S.map fun v => v.category) := by
  rw [List.map_map]
  exact List.map_congr_left fun v _ => ac_v_cat σ v
/-- the array classes: ints, longs, then the kinds of objects -/
def ac_tys (dA : Nat → ClassId) : List (ClassId × FieldType) := (dA 0, .int) :: (dA 1, .long) :: ac_kn.mapIdx (fun k C => (dA (k + 2), .object C))
theorem ac_tys_k {dA : Nat → ClassId} {k : Nat} {C : String} (h : ac_kn[k]? = some C) : (ac_tys dA)[k + 2]? = some (dA (k + 2), .object C) := by
  simp [ac_tys, h]
/-- what stands outside the world: statics of Throwable, links of nest mates, arrays' classes, text constants, what can't be cast -/
def ac_X (A : Nat → Prop) (U : State) (H : Heap) : Prop := (∀ w ∈ xq_sw, xq_Z w A U H) ∧ (∀ w ∈ ac_ow, va_Nw w U) ∧ (∀ C ∈ ac_kn, va_AO C U) ∧ (∀ q ∈ ac_str, ∃ a, vk_R q.1 q.2.1 q.2.2 a U) ∧ (∀ q ∈ ac_nc, va_Nc q.1 q.2 U)
theorem ac_X.at {A B : Nat → Prop} {s U : State} {H H1 : Heap} (hW : s.WarmedH U.vm) (h : ac_X A s H) (hq : ∀ a : Nat, a < H.size → ¬ A a → H1[a]? = H[a]?) (hAB : ∀ q, B q → A q) : ac_X B U H1 :=
  ⟨fun w hw => (h.1 w hw).at hW.alike hq hAB, fun w hw => ac_ow_warm w hw hW (h.2.1 w hw), fun C hC => va_AO.moved hW.alike (h.2.2.1 C hC), fun q hq => by
    obtain ⟨a, ha⟩ := h.2.2.2.1 q hq
    exact ⟨a, ha.warm hW⟩, fun q hq => va_Nc.moved hW.alike (h.2.2.2.2 q hq)⟩
theorem ac_X.call {A : Nat → Prop} {U : State} {H : Heap} (g : JFrame) (mk : MethodId) (a : Array Value) (h : ac_X A U H) : ac_X A (U.calling g mk a) H :=
  ⟨fun w hw => (h.1 w hw).at (Vm.Alike.refl U.vm) (fun _ _ _ => rfl) (fun _ z9 => z9), fun w hw => va_Nw.same (u := U) (ac_ow_tab w hw) rfl (h.2.1 w hw), fun C hC => va_AO.moved (Vm.Alike.refl U.vm) (h.2.2.1 C hC), fun q hq => by
    obtain ⟨a', ha⟩ := h.2.2.2.1 q hq
    exact ⟨a', vk_R.same rfl ha⟩, fun q hq => va_Nc.moved (Vm.Alike.refl U.vm) (h.2.2.2.2 q hq)⟩
/-- the world at a point of a frame -/
def ac_Wd (D : va_G) (dA : Nat → ClassId) (A : Nat → Prop) (s : State) (n0 : Nat) (σ0 σ : ac_A) (h : ac_H) (H : Heap) (locs : List Loc) : Prop :=
  ac_okH h ∧ n0 ≤ h.length ∧ ac_ag n0 σ σ0 ∧ va_P D ac_cl (ac_w σ dA h) H ∧ va_D A (ac_w σ dA h) ∧ va_S A s.heap H locs
/-- launch, depth, method, cells, slots, what is owed at its end, how long the heap was, the script -/
abbrev ac_P : Type := Launch × Nat × ac_I × Nat × Nat × (ac_R → ac_H → Prop) × Nat × Option (Nat × (Nat → Int32))
abbrev ac_l (g : ac_P) : Launch := g.1
abbrev ac_d (g : ac_P) : Nat := g.2.1
abbrev ac_y (g : ac_P) : MethodName := g.2.2.1.1
abbrev ac_cc (g : ac_P) : ByteArray := g.2.2.1.2.1
abbrev ac_ml (g : ac_P) : Nat := g.2.2.1.2.2.1
abbrev ac_rt (g : ac_P) : Option FieldType := g.2.2.1.2.2.2.1
abbrev ac_hh (g : ac_P) : List (Nat × Nat × Nat × Nat) := g.2.2.1.2.2.2.2
abbrev ac_mc (g : ac_P) : Nat := g.2.2.2.1
abbrev ac_ms (g : ac_P) : Nat := g.2.2.2.2.1
abbrev ac_ph (g : ac_P) : ac_R → ac_H → Prop := g.2.2.2.2.2.1
abbrev ac_n0 (g : ac_P) : Nat := g.2.2.2.2.2.2.1
abbrev ac_sc (g : ac_P) : Option (Nat × (Nat → Int32)) := g.2.2.2.2.2.2.2
/-- how a method goes back with r at pc -/
def ac_back (g : ac_P) (pc : Nat) (r : Option Value) : Prop :=
  (∃ v, r = some (.int v) ∧ decode (ac_cc g) pc = .ok (.ireturn, 1) ∧ ∃ ty, ac_rt g = some ty ∧ narrow ty (.int v) = .int v) ∨
  (∃ a n, r = some (.ref a) ∧ decode (ac_cc g) pc = .ok (.areturn, 1) ∧ ac_rt g = some (.object n)) ∨
  (∃ a t, r = some (.ref a) ∧ decode (ac_cc g) pc = .ok (.areturn, 1) ∧ ac_rt g = some (.array t)) ∨
  (r = none ∧ decode (ac_cc g) pc = .ok (.return_, 1) ∧ ac_rt g = none)
/-- 'throw new E("..")' at pc: numbers of the class, of the text, of the constructor -/
def ac_thr (g : ac_P) (pc : Nat) (E : String) : Prop := ∃ (names : List String) (ik is ic : Nat) (text : String),
  Bundle.fit E = true ∧ (∀ n ∈ names, Bundle.fit n = true) ∧ Cond.classLink (ac_y g).cls ik E ∈ ac_U ∧ Cond.initialized E ∈ ac_U ∧ ((ac_y g).cls, is, text) ∈ ac_str ∧ (∀ w ∈ Bundle.ownAtoms (ac_y g).cls ic E names, (w ∈ ac_U ∧ w.onTables = true) ∨ w ∈ ac_ow ∨ w ∈ xq_sw) ∧
  decode (ac_cc g) pc = .ok (.new ik, 3) ∧ decode (ac_cc g) (pc + 3) = .ok (.dup, 1) ∧ decode (ac_cc g) (pc + 4) = .ok (.ldc is, 2) ∧ decode (ac_cc g) (pc + 6) = .ok (.invokespecial ic, 3) ∧ decode (ac_cc g) (pc + 9) = .ok (.athrow, 1) ∧ names.length + 3 < ac_d g ∧ 13 * (names.length + 1) + 51 ≤ 35 * ac_d g
/-- what a frame stands on: the machine, the tables, its room, and how it may end -/
def ac_C (g : ac_P) (p : Program) (e : Env) (R : Room) (s : State) (m : MethodId) (args : Array Value) (below : List Frame) (meth : Method) (c : Code) (D : va_G) (dA : Nat → ClassId) (A : Nat → Prop) (σ0 : ac_A) (Qf : State → Prop) : Prop :=
  (p.tables.exec = Jvm.exec ∧ c.code = ac_cc g ∧ c.maxLocals = ac_ml g ∧ s.vm.findClass (ac_y g).cls = some m.cls ∧ meth.name = (ac_y g).name ∧ (∀ w ∈ ac_U, w.before args s = true) ∧ c.exceptionTable.toList = tableOf (ac_hh g)) ∧
  (va_K D ac_cl (ac_tys dA) s ∧ ac_X A s s.heap ∧ (∀ q, s.heap.size ≤ q → A q) ∧ (ac_d g ≤ R.frames ∧ 35 * ac_d g ≤ R.locals ∧ R.cells = ac_mc g ∧ R.slots = ac_ms g)) ∧
  ((∀ (σ : ac_A) (h : ac_H) (H : Heap) (locs : List Loc) (k z : Nat) (r : Option Value) (pc : Nat) (ls : Array Slot), ac_Wd D dA A s (ac_n0 g) σ0 σ h H locs → ac_ph g (.inl r) h → k ≤ ac_mc g → z ≤ ac_ms g → (∀ v ∈ r.toList, ac_ok h.length v) → ac_back g pc r → W p (ac_l g) e R s m args below meth c H locs k z Qf (F0 m pc ls (r.toList.map (ac_v σ)))) ∧
   (∀ (σ : ac_A) (h : ac_H) (H : Heap) (locs : List Loc) (k z : Nat) (E : String) (ce : Cell) (q pc : Nat) (ls : Array Slot) (rest : List Value), ac_Wd D dA A s (ac_n0 g) σ0 σ h H locs → ac_ph g (.inr E) h → k ≤ ac_mc g → z ≤ ac_ms g → H[q]? = some ce → ce.vm = .none → s.vm.findClass E = some ce.cls → ac_hh g = [] → xq_W p (ac_l g) e R s m args below meth c H locs k z Qf (F0 m pc ls rest) q) ∧
   (∀ (σ : ac_A) (h : ac_H) (H : Heap) (locs : List Loc) (k z : Nat) (E : String) (pc : Nat) (ls : Array Slot) (rest : List Value), ac_Wd D dA A s (ac_n0 g) σ0 σ h H locs → ac_ph g (.inr E) h → k + 1 ≤ ac_mc g → z + 6 ≤ ac_ms g → ls.size = ac_ml g → (rest.map fun v => v.category).sum ≤ 8 → ac_hh g = [] → ac_thr g pc E → W p (ac_l g) e R s m args below meth c H locs k z Qf (F0 m pc ls rest))) ∧
  (∀ (L : Nat) (xs : Nat → Int32), ac_sc g = some (L, xs) → va_X σ0.1 L xs s s.heap ∧ σ0.1 < s.heap.size ∧ ¬ A σ0.1)
/-- from here the frame comes to an end that it owes, in every concrete heap that holds h -/
def ac_G (g : ac_P) (pc : Nat) (L : List (Nat × Value)) (S : List Value) (h : ac_H) (k z : Nat) : Prop :=
  ∀ (p : Program) (e : Env) (R : Room) (s : State) (m : MethodId) (args : Array Value) (below : List Frame) (meth : Method) (c : Code) (D : va_G) (dA : Nat → ClassId) (A : Nat → Prop) (σ0 : ac_A) (Qf : State → Prop), ac_C g p e R s m args below meth c D dA A σ0 Qf → ∀ (σ : ac_A) (H : Heap) (locs : List Loc) (ls : Array Slot), ac_Wd D dA A s (ac_n0 g) σ0 σ h H locs → (∀ q ∈ L, ac_ok h.length q.2) → (∀ v ∈ S, ac_ok h.length v) → lv_has ls (ac_ml g) (L.map (ac_lv σ)) → W p (ac_l g) e R s m args below meth c H locs k z Qf (F0 m pc ls (S.map (ac_v σ)))
theorem r_iconst {g : ac_P} {pc : Nat} {L : List (Nat × Value)} {S : List Value} {h : ac_H} {k z : Nat} {n : Int} (v : Int32) (hd : decode (ac_cc g) pc = .ok (.iconst n, 1)) (hv : Int32.ofInt n = v) (kk : ac_G g (pc + 1) L (.int v :: S) h k z) : ac_G g pc L S h k z := by
  intro p e R s m args below meth c D dA A σ0 Qf C σ H locs ls hW hL hS hl
  obtain ⟨⟨hx, hb, hml, hown, hnm, hts, htb⟩, ⟨hK, hX, hA, hR⟩, hend, hsc⟩ := id C
  exact lv_iconst hx hb hd hv (kk p e R s m args below meth c D dA A σ0 Qf C σ H locs ls hW hL (ac_okc ac_ok_int hS) hl)
theorem r_bipush {g : ac_P} {pc : Nat} {L : List (Nat × Value)} {S : List Value} {h : ac_H} {k z : Nat} {n : Int} (v : Int32) (hd : decode (ac_cc g) pc = .ok (.bipush n, 2)) (hv : (Int8.ofInt n).toInt32 = v) (kk : ac_G g (pc + 2) L (.int v :: S) h k z) : ac_G g pc L S h k z := by
  intro p e R s m args below meth c D dA A σ0 Qf C σ H locs ls hW hL hS hl
  obtain ⟨⟨hx, hb, hml, hown, hnm, hts, htb⟩, ⟨hK, hX, hA, hR⟩, hend, hsc⟩ := id C
  exact lv_bipush hx hb hd hv (kk p e R s m args below meth c D dA A σ0 Qf C σ H locs ls hW hL (ac_okc ac_ok_int hS) hl)
theorem r_sipush {g : ac_P} {pc : Nat} {L : List (Nat × Value)} {S : List Value} {h : ac_H} {k z : Nat} {n : Int} (v : Int32) (hd : decode (ac_cc g) pc = .ok (.sipush n, 3)) (hv : (Int16.ofInt n).toInt32 = v) (kk : ac_G g (pc + 3) L (.int v :: S) h k z) : ac_G g pc L S h k z := by
  intro p e R s m args below meth c D dA A σ0 Qf C σ H locs ls hW hL hS hl
  obtain ⟨⟨hx, hb, hml, hown, hnm, hts, htb⟩, ⟨hK, hX, hA, hR⟩, hend, hsc⟩ := id C
  exact lv_sipush hx hb hd hv (kk p e R s m args below meth c D dA A σ0 Qf C σ H locs ls hW hL (ac_okc ac_ok_int hS) hl)
theorem r_lconst {g : ac_P} {pc : Nat} {L : List (Nat × Value)} {S : List Value} {h : ac_H} {k z : Nat} {n : Fin 2} (v : Int64) (hd : decode (ac_cc g) pc = .ok (.lconst n, 1)) (hv : Int64.ofNat (n : Nat) = v) (kk : ac_G g (pc + 1) L (.long v :: S) h k z) : ac_G g pc L S h k z := by
  intro p e R s m args below meth c D dA A σ0 Qf C σ H locs ls hW hL hS hl
  obtain ⟨⟨hx, hb, hml, hown, hnm, hts, htb⟩, ⟨hK, hX, hA, hR⟩, hend, hsc⟩ := id C
  exact lv_lconst hx hb hd hv (kk p e R s m args below meth c D dA A σ0 Qf C σ H locs ls hW hL (ac_okc ac_ok_long hS) hl)
theorem r_ldc {g : ac_P} {pc : Nat} {L : List (Nat × Value)} {S : List Value} {h : ac_H} {k z : Nat} {index : Nat} (v : Int32) (hd : decode (ac_cc g) pc = .ok (.ldc index, 2)) (hc : Jvm.Cond.constant (ac_y g).cls index v ∈ ac_U) (kk : ac_G g (pc + 2) L (.int v :: S) h k z) : ac_G g pc L S h k z := by
  intro p e R s m args below meth c D dA A σ0 Qf C σ H locs ls hW hL hS hl
  obtain ⟨⟨hx, hb, hml, hown, hnm, hts, htb⟩, ⟨hK, hX, hA, hR⟩, hend, hsc⟩ := id C
  exact lv_ldc hx hb hown (hts _ hc) hd (kk p e R s m args below meth c D dA A σ0 Qf C σ H locs ls hW hL (ac_okc ac_ok_int hS) hl)
theorem r_iload_n {g : ac_P} {pc : Nat} {L : List (Nat × Value)} {S : List Value} {h : ac_H} {k z : Nat} {i : Fin 4} {x : Int32} (hd : decode (ac_cc g) pc = .ok (.iload_n i, 1)) (hl0 : ac_get L (i : Nat) = some (.int x)) (kk : ac_G g (pc + 1) L (.int x :: S) h k z) : ac_G g pc L S h k z := by
  intro p e R s m args below meth c D dA A σ0 Qf C σ H locs ls hW hL hS hl
  obtain ⟨⟨hx, hb, hml, hown, hnm, hts, htb⟩, ⟨hK, hX, hA, hR⟩, hend, hsc⟩ := id C
  exact lv_iload_n hx hb hd rfl (ac_look hl hl0) (kk p e R s m args below meth c D dA A σ0 Qf C σ H locs ls hW hL (ac_okc ac_ok_int hS) hl)
theorem r_iload {g : ac_P} {pc : Nat} {L : List (Nat × Value)} {S : List Value} {h : ac_H} {k z : Nat} {i : Nat} {x : Int32} (hd : decode (ac_cc g) pc = .ok (.iload i, 2)) (hl0 : ac_get L i = some (.int x)) (kk : ac_G g (pc + 2) L (.int x :: S) h k z) : ac_G g pc L S h k z := by
  intro p e R s m args below meth c D dA A σ0 Qf C σ H locs ls hW hL hS hl
  obtain ⟨⟨hx, hb, hml, hown, hnm, hts, htb⟩, ⟨hK, hX, hA, hR⟩, hend, hsc⟩ := id C
  exact lv_iload hx hb hd (ac_look hl hl0) (kk p e R s m args below meth c D dA A σ0 Qf C σ H locs ls hW hL (ac_okc ac_ok_int hS) hl)
theorem r_aload_n {g : ac_P} {pc : Nat} {L : List (Nat × Value)} {S : List Value} {h : ac_H} {k z : Nat} {i : Fin 4} {a : Nat} (hd : decode (ac_cc g) pc = .ok (.aload_n i, 1)) (hl0 : ac_get L (i : Nat) = some (.ref a)) (kk : ac_G g (pc + 1) L (.ref a :: S) h k z) : ac_G g pc L S h k z := by
  intro p e R s m args below meth c D dA A σ0 Qf C σ H locs ls hW hL hS hl
  obtain ⟨⟨hx, hb, hml, hown, hnm, hts, htb⟩, ⟨hK, hX, hA, hR⟩, hend, hsc⟩ := id C
  exact lv_aload_n hx hb hd rfl (ac_look hl hl0) (kk p e R s m args below meth c D dA A σ0 Qf C σ H locs ls hW hL (ac_okc (hL _ (ac_get_mem hl0)) hS) hl)
theorem r_aload {g : ac_P} {pc : Nat} {L : List (Nat × Value)} {S : List Value} {h : ac_H} {k z : Nat} {i : Nat} {a : Nat} (hd : decode (ac_cc g) pc = .ok (.aload i, 2)) (hl0 : ac_get L i = some (.ref a)) (kk : ac_G g (pc + 2) L (.ref a :: S) h k z) : ac_G g pc L S h k z := by
  intro p e R s m args below meth c D dA A σ0 Qf C σ H locs ls hW hL hS hl
  obtain ⟨⟨hx, hb, hml, hown, hnm, hts, htb⟩, ⟨hK, hX, hA, hR⟩, hend, hsc⟩ := id C
  exact lv_aload hx hb hd (ac_look hl hl0) (kk p e R s m args below meth c D dA A σ0 Qf C σ H locs ls hW hL (ac_okc (hL _ (ac_get_mem hl0)) hS) hl)
theorem r_aload_nS {g : ac_P} {pc : Nat} {L : List (Nat × Value)} {S : List Value} {h : ac_H} {k z : Nat} {i : Fin 4} {a : Nat} (hd : decode (ac_cc g) pc = .ok (.aload_n i, 1)) (hl0 : ac_get L (i : Nat) = some (.retAddr a)) (kk : ac_G g (pc + 1) L (.retAddr a :: S) h k z) : ac_G g pc L S h k z := by
  intro p e R s m args below meth c D dA A σ0 Qf C σ H locs ls hW hL hS hl
  obtain ⟨⟨hx, hb, hml, hown, hnm, hts, htb⟩, ⟨hK, hX, hA, hR⟩, hend, hsc⟩ := id C
  exact lv_aload_n hx hb hd rfl (ac_look hl hl0) (kk p e R s m args below meth c D dA A σ0 Qf C σ H locs ls hW hL (ac_okc (hL _ (ac_get_mem hl0)) hS) hl)
theorem r_aloadS {g : ac_P} {pc : Nat} {L : List (Nat × Value)} {S : List Value} {h : ac_H} {k z : Nat} {i : Nat} {a : Nat} (hd : decode (ac_cc g) pc = .ok (.aload i, 2)) (hl0 : ac_get L i = some (.retAddr a)) (kk : ac_G g (pc + 2) L (.retAddr a :: S) h k z) : ac_G g pc L S h k z := by
  intro p e R s m args below meth c D dA A σ0 Qf C σ H locs ls hW hL hS hl
  obtain ⟨⟨hx, hb, hml, hown, hnm, hts, htb⟩, ⟨hK, hX, hA, hR⟩, hend, hsc⟩ := id C
  exact lv_aload hx hb hd (ac_look hl hl0) (kk p e R s m args below meth c D dA A σ0 Qf C σ H locs ls hW hL (ac_okc (hL _ (ac_get_mem hl0)) hS) hl)
theorem r_istore_n {g : ac_P} {pc : Nat} {L : List (Nat × Value)} {S : List Value} {h : ac_H} {k z : Nat} {i : Fin 4} {x : Int32} (hd : decode (ac_cc g) pc = .ok (.istore_n i, 1)) (hn : (i : Nat) < ac_ml g) (kk : ac_G g (pc + 1) (ac_put L (i : Nat) (.int x)) S h k z) : ac_G g pc L (.int x :: S) h k z := by
  intro p e R s m args below meth c D dA A σ0 Qf C σ H locs ls hW hL hS hl
  obtain ⟨⟨hx, hb, hml, hown, hnm, hts, htb⟩, ⟨hK, hX, hA, hR⟩, hend, hsc⟩ := id C
  exact lv_istore_n hx hb hd rfl hl hn (ac_put_map σ L (i : Nat) (.int x)) (fun ls' hl' => kk p e R s m args below meth c D dA A σ0 Qf C σ H locs ls' hW (ac_okL_put (ac_oku hS).1 hL) (ac_oku hS).2 hl')
theorem r_istore {g : ac_P} {pc : Nat} {L : List (Nat × Value)} {S : List Value} {h : ac_H} {k z : Nat} {i : Nat} {x : Int32} (hd : decode (ac_cc g) pc = .ok (.istore i, 2)) (hn : i < ac_ml g) (kk : ac_G g (pc + 2) (ac_put L i (.int x)) S h k z) : ac_G g pc L (.int x :: S) h k z := by
  intro p e R s m args below meth c D dA A σ0 Qf C σ H locs ls hW hL hS hl
  obtain ⟨⟨hx, hb, hml, hown, hnm, hts, htb⟩, ⟨hK, hX, hA, hR⟩, hend, hsc⟩ := id C
  exact lv_istore hx hb hd hl hn (ac_put_map σ L i (.int x)) (fun ls' hl' => kk p e R s m args below meth c D dA A σ0 Qf C σ H locs ls' hW (ac_okL_put (ac_oku hS).1 hL) (ac_oku hS).2 hl')
theorem r_astore_n {g : ac_P} {pc : Nat} {L : List (Nat × Value)} {S : List Value} {h : ac_H} {k z : Nat} {i : Fin 4} {x : Nat} (hd : decode (ac_cc g) pc = .ok (.astore_n i, 1)) (hn : (i : Nat) < ac_ml g) (kk : ac_G g (pc + 1) (ac_put L (i : Nat) (.ref x)) S h k z) : ac_G g pc L (.ref x :: S) h k z := by
  intro p e R s m args below meth c D dA A σ0 Qf C σ H locs ls hW hL hS hl
  obtain ⟨⟨hx, hb, hml, hown, hnm, hts, htb⟩, ⟨hK, hX, hA, hR⟩, hend, hsc⟩ := id C
  exact lv_astore_n hx hb hd rfl hl hn (ac_put_map σ L (i : Nat) (.ref x)) (fun ls' hl' => kk p e R s m args below meth c D dA A σ0 Qf C σ H locs ls' hW (ac_okL_put (ac_oku hS).1 hL) (ac_oku hS).2 hl')
theorem r_astore {g : ac_P} {pc : Nat} {L : List (Nat × Value)} {S : List Value} {h : ac_H} {k z : Nat} {i : Nat} {x : Nat} (hd : decode (ac_cc g) pc = .ok (.astore i, 2)) (hn : i < ac_ml g) (kk : ac_G g (pc + 2) (ac_put L i (.ref x)) S h k z) : ac_G g pc L (.ref x :: S) h k z := by
  intro p e R s m args below meth c D dA A σ0 Qf C σ H locs ls hW hL hS hl
  obtain ⟨⟨hx, hb, hml, hown, hnm, hts, htb⟩, ⟨hK, hX, hA, hR⟩, hend, hsc⟩ := id C
  exact lv_astore hx hb hd hl hn (ac_put_map σ L i (.ref x)) (fun ls' hl' => kk p e R s m args below meth c D dA A σ0 Qf C σ H locs ls' hW (ac_okL_put (ac_oku hS).1 hL) (ac_oku hS).2 hl')
theorem ac_get_at : ∀ {L : List (Nat × Value)} {k : Nat} {v : Value}, ac_get L k = some v → ∃ j : Nat, L[j]? = some (k, v) := fun h => List.getElem?_of_mem (ac_get_mem h)
theorem r_iinc {g : ac_P} {pc : Nat} {L : List (Nat × Value)} {S : List Value} {h : ac_H} {k z : Nat} {i : Nat} {n : Int} {x : Int32} (v : Int32) (hd : decode (ac_cc g) pc = .ok (.iinc i n, 3)) (hl0 : ac_get L i = some (.int x)) (hv : x + Int32.ofInt n = v) (hn : i < ac_ml g) (kk : ac_G g (pc + 3) (ac_put L i (.int v)) S h k z) : ac_G g pc L S h k z := by
  intro p e R s m args below meth c D dA A σ0 Qf C σ H locs ls hW hL hS hl
  obtain ⟨⟨hx, hb, hml, hown, hnm, hts, htb⟩, ⟨hK, hX, hA, hR⟩, hend, hsc⟩ := id C
  obtain ⟨j, hj⟩ := ac_get_at hl0
  exact lv_iinc (k := j) hx hb hd hl (by rw [List.getElem?_map, hj]; rfl) hv hn (ac_put_map σ L i (.int v)) (fun ls' hl' => kk p e R s m args below meth c D dA A σ0 Qf C σ H locs ls' hW (ac_okL_put ac_ok_int hL) hS hl')
theorem r_iadd {g : ac_P} {pc : Nat} {L : List (Nat × Value)} {S : List Value} {h : ac_H} {k z : Nat} {x y : Int32} (hd : decode (ac_cc g) pc = .ok (.iadd, 1)) (kk : ac_G g (pc + 1) L (.int (x + y) :: S) h k z) : ac_G g pc L (.int y :: .int x :: S) h k z := by
  intro p e R s m args below meth c D dA A σ0 Qf C σ H locs ls hW hL hS hl
  obtain ⟨⟨hx, hb, hml, hown, hnm, hts, htb⟩, ⟨hK, hX, hA, hR⟩, hend, hsc⟩ := id C
  exact lv_iadd hx hb hd (kk p e R s m args below meth c D dA A σ0 Qf C σ H locs ls hW hL (ac_okc ac_ok_int (ac_oku (ac_oku hS).2).2) hl)
theorem r_isub {g : ac_P} {pc : Nat} {L : List (Nat × Value)} {S : List Value} {h : ac_H} {k z : Nat} {x y : Int32} (hd : decode (ac_cc g) pc = .ok (.isub, 1)) (kk : ac_G g (pc + 1) L (.int (x - y) :: S) h k z) : ac_G g pc L (.int y :: .int x :: S) h k z := by
  intro p e R s m args below meth c D dA A σ0 Qf C σ H locs ls hW hL hS hl
  obtain ⟨⟨hx, hb, hml, hown, hnm, hts, htb⟩, ⟨hK, hX, hA, hR⟩, hend, hsc⟩ := id C
  exact lv_isub hx hb hd (kk p e R s m args below meth c D dA A σ0 Qf C σ H locs ls hW hL (ac_okc ac_ok_int (ac_oku (ac_oku hS).2).2) hl)
theorem r_imul {g : ac_P} {pc : Nat} {L : List (Nat × Value)} {S : List Value} {h : ac_H} {k z : Nat} {x y : Int32} (hd : decode (ac_cc g) pc = .ok (.imul, 1)) (kk : ac_G g (pc + 1) L (.int (x * y) :: S) h k z) : ac_G g pc L (.int y :: .int x :: S) h k z := by
  intro p e R s m args below meth c D dA A σ0 Qf C σ H locs ls hW hL hS hl
  obtain ⟨⟨hx, hb, hml, hown, hnm, hts, htb⟩, ⟨hK, hX, hA, hR⟩, hend, hsc⟩ := id C
  exact lv_imul hx hb hd (kk p e R s m args below meth c D dA A σ0 Qf C σ H locs ls hW hL (ac_okc ac_ok_int (ac_oku (ac_oku hS).2).2) hl)
theorem r_iand {g : ac_P} {pc : Nat} {L : List (Nat × Value)} {S : List Value} {h : ac_H} {k z : Nat} {x y : Int32} (hd : decode (ac_cc g) pc = .ok (.iand, 1)) (kk : ac_G g (pc + 1) L (.int (x &&& y) :: S) h k z) : ac_G g pc L (.int y :: .int x :: S) h k z := by
  intro p e R s m args below meth c D dA A σ0 Qf C σ H locs ls hW hL hS hl
  obtain ⟨⟨hx, hb, hml, hown, hnm, hts, htb⟩, ⟨hK, hX, hA, hR⟩, hend, hsc⟩ := id C
  exact lv_iand hx hb hd (kk p e R s m args below meth c D dA A σ0 Qf C σ H locs ls hW hL (ac_okc ac_ok_int (ac_oku (ac_oku hS).2).2) hl)
theorem r_ior {g : ac_P} {pc : Nat} {L : List (Nat × Value)} {S : List Value} {h : ac_H} {k z : Nat} {x y : Int32} (hd : decode (ac_cc g) pc = .ok (.ior, 1)) (kk : ac_G g (pc + 1) L (.int (x ||| y) :: S) h k z) : ac_G g pc L (.int y :: .int x :: S) h k z := by
  intro p e R s m args below meth c D dA A σ0 Qf C σ H locs ls hW hL hS hl
  obtain ⟨⟨hx, hb, hml, hown, hnm, hts, htb⟩, ⟨hK, hX, hA, hR⟩, hend, hsc⟩ := id C
  exact lv_ior hx hb hd (kk p e R s m args below meth c D dA A σ0 Qf C σ H locs ls hW hL (ac_okc ac_ok_int (ac_oku (ac_oku hS).2).2) hl)
theorem r_ixor {g : ac_P} {pc : Nat} {L : List (Nat × Value)} {S : List Value} {h : ac_H} {k z : Nat} {x y : Int32} (hd : decode (ac_cc g) pc = .ok (.ixor, 1)) (kk : ac_G g (pc + 1) L (.int (x ^^^ y) :: S) h k z) : ac_G g pc L (.int y :: .int x :: S) h k z := by
  intro p e R s m args below meth c D dA A σ0 Qf C σ H locs ls hW hL hS hl
  obtain ⟨⟨hx, hb, hml, hown, hnm, hts, htb⟩, ⟨hK, hX, hA, hR⟩, hend, hsc⟩ := id C
  exact lv_ixor hx hb hd (kk p e R s m args below meth c D dA A σ0 Qf C σ H locs ls hW hL (ac_okc ac_ok_int (ac_oku (ac_oku hS).2).2) hl)
theorem r_ishr {g : ac_P} {pc : Nat} {L : List (Nat × Value)} {S : List Value} {h : ac_H} {k z : Nat} {x y : Int32} (hd : decode (ac_cc g) pc = .ok (.ishr, 1)) (kk : ac_G g (pc + 1) L (.int (x >>> (y &&& 31)) :: S) h k z) : ac_G g pc L (.int y :: .int x :: S) h k z := by
  intro p e R s m args below meth c D dA A σ0 Qf C σ H locs ls hW hL hS hl
  obtain ⟨⟨hx, hb, hml, hown, hnm, hts, htb⟩, ⟨hK, hX, hA, hR⟩, hend, hsc⟩ := id C
  exact lv_ishr hx hb hd (kk p e R s m args below meth c D dA A σ0 Qf C σ H locs ls hW hL (ac_okc ac_ok_int (ac_oku (ac_oku hS).2).2) hl)
theorem r_ishl {g : ac_P} {pc : Nat} {L : List (Nat × Value)} {S : List Value} {h : ac_H} {k z : Nat} {x y : Int32} (hd : decode (ac_cc g) pc = .ok (.ishl, 1)) (kk : ac_G g (pc + 1) L (.int (x <<< (y &&& 31)) :: S) h k z) : ac_G g pc L (.int y :: .int x :: S) h k z := by
  intro p e R s m args below meth c D dA A σ0 Qf C σ H locs ls hW hL hS hl
  obtain ⟨⟨hx, hb, hml, hown, hnm, hts, htb⟩, ⟨hK, hX, hA, hR⟩, hend, hsc⟩ := id C
  exact lv_ishl hx hb hd (kk p e R s m args below meth c D dA A σ0 Qf C σ H locs ls hW hL (ac_okc ac_ok_int (ac_oku (ac_oku hS).2).2) hl)
theorem r_idiv {g : ac_P} {pc : Nat} {L : List (Nat × Value)} {S : List Value} {h : ac_H} {k z : Nat} {x y : Int32} (hd : decode (ac_cc g) pc = .ok (.idiv, 1)) (hne : ¬ y = 0) (kk : ac_G g (pc + 1) L (.int (x / y) :: S) h k z) : ac_G g pc L (.int y :: .int x :: S) h k z := by
  intro p e R s m args below meth c D dA A σ0 Qf C σ H locs ls hW hL hS hl
  obtain ⟨⟨hx, hb, hml, hown, hnm, hts, htb⟩, ⟨hK, hX, hA, hR⟩, hend, hsc⟩ := id C
  exact lv_idiv hx hb hd hne (kk p e R s m args below meth c D dA A σ0 Qf C σ H locs ls hW hL (ac_okc ac_ok_int (ac_oku (ac_oku hS).2).2) hl)
theorem r_irem {g : ac_P} {pc : Nat} {L : List (Nat × Value)} {S : List Value} {h : ac_H} {k z : Nat} {x y : Int32} (hd : decode (ac_cc g) pc = .ok (.irem, 1)) (hne : ¬ y = 0) (kk : ac_G g (pc + 1) L (.int (x - x / y * y) :: S) h k z) : ac_G g pc L (.int y :: .int x :: S) h k z := by
  intro p e R s m args below meth c D dA A σ0 Qf C σ H locs ls hW hL hS hl
  obtain ⟨⟨hx, hb, hml, hown, hnm, hts, htb⟩, ⟨hK, hX, hA, hR⟩, hend, hsc⟩ := id C
  exact lv_irem hx hb hd hne (kk p e R s m args below meth c D dA A σ0 Qf C σ H locs ls hW hL (ac_okc ac_ok_int (ac_oku (ac_oku hS).2).2) hl)
theorem r_ineg {g : ac_P} {pc : Nat} {L : List (Nat × Value)} {S : List Value} {h : ac_H} {k z : Nat} {x : Int32} (hd : decode (ac_cc g) pc = .ok (.ineg, 1)) (kk : ac_G g (pc + 1) L (.int (-x) :: S) h k z) : ac_G g pc L (.int x :: S) h k z := by
  intro p e R s m args below meth c D dA A σ0 Qf C σ H locs ls hW hL hS hl
  obtain ⟨⟨hx, hb, hml, hown, hnm, hts, htb⟩, ⟨hK, hX, hA, hR⟩, hend, hsc⟩ := id C
  exact lv_ineg hx hb hd (kk p e R s m args below meth c D dA A σ0 Qf C σ H locs ls hW hL (ac_okc ac_ok_int (ac_oku hS).2) hl)
theorem r_i2l {g : ac_P} {pc : Nat} {L : List (Nat × Value)} {S : List Value} {h : ac_H} {k z : Nat} {x : Int32} (hd : decode (ac_cc g) pc = .ok (.i2l, 1)) (kk : ac_G g (pc + 1) L (.long x.toInt64 :: S) h k z) : ac_G g pc L (.int x :: S) h k z := by
  intro p e R s m args below meth c D dA A σ0 Qf C σ H locs ls hW hL hS hl
  obtain ⟨⟨hx, hb, hml, hown, hnm, hts, htb⟩, ⟨hK, hX, hA, hR⟩, hend, hsc⟩ := id C
  exact lv_i2l hx hb hd rfl (kk p e R s m args below meth c D dA A σ0 Qf C σ H locs ls hW hL (ac_okc ac_ok_long (ac_oku hS).2) hl)
theorem r_lcmp {g : ac_P} {pc : Nat} {L : List (Nat × Value)} {S : List Value} {h : ac_H} {k z : Nat} {x y : Int64} (hd : decode (ac_cc g) pc = .ok (.lcmp, 1)) (kk : ac_G g (pc + 1) L (.int (lg_cmp x y) :: S) h k z) : ac_G g pc L (.long y :: .long x :: S) h k z := by
  intro p e R s m args below meth c D dA A σ0 Qf C σ H locs ls hW hL hS hl
  obtain ⟨⟨hx, hb, hml, hown, hnm, hts, htb⟩, ⟨hK, hX, hA, hR⟩, hend, hsc⟩ := id C
  exact W.lcmp hx hb hd (kk p e R s m args below meth c D dA A σ0 Qf C σ H locs ls hW hL (ac_okc ac_ok_int (ac_oku (ac_oku hS).2).2) hl)
theorem r_topi {g : ac_P} {pc : Nat} {L : List (Nat × Value)} {S : List Value} {h : ac_H} {k z : Nat} {x : Int32} (kk : ∀ y : Int32, y = x → ac_G g pc L (.int y :: S) h k z) : ac_G g pc L (.int x :: S) h k z := kk x rfl
theorem r_dup {g : ac_P} {pc : Nat} {L : List (Nat × Value)} {S : List Value} {h : ac_H} {k z : Nat} {v : Value} (hd : decode (ac_cc g) pc = .ok (.dup, 1)) (hc : v.category = 1) (kk : ac_G g (pc + 1) L (v :: v :: S) h k z) : ac_G g pc L (v :: S) h k z := by
  intro p e R s m args below meth c D dA A σ0 Qf C σ H locs ls hW hL hS hl
  obtain ⟨⟨hx, hb, hml, hown, hnm, hts, htb⟩, ⟨hK, hX, hA, hR⟩, hend, hsc⟩ := id C
  exact lv_dup hx hb hd ((ac_v_cat σ v).trans hc) (kk p e R s m args below meth c D dA A σ0 Qf C σ H locs ls hW hL (ac_okc (ac_oku hS).1 hS) hl)
theorem r_pop {g : ac_P} {pc : Nat} {L : List (Nat × Value)} {S : List Value} {h : ac_H} {k z : Nat} {v : Value} (hd : decode (ac_cc g) pc = .ok (.pop, 1)) (hc : v.category = 1) (kk : ac_G g (pc + 1) L S h k z) : ac_G g pc L (v :: S) h k z := by
  intro p e R s m args below meth c D dA A σ0 Qf C σ H locs ls hW hL hS hl
  obtain ⟨⟨hx, hb, hml, hown, hnm, hts, htb⟩, ⟨hK, hX, hA, hR⟩, hend, hsc⟩ := id C
  exact lv_pop hx hb hd ((ac_v_cat σ v).trans hc) (kk p e R s m args below meth c D dA A σ0 Qf C σ H locs ls hW hL (ac_oku hS).2 hl)
theorem r_dup_x1 {g : ac_P} {pc : Nat} {L : List (Nat × Value)} {S : List Value} {h : ac_H} {k z : Nat} {v w : Value} (hd : decode (ac_cc g) pc = .ok (.dup_x1, 1)) (hc : v.category = 1) (hc2 : w.category = 1) (kk : ac_G g (pc + 1) L (v :: w :: v :: S) h k z) : ac_G g pc L (v :: w :: S) h k z := by
  intro p e R s m args below meth c D dA A σ0 Qf C σ H locs ls hW hL hS hl
  obtain ⟨⟨hx, hb, hml, hown, hnm, hts, htb⟩, ⟨hK, hX, hA, hR⟩, hend, hsc⟩ := id C
  exact lv_dup_x1 hx hb hd ((ac_v_cat σ v).trans hc) ((ac_v_cat σ w).trans hc2) (kk p e R s m args below meth c D dA A σ0 Qf C σ H locs ls hW hL (ac_okc (ac_oku hS).1 (ac_okc (ac_oku (ac_oku hS).2).1 (ac_okc (ac_oku hS).1 (ac_oku (ac_oku hS).2).2))) hl)
theorem r_dup_x2 {g : ac_P} {pc : Nat} {L : List (Nat × Value)} {S : List Value} {h : ac_H} {k z : Nat} {v w u : Value} (hd : decode (ac_cc g) pc = .ok (.dup_x2, 1)) (hc : v.category = 1) (hc2 : w.category = 1) (hc3 : u.category = 1) (kk : ac_G g (pc + 1) L (v :: w :: u :: v :: S) h k z) : ac_G g pc L (v :: w :: u :: S) h k z := by
  intro p e R s m args below meth c D dA A σ0 Qf C σ H locs ls hW hL hS hl
  obtain ⟨⟨hx, hb, hml, hown, hnm, hts, htb⟩, ⟨hK, hX, hA, hR⟩, hend, hsc⟩ := id C
  exact lv_dup_x2 hx hb hd ((ac_v_cat σ v).trans hc) ((ac_v_cat σ w).trans hc2) ((ac_v_cat σ u).trans hc3) (kk p e R s m args below meth c D dA A σ0 Qf C σ H locs ls hW hL (ac_okc (ac_oku hS).1 (ac_okc (ac_oku (ac_oku hS).2).1 (ac_okc (ac_oku (ac_oku (ac_oku hS).2).2).1 (ac_okc (ac_oku hS).1 (ac_oku (ac_oku (ac_oku hS).2).2).2)))) hl)
theorem r_dup2 {g : ac_P} {pc : Nat} {L : List (Nat × Value)} {S : List Value} {h : ac_H} {k z : Nat} {v w : Value} (hd : decode (ac_cc g) pc = .ok (.dup2, 1)) (hc : v.category = 1) (hc2 : w.category = 1) (kk : ac_G g (pc + 1) L (v :: w :: v :: w :: S) h k z) : ac_G g pc L (v :: w :: S) h k z := by
  intro p e R s m args below meth c D dA A σ0 Qf C σ H locs ls hW hL hS hl
  obtain ⟨⟨hx, hb, hml, hown, hnm, hts, htb⟩, ⟨hK, hX, hA, hR⟩, hend, hsc⟩ := id C
  exact lv_dup2_11 hx hb hd ((ac_v_cat σ v).trans hc) ((ac_v_cat σ w).trans hc2) (kk p e R s m args below meth c D dA A σ0 Qf C σ H locs ls hW hL (ac_okc (ac_oku hS).1 (ac_okc (ac_oku (ac_oku hS).2).1 hS)) hl)
theorem r_if_eq {g : ac_P} {pc : Nat} {L : List (Nat × Value)} {S : List Value} {h : ac_H} {k z : Nat} {x : Int32} {off : Int} (tgt : Nat) (hd : decode (ac_cc g) pc = .ok (.ifCond .eq off, 3)) (ht : (pc : Int) + off = (tgt : Int)) (kt : (x = 0) → ac_G g tgt L S h k z) (kf : ¬ (x = 0) → ac_G g (pc + 3) L S h k z) : ac_G g pc L (.int x :: S) h k z := by
  intro p e R s m args below meth c D dA A σ0 Qf C σ H locs ls hW hL hS hl
  obtain ⟨⟨hx, hb, hml, hown, hnm, hts, htb⟩, ⟨hK, hX, hA, hR⟩, hend, hsc⟩ := id C
  exact lv_if_eq (tgt := tgt) hx hb hd ht (fun q => kt q p e R s m args below meth c D dA A σ0 Qf C σ H locs ls hW hL (ac_oku hS).2 hl) (fun q => kf q p e R s m args below meth c D dA A σ0 Qf C σ H locs ls hW hL (ac_oku hS).2 hl)
theorem r_icmp_eq {g : ac_P} {pc : Nat} {L : List (Nat × Value)} {S : List Value} {h : ac_H} {k z : Nat} {x y : Int32} {off : Int} (tgt : Nat) (hd : decode (ac_cc g) pc = .ok (.if_icmp .eq off, 3)) (ht : (pc : Int) + off = (tgt : Int)) (kt : (x = y) → ac_G g tgt L S h k z) (kf : ¬ (x = y) → ac_G g (pc + 3) L S h k z) : ac_G g pc L (.int y :: .int x :: S) h k z := by
  intro p e R s m args below meth c D dA A σ0 Qf C σ H locs ls hW hL hS hl
  obtain ⟨⟨hx, hb, hml, hown, hnm, hts, htb⟩, ⟨hK, hX, hA, hR⟩, hend, hsc⟩ := id C
  exact lv_icmp_eq (tgt := tgt) hx hb hd ht (fun q => kt q p e R s m args below meth c D dA A σ0 Qf C σ H locs ls hW hL (ac_oku (ac_oku hS).2).2 hl) (fun q => kf q p e R s m args below meth c D dA A σ0 Qf C σ H locs ls hW hL (ac_oku (ac_oku hS).2).2 hl)
theorem r_if_lt {g : ac_P} {pc : Nat} {L : List (Nat × Value)} {S : List Value} {h : ac_H} {k z : Nat} {x : Int32} {off : Int} (tgt : Nat) (hd : decode (ac_cc g) pc = .ok (.ifCond .lt off, 3)) (ht : (pc : Int) + off = (tgt : Int)) (kt : (x < 0) → ac_G g tgt L S h k z) (kf : ¬ (x < 0) → ac_G g (pc + 3) L S h k z) : ac_G g pc L (.int x :: S) h k z := by
  intro p e R s m args below meth c D dA A σ0 Qf C σ H locs ls hW hL hS hl
  obtain ⟨⟨hx, hb, hml, hown, hnm, hts, htb⟩, ⟨hK, hX, hA, hR⟩, hend, hsc⟩ := id C
  exact lv_if_lt (tgt := tgt) hx hb hd ht (fun q => kt q p e R s m args below meth c D dA A σ0 Qf C σ H locs ls hW hL (ac_oku hS).2 hl) (fun q => kf q p e R s m args below meth c D dA A σ0 Qf C σ H locs ls hW hL (ac_oku hS).2 hl)
theorem r_icmp_lt {g : ac_P} {pc : Nat} {L : List (Nat × Value)} {S : List Value} {h : ac_H} {k z : Nat} {x y : Int32} {off : Int} (tgt : Nat) (hd : decode (ac_cc g) pc = .ok (.if_icmp .lt off, 3)) (ht : (pc : Int) + off = (tgt : Int)) (kt : (x < y) → ac_G g tgt L S h k z) (kf : ¬ (x < y) → ac_G g (pc + 3) L S h k z) : ac_G g pc L (.int y :: .int x :: S) h k z := by
  intro p e R s m args below meth c D dA A σ0 Qf C σ H locs ls hW hL hS hl
  obtain ⟨⟨hx, hb, hml, hown, hnm, hts, htb⟩, ⟨hK, hX, hA, hR⟩, hend, hsc⟩ := id C
  exact lv_icmp_lt (tgt := tgt) hx hb hd ht (fun q => kt q p e R s m args below meth c D dA A σ0 Qf C σ H locs ls hW hL (ac_oku (ac_oku hS).2).2 hl) (fun q => kf q p e R s m args below meth c D dA A σ0 Qf C σ H locs ls hW hL (ac_oku (ac_oku hS).2).2 hl)
theorem r_if_ge {g : ac_P} {pc : Nat} {L : List (Nat × Value)} {S : List Value} {h : ac_H} {k z : Nat} {x : Int32} {off : Int} (tgt : Nat) (hd : decode (ac_cc g) pc = .ok (.ifCond .ge off, 3)) (ht : (pc : Int) + off = (tgt : Int)) (kt : (0 ≤ x) → ac_G g tgt L S h k z) (kf : ¬ (0 ≤ x) → ac_G g (pc + 3) L S h k z) : ac_G g pc L (.int x :: S) h k z := by
  intro p e R s m args below meth c D dA A σ0 Qf C σ H locs ls hW hL hS hl
  obtain ⟨⟨hx, hb, hml, hown, hnm, hts, htb⟩, ⟨hK, hX, hA, hR⟩, hend, hsc⟩ := id C
  exact lv_if_ge (tgt := tgt) hx hb hd ht (fun q => kt q p e R s m args below meth c D dA A σ0 Qf C σ H locs ls hW hL (ac_oku hS).2 hl) (fun q => kf q p e R s m args below meth c D dA A σ0 Qf C σ H locs ls hW hL (ac_oku hS).2 hl)
theorem r_icmp_ge {g : ac_P} {pc : Nat} {L : List (Nat × Value)} {S : List Value} {h : ac_H} {k z : Nat} {x y : Int32} {off : Int} (tgt : Nat) (hd : decode (ac_cc g) pc = .ok (.if_icmp .ge off, 3)) (ht : (pc : Int) + off = (tgt : Int)) (kt : (y ≤ x) → ac_G g tgt L S h k z) (kf : ¬ (y ≤ x) → ac_G g (pc + 3) L S h k z) : ac_G g pc L (.int y :: .int x :: S) h k z := by
  intro p e R s m args below meth c D dA A σ0 Qf C σ H locs ls hW hL hS hl
  obtain ⟨⟨hx, hb, hml, hown, hnm, hts, htb⟩, ⟨hK, hX, hA, hR⟩, hend, hsc⟩ := id C
  exact lv_icmp_ge (tgt := tgt) hx hb hd ht (fun q => kt q p e R s m args below meth c D dA A σ0 Qf C σ H locs ls hW hL (ac_oku (ac_oku hS).2).2 hl) (fun q => kf q p e R s m args below meth c D dA A σ0 Qf C σ H locs ls hW hL (ac_oku (ac_oku hS).2).2 hl)
theorem r_if_gt {g : ac_P} {pc : Nat} {L : List (Nat × Value)} {S : List Value} {h : ac_H} {k z : Nat} {x : Int32} {off : Int} (tgt : Nat) (hd : decode (ac_cc g) pc = .ok (.ifCond .gt off, 3)) (ht : (pc : Int) + off = (tgt : Int)) (kt : (0 < x) → ac_G g tgt L S h k z) (kf : ¬ (0 < x) → ac_G g (pc + 3) L S h k z) : ac_G g pc L (.int x :: S) h k z := by
  intro p e R s m args below meth c D dA A σ0 Qf C σ H locs ls hW hL hS hl
  obtain ⟨⟨hx, hb, hml, hown, hnm, hts, htb⟩, ⟨hK, hX, hA, hR⟩, hend, hsc⟩ := id C
  exact lv_if_gt (tgt := tgt) hx hb hd ht (fun q => kt q p e R s m args below meth c D dA A σ0 Qf C σ H locs ls hW hL (ac_oku hS).2 hl) (fun q => kf q p e R s m args below meth c D dA A σ0 Qf C σ H locs ls hW hL (ac_oku hS).2 hl)
theorem r_icmp_gt {g : ac_P} {pc : Nat} {L : List (Nat × Value)} {S : List Value} {h : ac_H} {k z : Nat} {x y : Int32} {off : Int} (tgt : Nat) (hd : decode (ac_cc g) pc = .ok (.if_icmp .gt off, 3)) (ht : (pc : Int) + off = (tgt : Int)) (kt : (y < x) → ac_G g tgt L S h k z) (kf : ¬ (y < x) → ac_G g (pc + 3) L S h k z) : ac_G g pc L (.int y :: .int x :: S) h k z := by
  intro p e R s m args below meth c D dA A σ0 Qf C σ H locs ls hW hL hS hl
  obtain ⟨⟨hx, hb, hml, hown, hnm, hts, htb⟩, ⟨hK, hX, hA, hR⟩, hend, hsc⟩ := id C
  exact lv_icmp_gt (tgt := tgt) hx hb hd ht (fun q => kt q p e R s m args below meth c D dA A σ0 Qf C σ H locs ls hW hL (ac_oku (ac_oku hS).2).2 hl) (fun q => kf q p e R s m args below meth c D dA A σ0 Qf C σ H locs ls hW hL (ac_oku (ac_oku hS).2).2 hl)
theorem r_if_le {g : ac_P} {pc : Nat} {L : List (Nat × Value)} {S : List Value} {h : ac_H} {k z : Nat} {x : Int32} {off : Int} (tgt : Nat) (hd : decode (ac_cc g) pc = .ok (.ifCond .le off, 3)) (ht : (pc : Int) + off = (tgt : Int)) (kt : (x ≤ 0) → ac_G g tgt L S h k z) (kf : ¬ (x ≤ 0) → ac_G g (pc + 3) L S h k z) : ac_G g pc L (.int x :: S) h k z := by
  intro p e R s m args below meth c D dA A σ0 Qf C σ H locs ls hW hL hS hl
  obtain ⟨⟨hx, hb, hml, hown, hnm, hts, htb⟩, ⟨hK, hX, hA, hR⟩, hend, hsc⟩ := id C
  exact lv_if_le (tgt := tgt) hx hb hd ht (fun q => kt q p e R s m args below meth c D dA A σ0 Qf C σ H locs ls hW hL (ac_oku hS).2 hl) (fun q => kf q p e R s m args below meth c D dA A σ0 Qf C σ H locs ls hW hL (ac_oku hS).2 hl)
theorem r_icmp_le {g : ac_P} {pc : Nat} {L : List (Nat × Value)} {S : List Value} {h : ac_H} {k z : Nat} {x y : Int32} {off : Int} (tgt : Nat) (hd : decode (ac_cc g) pc = .ok (.if_icmp .le off, 3)) (ht : (pc : Int) + off = (tgt : Int)) (kt : (x ≤ y) → ac_G g tgt L S h k z) (kf : ¬ (x ≤ y) → ac_G g (pc + 3) L S h k z) : ac_G g pc L (.int y :: .int x :: S) h k z := by
  intro p e R s m args below meth c D dA A σ0 Qf C σ H locs ls hW hL hS hl
  obtain ⟨⟨hx, hb, hml, hown, hnm, hts, htb⟩, ⟨hK, hX, hA, hR⟩, hend, hsc⟩ := id C
  exact lv_icmp_le (tgt := tgt) hx hb hd ht (fun q => kt q p e R s m args below meth c D dA A σ0 Qf C σ H locs ls hW hL (ac_oku (ac_oku hS).2).2 hl) (fun q => kf q p e R s m args below meth c D dA A σ0 Qf C σ H locs ls hW hL (ac_oku (ac_oku hS).2).2 hl)
theorem r_if_ne {g : ac_P} {pc : Nat} {L : List (Nat × Value)} {S : List Value} {h : ac_H} {k z : Nat} {x : Int32} {off : Int} (tgt : Nat) (hd : decode (ac_cc g) pc = .ok (.ifCond .ne off, 3)) (ht : (pc : Int) + off = (tgt : Int)) (kt : ¬ (x = 0) → ac_G g tgt L S h k z) (kf : (x = 0) → ac_G g (pc + 3) L S h k z) : ac_G g pc L (.int x :: S) h k z := by
  intro p e R s m args below meth c D dA A σ0 Qf C σ H locs ls hW hL hS hl
  obtain ⟨⟨hx, hb, hml, hown, hnm, hts, htb⟩, ⟨hK, hX, hA, hR⟩, hend, hsc⟩ := id C
  exact lv_if_ne (tgt := tgt) hx hb hd ht (fun q => kt q p e R s m args below meth c D dA A σ0 Qf C σ H locs ls hW hL (ac_oku hS).2 hl) (fun q => kf q p e R s m args below meth c D dA A σ0 Qf C σ H locs ls hW hL (ac_oku hS).2 hl)
theorem r_icmp_ne {g : ac_P} {pc : Nat} {L : List (Nat × Value)} {S : List Value} {h : ac_H} {k z : Nat} {x y : Int32} {off : Int} (tgt : Nat) (hd : decode (ac_cc g) pc = .ok (.if_icmp .ne off, 3)) (ht : (pc : Int) + off = (tgt : Int)) (kt : ¬ (x = y) → ac_G g tgt L S h k z) (kf : (x = y) → ac_G g (pc + 3) L S h k z) : ac_G g pc L (.int y :: .int x :: S) h k z := by
  intro p e R s m args below meth c D dA A σ0 Qf C σ H locs ls hW hL hS hl
  obtain ⟨⟨hx, hb, hml, hown, hnm, hts, htb⟩, ⟨hK, hX, hA, hR⟩, hend, hsc⟩ := id C
  exact lv_icmp_ne (tgt := tgt) hx hb hd ht (fun q => kt q p e R s m args below meth c D dA A σ0 Qf C σ H locs ls hW hL (ac_oku (ac_oku hS).2).2 hl) (fun q => kf q p e R s m args below meth c D dA A σ0 Qf C σ H locs ls hW hL (ac_oku (ac_oku hS).2).2 hl)
theorem r_goto {g : ac_P} {pc : Nat} {L : List (Nat × Value)} {S : List Value} {h : ac_H} {k z : Nat} {off : Int} (tgt : Nat) (hd : decode (ac_cc g) pc = .ok (.goto off, 3)) (ht : (pc : Int) + off = (tgt : Int)) (kk : ac_G g tgt L S h k z) : ac_G g pc L S h k z := by
  intro p e R s m args below meth c D dA A σ0 Qf C σ H locs ls hW hL hS hl
  obtain ⟨⟨hx, hb, hml, hown, hnm, hts, htb⟩, ⟨hK, hX, hA, hR⟩, hend, hsc⟩ := id C
  exact lv_goto (tgt := tgt) hx hb hd ht (kk p e R s m args below meth c D dA A σ0 Qf C σ H locs ls hW hL hS hl)
theorem r_tableIn {g : ac_P} {pc : Nat} {L : List (Nat × Value)} {S : List Value} {h : ac_H} {k z : Nat} {dflt lo hi : Int} {offs : Array Int} {len : Nat} {x : Int32} {off : Int} (tgt : Nat) (hd : decode (ac_cc g) pc = .ok (.tableswitch dflt lo hi offs, len)) (h1 : ¬ x.toInt < lo) (h2 : ¬ hi < x.toInt) (ho : offs[(x.toInt - lo).toNat]? = some off) (ht : (pc : Int) + off = (tgt : Int)) (kk : ac_G g tgt L S h k z) : ac_G g pc L (.int x :: S) h k z := by
  intro p e R s m args below meth c D dA A σ0 Qf C σ H locs ls hW hL hS hl
  obtain ⟨⟨hx, hb, hml, hown, hnm, hts, htb⟩, ⟨hK, hX, hA, hR⟩, hend, hsc⟩ := id C
  exact lv_tableIn (tgt := tgt) hx hb hd h1 h2 ho ht (kk p e R s m args below meth c D dA A σ0 Qf C σ H locs ls hW hL (ac_oku hS).2 hl)
theorem r_tableOut {g : ac_P} {pc : Nat} {L : List (Nat × Value)} {S : List Value} {h : ac_H} {k z : Nat} {dflt lo hi : Int} {offs : Array Int} {len : Nat} {x : Int32} (tgt : Nat) (hd : decode (ac_cc g) pc = .ok (.tableswitch dflt lo hi offs, len)) (h1 : x.toInt < lo ∨ hi < x.toInt) (ht : (pc : Int) + dflt = (tgt : Int)) (kk : ac_G g tgt L S h k z) : ac_G g pc L (.int x :: S) h k z := by
  intro p e R s m args below meth c D dA A σ0 Qf C σ H locs ls hW hL hS hl
  obtain ⟨⟨hx, hb, hml, hown, hnm, hts, htb⟩, ⟨hK, hX, hA, hR⟩, hend, hsc⟩ := id C
  exact lv_tableOut (tgt := tgt) hx hb hd h1 ht (kk p e R s m args below meth c D dA A σ0 Qf C σ H locs ls hW hL (ac_oku hS).2 hl)
/-- fewer locals, in another order -/
theorem r_loc {g : ac_P} {pc : Nat} {L : List (Nat × Value)} {S : List Value} {h : ac_H} {k z : Nat} (L' : List (Nat × Value)) (hp : ∀ q ∈ L', ac_get L q.1 = some q.2) (kk : ac_G g pc L' S h k z) : ac_G g pc L S h k z := by
  intro p e R s m args below meth c D dA A σ0 Qf C σ H locs ls hW hL hS hl
  obtain ⟨⟨hx, hb, hml, hown, hnm, hts, htb⟩, ⟨hK, hX, hA, hR⟩, hend, hsc⟩ := id C
  exact kk p e R s m args below meth c D dA A σ0 Qf C σ H locs ls hW (fun q hq => hL q (ac_get_mem (hp q hq))) hS ⟨hl.1, hl.2.1, fun q hq => by
    obtain ⟨q', hq', rfl⟩ := List.mem_map.mp hq
    exact ac_look hl (hp q' hq')⟩
theorem r_widen {g : ac_P} {pc : Nat} {L : List (Nat × Value)} {S : List Value} {h : ac_H} {k z : Nat} (k' z' : Nat) (h1 : k ≤ k') (h2 : z ≤ z') (kk : ac_G g pc L S h k' z') : ac_G g pc L S h k z := by
  intro p e R s m args below meth c D dA A σ0 Qf C σ H locs ls hW hL hS hl
  obtain ⟨⟨hx, hb, hml, hown, hnm, hts, htb⟩, ⟨hK, hX, hA, hR⟩, hend, hsc⟩ := id C
  exact W.widen h1 h2 (kk p e R s m args below meth c D dA A σ0 Qf C σ H locs ls hW hL hS hl)
/-- the method goes back -/
theorem r_back {g : ac_P} {pc : Nat} {L : List (Nat × Value)} {S : List Value} {h : ac_H} {k z : Nat} (r : Option Value) (hr : S = r.toList) (hp : ac_ph g (.inl r) h) (h1 : k ≤ ac_mc g) (h2 : z ≤ ac_ms g) (hb9 : ac_back g pc r) : ac_G g pc L S h k z := by
  intro p e R s m args below meth c D dA A σ0 Qf C σ H locs ls hW hL hS hl
  obtain ⟨⟨hx, hb, hml, hown, hnm, hts, htb⟩, ⟨hK, hX, hA, hR⟩, hend, hsc⟩ := id C
  subst hr
  exact hend.1 σ h H locs k z r pc ls hW hp h1 h2 hS hb9
theorem r_iret {g : ac_P} {pc : Nat} {L : List (Nat × Value)} {h : ac_H} {k z : Nat} {v : Int32} (hd : decode (ac_cc g) pc = .ok (.ireturn, 1)) (hr : ac_rt g = some .int) (hp : ac_ph g (.inl (some (.int v))) h) (h1 : k ≤ ac_mc g) (h2 : z ≤ ac_ms g) : ac_G g pc L [.int v] h k z := r_back (some (.int v)) rfl hp h1 h2 (Or.inl ⟨v, rfl, hd, .int, hr, rfl⟩)
theorem r_zret {g : ac_P} {pc : Nat} {L : List (Nat × Value)} {h : ac_H} {k z : Nat} {v : Int32} (hd : decode (ac_cc g) pc = .ok (.ireturn, 1)) (hr : ac_rt g = some .boolean) (hv : v = 0 ∨ v = 1) (hp : ac_ph g (.inl (some (.int v))) h) (h1 : k ≤ ac_mc g) (h2 : z ≤ ac_ms g) : ac_G g pc L [.int v] h k z := r_back (some (.int v)) rfl hp h1 h2 (Or.inl ⟨v, rfl, hd, .boolean, hr, by rcases hv with e | e <;> rw [e] <;> rfl⟩)
theorem r_aret {g : ac_P} {pc : Nat} {L : List (Nat × Value)} {h : ac_H} {k z : Nat} {a : Nat} {n : String} (hd : decode (ac_cc g) pc = .ok (.areturn, 1)) (hr : ac_rt g = some (.object n)) (hp : ac_ph g (.inl (some (.ref a))) h) (h1 : k ≤ ac_mc g) (h2 : z ≤ ac_ms g) : ac_G g pc L [.ref a] h k z := r_back (some (.ref a)) rfl hp h1 h2 (Or.inr (Or.inl ⟨a, n, rfl, hd, hr⟩))
theorem r_aretA {g : ac_P} {pc : Nat} {L : List (Nat × Value)} {h : ac_H} {k z : Nat} {a : Nat} {t : FieldType} (hd : decode (ac_cc g) pc = .ok (.areturn, 1)) (hr : ac_rt g = some (.array t)) (hp : ac_ph g (.inl (some (.ref a))) h) (h1 : k ≤ ac_mc g) (h2 : z ≤ ac_ms g) : ac_G g pc L [.ref a] h k z := r_back (some (.ref a)) rfl hp h1 h2 (Or.inr (Or.inr (Or.inl ⟨a, t, rfl, hd, hr⟩)))
theorem r_vret {g : ac_P} {pc : Nat} {L : List (Nat × Value)} {h : ac_H} {k z : Nat} (hd : decode (ac_cc g) pc = .ok (.return_, 1)) (hr : ac_rt g = none) (hp : ac_ph g (.inl none) h) (h1 : k ≤ ac_mc g) (h2 : z ≤ ac_ms g) : ac_G g pc L [] h k z := r_back none rfl hp h1 h2 (Or.inr (Or.inr (Or.inr ⟨rfl, hd, hr⟩)))
theorem r_throw {g : ac_P} {pc : Nat} {L : List (Nat × Value)} {S : List Value} {h : ac_H} {k z : Nat} (E : String) (ht : ac_thr g pc E) (hh : ac_hh g = []) (hp : ac_ph g (.inr E) h) (h1 : k + 1 ≤ ac_mc g) (h2 : z + 6 ≤ ac_ms g) (hs : (S.map fun v => v.category).sum ≤ 8) : ac_G g pc L S h k z := by
  intro p e R s m args below meth c D dA A σ0 Qf C σ H locs ls hW hL hS hl
  obtain ⟨⟨hx, hb, hml, hown, hnm, hts, htb⟩, ⟨hK, hX, hA, hR⟩, hend, hsc⟩ := id C
  exact hend.2.2 σ h H locs k z E pc ls (S.map (ac_v σ)) hW hp h1 h2 hl.1 (by rw [ac_cats]; exact hs) hh ht
/-- a field: own text's number idx names field j of the objects of kind ci -/
def ac_F (own : String) (idx ci j : Nat) (ty : FieldType) (fin : Bool) : Prop := ∃ (C : String) (T : u_T) (N : Nat) (ty0 : Nat → FieldType), ac_cl[ci]? = some (C, T, N) ∧ (∀ w ∈ u_ws C T N, w ∈ ac_U) ∧ j < N ∧ Cond.fieldLink own idx (T j).1 (T j).2.1 (T j).2.2.1 ∈ ac_U ∧ (T j).2.2.2 = fin ∧ parseFieldDescriptor (T j).2.2.1 = some ty ∧ (∀ i, i < N → parseFieldDescriptor (T i).2.2.1 = some (ty0 i)) ∧ (∀ a, a < N → ∀ b, b < N → a ≠ b → (T a).2.1 ≠ (T b).2.1)
theorem ac_w_obj {σ : ac_A} {dA : Nat → ClassId} {h : ac_H} {i ci : Nat} {fs : List Value} (he : h[i]? = some (.inr (ci, fs))) : (ac_w σ dA h)[i]? = some (σ.2 i, .inr (ci, fs.map (ac_v σ))) := ac_w_at he
theorem ac_w_ints {σ : ac_A} {dA : Nat → ClassId} {h : ac_H} {i n : Nat} {f : Nat → Int32} (he : h[i]? = some (.inl (.inl (n, f)))) : (ac_w σ dA h)[i]? = some (σ.2 i, .inl (dA 0, n, .inl f)) := ac_w_at he
theorem ac_w_longs {σ : ac_A} {dA : Nat → ClassId} {h : ac_H} {i n : Nat} {f : Nat → Int64} (he : h[i]? = some (.inl (.inr (.inl (n, f))))) : (ac_w σ dA h)[i]? = some (σ.2 i, .inl (dA 1, n, .inr (.inl f))) := ac_w_at he
theorem ac_w_refs {σ : ac_A} {dA : Nat → ClassId} {h : ac_H} {i n kd : Nat} {f : Nat → Option Nat} (he : h[i]? = some (.inl (.inr (.inr (kd, n, f))))) : (ac_w σ dA h)[i]? = some (σ.2 i, .inl (dA (kd + 2), n, .inr (.inr (.inr (.inr (fun j => (f j).map σ.2)))))) := ac_w_at he
/-- the same world, but for one cell -/
theorem ac_Wd.put {D : va_G} {dA : Nat → ClassId} {A : Nat → Prop} {s : State} {n0 : Nat} {σ0 σ : ac_A} {h : ac_H} {H H1 : Heap} {locs locs1 : List Loc} (hW : ac_Wd D dA A s n0 σ0 σ h H locs) {a : Nat} {e : ac_E} {e' : va_E} (he : ac_c σ dA e = e') (ho : ac_okE h.length e) (hP : va_P D ac_cl ((ac_w σ dA h).set a (σ.2 a, e')) H1) (hD : va_D A ((ac_w σ dA h).set a (σ.2 a, e'))) (hS : va_S A s.heap H1 locs1) : ac_Wd D dA A s n0 σ0 σ (h.set a e) H1 locs1 := by
  obtain ⟨w1, w2, w3, -, -, -⟩ := hW
  subst he
  exact ⟨ac_okH_set w1 ho, by rw [List.length_set]; exact w2, w3, by rw [ac_w_set]; exact hP, by rw [ac_w_set]; exact hD, hS⟩
theorem r_getfield {g : ac_P} {pc : Nat} {L : List (Nat × Value)} {S : List Value} {h : ac_H} {k z : Nat} {a idx ci j : Nat} {ty : FieldType} {fin : Bool} {fs : List Value} {v : Value} (hd : decode (ac_cc g) pc = .ok (.getfield idx, 3)) (hf : ac_F (ac_y g).cls idx ci j ty fin) (hh : h[a]? = some (.inr (ci, fs))) (hv : fs[j]? = some v) (kk : ac_G g (pc + 3) L (v :: S) h k z) : ac_G g pc L (.ref a :: S) h k z := by
  intro p e R s m args below meth c D dA A σ0 Qf C σ H locs ls hW hL hS hl
  obtain ⟨⟨hx, hb, hml, hown, hnm, hts, htb⟩, ⟨hK, hX, hA, hR⟩, hend, hsc⟩ := id C
  obtain ⟨w1, w2, w3, hP, hD, hSS⟩ := id hW
  obtain ⟨C9, T, N, ty0, f1, f2, f3, f4, f5, f6, f7, f8⟩ := hf
  exact va_get (D := D) (C := C9) (T := T) (N := N) hx hb hts f2 hown hK hP a (ac_w_obj hh) f1 j f3 (hts _ f4) (fun _ q => q) (by rw [List.getElem?_map, hv]; rfl) hd (kk p e R s m args below meth c D dA A σ0 Qf C σ H locs ls hW hL (ac_okc (w1 a _ hh v (List.mem_of_getElem? hv)) (ac_oku hS).2) hl)
theorem r_putfield {g : ac_P} {pc : Nat} {L : List (Nat × Value)} {S : List Value} {h : ac_H} {k z : Nat} {a idx ci j : Nat} {ty : FieldType} {fs : List Value} {v : Value} (hd : decode (ac_cc g) pc = .ok (.putfield idx, 3)) (hf : ac_F (ac_y g).cls idx ci j ty false) (hh : h[a]? = some (.inr (ci, fs))) (hj : j < fs.length) (hn : ∀ σ, narrow ty (ac_v σ v) = ac_v σ v) (hfit : ∀ σ, fits ty (ac_v σ v) = true) (kk : ac_G g (pc + 3) L S (h.set a (.inr (ci, fs.set j v))) k z) : ac_G g pc L (v :: .ref a :: S) h k z := by
  intro p e R s m args below meth c D dA A σ0 Qf C σ H locs ls hW hL hS hl
  obtain ⟨⟨hx, hb, hml, hown, hnm, hts, htb⟩, ⟨hK, hX, hA, hR⟩, hend, hsc⟩ := id C
  obtain ⟨w1, w2, w3, hP, hD, hSS⟩ := id hW
  obtain ⟨C9, T, N, ty0, f1, f2, f3, f4, f5, f6, f7, f8⟩ := hf
  have ho : ac_okE h.length (.inr (ci, fs.set j v)) := fun x hx9 => by
    rcases List.mem_or_eq_of_mem_set hx9 with q | q
    · exact w1 a _ hh x q
    · rw [q]; exact (ac_oku hS).1
  exact va_put (D := D) (C := C9) (T := T) (N := N) hx hb hts f2 ty0 f7 f8 hown hK hP hD hSS a (ac_w_obj hh) f1 j f3 (hts _ f4) (fun _ q => q) f5 f6 (hn σ) (hfit σ) (by rw [List.length_map]; exact hj) hd (fun H1 locs1 hP1 hD1 hS1 => kk p e R s m args below meth c D dA A σ0 Qf C σ H1 locs1 ls (hW.put (e := .inr (ci, fs.set j v)) (by simp only [ac_c, List.map_set]) ho hP1 hD1 hS1) (by rw [List.length_set]; exact hL) (by rw [List.length_set]; exact (ac_oku (ac_oku hS).2).2) hl)
theorem r_putfieldF {g : ac_P} {pc : Nat} {L : List (Nat × Value)} {S : List Value} {h : ac_H} {k z : Nat} {a idx ci j : Nat} {ty : FieldType} {fs : List Value} {v : Value} (hd : decode (ac_cc g) pc = .ok (.putfield idx, 3)) (hf : ac_F (ac_y g).cls idx ci j ty true) (hh : h[a]? = some (.inr (ci, fs))) (hj : j < fs.length) (hn : ∀ σ, narrow ty (ac_v σ v) = ac_v σ v) (hfit : ∀ σ, fits ty (ac_v σ v) = true) (hin9 : (ac_y g).name = "<init>") (hdc : ∀ (C : String) (T : u_T) (N : Nat), ac_cl[ci]? = some (C, T, N) → (T j).1 = (ac_y g).cls) (kk : ac_G g (pc + 3) L S (h.set a (.inr (ci, fs.set j v))) k z) : ac_G g pc L (v :: .ref a :: S) h k z := by
  intro p e R s m args below meth c D dA A σ0 Qf C σ H locs ls hW hL hS hl
  obtain ⟨⟨hx, hb, hml, hown, hnm, hts, htb⟩, ⟨hK, hX, hA, hR⟩, hend, hsc⟩ := id C
  obtain ⟨w1, w2, w3, hP, hD, hSS⟩ := id hW
  obtain ⟨C9, T, N, ty0, f1, f2, f3, f4, f5, f6, f7, f8⟩ := hf
  have ho : ac_okE h.length (.inr (ci, fs.set j v)) := fun x hx9 => by
    rcases List.mem_or_eq_of_mem_set hx9 with q | q
    · exact w1 a _ hh x q
    · rw [q]; exact (ac_oku hS).1
  exact va_putF (D := D) (C := C9) (T := T) (N := N) hx hb hts f2 ty0 f7 f8 hown hK hP hD hSS a (ac_w_obj hh) f1 j f3 (hts _ f4) (fun _ q => q) f5 (hnm.trans hin9) (hdc _ _ _ f1) f6 (hn σ) (hfit σ) (by rw [List.length_map]; exact hj) hd (fun H1 locs1 hP1 hD1 hS1 => kk p e R s m args below meth c D dA A σ0 Qf C σ H1 locs1 ls (hW.put (e := .inr (ci, fs.set j v)) (by simp only [ac_c, List.map_set]) ho hP1 hD1 hS1) (by rw [List.length_set]; exact hL) (by rw [List.length_set]; exact (ac_oku (ac_oku hS).2).2) hl)
theorem r_iaload {g : ac_P} {pc : Nat} {L : List (Nat × Value)} {S : List Value} {h : ac_H} {k z : Nat} {a n : Nat} {f : Nat → Int32} {i : Int32} (hd : decode (ac_cc g) pc = .ok (.iaload, 1)) (hh : h[a]? = some (.inl (.inl (n, f)))) (hin : vp_in i n) (kk : ac_G g (pc + 1) L (.int (f i.toNatClampNeg) :: S) h k z) : ac_G g pc L (.int i :: .ref a :: S) h k z := by
  intro p e R s m args below meth c D dA A σ0 Qf C σ H locs ls hW hL hS hl
  obtain ⟨⟨hx, hb, hml, hown, hnm, hts, htb⟩, ⟨hK, hX, hA, hR⟩, hend, hsc⟩ := id C
  obtain ⟨w1, w2, w3, hP, hD, hSS⟩ := id hW
  exact va_iald hx hb hK hP a 0 (ac_w_ints hh) rfl hin hd (kk p e R s m args below meth c D dA A σ0 Qf C σ H locs ls hW hL (ac_okc ac_ok_int (ac_oku (ac_oku hS).2).2) hl)
theorem r_laload {g : ac_P} {pc : Nat} {L : List (Nat × Value)} {S : List Value} {h : ac_H} {k z : Nat} {a n : Nat} {f : Nat → Int64} {i : Int32} (hd : decode (ac_cc g) pc = .ok (.laload, 1)) (hh : h[a]? = some (.inl (.inr (.inl (n, f))))) (hin : vp_in i n) (kk : ac_G g (pc + 1) L (.long (f i.toNatClampNeg) :: S) h k z) : ac_G g pc L (.int i :: .ref a :: S) h k z := by
  intro p e R s m args below meth c D dA A σ0 Qf C σ H locs ls hW hL hS hl
  obtain ⟨⟨hx, hb, hml, hown, hnm, hts, htb⟩, ⟨hK, hX, hA, hR⟩, hend, hsc⟩ := id C
  obtain ⟨w1, w2, w3, hP, hD, hSS⟩ := id hW
  exact va_lald hx hb hK hP a 1 (ac_w_longs hh) rfl hin hd (kk p e R s m args below meth c D dA A σ0 Qf C σ H locs ls hW hL (ac_okc ac_ok_long (ac_oku (ac_oku hS).2).2) hl)
theorem r_iastore {g : ac_P} {pc : Nat} {L : List (Nat × Value)} {S : List Value} {h : ac_H} {k z : Nat} {a n : Nat} {f : Nat → Int32} {i x : Int32} (hd : decode (ac_cc g) pc = .ok (.iastore, 1)) (hh : h[a]? = some (.inl (.inl (n, f)))) (hin : vp_in i n) (kk : ac_G g (pc + 1) L S (h.set a (.inl (.inl (n, upd f i.toNatClampNeg x)))) k z) : ac_G g pc L (.int x :: .int i :: .ref a :: S) h k z := by
  intro p e R s m args below meth c D dA A σ0 Qf C σ H locs ls hW hL hS hl
  obtain ⟨⟨hx, hb, hml, hown, hnm, hts, htb⟩, ⟨hK, hX, hA, hR⟩, hend, hsc⟩ := id C
  obtain ⟨w1, w2, w3, hP, hD, hSS⟩ := id hW
  exact va_iast hx hb hK hP hD hSS a 0 (ac_w_ints hh) rfl hin hd (fun H1 locs1 hP1 hD1 hS1 => kk p e R s m args below meth c D dA A σ0 Qf C σ H1 locs1 ls (hW.put (e := .inl (.inl (n, upd f i.toNatClampNeg x))) rfl trivial hP1 hD1 hS1) (by rw [List.length_set]; exact hL) (by rw [List.length_set]; exact (ac_oku (ac_oku (ac_oku hS).2).2).2) hl)
theorem r_lastore {g : ac_P} {pc : Nat} {L : List (Nat × Value)} {S : List Value} {h : ac_H} {k z : Nat} {a n : Nat} {f : Nat → Int64} {i : Int32} {x : Int64} (hd : decode (ac_cc g) pc = .ok (.lastore, 1)) (hh : h[a]? = some (.inl (.inr (.inl (n, f))))) (hin : vp_in i n) (kk : ac_G g (pc + 1) L S (h.set a (.inl (.inr (.inl (n, vp_updL f i.toNatClampNeg x))))) k z) : ac_G g pc L (.long x :: .int i :: .ref a :: S) h k z := by
  intro p e R s m args below meth c D dA A σ0 Qf C σ H locs ls hW hL hS hl
  obtain ⟨⟨hx, hb, hml, hown, hnm, hts, htb⟩, ⟨hK, hX, hA, hR⟩, hend, hsc⟩ := id C
  obtain ⟨w1, w2, w3, hP, hD, hSS⟩ := id hW
  exact va_last hx hb hK hP hD hSS a 1 (ac_w_longs hh) rfl hin hd (fun H1 locs1 hP1 hD1 hS1 => kk p e R s m args below meth c D dA A σ0 Qf C σ H1 locs1 ls (hW.put (e := .inl (.inr (.inl (n, vp_updL f i.toNatClampNeg x)))) rfl trivial hP1 hD1 hS1) (by rw [List.length_set]; exact hL) (by rw [List.length_set]; exact (ac_oku (ac_oku (ac_oku hS).2).2).2) hl)
theorem r_aaload {g : ac_P} {pc : Nat} {L : List (Nat × Value)} {S : List Value} {h : ac_H} {k z : Nat} {a n kd b : Nat} {C9 : String} {f : Nat → Option Nat} {i : Int32} (hd : decode (ac_cc g) pc = .ok (.aaload, 1)) (hh : h[a]? = some (.inl (.inr (.inr (kd, n, f))))) (hk9 : ac_kn[kd]? = some C9) (hin : vp_in i n) (hf : f i.toNatClampNeg = some b) (kk : ac_G g (pc + 1) L (.ref b :: S) h k z) : ac_G g pc L (.int i :: .ref a :: S) h k z := by
  intro p e R s m args below meth c D dA A σ0 Qf C σ H locs ls hW hL hS hl
  obtain ⟨⟨hx, hb, hml, hown, hnm, hts, htb⟩, ⟨hK, hX, hA, hR⟩, hend, hsc⟩ := id C
  obtain ⟨w1, w2, w3, hP, hD, hSS⟩ := id hW
  refine va_aldq hx hb hK hP a (kd + 2) (ac_w_refs hh) (ac_tys_k hk9) hin hd ?_
  have e9 : va_rf ((fun j => (f j).map σ.2) i.toNatClampNeg) = .ref (σ.2 b) := by
    show va_rf ((f i.toNatClampNeg).map σ.2) = _
    rw [hf]; rfl
  rw [e9]
  exact kk p e R s m args below meth c D dA A σ0 Qf C σ H locs ls hW hL (ac_okc (ac_ok_ref (w1 a _ hh _ _ hf)) (ac_oku (ac_oku hS).2).2) hl
theorem r_aastore {g : ac_P} {pc : Nat} {L : List (Nat × Value)} {S : List Value} {h : ac_H} {k z : Nat} {a n kd b ci : Nat} {r9 : vw_C} {f : Nat → Option Nat} {i : Int32} {fs : List Value} (hd : decode (ac_cc g) pc = .ok (.aastore, 1)) (hh : h[a]? = some (.inl (.inr (.inr (kd, n, f))))) (hb9 : h[b]? = some (.inr (ci, fs))) (hc9 : ac_cl[ci]? = some r9) (hk9 : ac_kn[kd]? = some r9.1) (hin : vp_in i n) (kk : ac_G g (pc + 1) L S (h.set a (.inl (.inr (.inr (kd, n, va_up f i.toNatClampNeg (some b)))))) k z) : ac_G g pc L (.ref b :: .int i :: .ref a :: S) h k z := by
  intro p e R s m args below meth c D dA A σ0 Qf C σ H locs ls hW hL hS hl
  obtain ⟨⟨hx, hb, hml, hown, hnm, hts, htb⟩, ⟨hK, hX, hA, hR⟩, hend, hsc⟩ := id C
  obtain ⟨w1, w2, w3, hP, hD, hSS⟩ := id hW
  have e9 : va_up (fun j => (f j).map σ.2) i.toNatClampNeg (some (σ.2 b)) = fun j => (va_up f i.toNatClampNeg (some b) j).map σ.2 := by
    funext j
    unfold va_up
    by_cases q : j = i.toNatClampNeg
    · rw [if_pos q, if_pos q]; rfl
    · rw [if_neg q, if_neg q]
  have ho : ac_okE h.length (.inl (.inr (.inr (kd, n, va_up f i.toNatClampNeg (some b))))) := fun j x hj => by
    unfold va_up at hj
    by_cases q : j = i.toNatClampNeg
    · rw [if_pos q] at hj
      cases hj
      exact ac_lt hb9
    · rw [if_neg q] at hj
      exact w1 a _ hh j x hj
  exact va_astq hx hb hK hP hD hSS a (kd + 2) b ci (ac_w_refs hh) (ac_tys_k hk9) (ac_w_obj hb9) hc9 hin hd (fun H1 locs1 hP1 hD1 hS1 => kk p e R s m args below meth c D dA A σ0 Qf C σ H1 locs1 ls (hW.put (e := .inl (.inr (.inr (kd, n, va_up f i.toNatClampNeg (some b))))) (by rw [e9]; rfl) ho hP1 hD1 hS1) (by rw [List.length_set]; exact hL) (by rw [List.length_set]; exact (ac_oku (ac_oku (ac_oku hS).2).2).2) hl)
theorem r_alenI {g : ac_P} {pc : Nat} {L : List (Nat × Value)} {S : List Value} {h : ac_H} {k z : Nat} {a n : Nat} {f : Nat → Int32} (hd : decode (ac_cc g) pc = .ok (.arraylength, 1)) (hh : h[a]? = some (.inl (.inl (n, f)))) (kk : ac_G g (pc + 1) L (.int (nI n) :: S) h k z) : ac_G g pc L (.ref a :: S) h k z := by
  intro p e R s m args below meth c D dA A σ0 Qf C σ H locs ls hW hL hS hl
  obtain ⟨⟨hx, hb, hml, hown, hnm, hts, htb⟩, ⟨hK, hX, hA, hR⟩, hend, hsc⟩ := id C
  obtain ⟨w1, w2, w3, hP, hD, hSS⟩ := id hW
  exact va_alen hx hb hK hP a 0 (ac_w_ints hh) (ty := .int) rfl (v := nI n) rfl hd (kk p e R s m args below meth c D dA A σ0 Qf C σ H locs ls hW hL (ac_okc ac_ok_int (ac_oku hS).2) hl)
theorem r_alenR {g : ac_P} {pc : Nat} {L : List (Nat × Value)} {S : List Value} {h : ac_H} {k z : Nat} {a n kd : Nat} {C9 : String} {f : Nat → Option Nat} (hd : decode (ac_cc g) pc = .ok (.arraylength, 1)) (hh : h[a]? = some (.inl (.inr (.inr (kd, n, f))))) (hk9 : ac_kn[kd]? = some C9) (kk : ac_G g (pc + 1) L (.int (nI n) :: S) h k z) : ac_G g pc L (.ref a :: S) h k z := by
  intro p e R s m args below meth c D dA A σ0 Qf C σ H locs ls hW hL hS hl
  obtain ⟨⟨hx, hb, hml, hown, hnm, hts, htb⟩, ⟨hK, hX, hA, hR⟩, hend, hsc⟩ := id C
  obtain ⟨w1, w2, w3, hP, hD, hSS⟩ := id hW
  exact va_alen hx hb hK hP a (kd + 2) (ac_w_refs hh) (ac_tys_k hk9) (v := nI n) rfl hd (kk p e R s m args below meth c D dA A σ0 Qf C σ H locs ls hW hL (ac_okc ac_ok_int (ac_oku hS).2) hl)
theorem r_sload {g : ac_P} {pc : Nat} {L : List (Nat × Value)} {S : List Value} {h : ac_H} {k z : Nat} {n q9 : Nat} {xs : Nat → Int32} {i : Int32} (hd : decode (ac_cc g) pc = .ok (.iaload, 1)) (hs9 : ac_sc g = some (n, xs)) (hin : vp_in i n) (kk : ac_G g (pc + 1) L (.int (xs i.toNatClampNeg) :: S) h k z) : ac_G g pc L (.int i :: .retAddr q9 :: S) h k z := by
  intro p e R s m args below meth c D dA A σ0 Qf C σ H locs ls hW hL hS hl
  obtain ⟨⟨hx, hb, hml, hown, hnm, hts, htb⟩, ⟨hK, hX, hA, hR⟩, hend, hsc⟩ := id C
  obtain ⟨w1, w2, w3, hP, hD, hSS⟩ := id hW
  obtain ⟨x1, x2, x3⟩ := hsc n xs hs9
  have e1 : σ.1 = σ0.1 := w3.1
  rw [← e1] at x1 x2 x3
  exact va_sld hx hb x1 x2 x3 hSS hin hd (kk p e R s m args below meth c D dA A σ0 Qf C σ H locs ls hW hL (ac_okc ac_ok_int (ac_oku (ac_oku hS).2).2) hl)
theorem r_slen {g : ac_P} {pc : Nat} {L : List (Nat × Value)} {S : List Value} {h : ac_H} {k z : Nat} {n q9 : Nat} {xs : Nat → Int32} (hd : decode (ac_cc g) pc = .ok (.arraylength, 1)) (hs9 : ac_sc g = some (n, xs)) (kk : ac_G g (pc + 1) L (.int (nI n) :: S) h k z) : ac_G g pc L (.retAddr q9 :: S) h k z := by
  intro p e R s m args below meth c D dA A σ0 Qf C σ H locs ls hW hL hS hl
  obtain ⟨⟨hx, hb, hml, hown, hnm, hts, htb⟩, ⟨hK, hX, hA, hR⟩, hend, hsc⟩ := id C
  obtain ⟨w1, w2, w3, hP, hD, hSS⟩ := id hW
  obtain ⟨x1, x2, x3⟩ := hsc n xs hs9
  have e1 : σ.1 = σ0.1 := w3.1
  rw [← e1] at x1 x2 x3
  exact va_slen hx hb x1 x2 x3 hSS hd (kk p e R s m args below meth c D dA A σ0 Qf C σ H locs ls hW hL (ac_okc ac_ok_int (ac_oku hS).2) hl)
/-- a cell more: the address map grows -/
theorem ac_Wd.more {D : va_G} {dA : Nat → ClassId} {A : Nat → Prop} {s : State} {n0 : Nat} {σ0 σ : ac_A} {h : ac_H} {H H1 : Heap} {locs locs1 : List Loc} (hW : ac_Wd D dA A s n0 σ0 σ h H locs) (q : Nat) {e : ac_E} {e' : va_E} (he : ∀ τ, ac_c τ dA e = e') (ho : ac_okE (h.length + 1) e) (hP : va_P D ac_cl (ac_w σ dA h ++ [(q, e')]) H1) (hD : va_D A (ac_w σ dA h ++ [(q, e')])) (hS : va_S A s.heap H1 locs1) :
    ac_ag h.length (σ.1, va_up σ.2 h.length q) σ ∧ ac_Wd D dA A s n0 σ0 (σ.1, va_up σ.2 h.length q) (h ++ [e]) H1 locs1 := by
  obtain ⟨w1, w2, w3, -, -, -⟩ := hW
  have ha : ac_ag h.length (σ.1, va_up σ.2 h.length q) σ := ⟨rfl, fun i hi => va_up_ne _ _ (Nat.ne_of_lt hi)⟩
  have e9 : ac_w (σ.1, va_up σ.2 h.length q) dA (h ++ [e]) = ac_w σ dA h ++ [(q, e')] := by
    rw [ac_w_push, ac_w_ag dA ha w1, he]
    show ac_w σ dA h ++ [(va_up σ.2 h.length q h.length, e')] = _
    rw [va_up_self]
  exact ⟨ha, ac_okH_push w1 ho, by rw [List.length_append]; exact Nat.le_trans w2 (Nat.le_add_right _ _), ac_ag_tr ha w3 w2, by rw [e9]; exact hP, by rw [e9]; exact hD, hS⟩
theorem ac_okL_mono {n m : Nat} {L : List (Nat × Value)} (h : ∀ q ∈ L, ac_ok n q.2) (hm : n ≤ m) : ∀ q ∈ L, ac_ok m q.2 := fun q hq => ac_ok_mono (h q hq) hm
theorem ac_okS_mono {n m : Nat} {S : List Value} (h : ∀ v ∈ S, ac_ok n v) (hm : n ≤ m) : ∀ v ∈ S, ac_ok m v := fun v hv => ac_ok_mono (h v hv) hm
theorem r_newarrayI {g : ac_P} {pc : Nat} {L : List (Nat × Value)} {S : List Value} {h : ac_H} {k z : Nat} {n : Nat} (hd : decode (ac_cc g) pc = .ok (.newarray .int, 2)) (hw9 : Cond.arrayClass .int ∈ ac_U) (hn : n < 1000000) (h1 : k + 1 ≤ ac_mc g) (h2 : z + n ≤ ac_ms g) (kk : ac_G g (pc + 2) L (.ref h.length :: S) (h ++ [.inl (.inl (n, fun _ => 0))]) (k + 1) (z + n)) : ac_G g pc L (.int (nI n) :: S) h k z := by
  intro p e R s m args below meth c D dA A σ0 Qf C σ H locs ls hW hL hS hl
  obtain ⟨⟨hx, hb, hml, hown, hnm, hts, htb⟩, ⟨hK, hX, hA, hR⟩, hend, hsc⟩ := id C
  obtain ⟨w1, w2, w3, hP, hD, hSS⟩ := id hW
  refine va_newa (atype := .int) (ty := .int) (a0 := (n, .inl (fun _ => 0))) hx hb (hts _ hw9) rfl hK hP hD hSS hA (fun _ => rfl) (nI_pos (by omega)) (nI_clamp (by omega)) (by show n * _ ≤ _; simp only [componentBytes]; omega) (by omega) (by omega) hd (fun q9 cA H1 hK1 hP1 hD1 hS1 => ?_)
  have hc9 : cA = dA 0 := by
    have a1 := (hK1.2 (ac_tys dA).length (cA, .int) (by simp)).2
    have a2 := (hK.2 0 (dA 0, .int) rfl).2
    exact Option.some.inj (Eq.trans (Eq.symm a1) a2)
  subst hc9
  obtain ⟨ha, hW2⟩ := hW.more q9 (e := .inl (.inl (n, fun _ => 0))) (fun _ => rfl) trivial hP1 hD1 hS1
  have hlen : h.length ≤ (h ++ [(.inl (.inl (n, fun _ => 0)) : ac_E)]).length := by rw [List.length_append]; exact Nat.le_add_right _ _
  have hself : ac_v (σ.1, va_up σ.2 h.length q9) (.ref h.length) = .ref q9 := by
    show Value.ref (va_up σ.2 h.length q9 h.length) = _
    rw [va_up_self]
  have k9 := kk p e R s m args below meth c D dA A σ0 Qf C (σ.1, va_up σ.2 h.length q9) H1 locs ls hW2 (ac_okL_mono hL hlen) (ac_okc (ac_ok_ref (by rw [List.length_append]; exact Nat.lt_succ_self _)) (ac_okS_mono (ac_oku hS).2 hlen)) (by rw [ac_L_ag ha hL]; exact hl)
  rw [List.map_cons, hself, ac_S_ag ha (ac_oku hS).2] at k9
  exact k9
theorem r_newarrayL {g : ac_P} {pc : Nat} {L : List (Nat × Value)} {S : List Value} {h : ac_H} {k z : Nat} {n : Nat} (hd : decode (ac_cc g) pc = .ok (.newarray .long, 2)) (hw9 : Cond.arrayClass .long ∈ ac_U) (hn : n < 1000000) (h1 : k + 1 ≤ ac_mc g) (h2 : z + n ≤ ac_ms g) (kk : ac_G g (pc + 2) L (.ref h.length :: S) (h ++ [.inl (.inr (.inl (n, fun _ => 0)))]) (k + 1) (z + n)) : ac_G g pc L (.int (nI n) :: S) h k z := by
  intro p e R s m args below meth c D dA A σ0 Qf C σ H locs ls hW hL hS hl
  obtain ⟨⟨hx, hb, hml, hown, hnm, hts, htb⟩, ⟨hK, hX, hA, hR⟩, hend, hsc⟩ := id C
  obtain ⟨w1, w2, w3, hP, hD, hSS⟩ := id hW
  refine va_newa (atype := .long) (ty := .long) (a0 := (n, .inr (.inl (fun _ => 0)))) hx hb (hts _ hw9) rfl hK hP hD hSS hA (fun _ => rfl) (nI_pos (by omega)) (nI_clamp (by omega)) (by show n * _ ≤ _; simp only [componentBytes]; omega) (by omega) (by omega) hd (fun q9 cA H1 hK1 hP1 hD1 hS1 => ?_)
  have hc9 : cA = dA 1 := by
    have a1 := (hK1.2 (ac_tys dA).length (cA, .long) (by simp)).2
    have a2 := (hK.2 1 (dA 1, .long) rfl).2
    exact Option.some.inj (Eq.trans (Eq.symm a1) a2)
  subst hc9
  obtain ⟨ha, hW2⟩ := hW.more q9 (e := .inl (.inr (.inl (n, fun _ => 0)))) (fun _ => rfl) trivial hP1 hD1 hS1
  have hlen : h.length ≤ (h ++ [(.inl (.inr (.inl (n, fun _ => 0))) : ac_E)]).length := by rw [List.length_append]; exact Nat.le_add_right _ _
  have hself : ac_v (σ.1, va_up σ.2 h.length q9) (.ref h.length) = .ref q9 := by
    show Value.ref (va_up σ.2 h.length q9 h.length) = _
    rw [va_up_self]
  have k9 := kk p e R s m args below meth c D dA A σ0 Qf C (σ.1, va_up σ.2 h.length q9) H1 locs ls hW2 (ac_okL_mono hL hlen) (ac_okc (ac_ok_ref (by rw [List.length_append]; exact Nat.lt_succ_self _)) (ac_okS_mono (ac_oku hS).2 hlen)) (by rw [ac_L_ag ha hL]; exact hl)
  rw [List.map_cons, hself, ac_S_ag ha (ac_oku hS).2] at k9
  exact k9
theorem r_anewarray {g : ac_P} {pc : Nat} {L : List (Nat × Value)} {S : List Value} {h : ac_H} {k z : Nat} {n kd idx : Nat} {C9 : String} (hd : decode (ac_cc g) pc = .ok (.anewarray idx, 3)) (hk9 : ac_kn[kd]? = some C9) (hw9 : Cond.classLink (ac_y g).cls idx C9 ∈ ac_U) (hn : n < 1000000) (h1 : k + 1 ≤ ac_mc g) (h2 : z + n ≤ ac_ms g) (kk : ac_G g (pc + 3) L (.ref h.length :: S) (h ++ [.inl (.inr (.inr (kd, n, fun _ => none)))]) (k + 1) (z + n)) : ac_G g pc L (.int (nI n) :: S) h k z := by
  intro p e R s m args below meth c D dA A σ0 Qf C σ H locs ls hW hL hS hl
  obtain ⟨⟨hx, hb, hml, hown, hnm, hts, htb⟩, ⟨hK, hX, hA, hR⟩, hend, hsc⟩ := id C
  obtain ⟨w1, w2, w3, hP, hD, hSS⟩ := id hW
  refine va_newq hx hb hown (hts _ hw9) (hX.2.2.1 _ (List.mem_of_getElem? hk9)) hK hP hD hSS hA (N' := n) (nI_pos (by omega)) (nI_clamp (by omega)) (by omega) (by omega) (by omega) hd (fun q9 cA H1 hK1 hP1 hD1 hS1 => ?_)
  have hc9 : cA = dA (kd + 2) := by
    obtain ⟨kA, comp, b1, b2, b3, a1⟩ := (hK1.2 (ac_tys dA).length (cA, .object C9) (by simp)).2
    obtain ⟨kA', comp', b1', b2', b3', a2⟩ := (hK.2 (kd + 2) (dA (kd + 2), .object C9) (ac_tys_k hk9)).2
    exact Option.some.inj (Eq.trans (Eq.symm a1) a2)
  subst hc9
  obtain ⟨ha, hW2⟩ := hW.more q9 (e := .inl (.inr (.inr (kd, n, fun _ => none)))) (fun _ => rfl) (fun _ _ hj => nomatch hj) hP1 hD1 hS1
  have hlen : h.length ≤ (h ++ [(.inl (.inr (.inr (kd, n, fun _ => none))) : ac_E)]).length := by rw [List.length_append]; exact Nat.le_add_right _ _
  have hself : ac_v (σ.1, va_up σ.2 h.length q9) (.ref h.length) = .ref q9 := by
    show Value.ref (va_up σ.2 h.length q9 h.length) = _
    rw [va_up_self]
  have k9 := kk p e R s m args below meth c D dA A σ0 Qf C (σ.1, va_up σ.2 h.length q9) H1 locs ls hW2 (ac_okL_mono hL hlen) (ac_okc (ac_ok_ref (by rw [List.length_append]; exact Nat.lt_succ_self _)) (ac_okS_mono (ac_oku hS).2 hlen)) (by rw [ac_L_ag ha hL]; exact hl)
  rw [List.map_cons, hself, ac_S_ag ha (ac_oku hS).2] at k9
  exact k9
/-- objects of kind ci may be made at idx; fs: the fields of a new one -/
def ac_N (own : String) (idx ci N : Nat) (fs : List Value) : Prop := ∃ (C : String) (T : u_T) (ty0 : Nat → FieldType), ac_cl[ci]? = some (C, T, N) ∧ (∀ w ∈ u_ws C T N, w ∈ ac_U) ∧ (∀ i, i < N → parseFieldDescriptor (T i).2.2.1 = some (ty0 i)) ∧ Cond.classLink own idx C ∈ ac_U ∧ Cond.instantiable C N ∈ ac_U ∧ Cond.initialized C ∈ ac_U ∧ (∀ j, j < N → defaultValue (ty0 j) = vp_V fs j) ∧ (∀ (τ : ac_A), fs.map (ac_v τ) = fs) ∧ (∀ v ∈ fs, ∀ a, v ≠ .ref a)
theorem r_new {g : ac_P} {pc : Nat} {L : List (Nat × Value)} {S : List Value} {h : ac_H} {k z : Nat} {idx ci N : Nat} {fs : List Value} (hd : decode (ac_cc g) pc = .ok (.new idx, 3)) (hf : ac_N (ac_y g).cls idx ci N fs) (h1 : k + 1 ≤ ac_mc g) (h2 : z + N ≤ ac_ms g) (kk : ac_G g (pc + 3) L (.ref h.length :: S) (h ++ [.inr (ci, fs)]) (k + 1) (z + N)) : ac_G g pc L S h k z := by
  intro p e R s m args below meth c D dA A σ0 Qf C σ H locs ls hW hL hS hl
  obtain ⟨⟨hx, hb, hml, hown, hnm, hts, htb⟩, ⟨hK, hX, hA, hR⟩, hend, hsc⟩ := id C
  obtain ⟨w1, w2, w3, hP, hD, hSS⟩ := id hW
  obtain ⟨C9, T, ty0, f1, f2, f3, f4, f5, f6, f7, f8, f9⟩ := hf
  refine va_new (fs := fs) (C := C9) (T := T) (N := N) hx hb hts f2 ty0 f3 hown (hts _ f4) (hts _ f5) (hts _ f6) hK hP hD hSS hA f1 f7 (by omega) (by omega) hd (fun q9 H1 hP1 hD1 hS1 => ?_)
  obtain ⟨ha, hW2⟩ := hW.more q9 (e := .inr (ci, fs)) (fun _ => by simp only [ac_c, f8]) (fun v hv a9 ha9 => absurd ha9 (f9 v hv a9)) hP1 hD1 hS1
  have hlen : h.length ≤ (h ++ [(.inr (ci, fs) : ac_E)]).length := by rw [List.length_append]; exact Nat.le_add_right _ _
  have hself : ac_v (σ.1, va_up σ.2 h.length q9) (.ref h.length) = .ref q9 := by
    show Value.ref (va_up σ.2 h.length q9 h.length) = _
    rw [va_up_self]
  have k9 := kk p e R s m args below meth c D dA A σ0 Qf C (σ.1, va_up σ.2 h.length q9) H1 locs ls hW2 (ac_okL_mono hL hlen) (ac_okc (ac_ok_ref (by rw [List.length_append]; exact Nat.lt_succ_self _)) (ac_okS_mono hS hlen)) (by rw [ac_L_ag ha hL]; exact hl)
  rw [List.map_cons, hself, ac_S_ag ha hS] at k9
  exact k9
theorem r_objInit {g : ac_P} {pc : Nat} {L : List (Nat × Value)} {S : List Value} {h : ac_H} {k z : Nat} {a idx : Nat} (hd : decode (ac_cc g) pc = .ok (.invokespecial idx, 3)) (hw1 : Cond.methodLink (ac_y g).cls idx Lib.objectInit ∈ ac_U) (hw2 : Cond.instanceMethod Lib.objectInit ∈ ac_U) (hw3 : Cond.code Lib.objectInit ⟨#[0xb1]⟩ 1 none ∈ ac_U) (hd1 : 1 ≤ ac_d g) (hs : (S.map fun v => v.category).sum ≤ 8) (kk : ac_G g (pc + 3) L S h k z) : ac_G g pc L (.ref a :: S) h k z := by
  intro p e R s m args below meth c D dA A σ0 Qf C σ H locs ls hW hL hS hl
  obtain ⟨⟨hx, hb, hml, hown, hnm, hts, htb⟩, ⟨hK, hX, hA, hR⟩, hend, hsc⟩ := id C
  refine W.objInit hx hb hown (hts _ hw1) (hts _ hw2) (hts _ hw3) rfl (by rw [hml]; exact hl.1) (a := σ.2 a) (rest := S.map (ac_v σ)) rfl hd (by omega) (by rw [ac_cats]; show 2 * 0 + _ + 12 ≤ _; omega) ?_
  exact kk p e R s m args below meth c D dA A σ0 Qf C σ H locs ls hW hL (ac_oku hS).2 hl
theorem r_max {g : ac_P} {pc : Nat} {L : List (Nat × Value)} {S : List Value} {h : ac_H} {k z : Nat} {idx : Nat} {x y : Int32} (hd : decode (ac_cc g) pc = .ok (.invokestatic idx, 3)) (hw1 : Cond.methodLink (ac_y g).cls idx Lib.Math.max.name ∈ ac_U) (hw2 : Cond.static Lib.Math.max.name ∈ ac_U) (hw3 : Cond.initialized "java/lang/Math" ∈ ac_U) (hw4 : Cond.code Lib.Math.max.name Lib.Math.max.code 2 (some .int) ∈ ac_U) (hd1 : 1 ≤ ac_d g) (h1 : k ≤ ac_mc g) (h2 : z ≤ ac_ms g) (hs : (S.map fun v => v.category).sum ≤ 8) (kk : ac_G g (pc + 3) L (.int (if x < y then y else x) :: S) h k z) : ac_G g pc L (.int y :: .int x :: S) h k z := by
  intro p e R s m args below meth c D dA A σ0 Qf C σ H locs ls hW hL hS hl
  obtain ⟨⟨hx, hb, hml, hown, hnm, hts, htb⟩, ⟨hK, hX, hA, hR⟩, hend, hsc⟩ := id C
  exact va_mmax hx hb (by rw [hml]; exact hl.1.symm) hown (hts _ hw1) (hts _ hw2) (hts _ hw3) (hts _ hw4) (by omega) (by rw [ac_cats]; omega) (by omega) (by omega) hd (kk p e R s m args below meth c D dA A σ0 Qf C σ H locs ls hW hL (ac_okc ac_ok_int (ac_oku (ac_oku hS).2).2) hl)
/-- A CONTRACT: method mi, called with the arguments a in any heap that holds h, within depth d, ends as Φ says; at most MC cells of MS slots are new -/
def ac_Pc (D : va_G) (dA : Nat → ClassId) (σ0 : ac_A) (a : List Value) (h : ac_H) (sz : Nat) : Array Value → State → Prop := va_Pc (a.map (ac_v σ0)) (fun U => U.heap.size = sz ∧ ac_okH h ∧ (∀ v ∈ a, ac_ok h.length v) ∧ va_P D ac_cl (ac_w σ0 dA h) U.heap ∧ va_K D ac_cl (ac_tys dA) U ∧ va_D (fun _ => True) (ac_w σ0 dA h) ∧ ac_X (va_A (ac_w σ0 dA h) sz) U U.heap)
def ac_Af (D : va_G) (dA : Nat → ClassId) (σ0 : ac_A) (h : ac_H) (sz : Nat) (h' : ac_H) (σ' : ac_A) (st t : State) : Prop := ac_okH h' ∧ h.length ≤ h'.length ∧ ac_ag h.length σ' σ0 ∧ va_P D ac_cl (ac_w σ' dA h') t.heap ∧ va_D (va_A (ac_w σ0 dA h) sz) (ac_w σ' dA h') ∧ va_F (va_A (ac_w σ0 dA h) sz) st t
def ac_Qr (D : va_G) (dA : Nat → ClassId) (σ0 : ac_A) (h : ac_H) (sz : Nat) (Φ : ac_R → ac_H → Prop) : State → Option Value → State → Prop := fun st v t => ∃ (r : Option Value) (h' : ac_H) (σ' : ac_A), v = r.map (ac_v σ') ∧ Φ (.inl r) h' ∧ (∀ v ∈ r.toList, ac_ok h'.length v) ∧ ac_Af D dA σ0 h sz h' σ' st t
def ac_Qx (D : va_G) (dA : Nat → ClassId) (σ0 : ac_A) (h : ac_H) (sz : Nat) (Φ : ac_R → ac_H → Prop) : State → String → State → Prop := fun st E t => ∃ (h' : ac_H) (σ' : ac_A), Φ (.inr E) h' ∧ ac_Af D dA σ0 h sz h' σ' st t
def ac_Qc (D : va_G) (dA : Nat → ClassId) (σ0 : ac_A) (h : ac_H) (sz : Nat) (Φ : ac_R → ac_H → Prop) : Array Value → State → Outcome → State → Prop := fun _ st o t => ∃ v, o = .returned v ∧ ac_Qr D dA σ0 h sz Φ st v t
abbrev ac_rm (d MC MS : Nat) : Room := { frames := d, cells := MC, slots := MS, locals := 35 * d }
def ac_Mt (l : Launch) (d : Nat) (mi : ac_I) (a : List Value) (h : ac_H) (MC MS : Nat) (Φ : ac_R → ac_H → Prop) : Prop :=
  ∀ (D : va_G) (dA : Nat → ClassId) (σ0 : ac_A) (sz : Nat), xq_M l mi.1 (Cond.code mi.1 mi.2.1 mi.2.2.1 mi.2.2.2.1 :: ac_U) (ac_rm d MC MS) (ac_Pc D dA σ0 a h sz) (ac_Qr D dA σ0 h sz Φ) (ac_Qx D dA σ0 h sz Φ) MC MS (va_A (ac_w σ0 dA h) sz)
/-- .. of a method with handlers of its own -/
def ac_MtW (l : Launch) (d : Nat) (mi : ac_I) (a : List Value) (h : ac_H) (MC MS : Nat) (Φ : ac_R → ac_H → Prop) : Prop :=
  ∀ (D : va_G) (dA : Nat → ClassId) (σ0 : ac_A) (sz : Nat), xq_M l mi.1 (Cond.codeWith mi.1 mi.2.1 mi.2.2.1 mi.2.2.2.1 mi.2.2.2.2 :: ac_U) (ac_rm d MC MS) (ac_Pc D dA σ0 a h sz) (ac_Qr D dA σ0 h sz Φ) (ac_Qx D dA σ0 h sz Φ) MC MS (va_A (ac_w σ0 dA h) sz)
theorem ac_blind (D : va_G) (dA : Nat → ClassId) (σ0 : ac_A) (a : List Value) (h : ac_H) (sz : Nat) : FrameBlind (ac_Pc D dA σ0 a h sz) := by
  intro b U g mk q
  obtain ⟨q0, q1, q2, q3, q4, q5, q6, q7⟩ := q
  exact ⟨q0, q1, q2, q3, q4, va_K.moved (u := U) (U := U.calling g mk b) (Vm.Alike.refl U.vm) q5, q6, ac_X.call g mk b q7⟩
/-- what a caller pays -/
theorem ac_pay {D : va_G} {dA : Nat → ClassId} {A : Nat → Prop} {s : State} {n0 : Nat} {σ0 σ : ac_A} {h : ac_H} {H : Heap} {locs : List Loc} {a : List Value} (hW : ac_Wd D dA A s n0 σ0 σ h H locs) (hK : va_K D ac_cl (ac_tys dA) s) (hX : ac_X A s s.heap) (hA : ∀ q, s.heap.size ≤ q → A q) (ha : ∀ v ∈ a, ac_ok h.length v) :
    (∀ q, va_A (ac_w σ dA h) H.size q → A q) ∧ ∀ U : State, U.heap = H → s.WarmedH U.vm → ac_Pc D dA σ a h H.size (a.map (ac_v σ)).toArray U := by
  obtain ⟨w1, w2, w3, hP, hD, hSS⟩ := hW
  have hF : ∀ q, va_A (ac_w σ dA h) H.size q → A q := by
    intro q hq
    rcases hq with ⟨i, e, hi⟩ | hq
    · exact hD.2 i (q, e) hi
    · exact hA q (Nat.le_trans hSS.1 hq)
  refine ⟨hF, fun U hU hw => ⟨rfl, by rw [hU], w1, ha, by rw [hU]; exact hP, va_K.moved hw.alike hK, hD.weaken (fun _ _ _ _ => trivial), ?_⟩⟩
  rw [hU]
  exact ac_X.at hw hX (fun a h1 h2 => hSS.2.1 a h1 h2) hF
/-- what a caller gets back -/
theorem ac_got {D : va_G} {dA : Nat → ClassId} {A : Nat → Prop} {s st t T' : State} {n0 : Nat} {σ0 σ σ' : ac_A} {h h' : ac_H} {H : Heap} {locs L9 : List Loc} (hW : ac_Wd D dA A s n0 σ0 σ h H locs) (hF : ∀ q, va_A (ac_w σ dA h) H.size q → A q) (h0 : st.heap = H) (e1 : T'.heap = t.heap) (hL : ∀ q ∈ L9, va_A (ac_w σ dA h) H.size q.base) (hq : ac_Af D dA σ h H.size h' σ' st t) : ac_Wd D dA A s n0 σ0 σ' h' T'.heap (locs ++ L9) := by
  obtain ⟨w1, w2, w3, hP, hD, hSS⟩ := hW
  obtain ⟨q1, q2, q3, q4, q5, q6⟩ := hq
  obtain ⟨f1, f2⟩ := q6
  rw [h0] at f1 f2
  refine ⟨q1, Nat.le_trans w2 q2, ac_ag_tr q3 w3 w2, by rw [e1]; exact q4, q5.weaken (fun _ _ _ hq => hF _ hq), Nat.le_trans hSS.1 (by rw [e1]; exact f1), fun q g1 g2 => ?_, fun q hq => ?_⟩
  · rw [e1, f2 q (Nat.lt_of_lt_of_le g1 hSS.1) (fun z9 => g2 (hF q z9))]
    exact hSS.2.1 q g1 g2
  · rcases List.mem_append.mp hq with g1 | g1
    · exact hSS.2.2 q g1
    · exact hF _ (hL q g1)
/-- E has been thrown over this frame at pc: it goes out, or a handler takes it (which begins by storing it away) -/
def ac_hx (g : ac_P) (pc : Nat) (L : List (Nat × Value)) (E : String) (h : ac_H) (k z : Nat) : Prop :=
  (ac_hh g = [] ∧ ac_ph g (.inr E) h ∧ k ≤ ac_mc g ∧ z ≤ ac_ms g) ∨
  ∃ (pre suf : List (Nat × Nat × Nat × Nat)) (x : Nat × Nat × Nat × Nat) (nm : String) (i len : Nat), ac_hh g = pre ++ x :: suf ∧
    (∀ y ∈ tableOf pre, covers y pc = false ∨ (y.catchType ≠ 0 ∧ ∃ n9 : String, Cond.classLink (ac_y g).cls y.catchType n9 ∈ ac_U ∧ (E, n9) ∈ ac_nc)) ∧
    covers ⟨x.1, x.2.1, x.2.2.1, x.2.2.2⟩ pc = true ∧ x.2.2.2 ≠ 0 ∧ Cond.classLink (ac_y g).cls x.2.2.2 nm ∈ ac_U ∧ Cond.castable E nm ∈ ac_ow ∧
    ((∃ j : Fin 4, (j : Nat) = i ∧ len = 1 ∧ decode (ac_cc g) x.2.2.1 = .ok (.astore_n j, 1)) ∨ (len = 2 ∧ decode (ac_cc g) x.2.2.1 = .ok (.astore i, 2))) ∧ i < ac_ml g ∧ ac_G g (x.2.2.1 + len) (ac_del L i) [] h k z
theorem ac_hx_go {g : ac_P} {pc : Nat} {L : List (Nat × Value)} {E : String} {h : ac_H} {k z : Nat} (hx9 : ac_hx g pc L E h k z) {p : Program} {e : Env} {R : Room} {s : State} {m : MethodId} {args : Array Value} {below : List Frame} {meth : Method} {c : Code} {D : va_G} {dA : Nat → ClassId} {A : Nat → Prop} {σ0 : ac_A} {Qf : State → Prop} (C : ac_C g p e R s m args below meth c D dA A σ0 Qf) {σ : ac_A} {H : Heap} {locs : List Loc} {ls : Array Slot} {rest : List Value} (hW : ac_Wd D dA A s (ac_n0 g) σ0 σ h H locs) (hL : ∀ q ∈ L, ac_ok h.length q.2) (hl : lv_has ls (ac_ml g) (L.map (ac_lv σ))) {ce : Cell} {q : Nat} (hce : H[q]? = some ce) (hv : ce.vm = .none) (hcl : s.vm.findClass E = some ce.cls) :
    xq_W p (ac_l g) e R s m args below meth c H locs k z Qf (F0 m pc ls rest) q := by
  obtain ⟨⟨hx, hb, hml, hown, hnm, hts, htb⟩, ⟨hK, hX, hA, hR⟩, hend, hsc⟩ := id C
  rcases hx9 with ⟨h1, h2, h3, h4⟩ | ⟨pre, suf, x, nm, i, len, h1, h2, h3, h4, h5, h6, h7, h8, kk⟩
  · exact hend.2.1 σ h H locs k z E ce q pc ls rest hW h2 h3 h4 hce hv hcl h1
  · refine xq_catch (E := E) hown (tableOf pre) ⟨x.1, x.2.1, x.2.2.1, x.2.2.2⟩ (tableOf suf) (by rw [htb, h1]; simp [tableOf]) (fun y hy => ?_) h3 h4 (hts _ h5) (va_Nw.use rfl (hX.2.1 _ h6)) hce hv hcl ?_
    · rcases h2 y hy with a1 | ⟨a1, n9, a2, a3⟩
      · exact Or.inl a1
      · exact Or.inr ⟨a1, n9, hts _ a2, hX.2.2.2.2 _ a3⟩
    · have kk2 : ∀ ls' : Array Slot, lv_has ls' (ac_ml g) ((i, Value.ref q) :: (ac_del L i).map (ac_lv σ)) → W p (ac_l g) e R s m args below meth c H locs k z Qf (F0 m (x.2.2.1 + len) ls' []) := fun ls' hl' =>
        kk p e R s m args below meth c D dA A σ0 Qf C σ H locs ls' hW (ac_okL_del hL) (fun _ hq => nomatch hq) ⟨hl'.1, hl'.2.1, fun y hy => hl'.2.2 y (List.mem_cons_of_mem _ hy)⟩
      rcases h7 with ⟨j, hj, rfl, h7⟩ | ⟨rfl, h7⟩
      · exact lv_astore_n (x := q) (lv' := (i, Value.ref q) :: (ac_del L i).map (ac_lv σ)) hx hb h7 hj hl h8 (by rw [ac_del_map]) kk2
      · exact lv_astore (x := q) (lv' := (i, Value.ref q) :: (ac_del L i).map (ac_lv σ)) hx hb h7 hl h8 (by rw [ac_del_map]) kk2
/-- what is to be known of the called -/
def ac_K (own : String) (idx : Nat) (mi : ac_I) (n : Nat) : Prop := Cond.initialized mi.1.cls ∈ ac_U ∧ mi.2.2.1 ≤ 16 ∧ (mi.1.cls ≠ "java/lang/invoke/MethodHandle" ∧ mi.1.cls ≠ "java/lang/invoke/VarHandle" ∧ (parseMethodDescriptor mi.1.desc).map (fun d => d.parameters.length) = some n)
abbrev ac_KV (own : String) (idx : Nat) (mi : ac_I) (n : Nat) : Prop := ac_K own idx mi n ∧ Cond.methodLink own idx mi.1 ∈ ac_U ∧ Cond.instanceMethod mi.1 ∈ ac_U ∧ Cond.selects mi.1.cls mi.1 mi.1 ∈ ac_U ∧ Cond.code mi.1 mi.2.1 mi.2.2.1 mi.2.2.2.1 ∈ ac_U
abbrev ac_KS (own : String) (idx : Nat) (mi : ac_I) (n : Nat) : Prop := ac_K own idx mi n ∧ Cond.methodLink own idx mi.1 ∈ ac_U ∧ Cond.static mi.1 ∈ ac_U ∧ Cond.code mi.1 mi.2.1 mi.2.2.1 mi.2.2.2.1 ∈ ac_U
abbrev ac_KSW (own : String) (idx : Nat) (mi : ac_I) (n : Nat) : Prop := ac_K own idx mi n ∧ Cond.methodLink own idx mi.1 ∈ ac_U ∧ Cond.static mi.1 ∈ ac_U ∧ Cond.codeWith mi.1 mi.2.1 mi.2.2.1 mi.2.2.2.1 mi.2.2.2.2 ∈ ac_U
abbrev ac_KI (own : String) (idx : Nat) (mi : ac_I) (n : Nat) : Prop := ac_K own idx mi n ∧ Cond.methodLink own idx mi.1 ∈ ac_U ∧ Cond.instanceMethod mi.1 ∈ ac_U ∧ Cond.code mi.1 mi.2.1 mi.2.2.1 mi.2.2.2.1 ∈ ac_U ∧ mi.1.name = "<init>" ∧ mi.2.2.2.1 = none
abbrev ac_KIN (own : String) (idx : Nat) (mi : ac_I) (n : Nat) (host : String) : Prop := ac_K own idx mi n ∧ Cond.methodLinkNest own idx mi.1 host ∈ ac_ow ∧ Cond.instanceMethod mi.1 ∈ ac_U ∧ Cond.code mi.1 mi.2.1 mi.2.2.1 mi.2.2.2.1 ∈ ac_U ∧ mi.1.name = "<init>" ∧ mi.2.2.2.1 = none
theorem ac_paid {s : State} {args : Array Value} (hts : ∀ w ∈ ac_U, w.before args s = true) {w : Cond} (hw : w ∈ ac_U) : ∀ w' ∈ w :: ac_U, ∀ (a' : Array Value) (U : State), s.WarmedH U.vm → w'.before a' U = true :=
  pay_in (big := ac_U) hts (fun w' h' => by
    rcases List.mem_cons.mp h' with e | e
    · rw [e]; exact ⟨hw, good_of_word (ac_good w hw)⟩
    · exact ⟨e, good_of_word (ac_good w' e)⟩)
theorem ac_params {y : MethodName} {n : Nat} (h : (parseMethodDescriptor y.desc).map (fun d => d.parameters.length) = some n) : ∀ sig, parseMethodDescriptor y.desc = some sig → n = sig.parameters.length := fun sig hs => by
  rw [hs] at h
  exact (Option.some.inj h).symm
theorem ac_CallB {R : Room} {s : State} {args : Array Value} {own : String} {idx d' mc ms n : Nat} {mi : ac_I} (hts : ∀ w ∈ ac_U, w.before args s = true) (hk : ac_K own idx mi n) (hl : Cond.methodLink own idx mi.1 ∈ ac_U) (hc : Cond.code mi.1 mi.2.1 mi.2.2.1 mi.2.2.2.1 ∈ ac_U) {d : Nat} (hd : d' + 1 ≤ d) (hR1 : d ≤ R.frames) (hR2 : 35 * d ≤ R.locals) :
    CallB R s args own idx mi.1 mi.2.1 mi.2.2.1 mi.2.2.2.1 (Cond.code mi.1 mi.2.1 mi.2.2.1 mi.2.2.2.1 :: ac_U) (ac_rm d' mc ms) mc ms n := by
  obtain ⟨k1, k2, k3, k4, k5⟩ := hk
  exact ⟨rfl, rfl, Nat.le_trans hd hR1, by show 8 + (mi.2.2.1 + 11) + 35 * d' ≤ R.locals; omega, ac_paid hts hc, List.mem_cons_self, hts _ hc, hts _ k1, ⟨k3, k4⟩, ac_params k5, hts _ hl⟩
/-- nothing thrown: an ordinary contract -/
theorem ac_Mt.met {l : Launch} {d : Nat} {mi : ac_I} {a : List Value} {h : ac_H} {MC MS : Nat} {Φ : ac_R → ac_H → Prop} (hM : ac_Mt l d mi a h MC MS Φ) (hno : ∀ E h', ¬ Φ (.inr E) h') (D : va_G) (dA : Nat → ClassId) (σ0 : ac_A) (sz : Nat) : Met l mi.1 (Cond.code mi.1 mi.2.1 mi.2.2.1 mi.2.2.2.1 :: ac_U) (ac_rm d MC MS) (ac_Pc D dA σ0 a h sz) (ac_Qc D dA σ0 h sz Φ) MC MS (va_A (ac_w σ0 dA h) sz) := by
  intro p e h1 h2 h3 s m args below h4 h5 h6 h7
  obtain ⟨n, o, a1, a2, a3, L, a4, a5, a6, a7⟩ := hM D dA σ0 sz p e h1 h2 h3 s m args below h4 h5 h6 h7
  refine ⟨n, o, a1, a2, a3, ?_⟩
  rcases a7 with ⟨v, b1, b2⟩ | ⟨q, E, ce, -, ⟨h', σ', b1, -⟩, -⟩
  · exact ⟨⟨v, b1, b2⟩, L, ⟨⟨v, b1⟩, a4, a5⟩, a6⟩
  · exact absurd b1 (hno E h')
/-- behind a call that may throw -/
theorem ac_after {g : ac_P} {pc : Nat} {L : List (Nat × Value)} {S : List Value} {h : ac_H} {k z : Nat} {p : Program} {e : Env} {R : Room} {s : State} {m : MethodId} {args : Array Value} {below : List Frame} {meth : Method} {c : Code} {D : va_G} {dA : Nat → ClassId} {A : Nat → Prop} {σ0 : ac_A} {Qf : State → Prop} (C : ac_C g p e R s m args below meth c D dA A σ0 Qf) {σ : ac_A} {H : Heap} {locs : List Loc} {ls : Array Slot} {st0 : List Value} {mc ms : Nat} {Ψ : ac_R → ac_H → Prop} (hW : ac_Wd D dA A s (ac_n0 g) σ0 σ h H locs) (hL : ∀ q ∈ L, ac_ok h.length q.2) (hS : ∀ v ∈ S, ac_ok h.length v) (hl : lv_has ls (ac_ml g) (L.map (ac_lv σ))) (hF : ∀ q, va_A (ac_w σ dA h) H.size q → A q) (hr : xq_R p (ac_l g) e R s m args below meth c H locs k z mc ms (F0 m pc ls st0) (S.map (ac_v σ)) (ac_Qr D dA σ h H.size Ψ) (ac_Qx D dA σ h H.size Ψ) (va_A (ac_w σ dA h) H.size))
    (kk : ∀ r h', Ψ (.inl r) h' → h.length ≤ h'.length → ac_G g (pc + 3) L (r.toList ++ S) h' (k + mc) (z + ms)) (kx : ∀ E h', Ψ (.inr E) h' → h.length ≤ h'.length → ac_hx g pc L E h' (k + mc) (z + ms)) : W p (ac_l g) e R s m args below meth c H locs k z Qf (F0 m pc ls st0) := by
  intro T hT X
  obtain ⟨st₀, t, T', L9, h0, X', hL9, e1, hor⟩ := hr T hT X
  rcases hor with ⟨v, hq, st⟩ | ⟨q, E, ce, hq, hce, hcv, hcl, st⟩
  · obtain ⟨r, h', σ', hv, hΨ, okr, haf⟩ := hq
    have hlen : h.length ≤ h'.length := haf.2.1
    have hag : ac_ag h.length σ' σ := haf.2.2.1
    have hW2 := ac_got hW hF h0 e1 hL9 haf
    have k9 := kk r h' hΨ hlen p e R s m args below meth c D dA A σ0 Qf C σ' T'.heap (locs ++ L9) ls hW2 (ac_okL_mono hL hlen) (fun v hv9 => by
      rcases List.mem_append.mp hv9 with q | q
      · exact okr v q
      · exact ac_ok_mono (hS v q) hlen) (by rw [ac_L_ag hag hL]; exact hl) T' rfl X'
    have e9 : (r.toList ++ S).map (ac_v σ') = v.toList ++ S.map (ac_v σ) := by
      cases hv
      rw [List.map_append, ac_S_ag hag hS]
      cases r <;> rfl
    rw [e9] at k9
    obtain ⟨t2, a1, b1⟩ := k9
    exact ⟨t2, st t2 a1, b1⟩
  · obtain ⟨h', σ', hΨ, haf⟩ := hq
    have hlen : h.length ≤ h'.length := haf.2.1
    have hag : ac_ag h.length σ' σ := haf.2.2.1
    have hW2 := ac_got hW hF h0 e1 hL9 haf
    obtain ⟨t2, a1, b1⟩ := ac_hx_go (kx E h' hΨ hlen) C hW2 (ac_okL_mono hL hlen) (by rw [ac_L_ag hag hL]; exact hl) (rest := S.map (ac_v σ)) (by rw [e1]; exact hce) hcv hcl T' rfl X'
    exact ⟨t2, st.trans a1, b1⟩
/-- behind a call that doesn't -/
theorem ac_afterN {g : ac_P} {pc : Nat} {L : List (Nat × Value)} {S : List Value} {h : ac_H} {k z : Nat} {p : Program} {e : Env} {R : Room} {s : State} {m : MethodId} {args : Array Value} {below : List Frame} {meth : Method} {c : Code} {D : va_G} {dA : Nat → ClassId} {A : Nat → Prop} {σ0 : ac_A} {Qf : State → Prop} (C : ac_C g p e R s m args below meth c D dA A σ0 Qf) {σ : ac_A} {H : Heap} {locs : List Loc} {ls : Array Slot} {st0 : List Value} {mc ms : Nat} {Ψ : ac_R → ac_H → Prop} (hW : ac_Wd D dA A s (ac_n0 g) σ0 σ h H locs) (hL : ∀ q ∈ L, ac_ok h.length q.2) (hS : ∀ v ∈ S, ac_ok h.length v) (hl : lv_has ls (ac_ml g) (L.map (ac_lv σ))) (hF : ∀ q, va_A (ac_w σ dA h) H.size q → A q) {av : Array Value} (hr : va_Run p (ac_l g) e R s m args below meth c H locs k z mc ms (F0 m pc ls st0) (S.map (ac_v σ)) (ac_Qc D dA σ h H.size Ψ av) (va_A (ac_w σ dA h) H.size))
    (kk : ∀ r h', Ψ (.inl r) h' → h.length ≤ h'.length → ac_G g (pc + 3) L (r.toList ++ S) h' (k + mc) (z + ms)) : W p (ac_l g) e R s m args below meth c H locs k z Qf (F0 m pc ls st0) := by
  intro T hT X
  obtain ⟨v, st₀, t, T', L9, h0, X', hL9, e1, e2, ⟨v9, hv9, hq⟩, st⟩ := hr T hT X
  cases hv9
  obtain ⟨r, h', σ', hv, hΨ, okr, haf⟩ := hq
  have hlen : h.length ≤ h'.length := haf.2.1
  have hag : ac_ag h.length σ' σ := haf.2.2.1
  have hW2 := ac_got hW hF h0 e1 hL9 haf
  have k9 := kk r h' hΨ hlen p e R s m args below meth c D dA A σ0 Qf C σ' T'.heap (locs ++ L9) ls hW2 (ac_okL_mono hL hlen) (fun v hv9 => by
    rcases List.mem_append.mp hv9 with q | q
    · exact okr v q
    · exact ac_ok_mono (hS v q) hlen) (by rw [ac_L_ag hag hL]; exact hl) T' rfl X'
  have e9 : (r.toList ++ S).map (ac_v σ') = v.toList ++ S.map (ac_v σ) := by
    cases hv
    rw [List.map_append, ac_S_ag hag hS]
    cases r <;> rfl
  rw [e9] at k9
  obtain ⟨t2, a1, b1⟩ := k9
  exact ⟨t2, st t2 a1, b1⟩
/-- a call by a receiver -/
theorem r_callV {g : ac_P} {pc : Nat} {L : List (Nat × Value)} {S : List Value} {h : ac_H} {k z : Nat} {mi : ac_I} {n idx : Nat} (as : List Value) (b : Nat) {ci : Nat} {fs : List Value} (d' mc ms : Nat) {Ψ : ac_R → ac_H → Prop} (hd : decode (ac_cc g) pc = .ok (.invokevirtual idx, 3)) (hk9 : ac_KV (ac_y g).cls idx mi n) (hb9 : h[b]? = some (.inr (ci, fs))) {T9 : u_T} {N9 : Nat} (hc9 : ac_cl[ci]? = some (mi.1.cls, T9, N9)) (hn : as.length = n) (hM : ac_Mt (ac_l g) d' mi (.ref b :: as) h mc ms Ψ) (hdd : d' + 1 ≤ ac_d g) (h1 : k + mc ≤ ac_mc g) (h2 : z + ms ≤ ac_ms g) (hs : (S.map fun v => v.category).sum ≤ 8) (kk : ∀ r h', Ψ (.inl r) h' → h.length ≤ h'.length → ac_G g (pc + 3) L (r.toList ++ S) h' (k + mc) (z + ms)) (kx : ∀ E h', Ψ (.inr E) h' → h.length ≤ h'.length → ac_hx g pc L E h' (k + mc) (z + ms)) : ac_G g pc L (as.reverse ++ .ref b :: S) h k z := by
  intro p e R s m args below meth c D dA A σ0 Qf C σ H locs ls hW hL hS hl
  obtain ⟨⟨hx, hb, hml, hown, hnm, hts, htb⟩, ⟨hK, hX, hA, hR⟩, hend, hsc⟩ := id C
  obtain ⟨hk, hw1, hw2, hw3, hw4⟩ := hk9
  have hSa : ∀ v ∈ as, ac_ok h.length v := fun v hv => hS v (List.mem_append_left _ (List.mem_reverse.mpr hv))
  have hS2 : ∀ v ∈ S, ac_ok h.length v := fun v hv => hS v (List.mem_append_right _ (List.mem_cons_of_mem _ hv))
  have hoka : ∀ v ∈ .ref b :: as, ac_ok h.length v := ac_okc (ac_ok_ref (ac_lt hb9)) hSa
  obtain ⟨hF, hpay⟩ := ac_pay hW hK hX hA hoka
  obtain ⟨k1, k2, k3, k4, k5⟩ := hk
  refine ac_after C hW hL hS2 hl hF (xq_V (As := as.map (ac_v σ)) (b := σ.2 b) (C := mi.1.cls) (maxL := mi.2.2.1) (n := n) (hM D dA σ H.size) (ac_blind D dA σ _ h H.size) hx hb hml hown rfl rfl (Nat.le_trans hdd hR.1) (by show 8 + (mi.2.2.1 + 11) + 35 * d' ≤ R.locals; omega) (ac_paid hts hw4) (hts _ k1) ⟨k3, k4⟩ (ac_params k5) (hts _ hw1) (hts _ hw2) (hts _ hw3) (hts _ hw4) (va_recv hK hW.2.2.2.1 hc9 (ac_w_obj hb9)) hpay rfl (by rw [List.length_map]; exact hn) hl.1 (by show List.map (ac_v σ) (as.reverse ++ .ref b :: S) = _; rw [List.map_append, List.map_reverse]; rfl) (lv_room (by rw [ac_cats]; exact hs)) hd (by rw [hR.2.2.1]; exact h1) (by rw [hR.2.2.2]; exact h2)) kk kx
/-- a call of a static method -/
theorem r_callS {g : ac_P} {pc : Nat} {L : List (Nat × Value)} {S : List Value} {h : ac_H} {k z : Nat} {mi : ac_I} {n idx : Nat} (as : List Value) (d' mc ms : Nat) {Ψ : ac_R → ac_H → Prop} (hd : decode (ac_cc g) pc = .ok (.invokestatic idx, 3)) (hk9 : ac_KS (ac_y g).cls idx mi n) (hn : as.length = n) (hM : ac_Mt (ac_l g) d' mi as h mc ms Ψ) (hdd : d' + 1 ≤ ac_d g) (h1 : k + mc ≤ ac_mc g) (h2 : z + ms ≤ ac_ms g) (hs : (S.map fun v => v.category).sum ≤ 8) (kk : ∀ r h', Ψ (.inl r) h' → h.length ≤ h'.length → ac_G g (pc + 3) L (r.toList ++ S) h' (k + mc) (z + ms)) (kx : ∀ E h', Ψ (.inr E) h' → h.length ≤ h'.length → ac_hx g pc L E h' (k + mc) (z + ms)) : ac_G g pc L (as.reverse ++ S) h k z := by
  intro p e R s m args below meth c D dA A σ0 Qf C σ H locs ls hW hL hS hl
  obtain ⟨⟨hx, hb, hml, hown, hnm, hts, htb⟩, ⟨hK, hX, hA, hR⟩, hend, hsc⟩ := id C
  obtain ⟨hk, hw1, hw2, hw4⟩ := hk9
  have hSa : ∀ v ∈ as, ac_ok h.length v := fun v hv => hS v (List.mem_append_left _ (List.mem_reverse.mpr hv))
  have hS2 : ∀ v ∈ S, ac_ok h.length v := fun v hv => hS v (List.mem_append_right _ hv)
  obtain ⟨hF, hpay⟩ := ac_pay hW hK hX hA hSa
  obtain ⟨k1, k2, k3, k4, k5⟩ := hk
  obtain ⟨mk9, hn9⟩ := Cond.code_named (hts _ hw4)
  obtain ⟨meth9, c9, hm9, hc9, -, hl9, -, -, -, hs9⟩ := Cond.code_spec hn9 (hts _ hw4)
  refine ac_after C hW hL hS2 hl hF (xq_S (As := as.map (ac_v σ)) (maxL := mi.2.2.1) (n := n) (hM D dA σ H.size) (ac_blind D dA σ _ h H.size) hx hb hml hown rfl rfl (Nat.le_trans hdd hR.1) (by show 8 + (mi.2.2.1 + 11) + 35 * d' ≤ R.locals; omega) (ac_paid hts hw4) (hts _ k1) ⟨k3, k4⟩ (ac_params k5) (hts _ hw1) (hts _ hw2) hn9 hm9 hc9 hl9 hs9 hpay rfl (by rw [List.length_map]; exact hn) hl.1 (by show List.map (ac_v σ) (as.reverse ++ S) = _; rw [List.map_append, List.map_reverse]) (lv_room (by rw [ac_cats]; exact hs)) hd (by rw [hR.2.2.1]; exact h1) (by rw [hR.2.2.2]; exact h2)) kk kx
/-- a constructor -/
theorem r_callI {g : ac_P} {pc : Nat} {L : List (Nat × Value)} {S : List Value} {h : ac_H} {k z : Nat} {mi : ac_I} {n idx : Nat} (as : List Value) (b : Nat) (d' mc ms : Nat) {Ψ : ac_R → ac_H → Prop} (hd : decode (ac_cc g) pc = .ok (.invokespecial idx, 3)) (hk9 : ac_KI (ac_y g).cls idx mi n) (hn : as.length = n) (hM : ac_Mt (ac_l g) d' mi (.ref b :: as) h mc ms Ψ) (hno : ∀ E h', ¬ Ψ (.inr E) h') (hdd : d' + 1 ≤ ac_d g) (h1 : k + mc ≤ ac_mc g) (h2 : z + ms ≤ ac_ms g) (hs : (S.map fun v => v.category).sum ≤ 8) (kk : ∀ r h', Ψ (.inl r) h' → h.length ≤ h'.length → ac_G g (pc + 3) L (r.toList ++ S) h' (k + mc) (z + ms)) : ac_G g pc L (as.reverse ++ .ref b :: S) h k z := by
  intro p e R s m args below meth c D dA A σ0 Qf C σ H locs ls hW hL hS hl
  obtain ⟨⟨hx, hb, hml, hown, hnm, hts, htb⟩, ⟨hK, hX, hA, hR⟩, hend, hsc⟩ := id C
  obtain ⟨hk, hw1, hw2, hw4, hi9, hr9⟩ := hk9
  have hSa : ∀ v ∈ as, ac_ok h.length v := fun v hv => hS v (List.mem_append_left _ (List.mem_reverse.mpr hv))
  have hS2 : ∀ v ∈ S, ac_ok h.length v := fun v hv => hS v (List.mem_append_right _ (List.mem_cons_of_mem _ hv))
  have hokb : ac_ok h.length (.ref b) := hS _ (List.mem_append_right _ List.mem_cons_self)
  obtain ⟨hF, hpay⟩ := ac_pay hW hK hX hA (ac_okc hokb hSa)
  have cb := ac_CallB (mc := mc) (ms := ms) hts hk hw1 hw4 hdd hR.1 hR.2.1
  have hM2 := hM.met hno D dA σ H.size
  rw [hr9] at cb hM2
  exact ac_afterN C hW hL hS2 hl hF (va_runI (As := as.map (ac_v σ)) (b := σ.2 b) ⟨hx, hb, hml, hown, hts⟩ hM2 ⟨cb, hi9, hts _ hw2⟩ ⟨ac_blind D dA σ _ h H.size, hpay⟩ rfl (by rw [List.length_map]; exact hn) hl.1 (by show List.map (ac_v σ) (as.reverse ++ .ref b :: S) = _; rw [List.map_append, List.map_reverse]; rfl) (lv_room (by rw [ac_cats]; exact hs)) hd (by rw [hR.2.2.1, hR.2.2.2]; exact ⟨h1, h2⟩)) kk
/-- a constructor of a nest mate -/
theorem r_callIN {g : ac_P} {pc : Nat} {L : List (Nat × Value)} {S : List Value} {h : ac_H} {k z : Nat} {mi : ac_I} {n idx : Nat} (host : String) (as : List Value) (b : Nat) (d' mc ms : Nat) {Ψ : ac_R → ac_H → Prop} (hd : decode (ac_cc g) pc = .ok (.invokespecial idx, 3)) (hk9 : ac_KIN (ac_y g).cls idx mi n host) (hn : as.length = n) (hM : ac_Mt (ac_l g) d' mi (.ref b :: as) h mc ms Ψ) (hno : ∀ E h', ¬ Ψ (.inr E) h') (hdd : d' + 1 ≤ ac_d g) (h1 : k + mc ≤ ac_mc g) (h2 : z + ms ≤ ac_ms g) (hs : (S.map fun v => v.category).sum ≤ 8) (kk : ∀ r h', Ψ (.inl r) h' → h.length ≤ h'.length → ac_G g (pc + 3) L (r.toList ++ S) h' (k + mc) (z + ms)) : ac_G g pc L (as.reverse ++ .ref b :: S) h k z := by
  intro p e R s m args below meth c D dA A σ0 Qf C σ H locs ls hW hL hS hl
  obtain ⟨⟨hx, hb, hml, hown, hnm, hts, htb⟩, ⟨hK, hX, hA, hR⟩, hend, hsc⟩ := id C
  obtain ⟨hk, hw1, hw2, hw4, hi9, hr9⟩ := hk9
  have hSa : ∀ v ∈ as, ac_ok h.length v := fun v hv => hS v (List.mem_append_left _ (List.mem_reverse.mpr hv))
  have hS2 : ∀ v ∈ S, ac_ok h.length v := fun v hv => hS v (List.mem_append_right _ (List.mem_cons_of_mem _ hv))
  have hokb : ac_ok h.length (.ref b) := hS _ (List.mem_append_right _ List.mem_cons_self)
  obtain ⟨hF, hpay⟩ := ac_pay hW hK hX hA (ac_okc hokb hSa)
  obtain ⟨k1, k2, k3, k4, k5⟩ := hk
  have cb : va_CN R s args (ac_y g).cls idx mi.1 host mi.2.1 mi.2.2.1 mi.2.2.2.1 (Cond.code mi.1 mi.2.1 mi.2.2.1 mi.2.2.2.1 :: ac_U) (ac_rm d' mc ms) mc ms n := ⟨⟨rfl, rfl, Nat.le_trans hdd hR.1, by show 8 + (mi.2.2.1 + 11) + 35 * d' ≤ R.locals; omega, ac_paid hts hw4, List.mem_cons_self⟩, hts _ hw4, hts _ k1, ⟨k3, k4⟩, ac_params k5, va_Nw.use rfl (hX.2.1 _ hw1)⟩
  have hM2 := hM.met hno D dA σ H.size
  rw [hr9] at cb hM2
  exact ac_afterN C hW hL hS2 hl hF (va_runIN (As := as.map (ac_v σ)) (b := σ.2 b) ⟨hx, hb, hml, hown, hts⟩ hM2 ⟨cb, hi9, hts _ hw2⟩ ⟨ac_blind D dA σ _ h H.size, hpay⟩ rfl (by rw [List.length_map]; exact hn) hl.1 (by show List.map (ac_v σ) (as.reverse ++ .ref b :: S) = _; rw [List.map_append, List.map_reverse]; rfl) (lv_room (by rw [ac_cats]; exact hs)) hd (by rw [hR.2.2.1, hR.2.2.2]; exact ⟨h1, h2⟩)) kk
/-- a call of a static method with handlers -/
theorem r_callSW {g : ac_P} {pc : Nat} {L : List (Nat × Value)} {S : List Value} {h : ac_H} {k z : Nat} {mi : ac_I} {n idx : Nat} (as : List Value) (d' mc ms : Nat) {Ψ : ac_R → ac_H → Prop} (hd : decode (ac_cc g) pc = .ok (.invokestatic idx, 3)) (hk9 : ac_KSW (ac_y g).cls idx mi n) (hn : as.length = n) (hM : ac_MtW (ac_l g) d' mi as h mc ms Ψ) (hno : ∀ E h', ¬ Ψ (.inr E) h') (hdd : d' + 1 ≤ ac_d g) (h1 : k + mc ≤ ac_mc g) (h2 : z + ms ≤ ac_ms g) (hs : (S.map fun v => v.category).sum ≤ 8) (kk : ∀ r h', Ψ (.inl r) h' → h.length ≤ h'.length → ac_G g (pc + 3) L (r.toList ++ S) h' (k + mc) (z + ms)) : ac_G g pc L (as.reverse ++ S) h k z := by
  intro p e R s m args below meth c D dA A σ0 Qf C σ H locs ls hW hL hS hl
  obtain ⟨⟨hx, hb, hml, hown, hnm, hts, htb⟩, ⟨hK, hX, hA, hR⟩, hend, hsc⟩ := id C
  obtain ⟨hk, hw1, hw2, hw4⟩ := hk9
  have hSa : ∀ v ∈ as, ac_ok h.length v := fun v hv => hS v (List.mem_append_left _ (List.mem_reverse.mpr hv))
  have hS2 : ∀ v ∈ S, ac_ok h.length v := fun v hv => hS v (List.mem_append_right _ hv)
  obtain ⟨hF, hpay⟩ := ac_pay hW hK hX hA hSa
  obtain ⟨k1, k2, k3, k4, k5⟩ := hk
  obtain ⟨mk9, meth9, c9, hn9, hm9, hc9, -, hl9, -, -, -, hs9⟩ := Cond.codeWith_spec (hts _ hw4)
  refine ac_after C hW hL hS2 hl hF (xq_S (As := as.map (ac_v σ)) (maxL := mi.2.2.1) (n := n) (hM D dA σ H.size) (ac_blind D dA σ _ h H.size) hx hb hml hown rfl rfl (Nat.le_trans hdd hR.1) (by show 8 + (mi.2.2.1 + 11) + 35 * d' ≤ R.locals; omega) (ac_paid hts hw4) (hts _ k1) ⟨k3, k4⟩ (ac_params k5) (hts _ hw1) (hts _ hw2) hn9 hm9 hc9 hl9 hs9 hpay rfl (by rw [List.length_map]; exact hn) hl.1 (by show List.map (ac_v σ) (as.reverse ++ S) = _; rw [List.map_append, List.map_reverse]) (lv_room (by rw [ac_cats]; exact hs)) hd (by rw [hR.2.2.1]; exact h1) (by rw [hR.2.2.2]; exact h2)) kk (fun E h9 hq9 => absurd hq9 (hno E h9))
/-- THE BODY OF A METHOD: its walk gives its contract -/
theorem ac_enter {l : Launch} {d : Nat} {mi : ac_I} {a : List Value} {h : ac_H} {MC MS : Nat} {Φ : ac_R → ac_H → Prop} (hpl : plainName mi.1.cls = true) (hhh : mi.2.2.2.2 = []) (htr : l.stackTraces = false) (hsl : ∀ σ, (lg_sl (a.map (ac_v σ))).length ≤ mi.2.2.1) (kk : ac_G (l, d, mi, MC, MS, Φ, h.length, none) 0 (lv_args 0 a) [] h 0 0) : ac_Mt l d mi a h MC MS Φ := by
  intro D dA σ0 sz
  refine xq_ofW (cc := mi.2.1) (maxL := mi.2.2.1) (ret := mi.2.2.2.1) hpl rfl ?_
  intro p e s m args below meth c s₁ B hml htab hv
  obtain ⟨hargs, hsz, hok, hoka, hP, hK, hD0, hX⟩ := hv
  subst hsz
  have hx := B.exec
  have hb := B.bytes
  have hr := B.returns
  have hts : ∀ w ∈ ac_U, w.before args s = true := fun w hw => atoms_spec (ws := Cond.code mi.1 mi.2.1 mi.2.2.1 mi.2.2.2.1 :: ac_U) B.pre w (List.mem_cons_of_mem _ hw)
  have hown : s.vm.findClass mi.1.cls = some m.cls := findClass_of_methodNamed B.named
  have hnm : meth.name = mi.1.name := (name_of_methodNamed B.named B.method).1
  have hlocks := B.notSynchronized
  have hD := hD0.self (sz := s.heap.size)
  have htb : c.exceptionTable.toList = tableOf mi.2.2.2.2 := by
    rw [hhh]
    exact htab
  have hA : ∀ q : Nat, s.heap.size ≤ q → va_A (ac_w σ0 dA h) s.heap.size q := fun q hq => Or.inr hq
  have hl := lv_entry (a.map (ac_v σ0)) (n := mi.2.2.1) (hsl σ0)
  rw [ac_args_map] at hl
  rw [hargs, lg_entry_eq]
  rw [← hargs]
  refine kk p e (ac_rm d MC MS) s m args below meth c D dA (va_A (ac_w σ0 dA h) s.heap.size) σ0 _ ⟨⟨hx, hb, hml, hown, hnm, hts, htb⟩, ⟨hK, hX, hA, Nat.le_refl _, Nat.le_refl _, rfl, rfl⟩, ⟨?_, ?_, ?_⟩, fun L xs hq => nomatch hq⟩ σ0 s.heap [] _ ⟨hok, Nat.le_refl _, ac_ag_rf, hP, hD, va_S.rf⟩ (ac_args_ok 0 a hoka) (fun _ hq => nomatch hq) hl
  · intro σ h' H locs k z r pc ls hW hp h1 h2 hokr hb9
    obtain ⟨w1, w2, w3, hP1, hD1, hSS⟩ := hW
    refine W.widen h1 h2 (xq_ret (Qc := ac_Qc D dA σ0 h s.heap.size Φ) (fun _ _ q9 => q9) ?_)
    rcases hb9 with ⟨v, e1, e2, ty, e3, e4⟩ | ⟨a9, n9, e1, e2, e3⟩ | ⟨a9, t9, e1, e2, e3⟩ | ⟨e1, e2, e3⟩
    · subst e1
      exact W.zret hx hb (hr.trans e3) e4 (fun t ht hw => ⟨_, rfl, some (.int v), h', σ, rfl, hp, hokr, w1, w2, w3, by rw [ht]; exact hP1, hD1, hSS.F ht⟩) hSS.2.2 e2 hlocks
    · subst e1
      exact W.aret hx hb (hr.trans e3) (Or.inl ⟨n9, rfl⟩) (Or.inr ⟨_, rfl⟩) (fun t ht hw => ⟨_, rfl, some (.ref a9), h', σ, rfl, hp, hokr, w1, w2, w3, by rw [ht]; exact hP1, hD1, hSS.F ht⟩) hSS.2.2 e2 hlocks
    · subst e1
      exact W.aret hx hb (hr.trans e3) (Or.inr ⟨t9, rfl⟩) (Or.inr ⟨_, rfl⟩) (fun t ht hw => ⟨_, rfl, some (.ref a9), h', σ, rfl, hp, hokr, w1, w2, w3, by rw [ht]; exact hP1, hD1, hSS.F ht⟩) hSS.2.2 e2 hlocks
    · subst e1
      exact W.vret hx hb (hr.trans e3) (fun t ht hw => ⟨_, rfl, none, h', σ, rfl, hp, hokr, w1, w2, w3, by rw [ht]; exact hP1, hD1, hSS.F ht⟩) hSS.2.2 e2 hlocks
  · intro σ h' H locs k z E ce q pc ls rest hW hp h1 h2 hce hcv hcl _
    obtain ⟨w1, w2, w3, hP1, hD1, hSS⟩ := hW
    exact xq_out (fun x hx9 => by rw [htab] at hx9; cases hx9) hlocks hce hcv hcl (fun t ht hal => ⟨h', σ, hp, w1, w2, w3, by rw [ht]; exact hP1, hD1, hSS.F ht⟩) hSS.2.2 h1 h2
  · intro σ h' H locs k z E pc ls rest hW hp h1 h2 hls hcs _ hth
    obtain ⟨w1, w2, w3, hP1, hD1, hSS⟩ := hW
    obtain ⟨names, ik, is, ic, text, t1, t2, t3, t4, t5, t6, d0, d3, d4, d6, d9, t8, t9⟩ := hth
    obtain ⟨sa, hsa⟩ := hX.2.2.2.1 _ t5
    have t9' : 13 * (names.length + 1) + 51 ≤ 35 * d := t9
    refine xq_throw (A := va_A (ac_w σ0 dA h) s.heap.size) hx hb htr hown t1 t2 ⟨rfl, hts _ t3⟩ ⟨rfl, hts _ t4⟩ hsa (fun w hw => ?_) hSS (hls.trans hml.symm) d0 d3 d4 d6 d9 htab t8 (by show _ ≤ 35 * d; omega) h1 h2 hlocks (fun t hal hsz hke => ⟨h', σ, hp, w1, w2, w3, hP1.kept (fun i q hi => hke _ (hP1 i q hi).lt), hD1, Nat.le_trans hSS.1 hsz, fun q h9 h8 => (hke q (Nat.lt_of_lt_of_le h9 hSS.1)).trans (hSS.2.1 q h9 h8)⟩) hSS.2.2 h1 h2
    rcases t6 w hw with q | q | q
    · exact Or.inl ⟨q.2, hts _ q.1⟩
    · exact Or.inl ⟨ac_ow_tab w q, va_Nw.use (ac_ow_tab w q) (hX.2.1 _ q)⟩
    · exact Or.inr (hX.1 w q)
/-- .. of a method with handlers -/
theorem ac_enterW {l : Launch} {d : Nat} {mi : ac_I} {a : List Value} {h : ac_H} {MC MS : Nat} {Φ : ac_R → ac_H → Prop} (hpl : plainName mi.1.cls = true) (hno : ∀ E h', ¬ Φ (.inr E) h') (hsl : ∀ σ, (lg_sl (a.map (ac_v σ))).length ≤ mi.2.2.1) (kk : ac_G (l, d, mi, MC, MS, Φ, h.length, none) 0 (lv_args 0 a) [] h 0 0) : ac_MtW l d mi a h MC MS Φ := by
  intro D dA σ0 sz
  refine xq_ofWH (cc := mi.2.1) (maxL := mi.2.2.1) (ret := mi.2.2.2.1) (hh := mi.2.2.2.2) hpl rfl ?_
  intro p e s m args below meth c s₁ B hml htb hv
  obtain ⟨hargs, hsz, hok, hoka, hP, hK, hD0, hX⟩ := hv
  subst hsz
  have hx := B.exec
  have hb := B.bytes
  have hr := B.returns
  have hall := atoms_spec (ws := Cond.codeWith mi.1 mi.2.1 mi.2.2.1 mi.2.2.2.1 mi.2.2.2.2 :: ac_U) B.pre
  have hts : ∀ w ∈ ac_U, w.before args s = true := fun w hw => hall w (List.mem_cons_of_mem _ hw)
  have hown : s.vm.findClass mi.1.cls = some m.cls := findClass_of_methodNamed B.named
  have hnm : meth.name = mi.1.name := (name_of_methodNamed B.named B.method).1
  have hlocks := B.notSynchronized
  have hD := hD0.self (sz := s.heap.size)
  have hA : ∀ q : Nat, s.heap.size ≤ q → va_A (ac_w σ0 dA h) s.heap.size q := fun q hq => Or.inr hq
  have hl := lv_entry (a.map (ac_v σ0)) (n := mi.2.2.1) (hsl σ0)
  rw [ac_args_map] at hl
  rw [hargs, lg_entry_eq]
  rw [← hargs]
  refine kk p e (ac_rm d MC MS) s m args below meth c D dA (va_A (ac_w σ0 dA h) s.heap.size) σ0 _ ⟨⟨hx, hb, hml, hown, hnm, hts, htb⟩, ⟨hK, hX, hA, Nat.le_refl _, Nat.le_refl _, rfl, rfl⟩, ⟨?_, ?_, ?_⟩, fun L xs hq => nomatch hq⟩ σ0 s.heap [] _ ⟨hok, Nat.le_refl _, ac_ag_rf, hP, hD, va_S.rf⟩ (ac_args_ok 0 a hoka) (fun _ hq => nomatch hq) hl
  · intro σ h' H locs k z r pc ls hW hp h1 h2 hokr hb9
    obtain ⟨w1, w2, w3, hP1, hD1, hSS⟩ := hW
    refine W.widen h1 h2 (xq_ret (Qc := ac_Qc D dA σ0 h s.heap.size Φ) (fun _ _ q9 => q9) ?_)
    rcases hb9 with ⟨v, e1, e2, ty, e3, e4⟩ | ⟨a9, n9, e1, e2, e3⟩ | ⟨a9, t9, e1, e2, e3⟩ | ⟨e1, e2, e3⟩
    · subst e1
      exact W.zret hx hb (hr.trans e3) e4 (fun t ht hw => ⟨_, rfl, some (.int v), h', σ, rfl, hp, hokr, w1, w2, w3, by rw [ht]; exact hP1, hD1, hSS.F ht⟩) hSS.2.2 e2 hlocks
    · subst e1
      exact W.aret hx hb (hr.trans e3) (Or.inl ⟨n9, rfl⟩) (Or.inr ⟨_, rfl⟩) (fun t ht hw => ⟨_, rfl, some (.ref a9), h', σ, rfl, hp, hokr, w1, w2, w3, by rw [ht]; exact hP1, hD1, hSS.F ht⟩) hSS.2.2 e2 hlocks
    · subst e1
      exact W.aret hx hb (hr.trans e3) (Or.inr ⟨t9, rfl⟩) (Or.inr ⟨_, rfl⟩) (fun t ht hw => ⟨_, rfl, some (.ref a9), h', σ, rfl, hp, hokr, w1, w2, w3, by rw [ht]; exact hP1, hD1, hSS.F ht⟩) hSS.2.2 e2 hlocks
    · subst e1
      exact W.vret hx hb (hr.trans e3) (fun t ht hw => ⟨_, rfl, none, h', σ, rfl, hp, hokr, w1, w2, w3, by rw [ht]; exact hP1, hD1, hSS.F ht⟩) hSS.2.2 e2 hlocks
  · intro σ h' H locs k z E ce q pc ls rest hW hp
    exact absurd hp (hno E h')
  · intro σ h' H locs k z E pc ls rest hW hp
    exact absurd hp (hno E h')
/-- what a contract says may be weakened -/
theorem ac_Mt.mono {l : Launch} {d : Nat} {mi : ac_I} {a : List Value} {h : ac_H} {MC MS : Nat} {Φ Ψ : ac_R → ac_H → Prop} (hM : ac_Mt l d mi a h MC MS Φ) (hΦ : ∀ r h', Φ r h' → Ψ r h') : ac_Mt l d mi a h MC MS Ψ := by
  intro D dA σ0 sz p e h1 h2 h3 s m args below h4 h5 h6 h7
  obtain ⟨n, o, a1, a2, a3, L, a4, a5, a6, a7⟩ := hM D dA σ0 sz p e h1 h2 h3 s m args below h4 h5 h6 h7
  refine ⟨n, o, a1, a2, a3, L, a4, a5, a6, ?_⟩
  rcases a7 with ⟨v, b0, r, h', σ', b1, b2, b3⟩ | ⟨q, E, ce, c1, ⟨h', σ', b1, b2⟩, b3⟩
  · exact Or.inl ⟨v, b0, r, h', σ', b1, hΦ _ _ b2, b3⟩
  · exact Or.inr ⟨q, E, ce, c1, ⟨h', σ', hΦ _ _ b1, b2⟩, b3⟩
end
section
theorem i_Blobs : ∀ w ∈ u_ws R_Blobs T_Blobs 3, w ∈ ac_U := by
  intro w hw
  have e : u_ws R_Blobs T_Blobs 3 = [.laysFinal "PairedGates$Blobs" "PairedGates$Blobs" "first" "[I", .laysFinal "PairedGates$Blobs" "PairedGates$Blobs" "last" "[I", .lays "PairedGates$Blobs" "PairedGates$Blobs" "size" "I"] := by decide +kernel
  rw [e] at hw
  simp only [List.mem_cons, List.not_mem_nil, or_false] at hw
  rcases hw with rfl | rfl | rfl
  · exact wu_93
  · exact wu_95
  · exact wu_97
theorem i_Body : ∀ w ∈ u_ws R_Body T_Body 5, w ∈ ac_U := by
  intro w hw
  have e : u_ws R_Body T_Body 5 = [.lays "PairedGates$Body" "PairedGates$Body" "first" "I", .lays "PairedGates$Body" "PairedGates$Body" "last" "I", .lays "PairedGates$Body" "PairedGates$Body" "side" "I", .lays "PairedGates$Body" "PairedGates$Body" "account" "I", .lays "PairedGates$Body" "PairedGates$Body" "length" "I"] := by decide +kernel
  rw [e] at hw
  simp only [List.mem_cons, List.not_mem_nil, or_false] at hw
  rcases hw with rfl | rfl | rfl | rfl | rfl
  · exact wu_162
  · exact wu_164
  · exact wu_166
  · exact wu_168
  · exact wu_170
theorem i_Eye : ∀ w ∈ u_ws R_Eye T_Eye 4, w ∈ ac_U := by
  intro w hw
  have e : u_ws R_Eye T_Eye 4 = [.lays "PairedGates$Eye" "PairedGates$Eye" "told" "I", .lays "PairedGates$Eye" "PairedGates$Eye" "latest" "I", .lays "PairedGates$Eye" "PairedGates$Eye" "earlier" "I", .lays "PairedGates$Eye" "PairedGates$Eye" "seen" "I"] := by decide +kernel
  rw [e] at hw
  simp only [List.mem_cons, List.not_mem_nil, or_false] at hw
  rcases hw with rfl | rfl | rfl | rfl
  · exact wu_72
  · exact wu_74
  · exact wu_76
  · exact wu_78
theorem i_Lane : ∀ w ∈ u_ws R_Lane T_Lane 10, w ∈ ac_U := by
  intro w hw
  have e : u_ws R_Lane T_Lane 10 = [.laysFinal "PairedGates$Lane" "PairedGates$Lane" "eye" "LPairedGates$Eye;", .laysFinal "PairedGates$Lane" "PairedGates$Lane" "blobs" "LPairedGates$Blobs;", .laysFinal "PairedGates$Lane" "PairedGates$Lane" "paddles" "LPairedGates$Paddles;", .laysFinal "PairedGates$Lane" "PairedGates$Lane" "queues" "[LPairedGates$TokenList;", .laysFinal "PairedGates$Lane" "PairedGates$Lane" "counts" "[I", .laysFinal "PairedGates$Lane" "PairedGates$Lane" "goals" "[I", .lays "PairedGates$Lane" "PairedGates$Lane" "openMode" "I", .lays "PairedGates$Lane" "PairedGates$Lane" "size" "I", .lays "PairedGates$Lane" "PairedGates$Lane" "row" "[LPairedGates$Body;", .lays "PairedGates$Lane" "PairedGates$Lane" "nextRow" "[LPairedGates$Body;"] := by decide +kernel
  rw [e] at hw
  simp only [List.mem_cons, List.not_mem_nil, or_false] at hw
  rcases hw with rfl | rfl | rfl | rfl | rfl | rfl | rfl | rfl | rfl | rfl
  · exact wu_189
  · exact wu_191
  · exact wu_193
  · exact wu_195
  · exact wu_197
  · exact wu_199
  · exact wu_201
  · exact wu_203
  · exact wu_205
  · exact wu_207
theorem i_Pad : ∀ w ∈ u_ws R_Pad T_Pad 2, w ∈ ac_U := by
  intro w hw
  have e : u_ws R_Pad T_Pad 2 = [.lays "PairedGates$Paddles" "PairedGates$Paddles" "angle" "I", .lays "PairedGates$Paddles" "PairedGates$Paddles" "order" "I"] := by decide +kernel
  rw [e] at hw
  simp only [List.mem_cons, List.not_mem_nil, or_false] at hw
  rcases hw with rfl | rfl
  · exact wu_111
  · exact wu_113
theorem i_Rf : ∀ w ∈ u_ws R_Rf T_Rf 2, w ∈ ac_U := by
  intro w hw
  have e : u_ws R_Rf T_Rf 2 = [.laysFinal "PairedGates$Refunds" "PairedGates$Refunds" "accounts" "[I", .lays "PairedGates$Refunds" "PairedGates$Refunds" "size" "I"] := by decide +kernel
  rw [e] at hw
  simp only [List.mem_cons, List.not_mem_nil, or_false] at hw
  rcases hw with rfl | rfl
  · exact wu_221
  · exact wu_223
theorem i_TL : ∀ w ∈ u_ws R_TL T_TL 3, w ∈ ac_U := by
  intro w hw
  have e : u_ws R_TL T_TL 3 = [.laysFinal "PairedGates$TokenList" "PairedGates$TokenList" "accounts" "[I", .laysFinal "PairedGates$TokenList" "PairedGates$TokenList" "times" "[I", .lays "PairedGates$TokenList" "PairedGates$TokenList" "size" "I"] := by decide +kernel
  rw [e] at hw
  simp only [List.mem_cons, List.not_mem_nil, or_false] at hw
  rcases hw with rfl | rfl | rfl
  · exact wu_130
  · exact wu_132
  · exact wu_134
theorem i_PG : ∀ w ∈ u_ws R_PG T_PG 5, w ∈ ac_U := by
  intro w hw
  have e : u_ws R_PG T_PG 5 = [.laysFinal "PairedGates" "PairedGates" "lanes" "[LPairedGates$Lane;", .laysFinal "PairedGates" "PairedGates" "acceptances" "LPairedGates$TokenList;", .laysFinal "PairedGates" "PairedGates" "refundList" "LPairedGates$Refunds;", .lays "PairedGates" "PairedGates" "alarmOn" "Z", .lays "PairedGates" "PairedGates" "now" "I"] := by decide +kernel
  rw [e] at hw
  simp only [List.mem_cons, List.not_mem_nil, or_false] at hw
  rcases hw with rfl | rfl | rfl | rfl | rfl
  · exact wu_231
  · exact wu_233
  · exact wu_235
  · exact wu_237
  · exact wu_239
theorem i_Mo : ∀ w ∈ u_ws R_Mo T_Mo 31, w ∈ ac_U := by
  intro w hw
  have e : u_ws R_Mo T_Mo 31 = [.lays "PairedGatesModel" "PairedGatesModel" "fault" "I", .lays "PairedGatesModel" "PairedGatesModel" "time" "I", .lays "PairedGatesModel" "PairedGatesModel" "alarm" "Z", .laysFinal "PairedGatesModel" "PairedGatesModel" "told" "[I", .laysFinal "PairedGatesModel" "PairedGatesModel" "before" "[I", .laysFinal "PairedGatesModel" "PairedGatesModel" "earlier" "[I", .laysFinal "PairedGatesModel" "PairedGatesModel" "seen" "[I", .laysFinal "PairedGatesModel" "PairedGatesModel" "modes" "[I", .laysFinal "PairedGatesModel" "PairedGatesModel" "angle" "[I", .laysFinal "PairedGatesModel" "PairedGatesModel" "order" "[I", .laysFinal "PairedGatesModel" "PairedGatesModel" "counts" "[I", .laysFinal "PairedGatesModel" "PairedGatesModel" "bodies" "[I", .laysFinal "PairedGatesModel" "PairedGatesModel" "first" "[I", .laysFinal "PairedGatesModel" "PairedGatesModel" "last" "[I", .laysFinal "PairedGatesModel" "PairedGatesModel" "side" "[I", .laysFinal "PairedGatesModel" "PairedGatesModel" "owns" "[I", .laysFinal "PairedGatesModel" "PairedGatesModel" "length" "[I", .laysFinal "PairedGatesModel" "PairedGatesModel" "blobOf" "[I", .laysFinal "PairedGatesModel" "PairedGatesModel" "oldFirst" "[I", .laysFinal "PairedGatesModel" "PairedGatesModel" "oldLast" "[I", .lays "PairedGatesModel" "PairedGatesModel" "blobs" "I", .laysFinal "PairedGatesModel" "PairedGatesModel" "blobFirst" "[I", .laysFinal "PairedGatesModel" "PairedGatesModel" "blobLast" "[I", .laysFinal "PairedGatesModel" "PairedGatesModel" "waiting" "[I", .laysFinal "PairedGatesModel" "PairedGatesModel" "account" "[I", .laysFinal "PairedGatesModel" "PairedGatesModel" "since" "[I", .lays "PairedGatesModel" "PairedGatesModel" "accepted" "I", .laysFinal "PairedGatesModel" "PairedGatesModel" "takenOf" "[I", .laysFinal "PairedGatesModel" "PairedGatesModel" "takenAt" "[I", .lays "PairedGatesModel" "PairedGatesModel" "refunds" "I", .laysFinal "PairedGatesModel" "PairedGatesModel" "refund" "[I"] := by decide +kernel
  rw [e] at hw
  simp only [List.mem_cons, List.not_mem_nil, or_false] at hw
  rcases hw with rfl | rfl | rfl | rfl | rfl | rfl | rfl | rfl | rfl | rfl | rfl | rfl | rfl | rfl | rfl | rfl | rfl | rfl | rfl | rfl | rfl | rfl | rfl | rfl | rfl | rfl | rfl | rfl | rfl | rfl | rfl
  · exact wu_652
  · exact wu_654
  · exact wu_656
  · exact wu_658
  · exact wu_660
  · exact wu_662
  · exact wu_664
  · exact wu_666
  · exact wu_668
  · exact wu_670
  · exact wu_672
  · exact wu_674
  · exact wu_676
  · exact wu_678
  · exact wu_680
  · exact wu_682
  · exact wu_684
  · exact wu_686
  · exact wu_688
  · exact wu_690
  · exact wu_692
  · exact wu_694
  · exact wu_696
  · exact wu_698
  · exact wu_700
  · exact wu_702
  · exact wu_704
  · exact wu_706
  · exact wu_708
  · exact wu_710
  · exact wu_712
theorem oi_PG_1 : Cond.methodLink "PairedGates" 1 Lib.objectInit ∈ ac_U := wu_50
theorem an_PG_7 : Cond.classLink "PairedGates" 7 "PairedGates$Lane" ∈ ac_U := wu_53
theorem nw_PG_7 : ac_N "PairedGates" 7 3 10 [.null, .null, .null, .null, .null, .null, .int 0, .int 0, .null, .null] := ⟨R_Lane, T_Lane, t_Lane, rfl, i_Lane, t_Lane_ok, wu_53, wu_55, wu_30, by decide +kernel, fun _ => rfl, by simp⟩
theorem q_PG_9 : ac_KIN "PairedGates" 9 m_Lane_init 0 "PairedGates" := ⟨⟨wu_30, by decide, by decide, by decide, by decide +kernel⟩, by decide +kernel, wu_57, wu_58, rfl, rfl⟩
theorem f_PG_10 : ac_F "PairedGates" 10 7 0 (.array (.object "PairedGates$Lane")) true := ⟨R_PG, T_PG, 5, t_PG, rfl, i_PG, by decide, wu_226, rfl, by decide +kernel, t_PG_ok, n_PG⟩
theorem nw_PG_16 : ac_N "PairedGates" 16 6 3 [.null, .null, .int 0] := ⟨R_TL, T_TL, t_TL, rfl, i_TL, t_TL_ok, wu_210, wu_118, wu_34, by decide +kernel, fun _ => rfl, by simp⟩
theorem q_PG_18 : ac_KI "PairedGates" 18 m_TL_init 1 := ⟨⟨wu_34, by decide, by decide, by decide, by decide +kernel⟩, wu_211, wu_120, wu_121, rfl, rfl⟩
theorem f_PG_21 : ac_F "PairedGates" 21 7 1 (.object "PairedGates$TokenList") true := ⟨R_PG, T_PG, 5, t_PG, rfl, i_PG, by decide, wu_227, rfl, by decide +kernel, t_PG_ok, n_PG⟩
theorem nw_PG_25 : ac_N "PairedGates" 25 5 2 [.null, .int 0] := ⟨R_Rf, T_Rf, t_Rf, rfl, i_Rf, t_Rf_ok, wu_212, wu_213, wu_37, by decide +kernel, fun _ => rfl, by simp⟩
theorem q_PG_27 : ac_KIN "PairedGates" 27 m_Rf_init 0 "PairedGates" := ⟨⟨wu_37, by decide, by decide, by decide, by decide +kernel⟩, by decide +kernel, wu_215, wu_216, rfl, rfl⟩
theorem f_PG_28 : ac_F "PairedGates" 28 7 2 (.object "PairedGates$Refunds") true := ⟨R_PG, T_PG, 5, t_PG, rfl, i_PG, by decide, wu_228, rfl, by decide +kernel, t_PG_ok, n_PG⟩
theorem f_PG_32 : ac_F "PairedGates" 32 7 3 (.boolean) false := ⟨R_PG, T_PG, 5, t_PG, rfl, i_PG, by decide, wu_229, rfl, by decide +kernel, t_PG_ok, n_PG⟩
theorem f_PG_36 : ac_F "PairedGates" 36 7 4 (.int) false := ⟨R_PG, T_PG, 5, t_PG, rfl, i_PG, by decide, wu_230, rfl, by decide +kernel, t_PG_ok, n_PG⟩
theorem q_PG_40 : ac_KV "PairedGates" 40 m_PG_laneAt 1 := ⟨⟨wu_29, by decide, by decide, by decide, by decide +kernel⟩, wu_274, wu_276, wu_0, wu_277⟩
theorem f_PG_44 : ac_F "PairedGates" 44 3 0 (.object "PairedGates$Eye") true := ⟨R_Lane, T_Lane, 10, t_Lane, rfl, i_Lane, by decide, wu_174, rfl, by decide +kernel, t_Lane_ok, n_Lane⟩
theorem q_PG_48 : ac_KV "PairedGates" 48 m_Eye_tell 1 := ⟨⟨wu_31, by decide, by decide, by decide, by decide +kernel⟩, wu_346, wu_347, wu_348, wu_349⟩
theorem q_PG_60 : ac_KV "PairedGates" 60 m_Lane_tick 3 := ⟨⟨wu_30, by decide, by decide, by decide, by decide +kernel⟩, wu_374, wu_375, wu_376, wu_377⟩
theorem q_PG_64 : ac_KS "PairedGates" 64 m_PG_queueAt 2 := ⟨⟨wu_29, by decide, by decide, by decide, by decide +kernel⟩, wu_486, wu_487, wu_488⟩
theorem q_PG_70 : ac_KV "PairedGates" 70 m_Lane_takesSide 1 := ⟨⟨wu_30, by decide, by decide, by decide, by decide +kernel⟩, wu_491, wu_492, wu_493, wu_494⟩
theorem q_PG_74 : ac_KV "PairedGates" 74 m_TL_hasRecent 2 := ⟨⟨wu_34, by decide, by decide, by decide, by decide +kernel⟩, wu_495, wu_496, wu_497, wu_498⟩
theorem q_PG_78 : ac_KV "PairedGates" 78 m_TL_isFull 0 := ⟨⟨wu_34, by decide, by decide, by decide, by decide +kernel⟩, wu_499, wu_500, wu_501, wu_502⟩
theorem q_PG_82 : ac_KV "PairedGates" 82 m_TL_add 2 := ⟨⟨wu_34, by decide, by decide, by decide, by decide +kernel⟩, wu_503, wu_504, wu_505, wu_506⟩
theorem f_PG_86 : ac_F "PairedGates" 86 6 2 (.int) false := ⟨R_TL, T_TL, 3, t_TL, rfl, i_TL, by decide, wu_129, rfl, by decide +kernel, t_TL_ok, n_TL⟩
theorem q_PG_89 : ac_KV "PairedGates" 89 m_TL_removeOldest 0 := ⟨⟨wu_34, by decide, by decide, by decide, by decide +kernel⟩, wu_514, wu_383, wu_384, wu_385⟩
theorem q_PG_93 : ac_KV "PairedGates" 93 m_Rf_add 1 := ⟨⟨wu_37, by decide, by decide, by decide, by decide +kernel⟩, wu_515, wu_387, wu_388, wu_389⟩
theorem f_PG_97 : ac_F "PairedGates" 97 3 7 (.int) false := ⟨R_Lane, T_Lane, 10, t_Lane, rfl, i_Lane, by decide, wu_185, rfl, by decide +kernel, t_Lane_ok, n_Lane⟩
theorem q_PG_103 : ac_KV "PairedGates" 103 m_Lane_changeMode 2 := ⟨⟨wu_30, by decide, by decide, by decide, by decide +kernel⟩, wu_541, wu_542, wu_543, wu_544⟩
theorem q_PG_107 : ac_KS "PairedGates" 107 m_PG_bodyAt 2 := ⟨⟨wu_29, by decide, by decide, by decide, by decide +kernel⟩, wu_564, wu_565, wu_566⟩
theorem f_PG_111 : ac_F "PairedGates" 111 1 0 (.int) false := ⟨R_Body, T_Body, 5, t_Body, rfl, i_Body, by decide, wu_149, rfl, by decide +kernel, t_Body_ok, n_Body⟩
theorem f_PG_116 : ac_F "PairedGates" 116 1 1 (.int) false := ⟨R_Body, T_Body, 5, t_Body, rfl, i_Body, by decide, wu_152, rfl, by decide +kernel, t_Body_ok, n_Body⟩
theorem f_PG_119 : ac_F "PairedGates" 119 1 2 (.int) false := ⟨R_Body, T_Body, 5, t_Body, rfl, i_Body, by decide, wu_154, rfl, by decide +kernel, t_Body_ok, n_Body⟩
theorem f_PG_122 : ac_F "PairedGates" 122 1 3 (.int) false := ⟨R_Body, T_Body, 5, t_Body, rfl, i_Body, by decide, wu_158, rfl, by decide +kernel, t_Body_ok, n_Body⟩
theorem f_PG_125 : ac_F "PairedGates" 125 1 4 (.int) false := ⟨R_Body, T_Body, 5, t_Body, rfl, i_Body, by decide, wu_161, rfl, by decide +kernel, t_Body_ok, n_Body⟩
theorem q_PG_130 : ac_KV "PairedGates" 130 m_TL_accountAt 1 := ⟨⟨wu_34, by decide, by decide, by decide, by decide +kernel⟩, wu_583, wu_584, wu_585, wu_586⟩
theorem f_PG_134 : ac_F "PairedGates" 134 3 4 (.array .int) true := ⟨R_Lane, T_Lane, 10, t_Lane, rfl, i_Lane, by decide, wu_181, rfl, by decide +kernel, t_Lane_ok, n_Lane⟩
theorem f_PG_138 : ac_F "PairedGates" 138 3 2 (.object "PairedGates$Paddles") true := ⟨R_Lane, T_Lane, 10, t_Lane, rfl, i_Lane, by decide, wu_177, rfl, by decide +kernel, t_Lane_ok, n_Lane⟩
theorem f_PG_142 : ac_F "PairedGates" 142 4 0 (.int) false := ⟨R_Pad, T_Pad, 2, t_Pad, rfl, i_Pad, by decide, wu_108, rfl, by decide +kernel, t_Pad_ok, n_Pad⟩
theorem f_PG_147 : ac_F "PairedGates" 147 4 1 (.int) false := ⟨R_Pad, T_Pad, 2, t_Pad, rfl, i_Pad, by decide, wu_110, rfl, by decide +kernel, t_Pad_ok, n_Pad⟩
theorem f_PG_150 : ac_F "PairedGates" 150 2 3 (.int) false := ⟨R_Eye, T_Eye, 4, t_Eye, rfl, i_Eye, by decide, wu_71, rfl, by decide +kernel, t_Eye_ok, n_Eye⟩
theorem f_PG_153 : ac_F "PairedGates" 153 5 1 (.int) false := ⟨R_Rf, T_Rf, 2, t_Rf, rfl, i_Rf, by decide, wu_220, rfl, by decide +kernel, t_Rf_ok, n_Rf⟩
theorem q_PG_154 : ac_KV "PairedGates" 154 m_Rf_accountAt 1 := ⟨⟨wu_37, by decide, by decide, by decide, by decide +kernel⟩, wu_262, wu_263, wu_264, wu_265⟩
theorem f_PG_160 : ac_F "PairedGates" 160 3 3 (.array (.object "PairedGates$TokenList")) true := ⟨R_Lane, T_Lane, 10, t_Lane, rfl, i_Lane, by decide, wu_179, rfl, by decide +kernel, t_Lane_ok, n_Lane⟩
theorem f_PG_168 : ac_F "PairedGates" 168 3 8 (.array (.object "PairedGates$Body")) false := ⟨R_Lane, T_Lane, 10, t_Lane, rfl, i_Lane, by decide, wu_187, rfl, by decide +kernel, t_Lane_ok, n_Lane⟩
theorem oi_Mo_1 : Cond.methodLink "PairedGatesModel" 1 Lib.objectInit ∈ ac_U := wu_620
theorem f_Mo_7 : ac_F "PairedGatesModel" 7 8 3 (.array .int) true := ⟨R_Mo, T_Mo, 31, t_Mo, rfl, i_Mo, by decide, wu_624, rfl, by decide +kernel, t_Mo_ok, n_Mo⟩
theorem f_Mo_13 : ac_F "PairedGatesModel" 13 8 4 (.array .int) true := ⟨R_Mo, T_Mo, 31, t_Mo, rfl, i_Mo, by decide, wu_625, rfl, by decide +kernel, t_Mo_ok, n_Mo⟩
theorem f_Mo_16 : ac_F "PairedGatesModel" 16 8 5 (.array .int) true := ⟨R_Mo, T_Mo, 31, t_Mo, rfl, i_Mo, by decide, wu_626, rfl, by decide +kernel, t_Mo_ok, n_Mo⟩
theorem f_Mo_19 : ac_F "PairedGatesModel" 19 8 6 (.array .int) true := ⟨R_Mo, T_Mo, 31, t_Mo, rfl, i_Mo, by decide, wu_627, rfl, by decide +kernel, t_Mo_ok, n_Mo⟩
theorem f_Mo_22 : ac_F "PairedGatesModel" 22 8 7 (.array .int) true := ⟨R_Mo, T_Mo, 31, t_Mo, rfl, i_Mo, by decide, wu_628, rfl, by decide +kernel, t_Mo_ok, n_Mo⟩
theorem f_Mo_25 : ac_F "PairedGatesModel" 25 8 8 (.array .int) true := ⟨R_Mo, T_Mo, 31, t_Mo, rfl, i_Mo, by decide, wu_629, rfl, by decide +kernel, t_Mo_ok, n_Mo⟩
theorem f_Mo_28 : ac_F "PairedGatesModel" 28 8 9 (.array .int) true := ⟨R_Mo, T_Mo, 31, t_Mo, rfl, i_Mo, by decide, wu_630, rfl, by decide +kernel, t_Mo_ok, n_Mo⟩
theorem f_Mo_31 : ac_F "PairedGatesModel" 31 8 10 (.array .int) true := ⟨R_Mo, T_Mo, 31, t_Mo, rfl, i_Mo, by decide, wu_631, rfl, by decide +kernel, t_Mo_ok, n_Mo⟩
theorem f_Mo_34 : ac_F "PairedGatesModel" 34 8 11 (.array .int) true := ⟨R_Mo, T_Mo, 31, t_Mo, rfl, i_Mo, by decide, wu_632, rfl, by decide +kernel, t_Mo_ok, n_Mo⟩
theorem f_Mo_37 : ac_F "PairedGatesModel" 37 8 12 (.array .int) true := ⟨R_Mo, T_Mo, 31, t_Mo, rfl, i_Mo, by decide, wu_633, rfl, by decide +kernel, t_Mo_ok, n_Mo⟩
theorem f_Mo_40 : ac_F "PairedGatesModel" 40 8 13 (.array .int) true := ⟨R_Mo, T_Mo, 31, t_Mo, rfl, i_Mo, by decide, wu_634, rfl, by decide +kernel, t_Mo_ok, n_Mo⟩
theorem f_Mo_43 : ac_F "PairedGatesModel" 43 8 14 (.array .int) true := ⟨R_Mo, T_Mo, 31, t_Mo, rfl, i_Mo, by decide, wu_635, rfl, by decide +kernel, t_Mo_ok, n_Mo⟩
theorem f_Mo_46 : ac_F "PairedGatesModel" 46 8 15 (.array .int) true := ⟨R_Mo, T_Mo, 31, t_Mo, rfl, i_Mo, by decide, wu_636, rfl, by decide +kernel, t_Mo_ok, n_Mo⟩
theorem f_Mo_49 : ac_F "PairedGatesModel" 49 8 16 (.array .int) true := ⟨R_Mo, T_Mo, 31, t_Mo, rfl, i_Mo, by decide, wu_637, rfl, by decide +kernel, t_Mo_ok, n_Mo⟩
theorem f_Mo_52 : ac_F "PairedGatesModel" 52 8 17 (.array .int) true := ⟨R_Mo, T_Mo, 31, t_Mo, rfl, i_Mo, by decide, wu_638, rfl, by decide +kernel, t_Mo_ok, n_Mo⟩
theorem f_Mo_55 : ac_F "PairedGatesModel" 55 8 18 (.array .int) true := ⟨R_Mo, T_Mo, 31, t_Mo, rfl, i_Mo, by decide, wu_639, rfl, by decide +kernel, t_Mo_ok, n_Mo⟩
theorem f_Mo_58 : ac_F "PairedGatesModel" 58 8 19 (.array .int) true := ⟨R_Mo, T_Mo, 31, t_Mo, rfl, i_Mo, by decide, wu_640, rfl, by decide +kernel, t_Mo_ok, n_Mo⟩
theorem f_Mo_61 : ac_F "PairedGatesModel" 61 8 21 (.array .int) true := ⟨R_Mo, T_Mo, 31, t_Mo, rfl, i_Mo, by decide, wu_642, rfl, by decide +kernel, t_Mo_ok, n_Mo⟩
theorem f_Mo_64 : ac_F "PairedGatesModel" 64 8 22 (.array .int) true := ⟨R_Mo, T_Mo, 31, t_Mo, rfl, i_Mo, by decide, wu_643, rfl, by decide +kernel, t_Mo_ok, n_Mo⟩
theorem f_Mo_67 : ac_F "PairedGatesModel" 67 8 23 (.array .int) true := ⟨R_Mo, T_Mo, 31, t_Mo, rfl, i_Mo, by decide, wu_644, rfl, by decide +kernel, t_Mo_ok, n_Mo⟩
theorem f_Mo_70 : ac_F "PairedGatesModel" 70 8 24 (.array .int) true := ⟨R_Mo, T_Mo, 31, t_Mo, rfl, i_Mo, by decide, wu_645, rfl, by decide +kernel, t_Mo_ok, n_Mo⟩
theorem f_Mo_73 : ac_F "PairedGatesModel" 73 8 25 (.array .int) true := ⟨R_Mo, T_Mo, 31, t_Mo, rfl, i_Mo, by decide, wu_646, rfl, by decide +kernel, t_Mo_ok, n_Mo⟩
theorem f_Mo_76 : ac_F "PairedGatesModel" 76 8 27 (.array .int) true := ⟨R_Mo, T_Mo, 31, t_Mo, rfl, i_Mo, by decide, wu_648, rfl, by decide +kernel, t_Mo_ok, n_Mo⟩
theorem f_Mo_79 : ac_F "PairedGatesModel" 79 8 28 (.array .int) true := ⟨R_Mo, T_Mo, 31, t_Mo, rfl, i_Mo, by decide, wu_649, rfl, by decide +kernel, t_Mo_ok, n_Mo⟩
theorem f_Mo_82 : ac_F "PairedGatesModel" 82 8 30 (.array .int) true := ⟨R_Mo, T_Mo, 31, t_Mo, rfl, i_Mo, by decide, wu_651, rfl, by decide +kernel, t_Mo_ok, n_Mo⟩
theorem f_Mo_85 : ac_F "PairedGatesModel" 85 8 0 (.int) false := ⟨R_Mo, T_Mo, 31, t_Mo, rfl, i_Mo, by decide, wu_621, rfl, by decide +kernel, t_Mo_ok, n_Mo⟩
theorem f_Mo_89 : ac_F "PairedGatesModel" 89 8 29 (.int) false := ⟨R_Mo, T_Mo, 31, t_Mo, rfl, i_Mo, by decide, wu_650, rfl, by decide +kernel, t_Mo_ok, n_Mo⟩
theorem f_Mo_92 : ac_F "PairedGatesModel" 92 8 20 (.int) false := ⟨R_Mo, T_Mo, 31, t_Mo, rfl, i_Mo, by decide, wu_641, rfl, by decide +kernel, t_Mo_ok, n_Mo⟩
theorem q_Mo_95 : ac_KV "PairedGatesModel" 95 m_Mo_giveBack 1 := ⟨⟨wu_38, by decide, by decide, by decide, by decide +kernel⟩, wu_742, wu_744, wu_16, wu_745⟩
theorem q_Mo_99 : ac_KV "PairedGatesModel" 99 m_Mo_meets 3 := ⟨⟨wu_38, by decide, by decide, by decide, by decide +kernel⟩, wu_754, wu_756, wu_19, wu_757⟩
theorem q_Mo_103 : ac_KV "PairedGatesModel" 103 m_Mo_leave 2 := ⟨⟨wu_38, by decide, by decide, by decide, by decide +kernel⟩, wu_758, wu_760, wu_20, wu_761⟩
theorem q_Mo_107 : ac_KV "PairedGatesModel" 107 m_Mo_copy 2 := ⟨⟨wu_38, by decide, by decide, by decide, by decide +kernel⟩, wu_762, wu_764, wu_21, wu_765⟩
theorem q_Mo_110 : ac_KV "PairedGatesModel" 110 m_Mo_begin 2 := ⟨⟨wu_38, by decide, by decide, by decide, by decide +kernel⟩, wu_770, wu_772, wu_23, wu_773⟩
theorem q_Mo_113 : ac_KV "PairedGatesModel" 113 m_Mo_takeOldest 1 := ⟨⟨wu_38, by decide, by decide, by decide, by decide +kernel⟩, wu_738, wu_740, wu_15, wu_741⟩
theorem f_Mo_117 : ac_F "PairedGatesModel" 117 8 2 (.boolean) false := ⟨R_Mo, T_Mo, 31, t_Mo, rfl, i_Mo, by decide, wu_623, rfl, by decide +kernel, t_Mo_ok, n_Mo⟩
theorem f_Mo_121 : ac_F "PairedGatesModel" 121 8 1 (.int) false := ⟨R_Mo, T_Mo, 31, t_Mo, rfl, i_Mo, by decide, wu_622, rfl, by decide +kernel, t_Mo_ok, n_Mo⟩
theorem q_Mo_124 : ac_KV "PairedGatesModel" 124 m_Mo_look 1 := ⟨⟨wu_38, by decide, by decide, by decide, by decide +kernel⟩, wu_746, wu_748, wu_17, wu_749⟩
theorem q_Mo_127 : ac_KV "PairedGatesModel" 127 m_Mo_goOn 1 := ⟨⟨wu_38, by decide, by decide, by decide, by decide +kernel⟩, wu_750, wu_752, wu_18, wu_753⟩
theorem q_Mo_130 : ac_KV "PairedGatesModel" 130 m_Mo_share 2 := ⟨⟨wu_38, by decide, by decide, by decide, by decide +kernel⟩, wu_766, wu_768, wu_22, wu_769⟩
theorem q_Mo_133 : ac_KV "PairedGatesModel" 133 m_Mo_pay 1 := ⟨⟨wu_38, by decide, by decide, by decide, by decide +kernel⟩, wu_774, wu_776, wu_24, wu_777⟩
theorem q_Mo_136 : ac_KV "PairedGatesModel" 136 m_Mo_turn 1 := ⟨⟨wu_38, by decide, by decide, by decide, by decide +kernel⟩, wu_778, wu_780, wu_25, wu_781⟩
theorem q_Mo_139 : ac_KS "PairedGatesModel" 139 m_Mo_isTwo 1 := ⟨⟨wu_38, by decide, by decide, by decide, by decide +kernel⟩, wu_723, wu_724, wu_725⟩
theorem q_Mo_143 : ac_KV "PairedGatesModel" 143 m_Mo_refused 1 := ⟨⟨wu_38, by decide, by decide, by decide, by decide +kernel⟩, wu_726, wu_728, wu_13, wu_729⟩
theorem q_Mo_146 : ac_KV "PairedGatesModel" 146 m_Mo_tick 1 := ⟨⟨wu_38, by decide, by decide, by decide, by decide +kernel⟩, wu_734, wu_736, wu_14, wu_737⟩
theorem f_Mo_149 : ac_F "PairedGatesModel" 149 8 26 (.int) false := ⟨R_Mo, T_Mo, 31, t_Mo, rfl, i_Mo, by decide, wu_647, rfl, by decide +kernel, t_Mo_ok, n_Mo⟩
theorem q_Mo_152 : ac_KV "PairedGatesModel" 152 m_Mo_hasSide 2 := ⟨⟨wu_38, by decide, by decide, by decide, by decide +kernel⟩, wu_786, wu_788, wu_26, wu_789⟩
theorem q_Mo_156 : ac_KV "PairedGatesModel" 156 m_Mo_isRepeated 1 := ⟨⟨wu_38, by decide, by decide, by decide, by decide +kernel⟩, wu_790, wu_792, wu_27, wu_793⟩
theorem oi_Blobs_3 : Cond.methodLink "PairedGates$Blobs" 3 Lib.objectInit ∈ ac_U := wu_86
theorem f_Blobs_9 : ac_F "PairedGates$Blobs" 9 0 0 (.array .int) true := ⟨R_Blobs, T_Blobs, 3, t_Blobs, rfl, i_Blobs, by decide, wu_87, rfl, by decide +kernel, t_Blobs_ok, n_Blobs⟩
theorem f_Blobs_15 : ac_F "PairedGates$Blobs" 15 0 1 (.array .int) true := ⟨R_Blobs, T_Blobs, 3, t_Blobs, rfl, i_Blobs, by decide, wu_89, rfl, by decide +kernel, t_Blobs_ok, n_Blobs⟩
theorem f_Blobs_18 : ac_F "PairedGates$Blobs" 18 0 2 (.int) false := ⟨R_Blobs, T_Blobs, 3, t_Blobs, rfl, i_Blobs, by decide, wu_91, rfl, by decide +kernel, t_Blobs_ok, n_Blobs⟩
theorem q_Blobs_22 : ac_KV "PairedGates$Blobs" 22 m_Blobs_addBeam 1 := ⟨⟨wu_32, by decide, by decide, by decide, by decide +kernel⟩, wu_398, wu_400, wu_2, wu_401⟩
theorem q_Blobs_26 : ac_KV "PairedGates$Blobs" 26 m_Blobs_isMetBy 2 := ⟨⟨wu_32, by decide, by decide, by decide, by decide +kernel⟩, wu_410, wu_411, wu_412, wu_413⟩
theorem f_Blobs_30 : ac_F "PairedGates$Blobs" 30 1 0 (.int) false := ⟨R_Body, T_Body, 5, t_Body, rfl, i_Body, by decide, wu_148, rfl, by decide +kernel, t_Body_ok, n_Body⟩
theorem f_Blobs_34 : ac_F "PairedGates$Blobs" 34 1 1 (.int) false := ⟨R_Body, T_Body, 5, t_Body, rfl, i_Body, by decide, wu_151, rfl, by decide +kernel, t_Body_ok, n_Body⟩
theorem oi_Body_3 : Cond.methodLink "PairedGates$Body" 3 Lib.objectInit ∈ ac_U := wu_146
theorem f_Body_9 : ac_F "PairedGates$Body" 9 1 0 (.int) false := ⟨R_Body, T_Body, 5, t_Body, rfl, i_Body, by decide, wu_147, rfl, by decide +kernel, t_Body_ok, n_Body⟩
theorem f_Body_15 : ac_F "PairedGates$Body" 15 1 1 (.int) false := ⟨R_Body, T_Body, 5, t_Body, rfl, i_Body, by decide, wu_150, rfl, by decide +kernel, t_Body_ok, n_Body⟩
theorem f_Body_18 : ac_F "PairedGates$Body" 18 1 2 (.int) false := ⟨R_Body, T_Body, 5, t_Body, rfl, i_Body, by decide, wu_153, rfl, by decide +kernel, t_Body_ok, n_Body⟩
theorem f_Body_21 : ac_F "PairedGates$Body" 21 1 3 (.int) false := ⟨R_Body, T_Body, 5, t_Body, rfl, i_Body, by decide, wu_156, rfl, by decide +kernel, t_Body_ok, n_Body⟩
theorem f_Body_24 : ac_F "PairedGates$Body" 24 1 4 (.int) false := ⟨R_Body, T_Body, 5, t_Body, rfl, i_Body, by decide, wu_159, rfl, by decide +kernel, t_Body_ok, n_Body⟩
theorem mx_Body_27 : Cond.methodLink "PairedGates$Body" 27 Lib.Math.max.name ∈ ac_U := wu_452
theorem q_Body_33 : ac_KV "PairedGates$Body" 33 m_Body_endsHigh 0 := ⟨⟨wu_36, by decide, by decide, by decide, by decide +kernel⟩, wu_422, wu_424, wu_5, wu_425⟩
theorem q_Body_37 : ac_KV "PairedGates$Body" 37 m_Body_startsLow 0 := ⟨⟨wu_36, by decide, by decide, by decide, by decide +kernel⟩, wu_426, wu_428, wu_6, wu_429⟩
theorem oi_Eye_3 : Cond.methodLink "PairedGates$Eye" 3 Lib.objectInit ∈ ac_U := wu_65
theorem f_Eye_9 : ac_F "PairedGates$Eye" 9 2 0 (.int) false := ⟨R_Eye, T_Eye, 4, t_Eye, rfl, i_Eye, by decide, wu_66, rfl, by decide +kernel, t_Eye_ok, n_Eye⟩
theorem f_Eye_15 : ac_F "PairedGates$Eye" 15 2 1 (.int) false := ⟨R_Eye, T_Eye, 4, t_Eye, rfl, i_Eye, by decide, wu_67, rfl, by decide +kernel, t_Eye_ok, n_Eye⟩
theorem f_Eye_18 : ac_F "PairedGates$Eye" 18 2 2 (.int) false := ⟨R_Eye, T_Eye, 4, t_Eye, rfl, i_Eye, by decide, wu_68, rfl, by decide +kernel, t_Eye_ok, n_Eye⟩
theorem f_Eye_21 : ac_F "PairedGates$Eye" 21 2 3 (.int) false := ⟨R_Eye, T_Eye, 4, t_Eye, rfl, i_Eye, by decide, wu_69, rfl, by decide +kernel, t_Eye_ok, n_Eye⟩
theorem oi_Lane_3 : Cond.methodLink "PairedGates$Lane" 3 Lib.objectInit ∈ ac_U := wu_59
theorem nw_Lane_9 : ac_N "PairedGates$Lane" 9 2 4 [.int 0, .int 0, .int 0, .int 0] := ⟨R_Eye, T_Eye, t_Eye, rfl, i_Eye, t_Eye_ok, wu_60, wu_61, wu_31, by decide +kernel, fun _ => rfl, by simp⟩
theorem q_Lane_11 : ac_KIN "PairedGates$Lane" 11 m_Eye_init 0 "PairedGates" := ⟨⟨wu_31, by decide, by decide, by decide, by decide +kernel⟩, by decide +kernel, wu_63, wu_64, rfl, rfl⟩
theorem f_Lane_12 : ac_F "PairedGates$Lane" 12 3 0 (.object "PairedGates$Eye") true := ⟨R_Lane, T_Lane, 10, t_Lane, rfl, i_Lane, by decide, wu_173, rfl, by decide +kernel, t_Lane_ok, n_Lane⟩
theorem nw_Lane_18 : ac_N "PairedGates$Lane" 18 0 3 [.null, .null, .int 0] := ⟨R_Blobs, T_Blobs, t_Blobs, rfl, i_Blobs, t_Blobs_ok, wu_81, wu_82, wu_32, by decide +kernel, fun _ => rfl, by simp⟩
theorem q_Lane_20 : ac_KIN "PairedGates$Lane" 20 m_Blobs_init 0 "PairedGates" := ⟨⟨wu_32, by decide, by decide, by decide, by decide +kernel⟩, by decide +kernel, wu_84, wu_85, rfl, rfl⟩
theorem f_Lane_21 : ac_F "PairedGates$Lane" 21 3 1 (.object "PairedGates$Blobs") true := ⟨R_Lane, T_Lane, 10, t_Lane, rfl, i_Lane, by decide, wu_175, rfl, by decide +kernel, t_Lane_ok, n_Lane⟩
theorem nw_Lane_25 : ac_N "PairedGates$Lane" 25 4 2 [.int 0, .int 0] := ⟨R_Pad, T_Pad, t_Pad, rfl, i_Pad, t_Pad_ok, wu_101, wu_102, wu_33, by decide +kernel, fun _ => rfl, by simp⟩
theorem q_Lane_27 : ac_KIN "PairedGates$Lane" 27 m_Pad_init 0 "PairedGates" := ⟨⟨wu_33, by decide, by decide, by decide, by decide +kernel⟩, by decide +kernel, wu_104, wu_105, rfl, rfl⟩
theorem f_Lane_28 : ac_F "PairedGates$Lane" 28 3 2 (.object "PairedGates$Paddles") true := ⟨R_Lane, T_Lane, 10, t_Lane, rfl, i_Lane, by decide, wu_176, rfl, by decide +kernel, t_Lane_ok, n_Lane⟩
theorem an_Lane_32 : Cond.classLink "PairedGates$Lane" 32 "PairedGates$TokenList" ∈ ac_U := wu_116
theorem nw_Lane_32 : ac_N "PairedGates$Lane" 32 6 3 [.null, .null, .int 0] := ⟨R_TL, T_TL, t_TL, rfl, i_TL, t_TL_ok, wu_116, wu_118, wu_34, by decide +kernel, fun _ => rfl, by simp⟩
theorem q_Lane_34 : ac_KI "PairedGates$Lane" 34 m_TL_init 1 := ⟨⟨wu_34, by decide, by decide, by decide, by decide +kernel⟩, wu_119, wu_120, wu_121, rfl, rfl⟩
theorem f_Lane_37 : ac_F "PairedGates$Lane" 37 3 3 (.array (.object "PairedGates$TokenList")) true := ⟨R_Lane, T_Lane, 10, t_Lane, rfl, i_Lane, by decide, wu_178, rfl, by decide +kernel, t_Lane_ok, n_Lane⟩
theorem f_Lane_41 : ac_F "PairedGates$Lane" 41 3 4 (.array .int) true := ⟨R_Lane, T_Lane, 10, t_Lane, rfl, i_Lane, by decide, wu_180, rfl, by decide +kernel, t_Lane_ok, n_Lane⟩
theorem f_Lane_45 : ac_F "PairedGates$Lane" 45 3 5 (.array .int) true := ⟨R_Lane, T_Lane, 10, t_Lane, rfl, i_Lane, by decide, wu_182, rfl, by decide +kernel, t_Lane_ok, n_Lane⟩
theorem f_Lane_48 : ac_F "PairedGates$Lane" 48 3 6 (.int) false := ⟨R_Lane, T_Lane, 10, t_Lane, rfl, i_Lane, by decide, wu_183, rfl, by decide +kernel, t_Lane_ok, n_Lane⟩
theorem f_Lane_52 : ac_F "PairedGates$Lane" 52 3 7 (.int) false := ⟨R_Lane, T_Lane, 10, t_Lane, rfl, i_Lane, by decide, wu_184, rfl, by decide +kernel, t_Lane_ok, n_Lane⟩
theorem q_Lane_55 : ac_KS "PairedGates$Lane" 55 m_Lane_newRow 0 := ⟨⟨wu_30, by decide, by decide, by decide, by decide +kernel⟩, wu_137, wu_138, wu_139⟩
theorem f_Lane_59 : ac_F "PairedGates$Lane" 59 3 8 (.array (.object "PairedGates$Body")) false := ⟨R_Lane, T_Lane, 10, t_Lane, rfl, i_Lane, by decide, wu_186, rfl, by decide +kernel, t_Lane_ok, n_Lane⟩
theorem f_Lane_63 : ac_F "PairedGates$Lane" 63 3 9 (.array (.object "PairedGates$Body")) false := ⟨R_Lane, T_Lane, 10, t_Lane, rfl, i_Lane, by decide, wu_188, rfl, by decide +kernel, t_Lane_ok, n_Lane⟩
theorem an_Lane_66 : Cond.classLink "PairedGates$Lane" 66 "PairedGates$Body" ∈ ac_U := wu_140
theorem nw_Lane_66 : ac_N "PairedGates$Lane" 66 1 5 [.int 0, .int 0, .int 0, .int 0, .int 0] := ⟨R_Body, T_Body, t_Body, rfl, i_Body, t_Body_ok, wu_140, wu_142, wu_36, by decide +kernel, fun _ => rfl, by simp⟩
theorem q_Lane_68 : ac_KIN "PairedGates$Lane" 68 m_Body_init 0 "PairedGates" := ⟨⟨wu_36, by decide, by decide, by decide, by decide +kernel⟩, by decide +kernel, wu_144, wu_145, rfl, rfl⟩
theorem q_Lane_69 : ac_KV "PairedGates$Lane" 69 m_Lane_takesSide 1 := ⟨⟨wu_30, by decide, by decide, by decide, by decide +kernel⟩, wu_545, wu_492, wu_493, wu_494⟩
theorem q_Lane_73 : ac_KV "PairedGates$Lane" 73 m_TL_refundAll 1 := ⟨⟨wu_34, by decide, by decide, by decide, by decide +kernel⟩, wu_546, wu_547, wu_548, wu_549⟩
theorem q_Lane_77 : ac_KV "PairedGates$Lane" 77 m_TL_refundExpired 2 := ⟨⟨wu_34, by decide, by decide, by decide, by decide +kernel⟩, wu_378, wu_379, wu_380, wu_381⟩
theorem q_Lane_81 : ac_KV "PairedGates$Lane" 81 m_Eye_take 0 := ⟨⟨wu_31, by decide, by decide, by decide, by decide +kernel⟩, wu_390, wu_391, wu_392, wu_393⟩
theorem f_Lane_84 : ac_F "PairedGates$Lane" 84 2 3 (.int) false := ⟨R_Eye, T_Eye, 4, t_Eye, rfl, i_Eye, by decide, wu_70, rfl, by decide +kernel, t_Eye_ok, n_Eye⟩
theorem q_Lane_87 : ac_KV "PairedGates$Lane" 87 m_Blobs_find 1 := ⟨⟨wu_32, by decide, by decide, by decide, by decide +kernel⟩, wu_394, wu_395, wu_396, wu_397⟩
theorem q_Lane_90 : ac_KV "PairedGates$Lane" 90 m_Lane_sendBodies 1 := ⟨⟨wu_30, by decide, by decide, by decide, by decide +kernel⟩, wu_402, wu_404, wu_3, wu_405⟩
theorem q_Lane_93 : ac_KV "PairedGates$Lane" 93 m_Lane_renewRow 1 := ⟨⟨wu_30, by decide, by decide, by decide, by decide +kernel⟩, wu_435, wu_437, wu_7, wu_438⟩
theorem q_Lane_96 : ac_KV "PairedGates$Lane" 96 m_Lane_handOutTokens 0 := ⟨⟨wu_30, by decide, by decide, by decide, by decide +kernel⟩, wu_462, wu_464, wu_11, wu_465⟩
theorem q_Lane_99 : ac_KV "PairedGates$Lane" 99 m_Lane_someBodyHasToken 0 := ⟨⟨wu_30, by decide, by decide, by decide, by decide +kernel⟩, wu_471, wu_473, wu_12, wu_474⟩
theorem q_Lane_103 : ac_KV "PairedGates$Lane" 103 m_Pad_move 2 := ⟨⟨wu_33, by decide, by decide, by decide, by decide +kernel⟩, wu_475, wu_476, wu_477, wu_478⟩
theorem q_Lane_107 : ac_KV "PairedGates$Lane" 107 m_Blobs_firstMetBy 1 := ⟨⟨wu_32, by decide, by decide, by decide, by decide +kernel⟩, wu_406, wu_407, wu_408, wu_409⟩
theorem q_Lane_111 : ac_KV "PairedGates$Lane" 111 m_Lane_countLeaver 2 := ⟨⟨wu_30, by decide, by decide, by decide, by decide +kernel⟩, wu_414, wu_416, wu_4, wu_417⟩
theorem f_Lane_115 : ac_F "PairedGates$Lane" 115 1 3 (.int) false := ⟨R_Body, T_Body, 5, t_Body, rfl, i_Body, by decide, wu_157, rfl, by decide +kernel, t_Body_ok, n_Body⟩
theorem q_Lane_118 : ac_KV "PairedGates$Lane" 118 m_Body_isThrough 0 := ⟨⟨wu_36, by decide, by decide, by decide, by decide +kernel⟩, wu_418, wu_419, wu_420, wu_421⟩
theorem f_Lane_121 : ac_F "PairedGates$Lane" 121 1 4 (.int) false := ⟨R_Body, T_Body, 5, t_Body, rfl, i_Body, by decide, wu_160, rfl, by decide +kernel, t_Body_ok, n_Body⟩
theorem q_Lane_124 : ac_KV "PairedGates$Lane" 124 m_Body_isTurned 0 := ⟨⟨wu_36, by decide, by decide, by decide, by decide +kernel⟩, wu_430, wu_431, wu_432, wu_433⟩
theorem q_Lane_127 : ac_KV "PairedGates$Lane" 127 m_Rf_add 1 := ⟨⟨wu_37, by decide, by decide, by decide, by decide +kernel⟩, wu_434, wu_387, wu_388, wu_389⟩
theorem f_Lane_132 : ac_F "PairedGates$Lane" 132 0 2 (.int) false := ⟨R_Blobs, T_Blobs, 3, t_Blobs, rfl, i_Blobs, by decide, wu_92, rfl, by decide +kernel, t_Blobs_ok, n_Blobs⟩
theorem q_Lane_133 : ac_KV "PairedGates$Lane" 133 m_Lane_sharersOf 1 := ⟨⟨wu_30, by decide, by decide, by decide, by decide +kernel⟩, wu_439, wu_441, wu_8, wu_442⟩
theorem q_Lane_137 : ac_KV "PairedGates$Lane" 137 m_Lane_shareBlob 3 := ⟨⟨wu_30, by decide, by decide, by decide, by decide +kernel⟩, wu_443, wu_445, wu_9, wu_446⟩
theorem f_Lane_141 : ac_F "PairedGates$Lane" 141 0 0 (.array .int) true := ⟨R_Blobs, T_Blobs, 3, t_Blobs, rfl, i_Blobs, by decide, wu_88, rfl, by decide +kernel, t_Blobs_ok, n_Blobs⟩
theorem f_Lane_144 : ac_F "PairedGates$Lane" 144 0 1 (.array .int) true := ⟨R_Blobs, T_Blobs, 3, t_Blobs, rfl, i_Blobs, by decide, wu_90, rfl, by decide +kernel, t_Blobs_ok, n_Blobs⟩
theorem q_Lane_147 : ac_KV "PairedGates$Lane" 147 m_Lane_sideFor 1 := ⟨⟨wu_30, by decide, by decide, by decide, by decide +kernel⟩, wu_453, wu_455, wu_10, wu_456⟩
theorem q_Lane_150 : ac_KV "PairedGates$Lane" 150 m_Body_enter 3 := ⟨⟨wu_36, by decide, by decide, by decide, by decide +kernel⟩, wu_458, wu_459, wu_460, wu_461⟩
theorem mx_Lane_154 : Cond.methodLink "PairedGates$Lane" 154 Lib.Math.max.name ∈ ac_U := wu_447
theorem q_Lane_160 : ac_KV "PairedGates$Lane" 160 m_Body_follow 3 := ⟨⟨wu_36, by decide, by decide, by decide, by decide +kernel⟩, wu_448, wu_449, wu_450, wu_451⟩
theorem q_Lane_164 : ac_KV "PairedGates$Lane" 164 m_Blobs_isMetBy 2 := ⟨⟨wu_32, by decide, by decide, by decide, by decide +kernel⟩, wu_457, wu_411, wu_412, wu_413⟩
theorem f_Lane_168 : ac_F "PairedGates$Lane" 168 1 2 (.int) false := ⟨R_Body, T_Body, 5, t_Body, rfl, i_Body, by decide, wu_155, rfl, by decide +kernel, t_Body_ok, n_Body⟩
theorem q_Lane_171 : ac_KV "PairedGates$Lane" 171 m_Body_hasReachedPaddles 0 := ⟨⟨wu_36, by decide, by decide, by decide, by decide +kernel⟩, wu_466, wu_467, wu_468, wu_469⟩
theorem q_Lane_174 : ac_KV "PairedGates$Lane" 174 m_TL_removeOldest 0 := ⟨⟨wu_34, by decide, by decide, by decide, by decide +kernel⟩, wu_470, wu_383, wu_384, wu_385⟩
theorem oi_Pad_3 : Cond.methodLink "PairedGates$Paddles" 3 Lib.objectInit ∈ ac_U := wu_106
theorem f_Pad_9 : ac_F "PairedGates$Paddles" 9 4 0 (.int) false := ⟨R_Pad, T_Pad, 2, t_Pad, rfl, i_Pad, by decide, wu_107, rfl, by decide +kernel, t_Pad_ok, n_Pad⟩
theorem f_Pad_15 : ac_F "PairedGates$Paddles" 15 4 1 (.int) false := ⟨R_Pad, T_Pad, 2, t_Pad, rfl, i_Pad, by decide, wu_109, rfl, by decide +kernel, t_Pad_ok, n_Pad⟩
theorem oi_Rf_3 : Cond.methodLink "PairedGates$Refunds" 3 Lib.objectInit ∈ ac_U := wu_217
theorem f_Rf_9 : ac_F "PairedGates$Refunds" 9 5 0 (.array .int) true := ⟨R_Rf, T_Rf, 2, t_Rf, rfl, i_Rf, by decide, wu_218, rfl, by decide +kernel, t_Rf_ok, n_Rf⟩
theorem f_Rf_15 : ac_F "PairedGates$Refunds" 15 5 1 (.int) false := ⟨R_Rf, T_Rf, 2, t_Rf, rfl, i_Rf, by decide, wu_219, rfl, by decide +kernel, t_Rf_ok, n_Rf⟩
theorem oi_TL_3 : Cond.methodLink "PairedGates$TokenList" 3 Lib.objectInit ∈ ac_U := wu_122
theorem f_TL_9 : ac_F "PairedGates$TokenList" 9 6 2 (.int) false := ⟨R_TL, T_TL, 3, t_TL, rfl, i_TL, by decide, wu_128, rfl, by decide +kernel, t_TL_ok, n_TL⟩
theorem mx_TL_15 : Cond.methodLink "PairedGates$TokenList" 15 Lib.Math.max.name ∈ ac_U := wu_123
theorem f_TL_21 : ac_F "PairedGates$TokenList" 21 6 0 (.array .int) true := ⟨R_TL, T_TL, 3, t_TL, rfl, i_TL, by decide, wu_126, rfl, by decide +kernel, t_TL_ok, n_TL⟩
theorem f_TL_25 : ac_F "PairedGates$TokenList" 25 6 1 (.array .int) true := ⟨R_TL, T_TL, 3, t_TL, rfl, i_TL, by decide, wu_127, rfl, by decide +kernel, t_TL_ok, n_TL⟩
theorem q_TL_28 : ac_KV "PairedGates$TokenList" 28 m_TL_removeOldest 0 := ⟨⟨wu_34, by decide, by decide, by decide, by decide +kernel⟩, wu_382, wu_383, wu_384, wu_385⟩
theorem q_TL_32 : ac_KV "PairedGates$TokenList" 32 m_Rf_add 1 := ⟨⟨wu_37, by decide, by decide, by decide, by decide +kernel⟩, wu_386, wu_387, wu_388, wu_389⟩
theorem q_La_7 : ac_KV "PairedGatesLaw" 7 m_PG_beams 2 := ⟨⟨wu_29, by decide, by decide, by decide, by decide +kernel⟩, wu_270, wu_271, wu_272, wu_273⟩
theorem q_La_15 : ac_KV "PairedGatesLaw" 15 m_PG_ticks 1 := ⟨⟨wu_29, by decide, by decide, by decide, by decide +kernel⟩, wu_354, wu_355, wu_356, wu_357⟩
theorem q_La_21 : ac_KV "PairedGatesLaw" 21 m_PG_token 3 := ⟨⟨wu_29, by decide, by decide, by decide, by decide +kernel⟩, wu_482, wu_483, wu_484, wu_485⟩
theorem q_La_25 : ac_KV "PairedGatesLaw" 25 m_PG_cancel 2 := ⟨⟨wu_29, by decide, by decide, by decide, by decide +kernel⟩, wu_510, wu_511, wu_512, wu_513⟩
theorem q_La_29 : ac_KV "PairedGatesLaw" 29 m_PG_mode 2 := ⟨⟨wu_29, by decide, by decide, by decide, by decide +kernel⟩, wu_520, wu_521, wu_522, wu_523⟩
theorem q_La_34 : ac_KV "PairedGatesLaw" 34 m_PG_bodies 1 := ⟨⟨wu_29, by decide, by decide, by decide, by decide +kernel⟩, wu_553, wu_554, wu_555, wu_556⟩
theorem q_La_37 : ac_KV "PairedGatesLaw" 37 m_PG_body 3 := ⟨⟨wu_29, by decide, by decide, by decide, by decide +kernel⟩, wu_560, wu_561, wu_562, wu_563⟩
theorem q_La_40 : ac_KV "PairedGatesLaw" 40 m_PG_waiting 2 := ⟨⟨wu_29, by decide, by decide, by decide, by decide +kernel⟩, wu_572, wu_573, wu_574, wu_575⟩
theorem q_La_43 : ac_KV "PairedGatesLaw" 43 m_PG_waits 3 := ⟨⟨wu_29, by decide, by decide, by decide, by decide +kernel⟩, wu_579, wu_580, wu_581, wu_582⟩
theorem q_La_46 : ac_KV "PairedGatesLaw" 46 m_PG_count 2 := ⟨⟨wu_29, by decide, by decide, by decide, by decide +kernel⟩, wu_590, wu_591, wu_592, wu_593⟩
theorem q_La_49 : ac_KV "PairedGatesLaw" 49 m_PG_angle 1 := ⟨⟨wu_29, by decide, by decide, by decide, by decide +kernel⟩, wu_597, wu_598, wu_599, wu_600⟩
theorem q_La_52 : ac_KV "PairedGatesLaw" 52 m_PG_order 1 := ⟨⟨wu_29, by decide, by decide, by decide, by decide +kernel⟩, wu_604, wu_605, wu_606, wu_607⟩
theorem q_La_55 : ac_KV "PairedGatesLaw" 55 m_PG_seen 1 := ⟨⟨wu_29, by decide, by decide, by decide, by decide +kernel⟩, wu_611, wu_612, wu_613, wu_614⟩
theorem nw_La_8 : ac_N "PairedGatesLaw" 8 7 5 [.null, .null, .null, .int 0, .int 0] := ⟨R_PG, T_PG, t_PG, rfl, i_PG, t_PG_ok, wu_45, wu_46, wu_29, by decide +kernel, fun _ => rfl, by simp⟩
theorem q_La_58 : ac_KI "PairedGatesLaw" 58 m_PG_init 0 := ⟨⟨wu_29, by decide, by decide, by decide, by decide +kernel⟩, wu_47, wu_48, wu_49, rfl, rfl⟩
theorem nw_La_59 : ac_N "PairedGatesLaw" 59 8 31 [.int 0, .int 0, .int 0, .null, .null, .null, .null, .null, .null, .null, .null, .null, .null, .null, .null, .null, .null, .null, .null, .null, .int 0, .null, .null, .null, .null, .null, .int 0, .null, .null, .int 0, .null] := ⟨R_Mo, T_Mo, t_Mo, rfl, i_Mo, t_Mo_ok, wu_615, wu_616, wu_38, by decide +kernel, fun _ => rfl, by simp⟩
theorem q_La_61 : ac_KI "PairedGatesLaw" 61 m_Mo_init 0 := ⟨⟨wu_38, by decide, by decide, by decide, by decide +kernel⟩, wu_617, wu_618, wu_619, rfl, rfl⟩
theorem q_La_62 : ac_KSW "PairedGatesLaw" 62 m_La_beams 3 := ⟨⟨wu_28, by decide, by decide, by decide, by decide +kernel⟩, wu_266, wu_267, wu_268⟩
theorem q_La_67 : ac_KV "PairedGatesLaw" 67 m_Mo_beams 2 := ⟨⟨wu_38, by decide, by decide, by decide, by decide +kernel⟩, wu_719, wu_720, wu_721, wu_722⟩
theorem q_La_68 : ac_KV "PairedGatesLaw" 68 m_Mo_thrown 0 := ⟨⟨wu_38, by decide, by decide, by decide, by decide +kernel⟩, wu_715, wu_716, wu_717, wu_718⟩
theorem q_La_72 : ac_KSW "PairedGatesLaw" 72 m_La_ticks 3 := ⟨⟨wu_28, by decide, by decide, by decide, by decide +kernel⟩, wu_350, wu_351, wu_352⟩
theorem q_La_75 : ac_KV "PairedGatesLaw" 75 m_Mo_ticks 1 := ⟨⟨wu_38, by decide, by decide, by decide, by decide +kernel⟩, wu_730, wu_731, wu_732, wu_733⟩
theorem q_La_76 : ac_KSW "PairedGatesLaw" 76 m_La_token 5 := ⟨⟨wu_28, by decide, by decide, by decide, by decide +kernel⟩, wu_479, wu_480, wu_481⟩
theorem q_La_79 : ac_KV "PairedGatesLaw" 79 m_Mo_token 3 := ⟨⟨wu_38, by decide, by decide, by decide, by decide +kernel⟩, wu_782, wu_783, wu_784, wu_785⟩
theorem q_La_80 : ac_KSW "PairedGatesLaw" 80 m_La_cancel 4 := ⟨⟨wu_28, by decide, by decide, by decide, by decide +kernel⟩, wu_507, wu_508, wu_509⟩
theorem q_La_83 : ac_KV "PairedGatesLaw" 83 m_Mo_cancel 2 := ⟨⟨wu_38, by decide, by decide, by decide, by decide +kernel⟩, wu_794, wu_795, wu_796, wu_797⟩
theorem q_La_84 : ac_KSW "PairedGatesLaw" 84 m_La_mode 4 := ⟨⟨wu_28, by decide, by decide, by decide, by decide +kernel⟩, wu_516, wu_517, wu_518⟩
theorem q_La_86 : ac_KV "PairedGatesLaw" 86 m_Mo_mode 2 := ⟨⟨wu_38, by decide, by decide, by decide, by decide +kernel⟩, wu_798, wu_799, wu_800, wu_801⟩
theorem q_La_87 : ac_KV "PairedGatesLaw" 87 m_PG_alarm 1 := ⟨⟨wu_29, by decide, by decide, by decide, by decide +kernel⟩, wu_242, wu_243, wu_244, wu_245⟩
theorem q_La_91 : ac_KV "PairedGatesLaw" 91 m_Mo_alarm 1 := ⟨⟨wu_38, by decide, by decide, by decide, by decide +kernel⟩, wu_802, wu_803, wu_804, wu_805⟩
theorem q_La_92 : ac_KV "PairedGatesLaw" 92 m_PG_time 0 := ⟨⟨wu_29, by decide, by decide, by decide, by decide +kernel⟩, wu_246, wu_247, wu_248, wu_249⟩
theorem q_La_95 : ac_KV "PairedGatesLaw" 95 m_Mo_time 0 := ⟨⟨wu_38, by decide, by decide, by decide, by decide +kernel⟩, wu_806, wu_807, wu_808, wu_809⟩
theorem q_La_96 : ac_KSW "PairedGatesLaw" 96 m_La_bodies 3 := ⟨⟨wu_28, by decide, by decide, by decide, by decide +kernel⟩, wu_550, wu_551, wu_552⟩
theorem q_La_98 : ac_KV "PairedGatesLaw" 98 m_Mo_bodies 1 := ⟨⟨wu_38, by decide, by decide, by decide, by decide +kernel⟩, wu_810, wu_811, wu_812, wu_813⟩
theorem q_La_99 : ac_KSW "PairedGatesLaw" 99 m_La_body 5 := ⟨⟨wu_28, by decide, by decide, by decide, by decide +kernel⟩, wu_557, wu_558, wu_559⟩
theorem q_La_101 : ac_KV "PairedGatesLaw" 101 m_Mo_body 3 := ⟨⟨wu_38, by decide, by decide, by decide, by decide +kernel⟩, wu_814, wu_815, wu_816, wu_817⟩
theorem q_La_102 : ac_KSW "PairedGatesLaw" 102 m_La_waiting 4 := ⟨⟨wu_28, by decide, by decide, by decide, by decide +kernel⟩, wu_569, wu_570, wu_571⟩
theorem q_La_104 : ac_KV "PairedGatesLaw" 104 m_Mo_waiting 2 := ⟨⟨wu_38, by decide, by decide, by decide, by decide +kernel⟩, wu_818, wu_819, wu_820, wu_821⟩
theorem q_La_105 : ac_KSW "PairedGatesLaw" 105 m_La_waits 5 := ⟨⟨wu_28, by decide, by decide, by decide, by decide +kernel⟩, wu_576, wu_577, wu_578⟩
theorem q_La_107 : ac_KV "PairedGatesLaw" 107 m_Mo_waits 3 := ⟨⟨wu_38, by decide, by decide, by decide, by decide +kernel⟩, wu_822, wu_823, wu_824, wu_825⟩
theorem q_La_108 : ac_KSW "PairedGatesLaw" 108 m_La_count 4 := ⟨⟨wu_28, by decide, by decide, by decide, by decide +kernel⟩, wu_587, wu_588, wu_589⟩
theorem q_La_110 : ac_KV "PairedGatesLaw" 110 m_Mo_count 2 := ⟨⟨wu_38, by decide, by decide, by decide, by decide +kernel⟩, wu_826, wu_827, wu_828, wu_829⟩
theorem q_La_111 : ac_KSW "PairedGatesLaw" 111 m_La_angle 3 := ⟨⟨wu_28, by decide, by decide, by decide, by decide +kernel⟩, wu_594, wu_595, wu_596⟩
theorem q_La_113 : ac_KV "PairedGatesLaw" 113 m_Mo_angle 1 := ⟨⟨wu_38, by decide, by decide, by decide, by decide +kernel⟩, wu_830, wu_831, wu_832, wu_833⟩
theorem q_La_114 : ac_KSW "PairedGatesLaw" 114 m_La_order 3 := ⟨⟨wu_28, by decide, by decide, by decide, by decide +kernel⟩, wu_601, wu_602, wu_603⟩
theorem q_La_116 : ac_KV "PairedGatesLaw" 116 m_Mo_order 1 := ⟨⟨wu_38, by decide, by decide, by decide, by decide +kernel⟩, wu_834, wu_835, wu_836, wu_837⟩
theorem q_La_117 : ac_KSW "PairedGatesLaw" 117 m_La_seen 3 := ⟨⟨wu_28, by decide, by decide, by decide, by decide +kernel⟩, wu_608, wu_609, wu_610⟩
theorem q_La_119 : ac_KV "PairedGatesLaw" 119 m_Mo_seen 1 := ⟨⟨wu_38, by decide, by decide, by decide, by decide +kernel⟩, wu_838, wu_839, wu_840, wu_841⟩
theorem q_La_120 : ac_KV "PairedGatesLaw" 120 m_PG_accepted 0 := ⟨⟨wu_29, by decide, by decide, by decide, by decide +kernel⟩, wu_250, wu_251, wu_252, wu_253⟩
theorem q_La_123 : ac_KV "PairedGatesLaw" 123 m_Mo_accepted 0 := ⟨⟨wu_38, by decide, by decide, by decide, by decide +kernel⟩, wu_842, wu_843, wu_844, wu_845⟩
theorem q_La_124 : ac_KV "PairedGatesLaw" 124 m_PG_refunds 0 := ⟨⟨wu_29, by decide, by decide, by decide, by decide +kernel⟩, wu_254, wu_255, wu_256, wu_257⟩
theorem q_La_127 : ac_KV "PairedGatesLaw" 127 m_Mo_refunds 0 := ⟨⟨wu_38, by decide, by decide, by decide, by decide +kernel⟩, wu_846, wu_847, wu_848, wu_849⟩
theorem q_La_128 : ac_KV "PairedGatesLaw" 128 m_PG_refund 1 := ⟨⟨wu_29, by decide, by decide, by decide, by decide +kernel⟩, wu_258, wu_259, wu_260, wu_261⟩
theorem q_La_131 : ac_KV "PairedGatesLaw" 131 m_Mo_refund 1 := ⟨⟨wu_38, by decide, by decide, by decide, by decide +kernel⟩, wu_850, wu_851, wu_852, wu_853⟩
theorem oi_1 : Cond.instanceMethod Lib.objectInit ∈ ac_U := wu_51
theorem oi_2 : Cond.code Lib.objectInit ⟨#[0xb1]⟩ 1 none ∈ ac_U := wu_52
theorem mx_1 : Cond.static Lib.Math.max.name ∈ ac_U := wu_124
theorem mx_2 : Cond.initialized "java/lang/Math" ∈ ac_U := wu_35
theorem mx_3 : Cond.code Lib.Math.max.name Lib.Math.max.code 2 (some .int) ∈ ac_U := wu_125
theorem ar_I : Cond.arrayClass .int ∈ ac_U := wu_100
theorem ar_L : Cond.arrayClass .long ∈ ac_U := wu_854
theorem ei_IndexOutOfBoundsException : Cond.initialized "java/lang/IndexOutOfBoundsException" ∈ ac_U := wu_42
theorem el_La_13 : Cond.classLink "PairedGatesLaw" 13 "java/lang/IndexOutOfBoundsException" ∈ ac_U := wu_269
theorem el_PG_155 : Cond.classLink "PairedGates" 155 "java/lang/IndexOutOfBoundsException" ∈ ac_U := wu_278
theorem ei_IllegalArgumentException : Cond.initialized "java/lang/IllegalArgumentException" ∈ ac_U := wu_43
theorem el_La_19 : Cond.classLink "PairedGatesLaw" 19 "java/lang/IllegalArgumentException" ∈ ac_U := wu_353
theorem el_PG_53 : Cond.classLink "PairedGates" 53 "java/lang/IllegalArgumentException" ∈ ac_U := wu_358
theorem ei_IllegalStateException : Cond.initialized "java/lang/IllegalStateException" ∈ ac_U := wu_44
theorem el_La_32 : Cond.classLink "PairedGatesLaw" 32 "java/lang/IllegalStateException" ∈ ac_U := wu_519
theorem el_PG_98 : Cond.classLink "PairedGates" 98 "java/lang/IllegalStateException" ∈ ac_U := wu_525
end
section
/-! COMMON WORDS of the contracts: which cells may have changed; numbers; lists in arrays -/
/-- h' is h but at the places as -/
def fr (h h' : ac_H) (as : List Nat) : Prop := h'.length = h.length ∧ ∀ b, b ∉ as → h'[b]? = h[b]?
theorem fr_rf {h : ac_H} {as : List Nat} : fr h h as := ⟨rfl, fun _ _ => rfl⟩
theorem fr_tr {h h1 h2 : ac_H} {as bs cs : List Nat} (a : fr h h1 as) (b : fr h1 h2 bs) (ha : ∀ x ∈ as, x ∈ cs) (hb : ∀ x ∈ bs, x ∈ cs) : fr h h2 cs := ⟨b.1.trans a.1, fun x hx => (b.2 x (fun q => hx (hb x q))).trans (a.2 x (fun q => hx (ha x q)))⟩
theorem fr_mo {h h1 : ac_H} {as cs : List Nat} (a : fr h h1 as) (ha : ∀ x ∈ as, x ∈ cs) : fr h h1 cs := ⟨a.1, fun x hx => a.2 x (fun q => hx (ha x q))⟩
theorem fr_at {h h' : ac_H} {as : List Nat} (a : fr h h' as) {b : Nat} {e : ac_E} (hb : b ∉ as) (he : h[b]? = some e) : h'[b]? = some e := (a.2 b hb).trans he
theorem fr_set {h : ac_H} {a : Nat} {e : ac_E} : fr h (h.set a e) [a] := ⟨List.length_set, fun b hb => List.getElem?_set_ne (fun q => hb (by rw [q]; exact List.mem_cons_self))⟩
theorem set_at {h : ac_H} {a : Nat} {e e0 : ac_E} (h0 : h[a]? = some e0) : (h.set a e)[a]? = some e := List.getElem?_set_self (ac_lt h0)
theorem r_ri {g : ac_P} {pc : Nat} {L : List (Nat × Value)} {S : List Value} {h : ac_H} {k z : Nat} {x y : Int32} (he : x = y) (kk : ac_G g pc L (.int y :: S) h k z) : ac_G g pc L (.int x :: S) h k z := by rw [he]; exact kk
theorem r_ri2 {g : ac_P} {pc : Nat} {L : List (Nat × Value)} {S : List Value} {v : Value} {h : ac_H} {k z : Nat} {x y : Int32} (he : x = y) (kk : ac_G g pc L (v :: .int y :: S) h k z) : ac_G g pc L (v :: .int x :: S) h k z := by rw [he]; exact kk
theorem r_putfieldN {g : ac_P} {pc : Nat} {L : List (Nat × Value)} {S : List Value} {h : ac_H} {k z : Nat} {a idx ci j : Nat} {ty : FieldType} {fs : List Value} {v : Value} (hd : decode (ac_cc g) pc = .ok (.putfield idx, 3)) (hf : ac_F (ac_y g).cls idx ci j ty false) (hh : h[a]? = some (.inr (ci, fs))) (hj : j < fs.length) (hn : ∀ σ, narrow ty (ac_v σ v) = ac_v σ v) (hfit : ∀ σ, fits ty (ac_v σ v) = true) (kk : ∀ h', fr h h' [a] → h'[a]? = some (.inr (ci, fs.set j v)) → ac_G g (pc + 3) L S h' k z) : ac_G g pc L (v :: .ref a :: S) h k z :=
  r_putfield hd hf hh hj hn hfit (kk _ fr_set (set_at hh))
theorem r_ialoadN {g : ac_P} {pc : Nat} {L : List (Nat × Value)} {S : List Value} {h : ac_H} {k z : Nat} {a n j : Nat} {f : Nat → Int32} (hd : decode (ac_cc g) pc = .ok (.iaload, 1)) (hh : h[a]? = some (.inl (.inl (n, f)))) (hj : j < n) (hn : n < 2 ^ 31) (kk : ac_G g (pc + 1) L (.int (f j) :: S) h k z) : ac_G g pc L (.int (nI j) :: .ref a :: S) h k z := by
  refine r_iaload hd hh (vp_in_nI hj hn) ?_
  rw [nI_clamp (by omega)]; exact kk
theorem r_iastoreN {g : ac_P} {pc : Nat} {L : List (Nat × Value)} {S : List Value} {h : ac_H} {k z : Nat} {a n j : Nat} {f : Nat → Int32} {x : Int32} (hd : decode (ac_cc g) pc = .ok (.iastore, 1)) (hh : h[a]? = some (.inl (.inl (n, f)))) (hj : j < n) (hn : n < 2 ^ 31) (kk : ∀ h', fr h h' [a] → h'[a]? = some (.inl (.inl (n, upd f j x))) → ac_G g (pc + 1) L S h' k z) : ac_G g pc L (.int x :: .int (nI j) :: .ref a :: S) h k z := by
  refine r_iastore hd hh (vp_in_nI hj hn) ?_
  rw [nI_clamp (by omega)]; exact kk _ fr_set (set_at hh)
theorem r_aaloadN {g : ac_P} {pc : Nat} {L : List (Nat × Value)} {S : List Value} {h : ac_H} {k z : Nat} {a n kd b j : Nat} {C9 : String} {f : Nat → Option Nat} (hd : decode (ac_cc g) pc = .ok (.aaload, 1)) (hh : h[a]? = some (.inl (.inr (.inr (kd, n, f))))) (hk9 : ac_kn[kd]? = some C9) (hj : j < n) (hn : n < 2 ^ 31) (hf : f j = some b) (kk : ac_G g (pc + 1) L (.ref b :: S) h k z) : ac_G g pc L (.int (nI j) :: .ref a :: S) h k z := by
  refine r_aaload hd hh hk9 (vp_in_nI hj hn) (b := b) ?_ kk
  rw [nI_clamp (by omega)]; exact hf
theorem r_iincP {g : ac_P} {pc : Nat} {L : List (Nat × Value)} {S : List Value} {h : ac_H} {k z : Nat} {i : Nat} {x : Int32} (hd : decode (ac_cc g) pc = .ok (.iinc i 1, 3)) (hl0 : ac_get L i = some (.int x)) (hn : i < ac_ml g) (kk : ac_G g (pc + 3) (ac_put L i (.int (x + 1))) S h k z) : ac_G g pc L S h k z := r_iinc (x + 1) hd hl0 rfl hn kk
theorem r_iincM {g : ac_P} {pc : Nat} {L : List (Nat × Value)} {S : List Value} {h : ac_H} {k z : Nat} {i : Nat} {x : Int32} (hd : decode (ac_cc g) pc = .ok (.iinc i (-1), 3)) (hl0 : ac_get L i = some (.int x)) (hn : i < ac_ml g) (kk : ac_G g (pc + 3) (ac_put L i (.int (x - 1))) S h k z) : ac_G g pc L S h k z := r_iinc (x - 1) hd hl0 (by
  have e : Int32.ofInt (-1) = -1 := by decide
  rw [e, Int32.sub_eq_add_neg]) hn kk
/-- another list of locals that says the same -/
theorem r_L {g : ac_P} {pc : Nat} {L L' : List (Nat × Value)} {S : List Value} {h : ac_H} {k z : Nat} (he : L = L') (kk : ac_G g pc L' S h k z) : ac_G g pc L S h k z := by rw [he]; exact kk
/-- the list q lies in the arrays f, g -/
def in2 (q : List (Int32 × Int32)) (f g : Nat → Int32) : Prop := ∀ (i : Nat) (x : Int32 × Int32), q[i]? = some x → f i = x.1 ∧ g i = x.2
def in1 (q : List Int32) (f : Nat → Int32) : Prop := ∀ (i : Nat) (x : Int32), q[i]? = some x → f i = x
/-- a list of tokens at t: the object, its accounts, its times -/
def TLs (h : ac_H) (t N : Nat) (q : List (Int32 × Int32)) : Prop := h[t]? = some (.inr (6, [.ref (t + 1), .ref (t + 2), .int (nI q.length)])) ∧ q.length ≤ N ∧ N < 1000 ∧ ∃ f g, h[t + 1]? = some (.inl (.inl (N, f))) ∧ h[t + 2]? = some (.inl (.inl (N, g))) ∧ in2 q f g
theorem TLs.fr {h h' : ac_H} {t N : Nat} {q : List (Int32 × Int32)} {as : List Nat} (H : TLs h t N q) (F : fr h h' as) (h0 : t ∉ as) (h1 : t + 1 ∉ as) (h2 : t + 2 ∉ as) : TLs h' t N q := by
  obtain ⟨a1, a2, a3, f, g, a4, a5, a6⟩ := H
  exact ⟨fr_at F h0 a1, a2, a3, f, g, fr_at F h1 a4, fr_at F h2 a5, a6⟩
/-- the refunds at r: the object, its accounts -/
def Rfs (h : ac_H) (r : Nat) (q : List Int32) : Prop := h[r]? = some (.inr (5, [.ref (r + 1), .int (nI q.length)])) ∧ q.length ≤ 512 ∧ ∃ f, h[r + 1]? = some (.inl (.inl (512, f))) ∧ in1 q f
theorem Rfs.fr {h h' : ac_H} {r : Nat} {q : List Int32} {as : List Nat} (H : Rfs h r q) (F : fr h h' as) (h0 : r ∉ as) (h1 : r + 1 ∉ as) : Rfs h' r q := by
  obtain ⟨a1, a2, f, a4, a6⟩ := H
  exact ⟨fr_at F h0 a1, a2, f, fr_at F h1 a4, a6⟩
theorem in1_add {q : List Int32} {f : Nat → Int32} {x : Int32} (h : in1 q f) : in1 (q ++ [x]) (upd f q.length x) := by
  intro i y hy
  unfold upd
  by_cases hi : i < q.length
  · rw [List.getElem?_append_left hi] at hy
    rw [if_neg (by omega)]; exact h i y hy
  · rw [List.getElem?_append_right (by omega)] at hy
    have : i - q.length < 1 := (List.getElem?_eq_some_iff.mp hy).1
    have e : i = q.length := by omega
    subst e
    rw [Nat.sub_self] at hy
    cases hy
    rw [if_pos rfl]
theorem in2_add {q : List (Int32 × Int32)} {f g : Nat → Int32} {x y : Int32} (h : in2 q f g) : in2 (q ++ [(x, y)]) (upd f q.length x) (upd g q.length y) := by
  intro i w hw
  unfold upd
  by_cases hi : i < q.length
  · rw [List.getElem?_append_left hi] at hw
    rw [if_neg (by omega), if_neg (by omega)]; exact h i w hw
  · rw [List.getElem?_append_right (by omega)] at hw
    have : i - q.length < 1 := (List.getElem?_eq_some_iff.mp hw).1
    have e : i = q.length := by omega
    subst e
    rw [Nat.sub_self] at hw
    cases hw
    rw [if_pos rfl, if_pos rfl]; exact ⟨rfl, rfl⟩
/-! calls whose end is known -/
section CALLS
variable {g : ac_P} {pc : Nat} {L : List (Nat × Value)} {S : List Value} {h : ac_H} {k z : Nat} {mi : ac_I} {n idx : Nat}
theorem r_cVi (as : List Value) (b : Nat) {ci : Nat} {fs : List Value} (d' mc ms : Nat) (v : Int32) (P : ac_H → Prop) (hd : decode (ac_cc g) pc = .ok (.invokevirtual idx, 3)) (hk9 : ac_KV (ac_y g).cls idx mi n) (hb9 : h[b]? = some (.inr (ci, fs))) {T9 : u_T} {N9 : Nat} (hc9 : ac_cl[ci]? = some (mi.1.cls, T9, N9)) (hn : as.length = n) (hM : ac_Mt (ac_l g) d' mi (.ref b :: as) h mc ms (fun r h' => r = .inl (some (.int v)) ∧ P h')) (hdd : d' + 1 ≤ ac_d g) (h1 : k + mc ≤ ac_mc g) (h2 : z + ms ≤ ac_ms g) (hs : (S.map fun v => v.category).sum ≤ 8) (kk : ∀ h', P h' → ac_G g (pc + 3) L (.int v :: S) h' (k + mc) (z + ms)) : ac_G g pc L (as.reverse ++ .ref b :: S) h k z :=
  r_callV as b d' mc ms hd hk9 hb9 hc9 hn hM hdd h1 h2 hs (fun r h' hp _ => by obtain ⟨e, hp⟩ := hp; cases e; exact kk h' hp) (fun E h' hp _ => nomatch hp.1)
theorem r_cVv (as : List Value) (b : Nat) {ci : Nat} {fs : List Value} (d' mc ms : Nat) (P : ac_H → Prop) (hd : decode (ac_cc g) pc = .ok (.invokevirtual idx, 3)) (hk9 : ac_KV (ac_y g).cls idx mi n) (hb9 : h[b]? = some (.inr (ci, fs))) {T9 : u_T} {N9 : Nat} (hc9 : ac_cl[ci]? = some (mi.1.cls, T9, N9)) (hn : as.length = n) (hM : ac_Mt (ac_l g) d' mi (.ref b :: as) h mc ms (fun r h' => r = .inl none ∧ P h')) (hdd : d' + 1 ≤ ac_d g) (h1 : k + mc ≤ ac_mc g) (h2 : z + ms ≤ ac_ms g) (hs : (S.map fun v => v.category).sum ≤ 8) (kk : ∀ h', P h' → ac_G g (pc + 3) L S h' (k + mc) (z + ms)) : ac_G g pc L (as.reverse ++ .ref b :: S) h k z :=
  r_callV as b d' mc ms hd hk9 hb9 hc9 hn hM hdd h1 h2 hs (fun r h' hp _ => by obtain ⟨e, hp⟩ := hp; cases e; exact kk h' hp) (fun E h' hp _ => nomatch hp.1)
theorem r_cVr (as : List Value) (b : Nat) {ci : Nat} {fs : List Value} (d' mc ms : Nat) (v : Nat) (P : ac_H → Prop) (hd : decode (ac_cc g) pc = .ok (.invokevirtual idx, 3)) (hk9 : ac_KV (ac_y g).cls idx mi n) (hb9 : h[b]? = some (.inr (ci, fs))) {T9 : u_T} {N9 : Nat} (hc9 : ac_cl[ci]? = some (mi.1.cls, T9, N9)) (hn : as.length = n) (hM : ac_Mt (ac_l g) d' mi (.ref b :: as) h mc ms (fun r h' => r = .inl (some (.ref v)) ∧ P h')) (hdd : d' + 1 ≤ ac_d g) (h1 : k + mc ≤ ac_mc g) (h2 : z + ms ≤ ac_ms g) (hs : (S.map fun v => v.category).sum ≤ 8) (kk : ∀ h', P h' → ac_G g (pc + 3) L (.ref v :: S) h' (k + mc) (z + ms)) : ac_G g pc L (as.reverse ++ .ref b :: S) h k z :=
  r_callV as b d' mc ms hd hk9 hb9 hc9 hn hM hdd h1 h2 hs (fun r h' hp _ => by obtain ⟨e, hp⟩ := hp; cases e; exact kk h' hp) (fun E h' hp _ => nomatch hp.1)
theorem r_cSr (as : List Value) (d' mc ms : Nat) (v : Nat) (P : ac_H → Prop) (hd : decode (ac_cc g) pc = .ok (.invokestatic idx, 3)) (hk9 : ac_KS (ac_y g).cls idx mi n) (hn : as.length = n) (hM : ac_Mt (ac_l g) d' mi as h mc ms (fun r h' => r = .inl (some (.ref v)) ∧ P h')) (hdd : d' + 1 ≤ ac_d g) (h1 : k + mc ≤ ac_mc g) (h2 : z + ms ≤ ac_ms g) (hs : (S.map fun v => v.category).sum ≤ 8) (kk : ∀ h', P h' → ac_G g (pc + 3) L (.ref v :: S) h' (k + mc) (z + ms)) : ac_G g pc L (as.reverse ++ S) h k z :=
  r_callS as d' mc ms hd hk9 hn hM hdd h1 h2 hs (fun r h' hp _ => by obtain ⟨e, hp⟩ := hp; cases e; exact kk h' hp) (fun E h' hp _ => nomatch hp.1)
theorem r_cSi (as : List Value) (d' mc ms : Nat) (v : Int32) (P : ac_H → Prop) (hd : decode (ac_cc g) pc = .ok (.invokestatic idx, 3)) (hk9 : ac_KS (ac_y g).cls idx mi n) (hn : as.length = n) (hM : ac_Mt (ac_l g) d' mi as h mc ms (fun r h' => r = .inl (some (.int v)) ∧ P h')) (hdd : d' + 1 ≤ ac_d g) (h1 : k + mc ≤ ac_mc g) (h2 : z + ms ≤ ac_ms g) (hs : (S.map fun v => v.category).sum ≤ 8) (kk : ∀ h', P h' → ac_G g (pc + 3) L (.int v :: S) h' (k + mc) (z + ms)) : ac_G g pc L (as.reverse ++ S) h k z :=
  r_callS as d' mc ms hd hk9 hn hM hdd h1 h2 hs (fun r h' hp _ => by obtain ⟨e, hp⟩ := hp; cases e; exact kk h' hp) (fun E h' hp _ => nomatch hp.1)
end CALLS
theorem lt_of_nle {a b : Nat} (hb : b < 2 ^ 31) (c : ¬ nI b ≤ nI a) (ha : a < 2 ^ 31) : a < b := by
  rcases Nat.lt_or_ge a b with z | z
  · exact z
  · exact absurd ((nI_leI hb ha).mpr z) c
end
section
/-! EYE: the word told, the two taken last, what is seen -/
theorem c_Eye_tell {l : Launch} (htr : l.stackTraces = false) {d : Nat} {h : ac_H} {Φ : ac_R → ac_H → Prop} {a : Nat} {w x1 x2 x3 x4 : Int32} (hh : h[a]? = some (.inr (2, [.int x1, .int x2, .int x3, .int x4]))) (hΦ : ∀ h', fr h h' [a] → h'[a]? = some (.inr (2, [.int (w &&& 1023), .int x2, .int x3, .int x4])) → Φ (.inl none) h') : ac_Mt l d m_Eye_tell [.ref a, .int w] h 0 0 Φ := by
  refine ac_enter (by decide) rfl htr (fun _ => Nat.le_of_ble_eq_true rfl) ?_
  refine r_aload_n d_Eye_tell_0 rfl ?_
  refine r_iload_n d_Eye_tell_1 rfl ?_
  refine r_sipush 1023 d_Eye_tell_2 (by decide) ?_
  refine r_iand d_Eye_tell_5 ?_
  refine r_putfieldN d_Eye_tell_6 f_Eye_9 hh (Nat.le_of_ble_eq_true rfl) (fun _ => rfl) (fun _ => rfl) (fun h6_ fr6 g6 => ?_)
  exact r_vret d_Eye_tell_9 rfl (hΦ _ fr6 g6) (Nat.le_refl _) (Nat.le_refl _)
theorem c_Eye_take {l : Launch} (htr : l.stackTraces = false) {d : Nat} {h : ac_H} {Φ : ac_R → ac_H → Prop} {a : Nat} {x1 x2 x3 x4 : Int32} (hh : h[a]? = some (.inr (2, [.int x1, .int x2, .int x3, .int x4]))) (hΦ : ∀ h', fr h h' [a] → h'[a]? = some (.inr (2, [.int x1, .int x1, .int x2, .int (x1 &&& x2 ||| x1 &&& x3 ||| x2 &&& x3)])) → Φ (.inl none) h') : ac_Mt l d m_Eye_take [.ref a] h 0 0 Φ := by
  refine ac_enter (by decide) rfl htr (fun _ => Nat.le_of_ble_eq_true rfl) ?_
  refine r_aload_n d_Eye_take_0 rfl ?_
  refine r_aload_n d_Eye_take_1 rfl ?_
  refine r_getfield d_Eye_take_2 f_Eye_9 hh rfl ?_
  refine r_aload_n d_Eye_take_5 rfl ?_
  refine r_getfield d_Eye_take_6 f_Eye_15 hh rfl ?_
  refine r_iand d_Eye_take_9 ?_
  refine r_aload_n d_Eye_take_10 rfl ?_
  refine r_getfield d_Eye_take_11 f_Eye_9 hh rfl ?_
  refine r_aload_n d_Eye_take_14 rfl ?_
  refine r_getfield d_Eye_take_15 f_Eye_18 hh rfl ?_
  refine r_iand d_Eye_take_18 ?_
  refine r_ior d_Eye_take_19 ?_
  refine r_aload_n d_Eye_take_20 rfl ?_
  refine r_getfield d_Eye_take_21 f_Eye_15 hh rfl ?_
  refine r_aload_n d_Eye_take_24 rfl ?_
  refine r_getfield d_Eye_take_25 f_Eye_18 hh rfl ?_
  refine r_iand d_Eye_take_28 ?_
  refine r_ior d_Eye_take_29 ?_
  refine r_putfieldN d_Eye_take_30 f_Eye_21 hh (Nat.le_of_ble_eq_true rfl) (fun _ => rfl) (fun _ => rfl) (fun h30_ fr30 g30 => ?_)
  refine r_aload_n d_Eye_take_33 rfl ?_
  refine r_aload_n d_Eye_take_34 rfl ?_
  refine r_getfield d_Eye_take_35 f_Eye_15 g30 rfl ?_
  refine r_putfieldN d_Eye_take_38 f_Eye_18 g30 (Nat.le_of_ble_eq_true rfl) (fun _ => rfl) (fun _ => rfl) (fun h38_ fr38 g38 => ?_)
  refine r_aload_n d_Eye_take_41 rfl ?_
  refine r_aload_n d_Eye_take_42 rfl ?_
  refine r_getfield d_Eye_take_43 f_Eye_9 g38 rfl ?_
  refine r_putfieldN d_Eye_take_46 f_Eye_15 g38 (Nat.le_of_ble_eq_true rfl) (fun _ => rfl) (fun _ => rfl) (fun h46_ fr46 g46 => ?_)
  exact r_vret d_Eye_take_49 rfl (hΦ _ (fr_tr (fr_tr fr30 fr38 (fun _ q => q) (fun _ q => q)) fr46 (fun _ q => q) (fun _ q => q)) g46) (Nat.le_refl _) (Nat.le_refl _)
/-! REFUNDS -/
theorem c_Rf_add {l : Launch} (htr : l.stackTraces = false) {d : Nat} {h : ac_H} {Φ : ac_R → ac_H → Prop} {r : Nat} {x : Int32} {q : List Int32} (H : Rfs h r q) (hΦ : q.length < 512 → ∀ h', fr h h' [r, r + 1] → Rfs h' r (q ++ [x]) → Φ (.inl none) h') (hΨ : q.length = 512 → Φ (.inl none) h) : ac_Mt l d m_Rf_add [.ref r, .int x] h 0 0 Φ := by
  obtain ⟨a1, a2, f, a4, a6⟩ := H
  refine ac_enter (by decide) rfl htr (fun _ => Nat.le_of_ble_eq_true rfl) ?_
  refine r_aload_n d_Rf_add_0 rfl ?_
  refine r_getfield d_Rf_add_1 f_Rf_15 a1 rfl ?_
  refine r_aload_n d_Rf_add_4 rfl ?_
  refine r_getfield d_Rf_add_5 f_Rf_9 a1 rfl ?_
  refine r_alenI d_Rf_add_8 a4 ?_
  refine r_icmp_ge 32 d_Rf_add_9 (by decide) (fun c1 => ?_) (fun c1 => ?_)
  · exact r_vret d_Rf_add_32 rfl (hΨ (by have := (nI_leI (by omega) (by omega)).mp c1; omega)) (Nat.le_refl _) (Nat.le_refl _)
  · have hlt : q.length < 512 := by
      rcases Nat.lt_or_ge q.length 512 with z | z
      · exact z
      · exact absurd ((nI_leI (by omega) (by omega)).mpr z) c1
    refine r_aload_n d_Rf_add_12 rfl ?_
    refine r_getfield d_Rf_add_13 f_Rf_9 a1 rfl ?_
    refine r_aload_n d_Rf_add_16 rfl ?_
    refine r_getfield d_Rf_add_17 f_Rf_15 a1 rfl ?_
    refine r_iload_n d_Rf_add_20 rfl ?_
    refine r_iastoreN d_Rf_add_21 a4 hlt (by omega) (fun h21_ fr21 g21 => ?_)
    have b1 := fr_at fr21 (b := r) (by simp) a1
    refine r_aload_n d_Rf_add_22 rfl ?_
    refine r_dup d_Rf_add_23 rfl ?_
    refine r_getfield d_Rf_add_24 f_Rf_15 b1 rfl ?_
    refine r_iconst 1 d_Rf_add_27 (by decide) ?_
    refine r_iadd d_Rf_add_28 ?_
    refine r_ri (nI_1 _) ?_
    refine r_putfieldN d_Rf_add_29 f_Rf_15 b1 (Nat.le_of_ble_eq_true rfl) (fun _ => rfl) (fun _ => rfl) (fun h29_ fr29 g29 => ?_)
    refine r_vret d_Rf_add_32 rfl (hΦ hlt _ (fr_tr fr21 fr29 (by simp) (by simp)) ⟨?_, ?_, _, fr_at fr29 (by simp) g21, in1_add a6⟩) (Nat.le_refl _) (Nat.le_refl _)
    · rw [List.length_append]; exact g29
    · rw [List.length_append]; exact hlt
theorem c_Rf_accountAt {l : Launch} (htr : l.stackTraces = false) {d : Nat} {h : ac_H} {Φ : ac_R → ac_H → Prop} {r : Nat} {i : Int32} {q : List Int32} (H : Rfs h r q) (hΦ : Φ (.inl (some (.int (if 0 ≤ i.toInt then (q[i.toInt.toNat]?).getD (-1) else -1)))) h) : ac_Mt l d m_Rf_accountAt [.ref r, .int i] h 0 0 Φ := by
  obtain ⟨a1, a2, f, a4, a6⟩ := H
  refine ac_enter (by decide) rfl htr (fun _ => Nat.le_of_ble_eq_true rfl) ?_
  refine r_iload_n d_Rf_accountAt_0 rfl ?_
  refine r_if_lt 21 d_Rf_accountAt_1 (by decide) (fun c1 => ?_) (fun c1 => ?_)
  · refine r_iconst (-1) d_Rf_accountAt_21 (by decide) ?_
    have h9 : ¬ 0 ≤ i.toInt := by have := Int32.lt_iff_toInt_lt.mp c1; rw [Int32.toInt_zero] at this; omega
    rw [if_neg h9] at hΦ
    exact r_iret d_Rf_accountAt_22 rfl hΦ (Nat.le_refl _) (Nat.le_refl _)
  · obtain ⟨j, hj, rfl⟩ := nI_of c1
    rw [nI_toInt hj, if_pos (by omega), Int.toNat_natCast] at hΦ
    refine r_iload_n d_Rf_accountAt_4 rfl ?_
    refine r_aload_n d_Rf_accountAt_5 rfl ?_
    refine r_getfield d_Rf_accountAt_6 f_Rf_15 a1 rfl ?_
    refine r_icmp_ge 21 d_Rf_accountAt_9 (by decide) (fun c2 => ?_) (fun c2 => ?_)
    · refine r_iconst (-1) d_Rf_accountAt_21 (by decide) ?_
      rw [List.getElem?_eq_none ((nI_leI (by omega) (by omega)).mp c2)] at hΦ
      exact r_iret d_Rf_accountAt_22 rfl hΦ (Nat.le_refl _) (Nat.le_refl _)
    · have hlt : j < q.length := by
        rcases Nat.lt_or_ge j q.length with z | z
        · exact z
        · exact absurd ((nI_leI (by omega) (by omega)).mpr z) c2
      refine r_aload_n d_Rf_accountAt_12 rfl ?_
      refine r_getfield d_Rf_accountAt_13 f_Rf_9 a1 rfl ?_
      refine r_iload_n d_Rf_accountAt_16 rfl ?_
      refine r_ialoadN d_Rf_accountAt_17 a4 (by omega) (by omega) ?_
      refine r_goto 22 d_Rf_accountAt_18 (by decide) ?_
      rw [List.getElem?_eq_getElem hlt] at hΦ
      refine r_iret d_Rf_accountAt_22 rfl ?_ (Nat.le_refl _) (Nat.le_refl _)
      rw [a6 j _ (List.getElem?_eq_getElem hlt)]; exact hΦ
/-! PADDLES -/
def sp_order (open9 : Prop) [Decidable open9] (ang : Int32) (blocked : Prop) [Decidable blocked] : Int32 := if open9 then (if ang < 90 then 2 else 0) else if 0 < ang ∧ ¬ blocked then -2 else 0
theorem c_Pad_move {l : Launch} (htr : l.stackTraces = false) {d : Nat} {h : ac_H} {Φ : ac_R → ac_H → Prop} {a : Nat} {x y ang o : Int32} (hh : h[a]? = some (.inr (4, [.int ang, .int o]))) (hΦ : ∀ h', fr h h' [a] → h'[a]? = some (.inr (4, [.int (ang + sp_order (¬ x = 0) ang (¬ y = 0)), .int (sp_order (¬ x = 0) ang (¬ y = 0))])) → Φ (.inl none) h') : ac_Mt l d m_Pad_move [.ref a, .int x, .int y] h 0 0 Φ := by
  refine ac_enter (by decide) rfl htr (fun _ => Nat.le_of_ble_eq_true rfl) ?_
  refine r_aload_n d_Pad_move_0 rfl ?_
  refine r_iconst 0 d_Pad_move_1 (by decide) ?_
  refine r_putfieldN d_Pad_move_2 f_Pad_15 hh (Nat.le_of_ble_eq_true rfl) (fun _ => rfl) (fun _ => rfl) (fun h2_ fr2 g2 => ?_)
  have fin : ∀ (h2 : ac_H) (w : Int32), fr h h2 [a] → h2[a]? = some (.inr (4, [.int ang, .int w])) → w = sp_order (¬ x = 0) ang (¬ y = 0) → ac_G (l, d, m_Pad_move, 0, 0, Φ, h.length, none) 43 [(0, .ref a), (1, .int x), (2, .int y)] [] h2 0 0 := by
    intro h2 w f2 g2 ew
    refine r_aload_n d_Pad_move_43 rfl ?_
    refine r_dup d_Pad_move_44 rfl ?_
    refine r_getfield d_Pad_move_45 f_Pad_9 g2 rfl ?_
    refine r_aload_n d_Pad_move_48 rfl ?_
    refine r_getfield d_Pad_move_49 f_Pad_15 g2 rfl ?_
    refine r_iadd d_Pad_move_52 ?_
    refine r_putfieldN d_Pad_move_53 f_Pad_9 g2 (Nat.le_of_ble_eq_true rfl) (fun _ => rfl) (fun _ => rfl) (fun h53_ fr53 g53 => ?_)
    refine r_vret d_Pad_move_56 rfl (hΦ _ (fr_tr f2 fr53 (fun _ q => q) (fun _ q => q)) ?_) (Nat.le_refl _) (Nat.le_refl _)
    rw [← ew]; exact g53
  refine r_iload_n d_Pad_move_5 rfl ?_
  refine r_if_eq 26 d_Pad_move_6 (by decide) (fun c1 => ?_) (fun c1 => ?_)
  · refine r_aload_n d_Pad_move_26 rfl ?_
    refine r_getfield d_Pad_move_27 f_Pad_9 g2 rfl ?_
    refine r_if_le 43 d_Pad_move_30 (by decide) (fun c2 => ?_) (fun c2 => ?_)
    · exact fin _ _ fr2 g2 (by unfold sp_order; rw [if_neg (by simp [c1]), if_neg (by rw [Int32.lt_iff_toInt_lt]; rw [Int32.le_iff_toInt_le] at c2; omega)])
    · refine r_iload_n d_Pad_move_33 rfl ?_
      refine r_if_ne 43 d_Pad_move_34 (by decide) (fun c3 => ?_) (fun c3 => ?_)
      · exact fin _ _ fr2 g2 (by unfold sp_order; rw [if_neg (by simp [c1]), if_neg (fun z => z.2 c3)])
      · refine r_aload_n d_Pad_move_37 rfl ?_
        refine r_bipush (-2) d_Pad_move_38 (by decide) ?_
        refine r_putfieldN d_Pad_move_40 f_Pad_15 g2 (Nat.le_of_ble_eq_true rfl) (fun _ => rfl) (fun _ => rfl) (fun h40_ fr40 g40 => ?_)
        exact fin _ _ (fr_tr fr2 fr40 (fun _ q => q) (fun _ q => q)) g40 (by unfold sp_order; rw [if_neg (by simp [c1]), if_pos ⟨by rw [Int32.lt_iff_toInt_lt]; rw [Int32.le_iff_toInt_le] at c2; omega, fun z => z c3⟩])
  · refine r_aload_n d_Pad_move_9 rfl ?_
    refine r_getfield d_Pad_move_10 f_Pad_9 g2 rfl ?_
    refine r_bipush 90 d_Pad_move_13 (by decide) ?_
    refine r_icmp_ge 43 d_Pad_move_15 (by decide) (fun c2 => ?_) (fun c2 => ?_)
    · exact fin _ _ fr2 g2 (by unfold sp_order; rw [if_pos c1, if_neg (by rw [Int32.lt_iff_toInt_lt]; rw [Int32.le_iff_toInt_le] at c2; omega)])
    · refine r_aload_n d_Pad_move_18 rfl ?_
      refine r_iconst 2 d_Pad_move_19 (by decide) ?_
      refine r_putfieldN d_Pad_move_20 f_Pad_15 g2 (Nat.le_of_ble_eq_true rfl) (fun _ => rfl) (fun _ => rfl) (fun h20_ fr20 g20 => ?_)
      refine r_goto 43 d_Pad_move_23 (by decide) ?_
      exact fin _ _ (fr_tr fr2 fr20 (fun _ q => q) (fun _ q => q)) g20 (by unfold sp_order; rw [if_pos c1, if_pos (by rw [Int32.lt_iff_toInt_lt]; rw [Int32.le_iff_toInt_le] at c2; omega)])
end
section
/-! LISTS OF TOKENS -/
theorem c_TL_isFull {l : Launch} (htr : l.stackTraces = false) {d : Nat} {h : ac_H} {Φ : ac_R → ac_H → Prop} {t N : Nat} {q : List (Int32 × Int32)} (H : TLs h t N q) (hΦ : Φ (.inl (some (.int (if N ≤ q.length then 1 else 0)))) h) : ac_Mt l d m_TL_isFull [.ref t] h 0 0 Φ := by
  obtain ⟨a1, a2, a3, f, g, a4, a5, a6⟩ := H
  refine ac_enter (by decide) rfl htr (fun _ => Nat.le_of_ble_eq_true rfl) ?_
  refine r_aload_n d_TL_isFull_0 rfl ?_
  refine r_getfield d_TL_isFull_1 f_TL_9 a1 rfl ?_
  refine r_aload_n d_TL_isFull_4 rfl ?_
  refine r_getfield d_TL_isFull_5 f_TL_21 a1 rfl ?_
  refine r_alenI d_TL_isFull_8 a4 ?_
  refine r_icmp_lt 16 d_TL_isFull_9 (by decide) (fun c1 => ?_) (fun c1 => ?_)
  · refine r_iconst 0 d_TL_isFull_16 (by decide) ?_
    have h9 : q.length < N := (nI_ltI (by omega) (by omega)).mp c1
    rw [if_neg (by omega)] at hΦ
    exact r_zret d_TL_isFull_17 rfl (Or.inl rfl) hΦ (Nat.le_refl _) (Nat.le_refl _)
  · refine r_iconst 1 d_TL_isFull_12 (by decide) ?_
    refine r_goto 17 d_TL_isFull_13 (by decide) ?_
    have h9 : ¬ q.length < N := fun z => c1 ((nI_ltI (by omega) (by omega)).mpr z)
    rw [if_pos (by omega)] at hΦ
    exact r_zret d_TL_isFull_17 rfl (Or.inr rfl) hΦ (Nat.le_refl _) (Nat.le_refl _)
theorem c_TL_add {l : Launch} (htr : l.stackTraces = false) {d : Nat} {h : ac_H} {Φ : ac_R → ac_H → Prop} {t N : Nat} {q : List (Int32 × Int32)} {x now : Int32} (H : TLs h t N q) (hlt : q.length < N) (hΦ : ∀ h', fr h h' [t, t + 1, t + 2] → TLs h' t N (q ++ [(x, now)]) → Φ (.inl none) h') : ac_Mt l d m_TL_add [.ref t, .int x, .int now] h 0 0 Φ := by
  obtain ⟨a1, a2, a3, f, g, a4, a5, a6⟩ := H
  refine ac_enter (by decide) rfl htr (fun _ => Nat.le_of_ble_eq_true rfl) ?_
  refine r_aload_n d_TL_add_0 rfl ?_
  refine r_getfield d_TL_add_1 f_TL_9 a1 rfl ?_
  refine r_aload_n d_TL_add_4 rfl ?_
  refine r_getfield d_TL_add_5 f_TL_21 a1 rfl ?_
  refine r_alenI d_TL_add_8 a4 ?_
  refine r_icmp_ge 42 d_TL_add_9 (by decide) (fun c1 => ?_) (fun c1 => ?_)
  · exact absurd ((nI_leI (by omega) (by omega)).mp c1) (by omega)
  · refine r_aload_n d_TL_add_12 rfl ?_
    refine r_getfield d_TL_add_13 f_TL_21 a1 rfl ?_
    refine r_aload_n d_TL_add_16 rfl ?_
    refine r_getfield d_TL_add_17 f_TL_9 a1 rfl ?_
    refine r_iload_n d_TL_add_20 rfl ?_
    refine r_iastoreN d_TL_add_21 a4 hlt (by omega) (fun h21_ fr21 g21 => ?_)
    have b1 := fr_at fr21 (b := t) (by simp) a1
    have b5 := fr_at fr21 (b := t + 2) (by simp) a5
    refine r_aload_n d_TL_add_22 rfl ?_
    refine r_getfield d_TL_add_23 f_TL_25 b1 rfl ?_
    refine r_aload_n d_TL_add_26 rfl ?_
    refine r_getfield d_TL_add_27 f_TL_9 b1 rfl ?_
    refine r_iload_n d_TL_add_30 rfl ?_
    refine r_iastoreN d_TL_add_31 b5 hlt (by omega) (fun h31_ fr31 g31 => ?_)
    have e1 := fr_at fr31 (b := t) (by simp) b1
    have e4 := fr_at fr31 (b := t + 1) (by simp) g21
    refine r_aload_n d_TL_add_32 rfl ?_
    refine r_dup d_TL_add_33 rfl ?_
    refine r_getfield d_TL_add_34 f_TL_9 e1 rfl ?_
    refine r_iconst 1 d_TL_add_37 (by decide) ?_
    refine r_iadd d_TL_add_38 ?_
    refine r_ri (nI_1 _) ?_
    refine r_putfieldN d_TL_add_39 f_TL_9 e1 (Nat.le_of_ble_eq_true rfl) (fun _ => rfl) (fun _ => rfl) (fun h39_ fr39 g39 => ?_)
    refine r_vret d_TL_add_42 rfl (hΦ _ (fr_tr (fr_tr fr21 fr31 (cs := [t, t + 1, t + 2]) (by simp) (by simp)) fr39 (by simp) (by simp)) ⟨?_, ?_, a3, _, _, fr_at fr39 (by simp) e4, fr_at fr39 (by simp) g31, in2_add a6⟩) (Nat.le_refl _) (Nat.le_refl _)
    · rw [List.length_append]; exact g39
    · rw [List.length_append]; exact hlt
theorem c_TL_accountAt {l : Launch} (htr : l.stackTraces = false) {d : Nat} {h : ac_H} {Φ : ac_R → ac_H → Prop} {t N : Nat} {i : Int32} {q : List (Int32 × Int32)} (H : TLs h t N q) (hΦ : Φ (.inl (some (.int (if 0 ≤ i.toInt then ((q[i.toInt.toNat]?).map (·.1)).getD (-1) else -1)))) h) : ac_Mt l d m_TL_accountAt [.ref t, .int i] h 0 0 Φ := by
  obtain ⟨a1, a2, a3, f, g, a4, a5, a6⟩ := H
  refine ac_enter (by decide) rfl htr (fun _ => Nat.le_of_ble_eq_true rfl) ?_
  refine r_iload_n d_TL_accountAt_0 rfl ?_
  refine r_if_lt 21 d_TL_accountAt_1 (by decide) (fun c1 => ?_) (fun c1 => ?_)
  · refine r_iconst (-1) d_TL_accountAt_21 (by decide) ?_
    have h9 : ¬ 0 ≤ i.toInt := by have := Int32.lt_iff_toInt_lt.mp c1; rw [Int32.toInt_zero] at this; omega
    rw [if_neg h9] at hΦ
    exact r_iret d_TL_accountAt_22 rfl hΦ (Nat.le_refl _) (Nat.le_refl _)
  · obtain ⟨j, hj, rfl⟩ := nI_of c1
    rw [nI_toInt hj, if_pos (by omega), Int.toNat_natCast] at hΦ
    refine r_iload_n d_TL_accountAt_4 rfl ?_
    refine r_aload_n d_TL_accountAt_5 rfl ?_
    refine r_getfield d_TL_accountAt_6 f_TL_9 a1 rfl ?_
    refine r_icmp_ge 21 d_TL_accountAt_9 (by decide) (fun c2 => ?_) (fun c2 => ?_)
    · refine r_iconst (-1) d_TL_accountAt_21 (by decide) ?_
      rw [List.getElem?_eq_none ((nI_leI (by omega) (by omega)).mp c2)] at hΦ
      exact r_iret d_TL_accountAt_22 rfl hΦ (Nat.le_refl _) (Nat.le_refl _)
    · have hlt : j < q.length := lt_of_nle (by omega) c2 hj
      refine r_aload_n d_TL_accountAt_12 rfl ?_
      refine r_getfield d_TL_accountAt_13 f_TL_21 a1 rfl ?_
      refine r_iload_n d_TL_accountAt_16 rfl ?_
      refine r_ialoadN d_TL_accountAt_17 a4 (by omega) (by omega) ?_
      refine r_goto 22 d_TL_accountAt_18 (by decide) ?_
      rw [List.getElem?_eq_getElem hlt] at hΦ
      refine r_iret d_TL_accountAt_22 rfl ?_ (Nat.le_refl _) (Nat.le_refl _)
      rw [(a6 j _ (List.getElem?_eq_getElem hlt)).1]; exact hΦ
/-- is account a among those of the last n that are younger than 300, from the youngest on until one is too old -/
def sp_rec (q : List (Int32 × Int32)) (a now : Int32) : Nat → Bool
  | 0 => false
  | n + 1 => match q[n]? with
    | some x => if now - x.2 < 300 then (if x.1 = a then true else sp_rec q a now n) else false
    | none => false
theorem c_TL_hasRecent {l : Launch} (htr : l.stackTraces = false) {d : Nat} {h : ac_H} {Φ : ac_R → ac_H → Prop} {t N : Nat} {a now : Int32} {q : List (Int32 × Int32)} (H : TLs h t N q) (hΦ : Φ (.inl (some (.int (if sp_rec q a now q.length = true then 1 else 0)))) h) : ac_Mt l d m_TL_hasRecent [.ref t, .int a, .int now] h 0 0 Φ := by
  obtain ⟨a1, a2, a3, f, g, a4, a5, a6⟩ := H
  refine ac_enter (by decide) rfl htr (fun _ => Nat.le_of_ble_eq_true rfl) ?_
  have key : ∀ n, n ≤ q.length → sp_rec q a now n = sp_rec q a now q.length → ac_G (l, d, m_TL_hasRecent, 0, 0, Φ, h.length, none) 7 [(3, .int (nI n - 1)), (0, .ref t), (1, .int a), (2, .int now)] [] h 0 0 := by
    intro n
    induction n with
    | zero =>
      intro _ he
      refine r_iload_n d_TL_hasRecent_7 rfl ?_
      refine r_if_lt 43 d_TL_hasRecent_8 (by decide) (fun c1 => ?_) (fun c1 => absurd (by decide) c1)
      refine r_iconst 0 d_TL_hasRecent_43 (by decide) ?_
      rw [← he] at hΦ
      exact r_zret d_TL_hasRecent_44 rfl (Or.inl rfl) hΦ (Nat.le_refl _) (Nat.le_refl _)
    | succ n ih =>
      intro hn he
      rw [nI_pred]
      have hx := List.getElem?_eq_getElem (show n < q.length by omega)
      have hu : sp_rec q a now (n + 1) = if now - (q[n]).2 < 300 then (if (q[n]).1 = a then true else sp_rec q a now n) else false := by
        rw [sp_rec, hx]
      obtain ⟨b1, b2⟩ := a6 n _ hx
      refine r_iload_n d_TL_hasRecent_7 rfl ?_
      refine r_if_lt 43 d_TL_hasRecent_8 (by decide) (fun c1 => absurd c1 (nI_pos (by omega))) (fun c1 => ?_)
      refine r_iload_n d_TL_hasRecent_11 rfl ?_
      refine r_aload_n d_TL_hasRecent_12 rfl ?_
      refine r_getfield d_TL_hasRecent_13 f_TL_25 a1 rfl ?_
      refine r_iload_n d_TL_hasRecent_16 rfl ?_
      refine r_ialoadN d_TL_hasRecent_17 a5 (by omega) (by omega) ?_
      refine r_isub d_TL_hasRecent_18 ?_
      refine r_sipush 300 d_TL_hasRecent_19 (by decide) ?_
      rw [b2]
      refine r_icmp_ge 43 d_TL_hasRecent_22 (by decide) (fun c2 => ?_) (fun c2 => ?_)
      · refine r_iconst 0 d_TL_hasRecent_43 (by decide) ?_
        rw [if_neg (by rw [Int32.lt_iff_toInt_lt]; rw [Int32.le_iff_toInt_le] at c2; omega)] at hu
        rw [← he, hu] at hΦ
        exact r_zret d_TL_hasRecent_44 rfl (Or.inl rfl) hΦ (Nat.le_refl _) (Nat.le_refl _)
      · rw [if_pos (by rw [Int32.lt_iff_toInt_lt]; rw [Int32.le_iff_toInt_le] at c2; omega)] at hu
        refine r_aload_n d_TL_hasRecent_25 rfl ?_
        refine r_getfield d_TL_hasRecent_26 f_TL_21 a1 rfl ?_
        refine r_iload_n d_TL_hasRecent_29 rfl ?_
        refine r_ialoadN d_TL_hasRecent_30 a4 (by omega) (by omega) ?_
        refine r_iload_n d_TL_hasRecent_31 rfl ?_
        rw [b1]
        refine r_icmp_ne 37 d_TL_hasRecent_32 (by decide) (fun c3 => ?_) (fun c3 => ?_)
        · refine r_iincM d_TL_hasRecent_37 rfl (Nat.le_of_ble_eq_true rfl) ?_
          refine r_goto 7 d_TL_hasRecent_40 (by decide) ?_
          rw [if_neg c3] at hu
          exact ih (by omega) (hu.symm.trans he)
        · refine r_iconst 1 d_TL_hasRecent_35 (by decide) ?_
          rw [if_pos c3] at hu
          rw [← he, hu] at hΦ
          exact r_zret d_TL_hasRecent_36 rfl (Or.inr rfl) hΦ (Nat.le_refl _) (Nat.le_refl _)
  refine r_aload_n d_TL_hasRecent_0 rfl ?_
  refine r_getfield d_TL_hasRecent_1 f_TL_9 a1 rfl ?_
  refine r_iconst 1 d_TL_hasRecent_4 (by decide) ?_
  refine r_isub d_TL_hasRecent_5 ?_
  refine r_istore_n d_TL_hasRecent_6 (Nat.le_of_ble_eq_true rfl) ?_
  exact key q.length (Nat.le_refl _) rfl
theorem in2_tail {x : Int32 × Int32} {r : List (Int32 × Int32)} {f g f2 g2 : Nat → Int32} (h : in2 (x :: r) f g) (h1 : ∀ j, j < r.length → f2 j = f (j + 1)) (h2 : ∀ j, j < r.length → g2 j = g (j + 1)) : in2 r f2 g2 := by
  intro i y hy
  have hi : i < r.length := (List.getElem?_eq_some_iff.mp hy).1
  rw [h1 i hi, h2 i hi]
  exact h (i + 1) y (by rw [List.getElem?_cons_succ]; exact hy)
theorem c_TL_removeOldest {l : Launch} (htr : l.stackTraces = false) {d : Nat} {h : ac_H} {Φ : ac_R → ac_H → Prop} {t N : Nat} {q : List (Int32 × Int32)} (H : TLs h t N q) (h0 : q = [] → Φ (.inl (some (.int (-1)))) h) (h1 : ∀ x r h', q = x :: r → fr h h' [t, t + 1, t + 2] → TLs h' t N r → Φ (.inl (some (.int x.1))) h') : ac_Mt l d m_TL_removeOldest [.ref t] h 0 0 Φ := by
  obtain ⟨a1, a2, a3, f, g, a4, a5, a6⟩ := H
  refine ac_enter (by decide) rfl htr (fun _ => Nat.le_of_ble_eq_true rfl) ?_
  refine r_aload_n d_TL_removeOldest_0 rfl ?_
  refine r_getfield d_TL_removeOldest_1 f_TL_9 a1 rfl ?_
  cases q with
  | nil =>
    refine r_if_ne 9 d_TL_removeOldest_4 (by decide) (fun c1 => absurd (by decide) c1) (fun c1 => ?_)
    refine r_iconst (-1) d_TL_removeOldest_7 (by decide) ?_
    exact r_iret d_TL_removeOldest_8 rfl (h0 rfl) (Nat.le_refl _) (Nat.le_refl _)
  | cons x r =>
    rw [List.length_cons] at a1 a2 ⊢
    refine r_if_ne 9 d_TL_removeOldest_4 (by decide) (fun c1 => ?_) (fun c1 => absurd c1 (nI_ne0 (by omega) (by omega)))
    refine r_aload_n d_TL_removeOldest_9 rfl ?_
    refine r_getfield d_TL_removeOldest_10 f_TL_21 a1 rfl ?_
    refine r_iconst 0 d_TL_removeOldest_13 (by decide) ?_
    refine r_ri nI_0.symm ?_
    refine r_ialoadN d_TL_removeOldest_14 a4 (by omega) (by omega) ?_
    refine r_istore_n d_TL_removeOldest_15 (Nat.le_of_ble_eq_true rfl) ?_
    refine r_aload_n d_TL_removeOldest_16 rfl ?_
    refine r_dup d_TL_removeOldest_17 rfl ?_
    refine r_getfield d_TL_removeOldest_18 f_TL_9 a1 rfl ?_
    refine r_iconst 1 d_TL_removeOldest_21 (by decide) ?_
    refine r_isub d_TL_removeOldest_22 ?_
    refine r_ri (nI_pred _) ?_
    refine r_putfieldN d_TL_removeOldest_23 f_TL_9 a1 (Nat.le_of_ble_eq_true rfl) (fun _ => rfl) (fun _ => rfl) (fun h23_ fr23 g23 => ?_)
    have ex : f 0 = x.1 := (a6 0 x rfl).1
    rw [ex]
    have key : ∀ (n i : Nat) (h2 : ac_H) (f2 g2 : Nat → Int32), i + n = r.length → fr h h2 [t, t + 1, t + 2] → h2[t]? = some (.inr (6, [.ref (t + 1), .ref (t + 2), .int (nI r.length)])) → h2[t + 1]? = some (.inl (.inl (N, f2))) → h2[t + 2]? = some (.inl (.inl (N, g2))) → (∀ j, j < i → f2 j = f (j + 1)) → (∀ j, j < i → g2 j = g (j + 1)) → (∀ j, i ≤ j → f2 j = f j) → (∀ j, i ≤ j → g2 j = g j) → ac_G (l, d, m_TL_removeOldest, 0, 0, Φ, h.length, none) 28 [(2, .int (nI i)), (1, .int x.1), (0, .ref t)] [] h2 0 0 := by
      intro n
      induction n with
      | zero =>
        intro i h2 f2 g2 hi F e1 e2 e3 u1 u2 u3 u4
        refine r_iload_n d_TL_removeOldest_28 rfl ?_
        refine r_aload_n d_TL_removeOldest_29 rfl ?_
        refine r_getfield d_TL_removeOldest_30 f_TL_9 e1 rfl ?_
        refine r_icmp_ge 70 d_TL_removeOldest_33 (by decide) (fun c2 => ?_) (fun c2 => absurd (nI_le (by omega) (by omega)) c2)
        refine r_iload_n d_TL_removeOldest_70 rfl ?_
        exact r_iret d_TL_removeOldest_71 rfl (h1 x r h2 rfl F ⟨e1, by omega, a3, f2, g2, e2, e3, in2_tail a6 (fun j hj => u1 j (by omega)) (fun j hj => u2 j (by omega))⟩) (Nat.le_refl _) (Nat.le_refl _)
      | succ n ih =>
        intro i h2 f2 g2 hi F e1 e2 e3 u1 u2 u3 u4
        refine r_iload_n d_TL_removeOldest_28 rfl ?_
        refine r_aload_n d_TL_removeOldest_29 rfl ?_
        refine r_getfield d_TL_removeOldest_30 f_TL_9 e1 rfl ?_
        refine r_icmp_ge 70 d_TL_removeOldest_33 (by decide) (fun c2 => absurd ((nI_leI (by omega) (by omega)).mp c2) (by omega)) (fun c2 => ?_)
        refine r_aload_n d_TL_removeOldest_36 rfl ?_
        refine r_getfield d_TL_removeOldest_37 f_TL_21 e1 rfl ?_
        refine r_iload_n d_TL_removeOldest_40 rfl ?_
        refine r_aload_n d_TL_removeOldest_41 rfl ?_
        refine r_getfield d_TL_removeOldest_42 f_TL_21 e1 rfl ?_
        refine r_iload_n d_TL_removeOldest_45 rfl ?_
        refine r_iconst 1 d_TL_removeOldest_46 (by decide) ?_
        refine r_iadd d_TL_removeOldest_47 ?_
        refine r_ri (nI_1 _) ?_
        refine r_ialoadN d_TL_removeOldest_48 e2 (by omega) (by omega) ?_
        refine r_iastoreN d_TL_removeOldest_49 e2 (by omega) (by omega) (fun h49_ fr49 g49 => ?_)
        have p1 := fr_at fr49 (b := t) (by simp) e1
        have p3 := fr_at fr49 (b := t + 2) (by simp) e3
        refine r_aload_n d_TL_removeOldest_50 rfl ?_
        refine r_getfield d_TL_removeOldest_51 f_TL_25 p1 rfl ?_
        refine r_iload_n d_TL_removeOldest_54 rfl ?_
        refine r_aload_n d_TL_removeOldest_55 rfl ?_
        refine r_getfield d_TL_removeOldest_56 f_TL_25 p1 rfl ?_
        refine r_iload_n d_TL_removeOldest_59 rfl ?_
        refine r_iconst 1 d_TL_removeOldest_60 (by decide) ?_
        refine r_iadd d_TL_removeOldest_61 ?_
        refine r_ri (nI_1 _) ?_
        refine r_ialoadN d_TL_removeOldest_62 p3 (by omega) (by omega) ?_
        refine r_iastoreN d_TL_removeOldest_63 p3 (by omega) (by omega) (fun h63_ fr63 g63 => ?_)
        refine r_iincP d_TL_removeOldest_64 rfl (Nat.le_of_ble_eq_true rfl) ?_
        refine r_goto 28 d_TL_removeOldest_67 (by decide) ?_
        rw [nI_1]
        refine ih (i + 1) _ _ _ (by omega) (fr_tr (fr_tr F fr49 (cs := [t, t + 1, t + 2]) (by simp) (by simp)) fr63 (by simp) (by simp)) (fr_at fr63 (by simp) p1) (fr_at fr63 (by simp) g49) g63 ?_ ?_ ?_ ?_
        · intro j hj
          unfold upd
          by_cases z : j = i
          · rw [if_pos z, z, u3 (i + 1) (by omega)]
          · rw [if_neg z]; exact u1 j (by omega)
        · intro j hj
          unfold upd
          by_cases z : j = i
          · rw [if_pos z, z, u4 (i + 1) (by omega)]
          · rw [if_neg z]; exact u2 j (by omega)
        · intro j hj
          unfold upd
          rw [if_neg (by omega)]; exact u3 j (by omega)
        · intro j hj
          unfold upd
          rw [if_neg (by omega)]; exact u4 j (by omega)
    refine r_iconst 0 d_TL_removeOldest_26 (by decide) ?_
    refine r_ri nI_0.symm ?_
    refine r_istore_n d_TL_removeOldest_27 (Nat.le_of_ble_eq_true rfl) ?_
    exact key r.length 0 _ f g (by omega) (fr_mo fr23 (by simp)) g23 (fr_at fr23 (by simp) a4) (fr_at fr23 (by simp) a5) (fun j hj => absurd hj (by omega)) (fun j hj => absurd hj (by omega)) (fun _ _ => rfl) (fun _ _ => rfl)
end
section
/-! A BODY: first, last, side, account, length -/
abbrev sp_B : Type := Nat × Nat × Nat × Int32 × Nat
def bo (b : sp_B) : ac_E := .inr (1, [.int (nI b.1), .int (nI b.2.1), .int (nI b.2.2.1), .int b.2.2.2.1, .int (nI b.2.2.2.2)])
def okB (b : sp_B) : Prop := b.1 ≤ b.2.1 ∧ b.2.1 ≤ 9 ∧ b.2.2.1 ≤ 1 ∧ b.2.2.2.2 ≤ 10 ∧ (b.2.2.2.1 = -1 ∨ 0 ≤ b.2.2.2.1.toInt)
theorem nI1 : (1 : Int32) = nI 1 := by decide
theorem nI2 : (2 : Int32) = nI 2 := by decide
theorem nI3 : (3 : Int32) = nI 3 := by decide
theorem nI4 : (4 : Int32) = nI 4 := by decide
theorem nI5 : (5 : Int32) = nI 5 := by decide
theorem nI6 : (6 : Int32) = nI 6 := by decide
theorem nI7 : (7 : Int32) = nI 7 := by decide
theorem nI9 : (9 : Int32) = nI 9 := by decide
theorem nI10 : (10 : Int32) = nI 10 := by decide
theorem c_Body_startsLow {l : Launch} (htr : l.stackTraces = false) {d : Nat} {h : ac_H} {Φ : ac_R → ac_H → Prop} {a : Nat} {b : sp_B} (hh : h[a]? = some (bo b)) (ok : okB b) (hΦ : Φ (.inl (some (.int (if b.1 ≤ 2 then 1 else 0)))) h) : ac_Mt l d m_Body_startsLow [.ref a] h 0 0 Φ := by
  obtain ⟨o1, o2, o3, o4, -⟩ := ok
  refine ac_enter (by decide) rfl htr (fun _ => Nat.le_of_ble_eq_true rfl) ?_
  refine r_aload_n d_Body_startsLow_0 rfl ?_
  refine r_getfield d_Body_startsLow_1 f_Body_9 hh rfl ?_
  refine r_iconst 2 d_Body_startsLow_4 (by decide) ?_
  refine r_ri nI2 ?_
  refine r_icmp_gt 12 d_Body_startsLow_5 (by decide) (fun c1 => ?_) (fun c1 => ?_)
  · refine r_iconst 0 d_Body_startsLow_12 (by decide) ?_
    have := (nI_ltI (by omega) (by omega)).mp c1
    rw [if_neg (by omega)] at hΦ
    exact r_zret d_Body_startsLow_13 rfl (Or.inl rfl) hΦ (Nat.le_refl _) (Nat.le_refl _)
  · refine r_iconst 1 d_Body_startsLow_8 (by decide) ?_
    refine r_goto 13 d_Body_startsLow_9 (by decide) ?_
    have h9 : ¬ 2 < b.1 := fun z => c1 ((nI_ltI (by omega) (by omega)).mpr z)
    rw [if_pos (by omega)] at hΦ
    exact r_zret d_Body_startsLow_13 rfl (Or.inr rfl) hΦ (Nat.le_refl _) (Nat.le_refl _)
theorem c_Body_endsHigh {l : Launch} (htr : l.stackTraces = false) {d : Nat} {h : ac_H} {Φ : ac_R → ac_H → Prop} {a : Nat} {b : sp_B} (hh : h[a]? = some (bo b)) (ok : okB b) (hΦ : Φ (.inl (some (.int (if 7 ≤ b.2.1 then 1 else 0)))) h) : ac_Mt l d m_Body_endsHigh [.ref a] h 0 0 Φ := by
  obtain ⟨o1, o2, o3, o4, -⟩ := ok
  refine ac_enter (by decide) rfl htr (fun _ => Nat.le_of_ble_eq_true rfl) ?_
  refine r_aload_n d_Body_endsHigh_0 rfl ?_
  refine r_getfield d_Body_endsHigh_1 f_Body_15 hh rfl ?_
  refine r_bipush 7 d_Body_endsHigh_4 (by decide) ?_
  refine r_ri nI7 ?_
  refine r_icmp_lt 13 d_Body_endsHigh_6 (by decide) (fun c1 => ?_) (fun c1 => ?_)
  · refine r_iconst 0 d_Body_endsHigh_13 (by decide) ?_
    have := (nI_ltI (by omega) (by omega)).mp c1
    rw [if_neg (by omega)] at hΦ
    exact r_zret d_Body_endsHigh_14 rfl (Or.inl rfl) hΦ (Nat.le_refl _) (Nat.le_refl _)
  · refine r_iconst 1 d_Body_endsHigh_9 (by decide) ?_
    refine r_goto 14 d_Body_endsHigh_10 (by decide) ?_
    have h9 : ¬ b.2.1 < 7 := fun z => c1 ((nI_ltI (by omega) (by omega)).mpr z)
    rw [if_pos (by omega)] at hΦ
    exact r_zret d_Body_endsHigh_14 rfl (Or.inr rfl) hΦ (Nat.le_refl _) (Nat.le_refl _)
/-- gone through; turned back; at the paddles -/
def thru (b : sp_B) : Prop := if b.2.2.1 = 0 then 7 ≤ b.2.1 else b.1 ≤ 2
def turnd (b : sp_B) : Prop := if b.2.2.1 = 0 then b.1 ≤ 2 else 7 ≤ b.2.1
def rched (b : sp_B) : Prop := if b.2.2.1 = 0 then 4 ≤ b.2.1 else b.1 ≤ 5
noncomputable def b01 (P : Prop) : Int32 := @ite _ P (Classical.propDecidable P) 1 0
theorem b01_t {P : Prop} (h : P) : b01 P = 1 := if_pos h
theorem b01_f {P : Prop} (h : ¬ P) : b01 P = 0 := if_neg h
theorem b01_or (P : Prop) : b01 P = 0 ∨ b01 P = 1 := by
  by_cases h : P
  · exact Or.inr (b01_t h)
  · exact Or.inl (b01_f h)
theorem b01_0 {P : Prop} : b01 P = 0 ↔ ¬ P := by
  by_cases h : P
  · rw [b01_t h]; exact ⟨fun z => absurd z (by decide), fun z => absurd h z⟩
  · rw [b01_f h]; exact ⟨fun _ => h, fun _ => rfl⟩
theorem b01_if {P : Prop} [Decidable P] : (if P then (1 : Int32) else 0) = b01 P := by
  by_cases h : P
  · rw [b01_t h, if_pos h]
  · rw [b01_f h, if_neg h]
theorem b01_iff {P Q : Prop} (h : P ↔ Q) : b01 P = b01 Q := by rw [propext h]
theorem c_Body_isThrough {l : Launch} (htr : l.stackTraces = false) {d : Nat} {h : ac_H} {Φ : ac_R → ac_H → Prop} {a : Nat} {b : sp_B} (hd : 1 ≤ d) (hh : h[a]? = some (bo b)) (ok : okB b) (hΦ : Φ (.inl (some (.int (b01 (thru b))))) h) : ac_Mt l d m_Body_isThrough [.ref a] h 0 0 Φ := by
  have o3 := ok.2.2.1
  refine ac_enter (by decide) rfl htr (fun _ => Nat.le_of_ble_eq_true rfl) ?_
  refine r_aload_n d_Body_isThrough_0 rfl ?_
  refine r_getfield d_Body_isThrough_1 f_Body_18 hh rfl ?_
  refine r_if_ne 14 d_Body_isThrough_4 (by decide) (fun c1 => ?_) (fun c1 => ?_)
  · have hs : ¬ b.2.2.1 = 0 := fun z => c1 (by rw [z]; decide)
    refine r_aload_n d_Body_isThrough_14 rfl ?_
    refine r_cVi [] a (d - 1) 0 0 (if b.1 ≤ 2 then 1 else 0) (fun h' => h' = h) d_Body_isThrough_15 q_Body_37 hh rfl rfl (c_Body_startsLow htr hh ok ⟨rfl, rfl⟩) (by show d - 1 + 1 ≤ d; omega) (Nat.le_refl _) (Nat.le_refl _) (Nat.le_of_ble_eq_true rfl) (fun h' e => ?_)
    subst e
    refine r_zret d_Body_isThrough_18 rfl (by split <;> simp) ?_ (Nat.le_refl _) (Nat.le_refl _)
    have e9 : (thru b) = (b.1 ≤ 2) := by unfold thru; rw [if_neg hs]
    rw [b01_if]; rw [e9] at hΦ; exact hΦ
  · have hs : b.2.2.1 = 0 := (nI_eq (by omega) (by omega)).mp (by rw [c1]; decide)
    refine r_aload_n d_Body_isThrough_7 rfl ?_
    refine r_cVi [] a (d - 1) 0 0 (if 7 ≤ b.2.1 then 1 else 0) (fun h' => h' = h) d_Body_isThrough_8 q_Body_33 hh rfl rfl (c_Body_endsHigh htr hh ok ⟨rfl, rfl⟩) (by show d - 1 + 1 ≤ d; omega) (Nat.le_refl _) (Nat.le_refl _) (Nat.le_of_ble_eq_true rfl) (fun h' e => ?_)
    subst e
    refine r_goto 18 d_Body_isThrough_11 (by decide) ?_
    refine r_zret d_Body_isThrough_18 rfl (by split <;> simp) ?_ (Nat.le_refl _) (Nat.le_refl _)
    have e9 : (thru b) = (7 ≤ b.2.1) := by unfold thru; rw [if_pos hs]
    rw [b01_if]; rw [e9] at hΦ; exact hΦ
theorem c_Body_isTurned {l : Launch} (htr : l.stackTraces = false) {d : Nat} {h : ac_H} {Φ : ac_R → ac_H → Prop} {a : Nat} {b : sp_B} (hd : 1 ≤ d) (hh : h[a]? = some (bo b)) (ok : okB b) (hΦ : Φ (.inl (some (.int (b01 (turnd b))))) h) : ac_Mt l d m_Body_isTurned [.ref a] h 0 0 Φ := by
  have o3 := ok.2.2.1
  refine ac_enter (by decide) rfl htr (fun _ => Nat.le_of_ble_eq_true rfl) ?_
  refine r_aload_n d_Body_isTurned_0 rfl ?_
  refine r_getfield d_Body_isTurned_1 f_Body_18 hh rfl ?_
  refine r_if_ne 14 d_Body_isTurned_4 (by decide) (fun c1 => ?_) (fun c1 => ?_)
  · have hs : ¬ b.2.2.1 = 0 := fun z => c1 (by rw [z]; decide)
    refine r_aload_n d_Body_isTurned_14 rfl ?_
    refine r_cVi [] a (d - 1) 0 0 (if 7 ≤ b.2.1 then 1 else 0) (fun h' => h' = h) d_Body_isTurned_15 q_Body_33 hh rfl rfl (c_Body_endsHigh htr hh ok ⟨rfl, rfl⟩) (by show d - 1 + 1 ≤ d; omega) (Nat.le_refl _) (Nat.le_refl _) (Nat.le_of_ble_eq_true rfl) (fun h' e => ?_)
    subst e
    refine r_zret d_Body_isTurned_18 rfl (by split <;> simp) ?_ (Nat.le_refl _) (Nat.le_refl _)
    have e9 : (turnd b) = (7 ≤ b.2.1) := by unfold turnd; rw [if_neg hs]
    rw [b01_if]; rw [e9] at hΦ; exact hΦ
  · have hs : b.2.2.1 = 0 := (nI_eq (by omega) (by omega)).mp (by rw [c1]; decide)
    refine r_aload_n d_Body_isTurned_7 rfl ?_
    refine r_cVi [] a (d - 1) 0 0 (if b.1 ≤ 2 then 1 else 0) (fun h' => h' = h) d_Body_isTurned_8 q_Body_37 hh rfl rfl (c_Body_startsLow htr hh ok ⟨rfl, rfl⟩) (by show d - 1 + 1 ≤ d; omega) (Nat.le_refl _) (Nat.le_refl _) (Nat.le_of_ble_eq_true rfl) (fun h' e => ?_)
    subst e
    refine r_goto 18 d_Body_isTurned_11 (by decide) ?_
    refine r_zret d_Body_isTurned_18 rfl (by split <;> simp) ?_ (Nat.le_refl _) (Nat.le_refl _)
    have e9 : (turnd b) = (b.1 ≤ 2) := by unfold turnd; rw [if_pos hs]
    rw [b01_if]; rw [e9] at hΦ; exact hΦ
theorem c_Body_reached {l : Launch} (htr : l.stackTraces = false) {d : Nat} {h : ac_H} {Φ : ac_R → ac_H → Prop} {a : Nat} {b : sp_B} (hh : h[a]? = some (bo b)) (ok : okB b) (hΦ : Φ (.inl (some (.int (b01 (rched b))))) h) : ac_Mt l d m_Body_hasReachedPaddles [.ref a] h 0 0 Φ := by
  obtain ⟨o1, o2, o3, o4, -⟩ := ok
  refine ac_enter (by decide) rfl htr (fun _ => Nat.le_of_ble_eq_true rfl) ?_
  refine r_aload_n d_Body_hasReachedPaddles_0 rfl ?_
  refine r_getfield d_Body_hasReachedPaddles_1 f_Body_18 hh rfl ?_
  refine r_if_ne 23 d_Body_hasReachedPaddles_4 (by decide) (fun c1 => ?_) (fun c1 => ?_)
  · have hs : ¬ b.2.2.1 = 0 := fun z => c1 (by rw [z]; decide)
    refine r_aload_n d_Body_hasReachedPaddles_23 rfl ?_
    refine r_getfield d_Body_hasReachedPaddles_24 f_Body_9 hh rfl ?_
    refine r_iconst 5 d_Body_hasReachedPaddles_27 (by decide) ?_
    refine r_ri nI5 ?_
    have e9 : (rched b) = (b.1 ≤ 5) := by unfold rched; rw [if_neg hs]
    rw [e9] at hΦ
    refine r_icmp_gt 35 d_Body_hasReachedPaddles_28 (by decide) (fun c2 => ?_) (fun c2 => ?_)
    · refine r_iconst 0 d_Body_hasReachedPaddles_35 (by decide) ?_
      rw [b01_f (by have := (nI_ltI (by omega) (by omega)).mp c2; omega)] at hΦ
      exact r_zret d_Body_hasReachedPaddles_36 rfl (Or.inl rfl) hΦ (Nat.le_refl _) (Nat.le_refl _)
    · refine r_iconst 1 d_Body_hasReachedPaddles_31 (by decide) ?_
      refine r_goto 36 d_Body_hasReachedPaddles_32 (by decide) ?_
      rw [b01_t (by rcases Nat.lt_or_ge 5 b.1 with z | z; exact absurd ((nI_ltI (by omega) (by omega)).mpr z) c2; exact z)] at hΦ
      exact r_zret d_Body_hasReachedPaddles_36 rfl (Or.inr rfl) hΦ (Nat.le_refl _) (Nat.le_refl _)
  · have hs : b.2.2.1 = 0 := (nI_eq (by omega) (by omega)).mp (by rw [c1]; decide)
    refine r_aload_n d_Body_hasReachedPaddles_7 rfl ?_
    refine r_getfield d_Body_hasReachedPaddles_8 f_Body_15 hh rfl ?_
    refine r_iconst 4 d_Body_hasReachedPaddles_11 (by decide) ?_
    refine r_ri nI4 ?_
    have e9 : (rched b) = (4 ≤ b.2.1) := by unfold rched; rw [if_pos hs]
    rw [e9] at hΦ
    refine r_icmp_lt 19 d_Body_hasReachedPaddles_12 (by decide) (fun c2 => ?_) (fun c2 => ?_)
    · refine r_iconst 0 d_Body_hasReachedPaddles_19 (by decide) ?_
      refine r_goto 36 d_Body_hasReachedPaddles_20 (by decide) ?_
      rw [b01_f (by have := (nI_ltI (by omega) (by omega)).mp c2; omega)] at hΦ
      exact r_zret d_Body_hasReachedPaddles_36 rfl (Or.inl rfl) hΦ (Nat.le_refl _) (Nat.le_refl _)
    · refine r_iconst 1 d_Body_hasReachedPaddles_15 (by decide) ?_
      refine r_goto 36 d_Body_hasReachedPaddles_16 (by decide) ?_
      rw [b01_t (by rcases Nat.lt_or_ge b.2.1 4 with z | z; exact absurd ((nI_ltI (by omega) (by omega)).mpr z) c2; exact z)] at hΦ
      exact r_zret d_Body_hasReachedPaddles_36 rfl (Or.inr rfl) hΦ (Nat.le_refl _) (Nat.le_refl _)
theorem nI_len {a b : Nat} (h : a ≤ b) : nI b - nI a + 1 = nI (b - a + 1) := by rw [pk_sub h, nI_1]
theorem nI_max {a b : Nat} (ha : a < 2 ^ 31) (hb : b < 2 ^ 31) : (if nI a < nI b then nI b else nI a) = nI (max a b) := by
  by_cases h : a < b
  · rw [if_pos ((nI_ltI ha hb).mpr h), Nat.max_eq_right (by omega)]
  · rw [if_neg (fun z => h ((nI_ltI ha hb).mp z)), Nat.max_eq_left (by omega)]
theorem c_Body_enter {l : Launch} (htr : l.stackTraces = false) {d : Nat} {h : ac_H} {Φ : ac_R → ac_H → Prop} {a f e s : Nat} {fs : sp_B} (hh : h[a]? = some (bo fs)) (hfe : f ≤ e) (hΦ : ∀ h', fr h h' [a] → h'[a]? = some (bo (f, e, s, -1, e - f + 1)) → Φ (.inl none) h') : ac_Mt l d m_Body_enter [.ref a, .int (nI f), .int (nI e), .int (nI s)] h 0 0 Φ := by
  refine ac_enter (by decide) rfl htr (fun _ => Nat.le_of_ble_eq_true rfl) ?_
  refine r_aload_n d_Body_enter_0 rfl ?_
  refine r_iload_n d_Body_enter_1 rfl ?_
  refine r_putfieldN d_Body_enter_2 f_Body_9 hh (Nat.le_of_ble_eq_true rfl) (fun _ => rfl) (fun _ => rfl) (fun h2_ fr2 g2 => ?_)
  refine r_aload_n d_Body_enter_5 rfl ?_
  refine r_iload_n d_Body_enter_6 rfl ?_
  refine r_putfieldN d_Body_enter_7 f_Body_15 g2 (Nat.le_of_ble_eq_true rfl) (fun _ => rfl) (fun _ => rfl) (fun h7_ fr7 g7 => ?_)
  refine r_aload_n d_Body_enter_10 rfl ?_
  refine r_iload_n d_Body_enter_11 rfl ?_
  refine r_putfieldN d_Body_enter_12 f_Body_18 g7 (Nat.le_of_ble_eq_true rfl) (fun _ => rfl) (fun _ => rfl) (fun h12_ fr12 g12 => ?_)
  refine r_aload_n d_Body_enter_15 rfl ?_
  refine r_iconst (-1) d_Body_enter_16 (by decide) ?_
  refine r_putfieldN d_Body_enter_17 f_Body_21 g12 (Nat.le_of_ble_eq_true rfl) (fun _ => rfl) (fun _ => rfl) (fun h17_ fr17 g17 => ?_)
  refine r_aload_n d_Body_enter_20 rfl ?_
  refine r_iload_n d_Body_enter_21 rfl ?_
  refine r_iload_n d_Body_enter_22 rfl ?_
  refine r_isub d_Body_enter_23 ?_
  refine r_iconst 1 d_Body_enter_24 (by decide) ?_
  refine r_iadd d_Body_enter_25 ?_
  refine r_ri (nI_len hfe) ?_
  refine r_putfieldN d_Body_enter_26 f_Body_24 g17 (Nat.le_of_ble_eq_true rfl) (fun _ => rfl) (fun _ => rfl) (fun h26_ fr26 g26 => ?_)
  exact r_vret d_Body_enter_29 rfl (hΦ _ (fr_tr (fr_tr (fr_tr (fr_tr fr2 fr7 (fun _ q => q) (fun _ q => q)) fr12 (fun _ q => q) (fun _ q => q)) fr17 (fun _ q => q) (fun _ q => q)) fr26 (fun _ q => q) (fun _ q => q)) g26) (Nat.le_refl _) (Nat.le_refl _)
theorem c_Body_follow {l : Launch} (htr : l.stackTraces = false) {d : Nat} {h : ac_H} {Φ : ac_R → ac_H → Prop} {a o f e : Nat} {fs b : sp_B} (hd : 1 ≤ d) (hh : h[a]? = some (bo fs)) (ho : h[o]? = some (bo b)) (hao : o ≠ a) (ok : okB b) (hfe : f ≤ e) (he : e ≤ 9) (hΦ : ∀ h', fr h h' [a] → h'[a]? = some (bo (f, e, b.2.2.1, b.2.2.2.1, max b.2.2.2.2 (e - f + 1))) → Φ (.inl none) h') : ac_Mt l d m_Body_follow [.ref a, .ref o, .int (nI f), .int (nI e)] h 0 0 Φ := by
  have o4 := ok.2.2.2.1
  have hno : o ∉ [a] := by simp [hao]
  refine ac_enter (by decide) rfl htr (fun _ => Nat.le_of_ble_eq_true rfl) ?_
  refine r_aload_n d_Body_follow_0 rfl ?_
  refine r_iload_n d_Body_follow_1 rfl ?_
  refine r_putfieldN d_Body_follow_2 f_Body_9 hh (Nat.le_of_ble_eq_true rfl) (fun _ => rfl) (fun _ => rfl) (fun h2_ fr2 g2 => ?_)
  refine r_aload_n d_Body_follow_5 rfl ?_
  refine r_iload_n d_Body_follow_6 rfl ?_
  refine r_putfieldN d_Body_follow_7 f_Body_15 g2 (Nat.le_of_ble_eq_true rfl) (fun _ => rfl) (fun _ => rfl) (fun h7_ fr7 g7 => ?_)
  have p7 := fr_at fr7 hno (fr_at fr2 hno ho)
  refine r_aload_n d_Body_follow_10 rfl ?_
  refine r_aload_n d_Body_follow_11 rfl ?_
  refine r_getfield d_Body_follow_12 f_Body_18 p7 rfl ?_
  refine r_putfieldN d_Body_follow_15 f_Body_18 g7 (Nat.le_of_ble_eq_true rfl) (fun _ => rfl) (fun _ => rfl) (fun h15_ fr15 g15 => ?_)
  have p15 := fr_at fr15 hno p7
  refine r_aload_n d_Body_follow_18 rfl ?_
  refine r_aload_n d_Body_follow_19 rfl ?_
  refine r_getfield d_Body_follow_20 f_Body_21 p15 rfl ?_
  refine r_putfieldN d_Body_follow_23 f_Body_21 g15 (Nat.le_of_ble_eq_true rfl) (fun _ => rfl) (fun _ => rfl) (fun h23_ fr23 g23 => ?_)
  have p23 := fr_at fr23 hno p15
  refine r_aload_n d_Body_follow_26 rfl ?_
  refine r_aload_n d_Body_follow_27 rfl ?_
  refine r_getfield d_Body_follow_28 f_Body_24 p23 rfl ?_
  refine r_iload_n d_Body_follow_31 rfl ?_
  refine r_iload_n d_Body_follow_32 rfl ?_
  refine r_isub d_Body_follow_33 ?_
  refine r_iconst 1 d_Body_follow_34 (by decide) ?_
  refine r_iadd d_Body_follow_35 ?_
  refine r_ri (nI_len hfe) ?_
  have hd1 : 1 ≤ ac_d (l, d, m_Body_follow, 0, 0, Φ, h.length, none) := hd
  refine r_max d_Body_follow_36 mx_Body_27 mx_1 mx_2 mx_3 (by omega) (Nat.le_of_ble_eq_true rfl) (Nat.le_of_ble_eq_true rfl) (Nat.le_of_ble_eq_true rfl) ?_
  refine r_ri (nI_max (by omega) (by omega)) ?_
  refine r_putfieldN d_Body_follow_39 f_Body_24 g23 (Nat.le_of_ble_eq_true rfl) (fun _ => rfl) (fun _ => rfl) (fun h39_ fr39 g39 => ?_)
  exact r_vret d_Body_follow_42 rfl (hΦ _ (fr_tr (fr_tr (fr_tr (fr_tr fr2 fr7 (fun _ q => q) (fun _ q => q)) fr15 (fun _ q => q) (fun _ q => q)) fr23 (fun _ q => q) (fun _ q => q)) fr39 (fun _ q => q) (fun _ q => q)) g39) (Nat.le_refl _) (Nat.le_refl _)
end
section
/-! BLOBS -/
def in2N (q : List (Nat × Nat)) (f g : Nat → Int32) : Prop := ∀ (i : Nat) (x : Nat × Nat), q[i]? = some x → f i = nI x.1 ∧ g i = nI x.2
def okBl (B : List (Nat × Nat)) : Prop := ∀ x ∈ B, x.1 ≤ x.2 ∧ x.2 ≤ 9
def Bls (h : ac_H) (b : Nat) (B : List (Nat × Nat)) : Prop := h[b]? = some (.inr (0, [.ref (b + 1), .ref (b + 2), .int (nI B.length)])) ∧ B.length ≤ 4 ∧ okBl B ∧ ∃ f g, h[b + 1]? = some (.inl (.inl (4, f))) ∧ h[b + 2]? = some (.inl (.inl (4, g))) ∧ in2N B f g
theorem Bls.fr {h h' : ac_H} {b : Nat} {B : List (Nat × Nat)} {as : List Nat} (H : Bls h b B) (F : fr h h' as) (h0 : b ∉ as) (h1 : b + 1 ∉ as) (h2 : b + 2 ∉ as) : Bls h' b B := by
  obtain ⟨a1, a2, a3, f, g, a4, a5, a6⟩ := H
  exact ⟨fr_at F h0 a1, a2, a3, f, g, fr_at F h1 a4, fr_at F h2 a5, a6⟩
def meets (b : sp_B) (x : Nat × Nat) : Prop := b.1 ≤ x.2 + 1 ∧ x.1 ≤ b.2.1 + 1
theorem nI_m1_le {a b : Nat} (ha : a < 2 ^ 30) (hb : b < 2 ^ 30) : nI a - 1 ≤ nI b ↔ a ≤ b + 1 := by
  rw [nI1, Int32.le_iff_toInt_le, pk_sub_toInt ha (by decide), nI_toInt (by omega)]; omega
theorem c_Blobs_isMetBy {l : Launch} (htr : l.stackTraces = false) {d : Nat} {h : ac_H} {Φ : ac_R → ac_H → Prop} {a w i : Nat} {b : sp_B} {B : List (Nat × Nat)} {x : Nat × Nat} (H : Bls h a B) (hw : h[w]? = some (bo b)) (ok : okB b) (hx : B[i]? = some x) (hΦ : Φ (.inl (some (.int (b01 (meets b x))))) h) : ac_Mt l d m_Blobs_isMetBy [.ref a, .ref w, .int (nI i)] h 0 0 Φ := by
  obtain ⟨a1, a2, a3, f, g, a4, a5, a6⟩ := H
  obtain ⟨o1, o2, -, -, -⟩ := ok
  obtain ⟨x1, x2⟩ := a3 x (List.mem_of_getElem? hx)
  have hi : i < B.length := (List.getElem?_eq_some_iff.mp hx).1
  obtain ⟨e1, e2⟩ := a6 i x hx
  refine ac_enter (by decide) rfl htr (fun _ => Nat.le_of_ble_eq_true rfl) ?_
  refine r_aload_n d_Blobs_isMetBy_0 rfl ?_
  refine r_getfield d_Blobs_isMetBy_1 f_Blobs_30 hw rfl ?_
  refine r_iconst 1 d_Blobs_isMetBy_4 (by decide) ?_
  refine r_isub d_Blobs_isMetBy_5 ?_
  refine r_aload_n d_Blobs_isMetBy_6 rfl ?_
  refine r_getfield d_Blobs_isMetBy_7 f_Blobs_15 a1 rfl ?_
  refine r_iload_n d_Blobs_isMetBy_10 rfl ?_
  refine r_ialoadN d_Blobs_isMetBy_11 a5 (by omega) (by omega) ?_
  rw [e2]
  refine r_icmp_gt 34 d_Blobs_isMetBy_12 (by decide) (fun c1 => ?_) (fun c1 => ?_)
  · have h9 : ¬ b.1 ≤ x.2 + 1 := fun z => by
      have := (nI_m1_le (a := b.1) (b := x.2) (by omega) (by omega)).mpr z
      rw [Int32.le_iff_toInt_le] at this; rw [Int32.lt_iff_toInt_lt] at c1; omega
    refine r_iconst 0 d_Blobs_isMetBy_34 (by decide) ?_
    rw [b01_f (fun z => h9 z.1)] at hΦ
    exact r_zret d_Blobs_isMetBy_35 rfl (Or.inl rfl) hΦ (Nat.le_refl _) (Nat.le_refl _)
  · have h9 : b.1 ≤ x.2 + 1 := (nI_m1_le (a := b.1) (b := x.2) (by omega) (by omega)).mp (by rw [Int32.le_iff_toInt_le]; rw [Int32.lt_iff_toInt_lt] at c1; omega)
    refine r_aload_n d_Blobs_isMetBy_15 rfl ?_
    refine r_getfield d_Blobs_isMetBy_16 f_Blobs_34 hw rfl ?_
    refine r_iconst 1 d_Blobs_isMetBy_19 (by decide) ?_
    refine r_iadd d_Blobs_isMetBy_20 ?_
    refine r_ri (nI_1 _) ?_
    refine r_aload_n d_Blobs_isMetBy_21 rfl ?_
    refine r_getfield d_Blobs_isMetBy_22 f_Blobs_9 a1 rfl ?_
    refine r_iload_n d_Blobs_isMetBy_25 rfl ?_
    refine r_ialoadN d_Blobs_isMetBy_26 a4 (by omega) (by omega) ?_
    rw [e1]
    refine r_icmp_lt 34 d_Blobs_isMetBy_27 (by decide) (fun c2 => ?_) (fun c2 => ?_)
    · refine r_iconst 0 d_Blobs_isMetBy_34 (by decide) ?_
      rw [b01_f (fun z => by have := (nI_ltI (by omega) (by omega)).mp c2; have := z.2; omega)] at hΦ
      exact r_zret d_Blobs_isMetBy_35 rfl (Or.inl rfl) hΦ (Nat.le_refl _) (Nat.le_refl _)
    · refine r_iconst 1 d_Blobs_isMetBy_30 (by decide) ?_
      refine r_goto 35 d_Blobs_isMetBy_31 (by decide) ?_
      rw [b01_t ⟨h9, by rcases Nat.lt_or_ge (b.2.1 + 1) x.1 with z | z; exact absurd ((nI_ltI (by omega) (by omega)).mpr z) c2; exact z⟩] at hΦ
      exact r_zret d_Blobs_isMetBy_35 rfl (Or.inr rfl) hΦ (Nat.le_refl _) (Nat.le_refl _)
/-- k is the first blob that b meets -/
def goesTo (B : List (Nat × Nat)) (b : sp_B) (k : Nat) : Prop := (∃ x, B[k]? = some x ∧ meets b x) ∧ ∀ j, j < k → ∀ x, B[j]? = some x → ¬ meets b x
def lost9 (B : List (Nat × Nat)) (b : sp_B) : Prop := ∀ x ∈ B, ¬ meets b x
theorem c_Blobs_firstMetBy {l : Launch} (htr : l.stackTraces = false) {d : Nat} {h : ac_H} {Φ : ac_R → ac_H → Prop} {a w : Nat} {b : sp_B} {B : List (Nat × Nat)} (hd : 1 ≤ d) (H : Bls h a B) (hw : h[w]? = some (bo b)) (ok : okB b) (h0 : lost9 B b → Φ (.inl (some (.int (-1)))) h) (h1 : ∀ k, k < B.length → goesTo B b k → Φ (.inl (some (.int (nI k)))) h) : ac_Mt l d m_Blobs_firstMetBy [.ref a, .ref w] h 0 0 Φ := by
  have a1 := H.1
  have a2 := H.2.1
  refine ac_enter (by decide) rfl htr (fun _ => Nat.le_of_ble_eq_true rfl) ?_
  have key : ∀ n i, i + n = B.length → (∀ j, j < i → ∀ x, B[j]? = some x → ¬ meets b x) → ac_G (l, d, m_Blobs_firstMetBy, 0, 0, Φ, h.length, none) 2 [(2, .int (nI i)), (0, .ref a), (1, .ref w)] [] h 0 0 := by
    intro n
    induction n with
    | zero =>
      intro i hi hno
      refine r_iload_n d_Blobs_firstMetBy_2 rfl ?_
      refine r_aload_n d_Blobs_firstMetBy_3 rfl ?_
      refine r_getfield d_Blobs_firstMetBy_4 f_Blobs_18 a1 rfl ?_
      refine r_icmp_ge 27 d_Blobs_firstMetBy_7 (by decide) (fun c1 => ?_) (fun c1 => absurd (nI_le (by omega) (by omega)) c1)
      refine r_iconst (-1) d_Blobs_firstMetBy_27 (by decide) ?_
      refine r_iret d_Blobs_firstMetBy_28 rfl (h0 fun x hx => ?_) (Nat.le_refl _) (Nat.le_refl _)
      obtain ⟨j, hj⟩ := List.getElem?_of_mem hx
      exact hno j (by have := (List.getElem?_eq_some_iff.mp hj).1; omega) x hj
    | succ n ih =>
      intro i hi hno
      refine r_iload_n d_Blobs_firstMetBy_2 rfl ?_
      refine r_aload_n d_Blobs_firstMetBy_3 rfl ?_
      refine r_getfield d_Blobs_firstMetBy_4 f_Blobs_18 a1 rfl ?_
      refine r_icmp_ge 27 d_Blobs_firstMetBy_7 (by decide) (fun c1 => absurd ((nI_leI (by omega) (by omega)).mp c1) (by omega)) (fun c1 => ?_)
      have hx := List.getElem?_eq_getElem (show i < B.length by omega)
      refine r_aload_n d_Blobs_firstMetBy_10 rfl ?_
      refine r_aload_n d_Blobs_firstMetBy_11 rfl ?_
      refine r_iload_n d_Blobs_firstMetBy_12 rfl ?_
      refine r_cVi [.ref w, .int (nI i)] a (d - 1) 0 0 (b01 (meets b B[i])) (fun h' => h' = h) d_Blobs_firstMetBy_13 q_Blobs_26 a1 rfl rfl (c_Blobs_isMetBy htr H hw ok hx ⟨rfl, rfl⟩) (by show d - 1 + 1 ≤ d; omega) (Nat.le_refl _) (Nat.le_refl _) (Nat.le_of_ble_eq_true rfl) (fun h' e => ?_)
      subst e
      refine r_if_eq 21 d_Blobs_firstMetBy_16 (by decide) (fun c2 => ?_) (fun c2 => ?_)
      · have hm := b01_0.mp c2
        refine r_iincP d_Blobs_firstMetBy_21 rfl (Nat.le_of_ble_eq_true rfl) ?_
        refine r_goto 2 d_Blobs_firstMetBy_24 (by decide) ?_
        rw [nI_1]
        refine ih (i + 1) (by omega) (fun j hj x hx9 => ?_)
        rcases Nat.lt_or_ge j i with z | z
        · exact hno j z x hx9
        · have e : j = i := by omega
          subst e
          rw [hx] at hx9
          cases hx9
          exact hm
      · refine r_iload_n d_Blobs_firstMetBy_19 rfl ?_
        exact r_iret d_Blobs_firstMetBy_20 rfl (h1 i (by omega) ⟨⟨_, hx, Classical.byContradiction fun z => c2 (b01_f z)⟩, hno⟩) (Nat.le_refl _) (Nat.le_refl _)
  refine r_iconst 0 d_Blobs_firstMetBy_0 (by decide) ?_
  refine r_ri nI_0.symm ?_
  refine r_istore_n d_Blobs_firstMetBy_1 (Nat.le_of_ble_eq_true rfl) ?_
  exact key B.length 0 (by omega) (fun j hj => absurd hj (by omega))
/-- a seen beam more, from beam 0 on -/
def sp_add (B : List (Nat × Nat)) (i : Nat) : List (Nat × Nat) := match B.getLast? with
  | some x => if i ≤ x.2 + 2 then B.dropLast ++ [(x.1, i)] else B ++ [(i, i)]
  | none => [(i, i)]
/-- the blobs stand three beams apart -/
def apart3 (B : List (Nat × Nat)) (i : Nat) : Prop := (∀ x ∈ B, x.1 ≤ x.2 ∧ x.2 < i) ∧ ∀ x, B.getLast? = some x → 3 * (B.length - 1) ≤ x.1
theorem apart3_add {B : List (Nat × Nat)} {i : Nat} (h : apart3 B i) : apart3 (sp_add B i) (i + 1) := by
  unfold sp_add
  obtain ⟨h1, h2⟩ := h
  cases hl : B.getLast? with
  | none =>
    simp only
    exact ⟨fun x hx => by simp at hx; subst hx; exact ⟨Nat.le_refl _, Nat.lt_succ_self _⟩, fun x hx => by simp⟩
  | some x =>
    simp only
    have hB : B = B.dropLast ++ [x] := by
      have hne : B ≠ [] := fun z => by rw [z] at hl; cases hl
      rw [List.getLast?_eq_some_getLast hne] at hl
      cases hl
      exact (List.dropLast_concat_getLast hne).symm
    have hxm : x ∈ B := by rw [hB]; simp
    obtain ⟨y1, y2⟩ := h1 x hxm
    have hx3 := h2 x hl
    by_cases c : i ≤ x.2 + 2
    · rw [if_pos c]
      refine ⟨fun y hy => ?_, fun y hy => ?_⟩
      · rcases List.mem_append.mp hy with q | q
        · obtain ⟨z1, z2⟩ := h1 y ((List.dropLast_sublist B).subset q); exact ⟨z1, by omega⟩
        · simp at q; subst q; exact ⟨by show x.1 ≤ i; omega, Nat.lt_succ_self _⟩
      · simp at hy; subst hy
        show 3 * ((B.dropLast ++ [(x.1, i)]).length - 1) ≤ x.1
        have e : (B.dropLast ++ [(x.1, i)]).length = B.length := by rw [hB]; simp
        rw [e]; exact hx3
    · rw [if_neg c]
      refine ⟨fun y hy => ?_, fun y hy => ?_⟩
      · rcases List.mem_append.mp hy with q | q
        · obtain ⟨z1, z2⟩ := h1 y q; exact ⟨z1, by omega⟩
        · simp at q; subst q; exact ⟨Nat.le_refl _, Nat.lt_succ_self _⟩
      · simp at hy; subst hy
        show 3 * ((B ++ [(i, i)]).length - 1) ≤ i
        rw [List.length_append]
        have : 0 < B.length := by rw [hB]; simp
        show 3 * (B.length + 1 - 1) ≤ i
        omega
theorem apart3_len {B : List (Nat × Nat)} {i : Nat} (h : apart3 B i) (hi : i ≤ 10) : B.length ≤ 4 := by
  cases hl : B.getLast? with
  | none => rw [List.getLast?_eq_none_iff.mp hl]; simp
  | some x =>
    have h2 := h.2 x hl
    have h3 := h.1 x (List.mem_of_getLast? hl)
    omega
theorem apart3_ok {B : List (Nat × Nat)} {i : Nat} (h : apart3 B i) (hi : i ≤ 10) : okBl B := fun x hx => by
  obtain ⟨z1, z2⟩ := h.1 x hx
  exact ⟨z1, by omega⟩
theorem in2N_put {B : List (Nat × Nat)} {x : Nat × Nat} {f g : Nat → Int32} {i : Nat} (h : in2N (B ++ [x]) f g) : in2N (B ++ [(x.1, i)]) f (upd g B.length (nI i)) := by
  intro j y hy
  by_cases hj : j < B.length
  · rw [List.getElem?_append_left hj] at hy
    have := h j y (by rw [List.getElem?_append_left hj]; exact hy)
    exact ⟨this.1, by unfold upd; rw [if_neg (by omega)]; exact this.2⟩
  · rw [List.getElem?_append_right (by omega)] at hy
    have h1 : j - B.length < 1 := (List.getElem?_eq_some_iff.mp hy).1
    have e : j = B.length := by omega
    subst e
    rw [Nat.sub_self] at hy
    cases hy
    have := h B.length x (by rw [List.getElem?_append_right (Nat.le_refl _), Nat.sub_self]; rfl)
    exact ⟨this.1, by unfold upd; rw [if_pos rfl]⟩
theorem in2N_add {B : List (Nat × Nat)} {f g : Nat → Int32} {i : Nat} (h : in2N B f g) : in2N (B ++ [(i, i)]) (upd f B.length (nI i)) (upd g B.length (nI i)) := by
  intro j y hy
  unfold upd
  by_cases hj : j < B.length
  · rw [List.getElem?_append_left hj] at hy
    rw [if_neg (by omega), if_neg (by omega)]; exact h j y hy
  · rw [List.getElem?_append_right (by omega)] at hy
    have h1 : j - B.length < 1 := (List.getElem?_eq_some_iff.mp hy).1
    have e : j = B.length := by omega
    subst e
    rw [Nat.sub_self] at hy
    cases hy
    rw [if_pos rfl, if_pos rfl]; exact ⟨rfl, rfl⟩
theorem nI_gap {a b : Nat} (ha : a < 2 ^ 30) (hb : b < 2 ^ 30) (c : Nat) (hc : c < 2 ^ 30) : nI c < nI a - nI b ↔ b + c < a := by
  rw [Int32.lt_iff_toInt_lt, pk_sub_toInt ha hb, nI_toInt (by omega)]; omega
theorem c_Blobs_addBeam {l : Launch} (htr : l.stackTraces = false) {d : Nat} {h : ac_H} {Φ : ac_R → ac_H → Prop} {a i : Nat} {B : List (Nat × Nat)} (H : Bls h a B) (hB : apart3 B i) (hi : i ≤ 9) (hΦ : ∀ h', fr h h' [a, a + 1, a + 2] → Bls h' a (sp_add B i) → Φ (.inl none) h') : ac_Mt l d m_Blobs_addBeam [.ref a, .int (nI i)] h 0 0 Φ := by
  obtain ⟨a1, a2, a3, f, g, a4, a5, a6⟩ := H
  have hB2 := apart3_add hB
  have hlen2 := apart3_len hB2 (by omega)
  have hok2 := apart3_ok hB2 (by omega)
  refine ac_enter (by decide) rfl htr (fun _ => Nat.le_of_ble_eq_true rfl) ?_
  -- a blob more
  have more : sp_add B i = B ++ [(i, i)] → ac_G (l, d, m_Blobs_addBeam, 0, 0, Φ, h.length, none) 39 [(0, .ref a), (1, .int (nI i))] [] h 0 0 := by
    intro he
    rw [he] at hlen2 hok2 hΦ
    rw [List.length_append] at hlen2
    have hl4 : B.length < 4 := hlen2
    refine r_aload_n d_Blobs_addBeam_39 rfl ?_
    refine r_getfield d_Blobs_addBeam_40 f_Blobs_18 a1 rfl ?_
    refine r_aload_n d_Blobs_addBeam_43 rfl ?_
    refine r_getfield d_Blobs_addBeam_44 f_Blobs_9 a1 rfl ?_
    refine r_alenI d_Blobs_addBeam_47 a4 ?_
    refine r_icmp_ge 81 d_Blobs_addBeam_48 (by decide) (fun c2 => absurd ((nI_leI (by omega) (by omega)).mp c2) (by omega)) (fun c2 => ?_)
    refine r_aload_n d_Blobs_addBeam_51 rfl ?_
    refine r_getfield d_Blobs_addBeam_52 f_Blobs_9 a1 rfl ?_
    refine r_aload_n d_Blobs_addBeam_55 rfl ?_
    refine r_getfield d_Blobs_addBeam_56 f_Blobs_18 a1 rfl ?_
    refine r_iload_n d_Blobs_addBeam_59 rfl ?_
    refine r_iastoreN d_Blobs_addBeam_60 a4 hl4 (by omega) (fun h60_ fr60 g60 => ?_)
    have b1 := fr_at fr60 (b := a) (by simp) a1
    have b5 := fr_at fr60 (b := a + 2) (by simp) a5
    refine r_aload_n d_Blobs_addBeam_61 rfl ?_
    refine r_getfield d_Blobs_addBeam_62 f_Blobs_15 b1 rfl ?_
    refine r_aload_n d_Blobs_addBeam_65 rfl ?_
    refine r_getfield d_Blobs_addBeam_66 f_Blobs_18 b1 rfl ?_
    refine r_iload_n d_Blobs_addBeam_69 rfl ?_
    refine r_iastoreN d_Blobs_addBeam_70 b5 hl4 (by omega) (fun h70_ fr70 g70 => ?_)
    have e1 := fr_at fr70 (b := a) (by simp) b1
    have e4 := fr_at fr70 (b := a + 1) (by simp) g60
    refine r_aload_n d_Blobs_addBeam_71 rfl ?_
    refine r_dup d_Blobs_addBeam_72 rfl ?_
    refine r_getfield d_Blobs_addBeam_73 f_Blobs_18 e1 rfl ?_
    refine r_iconst 1 d_Blobs_addBeam_76 (by decide) ?_
    refine r_iadd d_Blobs_addBeam_77 ?_
    refine r_ri (nI_1 _) ?_
    refine r_putfieldN d_Blobs_addBeam_78 f_Blobs_18 e1 (Nat.le_of_ble_eq_true rfl) (fun _ => rfl) (fun _ => rfl) (fun h78_ fr78 g78 => ?_)
    refine r_vret d_Blobs_addBeam_81 rfl (hΦ _ (fr_tr (fr_tr fr60 fr70 (cs := [a, a + 1, a + 2]) (by simp) (by simp)) fr78 (by simp) (by simp)) ⟨?_, ?_, hok2, _, _, fr_at fr78 (by simp) e4, fr_at fr78 (by simp) g70, in2N_add a6⟩) (Nat.le_refl _) (Nat.le_refl _)
    · rw [List.length_append]; exact g78
    · rw [List.length_append]; exact hlen2
  refine r_aload_n d_Blobs_addBeam_0 rfl ?_
  refine r_getfield d_Blobs_addBeam_1 f_Blobs_18 a1 rfl ?_
  cases hl : B.getLast? with
  | none =>
    have hnil := List.getLast?_eq_none_iff.mp hl
    refine r_if_le 39 d_Blobs_addBeam_4 (by decide) (fun c1 => ?_) (fun c1 => absurd (by rw [hnil]; decide) c1)
    exact more (by unfold sp_add; rw [hl, hnil]; rfl)
  | some x =>
    obtain ⟨B0, hB0⟩ : ∃ B0, B = B0 ++ [x] := ⟨B.dropLast, by
      have hne : B ≠ [] := fun z => by rw [z] at hl; cases hl
      rw [List.getLast?_eq_some_getLast hne] at hl
      cases hl
      exact (List.dropLast_concat_getLast hne).symm⟩
    have hlB : B.length = B0.length + 1 := by rw [hB0, List.length_append]; rfl
    have hx0 : B[B0.length]? = some x := by rw [hB0, List.getElem?_append_right (Nat.le_refl _), Nat.sub_self]; rfl
    obtain ⟨y1, y2⟩ := hB.1 x (List.mem_of_getElem? hx0)
    have ex := (a6 B0.length x hx0).2
    refine r_if_le 39 d_Blobs_addBeam_4 (by decide) (fun c1 => absurd c1 (nI_nle (by omega) (by omega))) (fun c1 => ?_)
    refine r_iload_n d_Blobs_addBeam_7 rfl ?_
    refine r_aload_n d_Blobs_addBeam_8 rfl ?_
    refine r_getfield d_Blobs_addBeam_9 f_Blobs_15 a1 rfl ?_
    refine r_aload_n d_Blobs_addBeam_12 rfl ?_
    refine r_getfield d_Blobs_addBeam_13 f_Blobs_18 a1 rfl ?_
    refine r_iconst 1 d_Blobs_addBeam_16 (by decide) ?_
    refine r_isub d_Blobs_addBeam_17 ?_
    rw [hlB]
    refine r_ri (nI_pred _) ?_
    refine r_ialoadN d_Blobs_addBeam_18 a5 (by omega) (by omega) ?_
    refine r_isub d_Blobs_addBeam_19 ?_
    refine r_iconst 2 d_Blobs_addBeam_20 (by decide) ?_
    rw [ex]
    refine r_ri nI2 ?_
    refine r_icmp_gt 39 d_Blobs_addBeam_21 (by decide) (fun c2 => ?_) (fun c2 => ?_)
    · have h9 := (nI_gap (by omega) (by omega) 2 (by omega)).mp c2
      exact more (by unfold sp_add; rw [hl]; exact if_neg (by omega))
    · have h9 : i ≤ x.2 + 2 := by
        rcases Nat.lt_or_ge (x.2 + 2) i with z | z
        · exact absurd ((nI_gap (by omega) (by omega) 2 (by omega)).mpr z) c2
        · exact z
      have he : sp_add B i = B0 ++ [(x.1, i)] := by
        unfold sp_add; rw [hl]; show (if i ≤ x.2 + 2 then _ else _) = _
        rw [if_pos h9, hB0, List.dropLast_concat]
      refine r_aload_n d_Blobs_addBeam_24 rfl ?_
      refine r_getfield d_Blobs_addBeam_25 f_Blobs_15 a1 rfl ?_
      refine r_aload_n d_Blobs_addBeam_28 rfl ?_
      refine r_getfield d_Blobs_addBeam_29 f_Blobs_18 a1 rfl ?_
      refine r_iconst 1 d_Blobs_addBeam_32 (by decide) ?_
      refine r_isub d_Blobs_addBeam_33 ?_
      rw [hlB]
      refine r_ri (nI_pred _) ?_
      refine r_iload_n d_Blobs_addBeam_34 rfl ?_
      refine r_iastoreN d_Blobs_addBeam_35 a5 (by omega) (by omega) (fun h35_ fr35 g35 => ?_)
      refine r_goto 81 d_Blobs_addBeam_36 (by decide) ?_
      refine r_vret d_Blobs_addBeam_81 rfl (hΦ _ (fr_mo fr35 (by simp)) ?_) (Nat.le_refl _) (Nat.le_refl _)
      rw [he]
      refine ⟨?_, ?_, ?_, f, _, fr_at fr35 (by simp) a4, g35, ?_⟩
      · rw [List.length_append]; have := fr_at fr35 (b := a) (by simp) a1; rw [hlB] at this; exact this
      · rw [List.length_append]; show B0.length + 1 ≤ 4; omega
      · rw [← he]; exact hok2
      · rw [hB0] at a6; exact in2N_put a6
/-- is beam i seen -/
def sp_bit (w : Int32) (i : Nat) : Prop := ¬ (w >>> (nI i &&& 31)) &&& 1 = 0
noncomputable def sp_find (w : Int32) : Nat → List (Nat × Nat)
  | 0 => []
  | n + 1 => @ite _ (sp_bit w n) (Classical.propDecidable _) (sp_add (sp_find w n) n) (sp_find w n)
theorem sp_find_ok (w : Int32) : ∀ n, apart3 (sp_find w n) n
  | 0 => ⟨fun x hx => (by cases hx), fun x hx => (by cases hx)⟩
  | n + 1 => by
    have ih := sp_find_ok w n
    unfold sp_find
    by_cases c : sp_bit w n
    · rw [if_pos c]; exact apart3_add ih
    · rw [if_neg c]; exact ⟨fun x hx => ⟨(ih.1 x hx).1, by have := (ih.1 x hx).2; omega⟩, ih.2⟩
theorem c_Blobs_find {l : Launch} (htr : l.stackTraces = false) {d : Nat} {h : ac_H} {Φ : ac_R → ac_H → Prop} {a : Nat} {w : Int32} {B : List (Nat × Nat)} (hd : 1 ≤ d) (H : Bls h a B) (hΦ : ∀ h', fr h h' [a, a + 1, a + 2] → Bls h' a (sp_find w 10) → Φ (.inl none) h') : ac_Mt l d m_Blobs_find [.ref a, .int w] h 0 0 Φ := by
  obtain ⟨a1, a2, a3, f, g, a4, a5, a6⟩ := H
  refine ac_enter (by decide) rfl htr (fun _ => Nat.le_of_ble_eq_true rfl) ?_
  refine r_aload_n d_Blobs_find_0 rfl ?_
  refine r_iconst 0 d_Blobs_find_1 (by decide) ?_
  refine r_putfieldN d_Blobs_find_2 f_Blobs_18 a1 (Nat.le_of_ble_eq_true rfl) (fun _ => rfl) (fun _ => rfl) (fun h2_ fr2 g2 => ?_)
  have key : ∀ n i h2, i + n = 10 → fr h h2 [a, a + 1, a + 2] → Bls h2 a (sp_find w i) → ac_G (l, d, m_Blobs_find, 0, 0, Φ, h.length, none) 7 [(2, .int (nI i)), (0, .ref a), (1, .int w)] [] h2 0 0 := by
    intro n
    induction n with
    | zero =>
      intro i h2 hi F H2
      have e : i = 10 := by omega
      subst e
      refine r_iload_n d_Blobs_find_7 rfl ?_
      refine r_bipush 10 d_Blobs_find_8 (by decide) ?_
      refine r_icmp_ge 32 d_Blobs_find_10 (by decide) (fun c1 => ?_) (fun c1 => absurd (by decide) c1)
      exact r_vret d_Blobs_find_32 rfl (hΦ _ F H2) (Nat.le_refl _) (Nat.le_refl _)
    | succ n ih =>
      intro i h2 hi F H2
      refine r_iload_n d_Blobs_find_7 rfl ?_
      refine r_bipush 10 d_Blobs_find_8 (by decide) ?_
      refine r_ri nI10 ?_
      refine r_icmp_ge 32 d_Blobs_find_10 (by decide) (fun c1 => absurd ((nI_leI (by omega) (by omega)).mp c1) (by omega)) (fun c1 => ?_)
      refine r_iload_n d_Blobs_find_13 rfl ?_
      refine r_iload_n d_Blobs_find_14 rfl ?_
      refine r_ishr d_Blobs_find_15 ?_
      refine r_iconst 1 d_Blobs_find_16 (by decide) ?_
      refine r_iand d_Blobs_find_17 ?_
      refine r_if_eq 26 d_Blobs_find_18 (by decide) (fun c2 => ?_) (fun c2 => ?_)
      · refine r_iincP d_Blobs_find_26 rfl (Nat.le_of_ble_eq_true rfl) ?_
        refine r_goto 7 d_Blobs_find_29 (by decide) ?_
        rw [nI_1]
        refine ih (i + 1) h2 (by omega) F ?_
        unfold sp_find; rw [if_neg (fun z => z c2)]; exact H2
      · refine r_aload_n d_Blobs_find_21 rfl ?_
        refine r_iload_n d_Blobs_find_22 rfl ?_
        refine r_cVv [.int (nI i)] a (d - 1) 0 0 (fun h' => fr h h' [a, a + 1, a + 2] ∧ Bls h' a (sp_add (sp_find w i) i)) d_Blobs_find_23 q_Blobs_22 H2.1 rfl rfl (c_Blobs_addBeam htr H2 (sp_find_ok w i) (by omega) (fun h' f' H' => ⟨rfl, fr_tr F f' (fun _ q => q) (fun _ q => q), H'⟩)) (by show d - 1 + 1 ≤ d; omega) (Nat.le_refl _) (Nat.le_refl _) (Nat.le_of_ble_eq_true rfl) (fun h' e => ?_)
        refine r_iincP d_Blobs_find_26 rfl (Nat.le_of_ble_eq_true rfl) ?_
        refine r_goto 7 d_Blobs_find_29 (by decide) ?_
        rw [nI_1]
        refine ih (i + 1) h' (by omega) e.1 ?_
        unfold sp_find; rw [if_pos (show sp_bit w i from c2)]; exact e.2
  refine r_iconst 0 d_Blobs_find_5 (by decide) ?_
  refine r_ri nI_0.symm ?_
  refine r_istore_n d_Blobs_find_6 (Nat.le_of_ble_eq_true rfl) ?_
  exact key 10 0 _ (by omega) (fr_mo fr2 (by simp)) ⟨g2, Nat.zero_le 4, fun x hx => (by cases hx), f, g, fr_at fr2 (by simp) a4, fr_at fr2 (by simp) a5, fun i x hx => (by cases hx)⟩
end
section
/-! tokens that are given back -/
def sp_exp (now : Int32) : List (Int32 × Int32) → List Int32 → List (Int32 × Int32) × List Int32
  | [], R => ([], R)
  | x :: q, R => if now - x.2 < 200 then (x :: q, R) else sp_exp now q (R ++ [x.1])
theorem c_TL_refundExpired {l : Launch} (htr : l.stackTraces = false) {d : Nat} {h : ac_H} {Φ : ac_R → ac_H → Prop} {t N r : Nat} {now : Int32} {q : List (Int32 × Int32)} {R : List Int32} (hd : 1 ≤ d) (H : TLs h t N q) (HR : Rfs h r R) (hN : 0 < N) (htr9 : t + 2 < r) (hcap : R.length + q.length ≤ 512) (hΦ : ∀ h', fr h h' [t, t + 1, t + 2, r, r + 1] → TLs h' t N (sp_exp now q R).1 → Rfs h' r (sp_exp now q R).2 → Φ (.inl none) h') : ac_Mt l d m_TL_refundExpired [.ref t, .int now, .ref r] h 0 0 Φ := by
  have hN2 := H.2.2.1
  have hqN := H.2.1
  refine ac_enter (by decide) rfl htr (fun _ => Nat.le_of_ble_eq_true rfl) ?_
  have key : ∀ (n i : Nat) (q2 : List (Int32 × Int32)) (R2 : List Int32) (h2 : ac_H), q2.length = n → i + n = q.length → fr h h2 [t, t + 1, t + 2, r, r + 1] → TLs h2 t N q2 → Rfs h2 r R2 → R2.length + q2.length ≤ 512 → sp_exp now q2 R2 = sp_exp now q R → ac_G (l, d, m_TL_refundExpired, 0, 0, Φ, h.length, none) 8 [(4, .int (nI i)), (3, .int (nI q.length)), (0, .ref t), (1, .int now), (2, .ref r)] [] h2 0 0 := by
    intro n
    induction n with
    | zero =>
      intro i q2 R2 h2 hq hi F H2 HR2 hc he
      have hq0 : q2 = [] := List.length_eq_zero_iff.mp hq
      subst hq0
      refine r_iload d_TL_refundExpired_8 rfl ?_
      refine r_iload_n d_TL_refundExpired_10 rfl ?_
      refine r_icmp_ge 42 d_TL_refundExpired_11 (by decide) (fun c1 => ?_) (fun c1 => absurd (nI_le (by omega) (by omega)) c1)
      rw [← he] at hΦ
      exact r_vret d_TL_refundExpired_42 rfl (hΦ _ F H2 HR2) (Nat.le_refl _) (Nat.le_refl _)
    | succ n ih =>
      intro i q2 R2 h2 hq hi F H2 HR2 hc he
      obtain ⟨x, q3, rfl⟩ : ∃ x q3, q2 = x :: q3 := by
        cases q2 with
        | nil => cases hq
        | cons x q3 => exact ⟨x, q3, rfl⟩
      rw [List.length_cons] at hq hc
      obtain ⟨b1, b2, b3, f, g, b4, b5, b6⟩ := id H2
      refine r_iload d_TL_refundExpired_8 rfl ?_
      refine r_iload_n d_TL_refundExpired_10 rfl ?_
      refine r_icmp_ge 42 d_TL_refundExpired_11 (by decide) (fun c1 => absurd ((nI_leI (by omega) (by omega)).mp c1) (by omega)) (fun c1 => ?_)
      refine r_iload_n d_TL_refundExpired_14 rfl ?_
      refine r_aload_n d_TL_refundExpired_15 rfl ?_
      refine r_getfield d_TL_refundExpired_16 f_TL_25 b1 rfl ?_
      refine r_iconst 0 d_TL_refundExpired_19 (by decide) ?_
      refine r_ri nI_0.symm ?_
      refine r_ialoadN d_TL_refundExpired_20 b5 hN (by omega) ?_
      refine r_isub d_TL_refundExpired_21 ?_
      refine r_sipush 200 d_TL_refundExpired_22 (by decide) ?_
      rw [(b6 0 x rfl).2]
      refine r_icmp_lt 42 d_TL_refundExpired_25 (by decide) (fun c2 => ?_) (fun c2 => ?_)
      · have e9 : sp_exp now (x :: q3) R2 = (x :: q3, R2) := by rw [sp_exp, if_pos c2]
        rw [← he, e9] at hΦ
        exact r_vret d_TL_refundExpired_42 rfl (hΦ _ F H2 HR2) (Nat.le_refl _) (Nat.le_refl _)
      · have e9 : sp_exp now (x :: q3) R2 = sp_exp now q3 (R2 ++ [x.1]) := by rw [sp_exp, if_neg c2]
        refine r_aload_n d_TL_refundExpired_28 rfl ?_
        refine r_aload_n d_TL_refundExpired_29 rfl ?_
        refine r_cVi [] t (d - 1) 0 0 x.1 (fun h' => fr h2 h' [t, t + 1, t + 2] ∧ TLs h' t N q3) d_TL_refundExpired_30 q_TL_28 b1 rfl rfl (c_TL_removeOldest htr H2 (fun e => by cases e) (fun x9 r9 h' e f' H' => by cases e; exact ⟨rfl, f', H'⟩)) (by show d - 1 + 1 ≤ d; omega) (Nat.le_refl _) (Nat.le_refl _) (Nat.le_of_ble_eq_true rfl) (fun h3 e3 => ?_)
        have HR3 : Rfs h3 r R2 := HR2.fr e3.1 (by simp only [List.mem_cons, List.not_mem_nil, or_false, not_or]; omega) (by simp only [List.mem_cons, List.not_mem_nil, or_false, not_or]; omega)
        refine r_cVv [.int x.1] r (d - 1) 0 0 (fun h' => fr h3 h' [r, r + 1] ∧ Rfs h' r (R2 ++ [x.1])) d_TL_refundExpired_33 q_TL_32 HR3.1 rfl rfl (c_Rf_add htr HR3 (fun _ h' f' H' => ⟨rfl, f', H'⟩) (fun e => absurd e (by omega))) (by show d - 1 + 1 ≤ d; omega) (Nat.le_refl _) (Nat.le_refl _) (Nat.le_of_ble_eq_true rfl) (fun h4 e4 => ?_)
        refine r_iincP d_TL_refundExpired_36 rfl (Nat.le_of_ble_eq_true rfl) ?_
        refine r_goto 8 d_TL_refundExpired_39 (by decide) ?_
        rw [nI_1]
        exact ih (i + 1) q3 (R2 ++ [x.1]) h4 (by omega) (by omega) (fr_tr (fr_tr F e3.1 (cs := [t, t + 1, t + 2, r, r + 1]) (by simp) (by simp)) e4.1 (by simp) (by simp)) (e3.2.fr e4.1 (by simp only [List.mem_cons, List.not_mem_nil, or_false, not_or]; omega) (by simp only [List.mem_cons, List.not_mem_nil, or_false, not_or]; omega) (by simp only [List.mem_cons, List.not_mem_nil, or_false, not_or]; omega)) e4.2 (by rw [List.length_append]; show R2.length + 1 + q3.length ≤ 512; omega) (e9.symm.trans he)
  refine r_aload_n d_TL_refundExpired_0 rfl ?_
  refine r_getfield d_TL_refundExpired_1 f_TL_9 H.1 rfl ?_
  refine r_istore_n d_TL_refundExpired_4 (Nat.le_of_ble_eq_true rfl) ?_
  refine r_iconst 0 d_TL_refundExpired_5 (by decide) ?_
  refine r_ri nI_0.symm ?_
  refine r_istore d_TL_refundExpired_6 (Nat.le_of_ble_eq_true rfl) ?_
  exact key q.length 0 q R h rfl (by omega) fr_rf H HR hcap rfl
theorem c_TL_refundAll {l : Launch} (htr : l.stackTraces = false) {d : Nat} {h : ac_H} {Φ : ac_R → ac_H → Prop} {t N r : Nat} {q : List (Int32 × Int32)} {R : List Int32} (hd : 1 ≤ d) (H : TLs h t N q) (HR : Rfs h r R) (htr9 : t + 2 < r) (hcap : R.length + q.length ≤ 512) (hΦ : ∀ h', fr h h' [t, t + 1, t + 2, r, r + 1] → TLs h' t N [] → Rfs h' r (R ++ q.map (·.1)) → Φ (.inl (some (.int (nI q.length)))) h') : ac_Mt l d m_TL_refundAll [.ref t, .ref r] h 0 0 Φ := by
  have hN2 := H.2.2.1
  have hqN := H.2.1
  refine ac_enter (by decide) rfl htr (fun _ => Nat.le_of_ble_eq_true rfl) ?_
  have key : ∀ (n i : Nat) (q2 : List (Int32 × Int32)) (R2 : List Int32) (h2 : ac_H), q2.length = n → i + n = q.length → fr h h2 [t, t + 1, t + 2, r, r + 1] → TLs h2 t N q2 → Rfs h2 r R2 → R2.length + q2.length ≤ 512 → R2 ++ q2.map (·.1) = R ++ q.map (·.1) → ac_G (l, d, m_TL_refundAll, 0, 0, Φ, h.length, none) 7 [(3, .int (nI i)), (2, .int (nI q.length)), (0, .ref t), (1, .ref r)] [] h2 0 0 := by
    intro n
    induction n with
    | zero =>
      intro i q2 R2 h2 hq hi F H2 HR2 hc he
      have hq0 : q2 = [] := List.length_eq_zero_iff.mp hq
      subst hq0
      refine r_iload_n d_TL_refundAll_7 rfl ?_
      refine r_iload_n d_TL_refundAll_8 rfl ?_
      refine r_icmp_ge 26 d_TL_refundAll_9 (by decide) (fun c1 => ?_) (fun c1 => absurd (nI_le (by omega) (by omega)) c1)
      refine r_iload_n d_TL_refundAll_26 rfl ?_
      rw [← he] at hΦ
      exact r_iret d_TL_refundAll_27 rfl (hΦ _ F H2 (by simpa using HR2)) (Nat.le_refl _) (Nat.le_refl _)
    | succ n ih =>
      intro i q2 R2 h2 hq hi F H2 HR2 hc he
      obtain ⟨x, q3, rfl⟩ : ∃ x q3, q2 = x :: q3 := by
        cases q2 with
        | nil => cases hq
        | cons x q3 => exact ⟨x, q3, rfl⟩
      rw [List.length_cons] at hq hc
      refine r_iload_n d_TL_refundAll_7 rfl ?_
      refine r_iload_n d_TL_refundAll_8 rfl ?_
      refine r_icmp_ge 26 d_TL_refundAll_9 (by decide) (fun c1 => absurd ((nI_leI (by omega) (by omega)).mp c1) (by omega)) (fun c1 => ?_)
      refine r_aload_n d_TL_refundAll_12 rfl ?_
      refine r_aload_n d_TL_refundAll_13 rfl ?_
      refine r_cVi [] t (d - 1) 0 0 x.1 (fun h' => fr h2 h' [t, t + 1, t + 2] ∧ TLs h' t N q3) d_TL_refundAll_14 q_TL_28 H2.1 rfl rfl (c_TL_removeOldest htr H2 (fun e => by cases e) (fun x9 r9 h' e f' H' => by cases e; exact ⟨rfl, f', H'⟩)) (by show d - 1 + 1 ≤ d; omega) (Nat.le_refl _) (Nat.le_refl _) (Nat.le_of_ble_eq_true rfl) (fun h3 e3 => ?_)
      have HR3 : Rfs h3 r R2 := HR2.fr e3.1 (by simp only [List.mem_cons, List.not_mem_nil, or_false, not_or]; omega) (by simp only [List.mem_cons, List.not_mem_nil, or_false, not_or]; omega)
      refine r_cVv [.int x.1] r (d - 1) 0 0 (fun h' => fr h3 h' [r, r + 1] ∧ Rfs h' r (R2 ++ [x.1])) d_TL_refundAll_17 q_TL_32 HR3.1 rfl rfl (c_Rf_add htr HR3 (fun _ h' f' H' => ⟨rfl, f', H'⟩) (fun e => absurd e (by omega))) (by show d - 1 + 1 ≤ d; omega) (Nat.le_refl _) (Nat.le_refl _) (Nat.le_of_ble_eq_true rfl) (fun h4 e4 => ?_)
      refine r_iincP d_TL_refundAll_20 rfl (Nat.le_of_ble_eq_true rfl) ?_
      refine r_goto 7 d_TL_refundAll_23 (by decide) ?_
      rw [nI_1]
      exact ih (i + 1) q3 (R2 ++ [x.1]) h4 (by omega) (by omega) (fr_tr (fr_tr F e3.1 (cs := [t, t + 1, t + 2, r, r + 1]) (by simp) (by simp)) e4.1 (by simp) (by simp)) (e3.2.fr e4.1 (by simp only [List.mem_cons, List.not_mem_nil, or_false, not_or]; omega) (by simp only [List.mem_cons, List.not_mem_nil, or_false, not_or]; omega) (by simp only [List.mem_cons, List.not_mem_nil, or_false, not_or]; omega)) e4.2 (by rw [List.length_append]; show R2.length + 1 + q3.length ≤ 512; omega) (by rw [← he]; simp)
  refine r_aload_n d_TL_refundAll_0 rfl ?_
  refine r_getfield d_TL_refundAll_1 f_TL_9 H.1 rfl ?_
  refine r_istore_n d_TL_refundAll_4 (Nat.le_of_ble_eq_true rfl) ?_
  refine r_iconst 0 d_TL_refundAll_5 (by decide) ?_
  refine r_ri nI_0.symm ?_
  refine r_istore_n d_TL_refundAll_6 (Nat.le_of_ble_eq_true rfl) ?_
  exact key q.length 0 q R h rfl (by omega) fr_rf H HR hcap rfl
end
section
/-! A LANE -/
abbrev sp_Q : Type := List (Int32 × Int32)
/-- the lane's own cell -/
abbrev lnO (b r r' : Nat) (m n : Nat) : ac_E := .inr (3, [.ref (b + 1), .ref (b + 2), .ref (b + 5), .ref (b + 6), .ref (b + 13), .ref (b + 14), .int (nI m), .int (nI n), .ref r, .ref r'])
/-- four bodies in an array -/
def Rws (h : ac_H) (r : Nat) (RW : Nat → sp_B) : Prop := (∃ gr, h[r]? = some (.inl (.inr (.inr (2, 4, gr)))) ∧ ∀ j, j < 4 → gr j = some (r + 1 + j)) ∧ ∀ i, i < 4 → h[r + 1 + i]? = some (bo (RW i))
theorem Rws.fr {h h' : ac_H} {r : Nat} {RW : Nat → sp_B} {as : List Nat} (H : Rws h r RW) (F : fr h h' as) (h0 : ∀ j, j < 5 → r + j ∉ as) : Rws h' r RW := by
  obtain ⟨⟨gr, g1, g2⟩, g3⟩ := H
  exact ⟨⟨gr, fr_at F (h0 0 (by omega)) g1, g2⟩, fun i hi => fr_at F (by have := h0 (i + 1) (by omega); rw [show r + 1 + i = r + (i + 1) by omega]; exact this) (g3 i hi)⟩
/-- the row is the first of them -/
def isRow (row : List sp_B) (RW : Nat → sp_B) : Prop := row.length ≤ 4 ∧ ∀ (i : Nat) (x : sp_B), row[i]? = some x → RW i = x ∧ okB x
def tk (m s : Nat) : Prop := m = 0 ∨ m = s + 1
theorem c_Lane_takesSide {l : Launch} (htr : l.stackTraces = false) {d : Nat} {h : ac_H} {Φ : ac_R → ac_H → Prop} {b r r' m n s : Nat} (hb : h[b]? = some (lnO b r r' m n)) (hm : m ≤ 3) (hs : s ≤ 1) (hΦ : Φ (.inl (some (.int (b01 (tk m s))))) h) : ac_Mt l d m_Lane_takesSide [.ref b, .int (nI s)] h 0 0 Φ := by
  refine ac_enter (by decide) rfl htr (fun _ => Nat.le_of_ble_eq_true rfl) ?_
  refine r_aload_n d_Lane_takesSide_0 rfl ?_
  refine r_getfield d_Lane_takesSide_1 f_Lane_48 hb rfl ?_
  have yes : tk m s → ac_G (l, d, m_Lane_takesSide, 0, 0, Φ, h.length, none) 17 [(0, .ref b), (1, .int (nI s))] [] h 0 0 := by
    intro ht
    refine r_iconst 1 d_Lane_takesSide_17 (by decide) ?_
    refine r_goto 22 d_Lane_takesSide_18 (by decide) ?_
    rw [b01_t ht] at hΦ
    exact r_zret d_Lane_takesSide_22 rfl (Or.inr rfl) hΦ (Nat.le_refl _) (Nat.le_refl _)
  refine r_if_eq 17 d_Lane_takesSide_4 (by decide) (fun c1 => ?_) (fun c1 => ?_)
  · exact yes (Or.inl ((nI_eq (by omega) (by omega)).mp (by rw [c1]; decide)))
  · have h0 : ¬ m = 0 := fun z => c1 (by rw [z]; decide)
    refine r_aload_n d_Lane_takesSide_7 rfl ?_
    refine r_getfield d_Lane_takesSide_8 f_Lane_48 hb rfl ?_
    refine r_iload_n d_Lane_takesSide_11 rfl ?_
    refine r_iconst 1 d_Lane_takesSide_12 (by decide) ?_
    refine r_iadd d_Lane_takesSide_13 ?_
    refine r_ri (nI_1 _) ?_
    refine r_icmp_ne 21 d_Lane_takesSide_14 (by decide) (fun c2 => ?_) (fun c2 => ?_)
    · refine r_iconst 0 d_Lane_takesSide_21 (by decide) ?_
      rw [b01_f (fun z => z.elim h0 (fun z => c2 (by rw [z])))] at hΦ
      exact r_zret d_Lane_takesSide_22 rfl (Or.inl rfl) hΦ (Nat.le_refl _) (Nat.le_refl _)
    · exact yes (Or.inr ((nI_eq (by omega) (by omega)).mp c2))
/-- some body of the row has a token -/
def owned (row : List sp_B) : Prop := ∃ x ∈ row, ¬ x.2.2.2.1 = -1
theorem c_Lane_some {l : Launch} (htr : l.stackTraces = false) {d : Nat} {h : ac_H} {Φ : ac_R → ac_H → Prop} {b r r' m : Nat} {row : List sp_B} {RW : Nat → sp_B} (hb : h[b]? = some (lnO b r r' m row.length)) (HR : Rws h r RW) (hr : isRow row RW) (hΦ : Φ (.inl (some (.int (b01 (owned row))))) h) : ac_Mt l d m_Lane_someBodyHasToken [.ref b] h 0 0 Φ := by
  obtain ⟨⟨gr, g1, g2⟩, g3⟩ := HR
  obtain ⟨r1, r2⟩ := hr
  refine ac_enter (by decide) rfl htr (fun _ => Nat.le_of_ble_eq_true rfl) ?_
  have key : ∀ (rest pre : List sp_B), row = pre ++ rest → (owned rest ↔ owned row) → ac_G (l, d, m_Lane_someBodyHasToken, 0, 0, Φ, h.length, none) 2 [(1, .int (nI pre.length)), (0, .ref b)] [] h 0 0 := by
    intro rest
    induction rest with
    | nil =>
      intro pre e ho
      have hl : pre.length = row.length := by rw [e]; simp
      refine r_iload_n d_Lane_someBodyHasToken_2 rfl ?_
      refine r_aload_n d_Lane_someBodyHasToken_3 rfl ?_
      refine r_getfield d_Lane_someBodyHasToken_4 f_Lane_52 hb rfl ?_
      refine r_icmp_ge 31 d_Lane_someBodyHasToken_7 (by decide) (fun c1 => ?_) (fun c1 => absurd (nI_le (by omega) (by omega)) c1)
      refine r_iconst 0 d_Lane_someBodyHasToken_31 (by decide) ?_
      rw [b01_f (fun z => by obtain ⟨x, hx, -⟩ := ho.mpr z; cases hx)] at hΦ
      exact r_zret d_Lane_someBodyHasToken_32 rfl (Or.inl rfl) hΦ (Nat.le_refl _) (Nat.le_refl _)
    | cons y rest ih =>
      intro pre e ho
      have hl : pre.length < row.length := by rw [e]; simp
      have hy : row[pre.length]? = some y := by rw [e, List.getElem?_append_right (Nat.le_refl _), Nat.sub_self]; rfl
      have hc := g3 pre.length (by omega)
      rw [(r2 _ _ hy).1] at hc
      refine r_iload_n d_Lane_someBodyHasToken_2 rfl ?_
      refine r_aload_n d_Lane_someBodyHasToken_3 rfl ?_
      refine r_getfield d_Lane_someBodyHasToken_4 f_Lane_52 hb rfl ?_
      refine r_icmp_ge 31 d_Lane_someBodyHasToken_7 (by decide) (fun c1 => absurd ((nI_leI (by omega) (by omega)).mp c1) (by omega)) (fun c1 => ?_)
      refine r_aload_n d_Lane_someBodyHasToken_10 rfl ?_
      refine r_getfield d_Lane_someBodyHasToken_11 f_Lane_59 hb rfl ?_
      refine r_iload_n d_Lane_someBodyHasToken_14 rfl ?_
      refine r_aaloadN d_Lane_someBodyHasToken_15 g1 rfl (by omega) (by omega) (g2 _ (by omega)) ?_
      refine r_getfield d_Lane_someBodyHasToken_16 f_Lane_115 hc rfl ?_
      refine r_iconst (-1) d_Lane_someBodyHasToken_19 (by decide) ?_
      refine r_icmp_eq 25 d_Lane_someBodyHasToken_20 (by decide) (fun c2 => ?_) (fun c2 => ?_)
      · refine r_iincP d_Lane_someBodyHasToken_25 rfl (Nat.le_of_ble_eq_true rfl) ?_
        refine r_goto 2 d_Lane_someBodyHasToken_28 (by decide) ?_
        rw [nI_1]
        have := ih (pre ++ [y]) (by rw [e]; simp) (by
          rw [← ho]
          exact ⟨fun ⟨x, hx, hz⟩ => ⟨x, List.mem_cons_of_mem _ hx, hz⟩, fun ⟨x, hx, hz⟩ => by
            rcases List.mem_cons.mp hx with q | q
            · subst q; exact absurd c2 hz
            · exact ⟨x, q, hz⟩⟩)
        rw [List.length_append] at this
        exact this
      · refine r_iconst 1 d_Lane_someBodyHasToken_23 (by decide) ?_
        rw [b01_t (ho.mp ⟨y, List.mem_cons_self, c2⟩)] at hΦ
        exact r_zret d_Lane_someBodyHasToken_24 rfl (Or.inr rfl) hΦ (Nat.le_refl _) (Nat.le_refl _)
  refine r_iconst 0 d_Lane_someBodyHasToken_0 (by decide) ?_
  refine r_ri nI_0.symm ?_
  refine r_istore_n d_Lane_someBodyHasToken_1 (Nat.le_of_ble_eq_true rfl) ?_
  exact key row [] rfl Iff.rfl
def mt (b : sp_B) (x : Nat × Nat) : Bool := decide (b.1 ≤ x.2 + 1) && decide (x.1 ≤ b.2.1 + 1)
theorem mt_iff {b : sp_B} {x : Nat × Nat} : mt b x = true ↔ meets b x := by simp [mt, meets]
/-- the side of a body that comes with the blob x -/
def sp_side (row : List sp_B) (x : Nat × Nat) : Nat := ((row.find? (fun b => mt b x)).map (fun b => b.2.2.1)).getD (if x.1 + x.2 < 9 then 0 else 1)
theorem c_Lane_sideFor {l : Launch} (htr : l.stackTraces = false) {d : Nat} {h : ac_H} {Φ : ac_R → ac_H → Prop} {b r r' m k : Nat} {row : List sp_B} {RW : Nat → sp_B} {B : List (Nat × Nat)} {x : Nat × Nat} (hd : 1 ≤ d) (hb : h[b]? = some (lnO b r r' m row.length)) (HR : Rws h r RW) (hr : isRow row RW) (HB : Bls h (b + 2) B) (hx : B[k]? = some x) (hΦ : Φ (.inl (some (.int (nI (sp_side row x))))) h) : ac_Mt l d m_Lane_sideFor [.ref b, .int (nI k)] h 0 0 Φ := by
  obtain ⟨⟨gr, g1, g2⟩, g3⟩ := HR
  obtain ⟨r1, r2⟩ := hr
  obtain ⟨a1, a2, a3, f, g, a4, a5, a6⟩ := id HB
  have hk : k < B.length := (List.getElem?_eq_some_iff.mp hx).1
  obtain ⟨x1, x2⟩ := a3 x (List.mem_of_getElem? hx)
  obtain ⟨e1, e2⟩ := a6 k x hx
  refine ac_enter (by decide) rfl htr (fun _ => Nat.le_of_ble_eq_true rfl) ?_
  have key : ∀ (rest pre : List sp_B), row = pre ++ rest → sp_side rest x = sp_side row x → ac_G (l, d, m_Lane_sideFor, 0, 0, Φ, h.length, none) 2 [(2, .int (nI pre.length)), (0, .ref b), (1, .int (nI k))] [] h 0 0 := by
    intro rest
    induction rest with
    | nil =>
      intro pre e ho
      have hl : pre.length = row.length := by rw [e]; simp
      refine r_iload_n d_Lane_sideFor_2 rfl ?_
      refine r_aload_n d_Lane_sideFor_3 rfl ?_
      refine r_getfield d_Lane_sideFor_4 f_Lane_52 hb rfl ?_
      refine r_icmp_ge 43 d_Lane_sideFor_7 (by decide) (fun c1 => ?_) (fun c1 => absurd (nI_le (by omega) (by omega)) c1)
      refine r_aload_n d_Lane_sideFor_43 rfl ?_
      refine r_getfield d_Lane_sideFor_44 f_Lane_21 hb rfl ?_
      refine r_getfield d_Lane_sideFor_47 f_Lane_141 a1 rfl ?_
      refine r_iload_n d_Lane_sideFor_50 rfl ?_
      refine r_ialoadN d_Lane_sideFor_51 a4 (by omega) (by omega) ?_
      refine r_aload_n d_Lane_sideFor_52 rfl ?_
      refine r_getfield d_Lane_sideFor_53 f_Lane_21 hb rfl ?_
      refine r_getfield d_Lane_sideFor_56 f_Lane_144 a1 rfl ?_
      refine r_iload_n d_Lane_sideFor_59 rfl ?_
      refine r_ialoadN d_Lane_sideFor_60 a5 (by omega) (by omega) ?_
      rw [e1, e2]
      refine r_iadd d_Lane_sideFor_61 ?_
      refine r_ri (nI_add _ _) ?_
      refine r_bipush 9 d_Lane_sideFor_62 (by decide) ?_
      refine r_ri nI9 ?_
      have ho2 : sp_side row x = if x.1 + x.2 < 9 then 0 else 1 := ho.symm
      rw [ho2] at hΦ
      refine r_icmp_ge 71 d_Lane_sideFor_64 (by decide) (fun c2 => ?_) (fun c2 => ?_)
      · refine r_iconst 1 d_Lane_sideFor_71 (by decide) ?_
        rw [if_neg (by have := (nI_leI (by omega) (by omega)).mp c2; omega)] at hΦ
        exact r_iret d_Lane_sideFor_72 rfl hΦ (Nat.le_refl _) (Nat.le_refl _)
      · refine r_iconst 0 d_Lane_sideFor_67 (by decide) ?_
        refine r_goto 72 d_Lane_sideFor_68 (by decide) ?_
        rw [if_pos (lt_of_nle (by omega) c2 (by omega))] at hΦ
        exact r_iret d_Lane_sideFor_72 rfl hΦ (Nat.le_refl _) (Nat.le_refl _)
    | cons y rest ih =>
      intro pre e ho
      have hl : pre.length < row.length := by rw [e]; simp
      have hy : row[pre.length]? = some y := by rw [e, List.getElem?_append_right (Nat.le_refl _), Nat.sub_self]; rfl
      have hc := g3 pre.length (by omega)
      rw [(r2 _ _ hy).1] at hc
      refine r_iload_n d_Lane_sideFor_2 rfl ?_
      refine r_aload_n d_Lane_sideFor_3 rfl ?_
      refine r_getfield d_Lane_sideFor_4 f_Lane_52 hb rfl ?_
      refine r_icmp_ge 43 d_Lane_sideFor_7 (by decide) (fun c1 => absurd ((nI_leI (by omega) (by omega)).mp c1) (by omega)) (fun c1 => ?_)
      refine r_aload_n d_Lane_sideFor_10 rfl ?_
      refine r_getfield d_Lane_sideFor_11 f_Lane_21 hb rfl ?_
      refine r_aload_n d_Lane_sideFor_14 rfl ?_
      refine r_getfield d_Lane_sideFor_15 f_Lane_59 hb rfl ?_
      refine r_iload_n d_Lane_sideFor_18 rfl ?_
      refine r_aaloadN d_Lane_sideFor_19 g1 rfl (by omega) (by omega) (g2 _ (by omega)) ?_
      refine r_iload_n d_Lane_sideFor_20 rfl ?_
      refine r_cVi [.ref (r + 1 + pre.length), .int (nI k)] (b + 2) (d - 1) 0 0 (b01 (meets y x)) (fun h' => h' = h) d_Lane_sideFor_21 q_Lane_164 a1 rfl rfl (c_Blobs_isMetBy htr HB hc (r2 _ _ hy).2 hx ⟨rfl, rfl⟩) (by show d - 1 + 1 ≤ d; omega) (Nat.le_refl _) (Nat.le_refl _) (Nat.le_of_ble_eq_true rfl) (fun h' e9 => ?_)
      subst e9
      refine r_if_eq 37 d_Lane_sideFor_24 (by decide) (fun c2 => ?_) (fun c2 => ?_)
      · have hm := b01_0.mp c2
        refine r_iincP d_Lane_sideFor_37 rfl (Nat.le_of_ble_eq_true rfl) ?_
        refine r_goto 2 d_Lane_sideFor_40 (by decide) ?_
        rw [nI_1]
        have := ih (pre ++ [y]) (by rw [e]; simp) (by
          rw [← ho]; unfold sp_side
          rw [List.find?_cons_of_neg (p := fun b => mt b x) (a := y) (fun z => hm (mt_iff.mp z))])
        rw [List.length_append] at this
        exact this
      · have hm : meets y x := Classical.byContradiction fun z => c2 (b01_f z)
        refine r_aload_n d_Lane_sideFor_27 rfl ?_
        refine r_getfield d_Lane_sideFor_28 f_Lane_59 hb rfl ?_
        refine r_iload_n d_Lane_sideFor_31 rfl ?_
        refine r_aaloadN d_Lane_sideFor_32 g1 rfl (by omega) (by omega) (g2 _ (by omega)) ?_
        refine r_getfield d_Lane_sideFor_33 f_Lane_168 hc rfl ?_
        have ho2 : sp_side row x = y.2.2.1 := by
          rw [← ho]; unfold sp_side
          rw [List.find?_cons_of_pos (p := fun b => mt b x) (a := y) (mt_iff.mpr hm)]; rfl
        rw [ho2] at hΦ
        exact r_iret d_Lane_sideFor_36 rfl hΦ (Nat.le_refl _) (Nat.le_refl _)
  refine r_iconst 0 d_Lane_sideFor_0 (by decide) ?_
  refine r_ri nI_0.symm ?_
  refine r_istore_n d_Lane_sideFor_1 (Nat.le_of_ble_eq_true rfl) ?_
  exact key row [] rfl rfl
/-- where each body goes: a blob, or none -/
def gI : Option Nat → Int32
  | some k => nI k
  | none => -1
def isG (G : List (Option Nat)) (gl : Nat → Int32) : Prop := ∀ (i : Nat) (o : Option Nat), G[i]? = some o → gl i = gI o ∧ ∀ k, o = some k → k < 4
theorem gI_eq {o : Option Nat} {k : Nat} (ho : ∀ j, o = some j → j < 4) (hk : k < 4) : gI o = nI k ↔ o = some k := by
  cases o with
  | none => exact ⟨fun z => absurd z (by
      rcases (show k = 0 ∨ k = 1 ∨ k = 2 ∨ k = 3 by omega) with q | q | q | q <;> rw [q] <;> decide), fun z => by cases z⟩
  | some j => exact ⟨fun z => by rw [(nI_eq (by have := ho j rfl; omega) (by omega)).mp z], fun z => by cases z; rfl⟩
theorem c_Lane_sharersOf {l : Launch} (htr : l.stackTraces = false) {d : Nat} {h : ac_H} {Φ : ac_R → ac_H → Prop} {b r r' m k n : Nat} {G : List (Option Nat)} {gl : Nat → Int32} (hb : h[b]? = some (lnO b r r' m G.length)) (hg : h[b + 14]? = some (.inl (.inl (4, gl)))) (hG : isG G gl) (hn : G.length ≤ 4) (hk : k < 4) (hΦ : Φ (.inl (some (.int (nI (G.count (some k)))))) h) : ac_Mt l d m_Lane_sharersOf [.ref b, .int (nI k)] h 0 0 Φ := by
  refine ac_enter (by decide) rfl htr (fun _ => Nat.le_of_ble_eq_true rfl) ?_
  have key : ∀ (rest pre : List (Option Nat)), G = pre ++ rest → ac_G (l, d, m_Lane_sharersOf, 0, 0, Φ, h.length, none) 4 [(3, .int (nI pre.length)), (2, .int (nI (pre.count (some k)))), (0, .ref b), (1, .int (nI k))] [] h 0 0 := by
    intro rest
    induction rest with
    | nil =>
      intro pre e
      have hl : pre.length = G.length := by rw [e]; simp
      refine r_iload_n d_Lane_sharersOf_4 rfl ?_
      refine r_aload_n d_Lane_sharersOf_5 rfl ?_
      refine r_getfield d_Lane_sharersOf_6 f_Lane_52 hb rfl ?_
      refine r_icmp_ge 31 d_Lane_sharersOf_9 (by decide) (fun c1 => ?_) (fun c1 => absurd (nI_le (by omega) (by omega)) c1)
      refine r_iload_n d_Lane_sharersOf_31 rfl ?_
      rw [e, List.append_nil] at hΦ
      exact r_iret d_Lane_sharersOf_32 rfl hΦ (Nat.le_refl _) (Nat.le_refl _)
    | cons o rest ih =>
      intro pre e
      have hl : pre.length < G.length := by rw [e]; simp
      have ho : G[pre.length]? = some o := by rw [e, List.getElem?_append_right (Nat.le_refl _), Nat.sub_self]; rfl
      obtain ⟨o1, o2⟩ := hG _ _ ho
      have go : (pre ++ [o]).length = pre.length + 1 := by rw [List.length_append]; rfl
      have := ih (pre ++ [o]) (by rw [e]; simp)
      rw [go] at this
      refine r_iload_n d_Lane_sharersOf_4 rfl ?_
      refine r_aload_n d_Lane_sharersOf_5 rfl ?_
      refine r_getfield d_Lane_sharersOf_6 f_Lane_52 hb rfl ?_
      refine r_icmp_ge 31 d_Lane_sharersOf_9 (by decide) (fun c1 => absurd ((nI_leI (by omega) (by omega)).mp c1) (by omega)) (fun c1 => ?_)
      refine r_aload_n d_Lane_sharersOf_12 rfl ?_
      refine r_getfield d_Lane_sharersOf_13 f_Lane_45 hb rfl ?_
      refine r_iload_n d_Lane_sharersOf_16 rfl ?_
      refine r_ialoadN d_Lane_sharersOf_17 hg (by omega) (by omega) ?_
      refine r_iload_n d_Lane_sharersOf_18 rfl ?_
      rw [o1]
      refine r_icmp_ne 25 d_Lane_sharersOf_19 (by decide) (fun c2 => ?_) (fun c2 => ?_)
      · have hne : ¬ o = some k := fun z => c2 ((gI_eq o2 hk).mpr z)
        refine r_iincP d_Lane_sharersOf_25 rfl (Nat.le_of_ble_eq_true rfl) ?_
        refine r_goto 4 d_Lane_sharersOf_28 (by decide) ?_
        rw [nI_1]
        have e9 : (pre ++ [o]).count (some k) = pre.count (some k) := by
          rw [List.count_append, List.count_singleton]
          simp [hne]
        rw [e9] at this
        exact this
      · have he : o = some k := (gI_eq o2 hk).mp c2
        refine r_iincP d_Lane_sharersOf_22 rfl (Nat.le_of_ble_eq_true rfl) ?_
        refine r_iincP d_Lane_sharersOf_25 rfl (Nat.le_of_ble_eq_true rfl) ?_
        refine r_goto 4 d_Lane_sharersOf_28 (by decide) ?_
        rw [nI_1, nI_1]
        have e9 : (pre ++ [o]).count (some k) = pre.count (some k) + 1 := by
          rw [List.count_append, List.count_singleton]
          simp [he]
        rw [e9] at this
        exact r_loc _ (fun q hq => by simp at hq; rcases hq with q | q | q | q <;> subst q <;> rfl) this
  refine r_iconst 0 d_Lane_sharersOf_0 (by decide) ?_
  refine r_ri nI_0.symm ?_
  refine r_istore_n d_Lane_sharersOf_1 (Nat.le_of_ble_eq_true rfl) ?_
  refine r_iconst 0 d_Lane_sharersOf_2 (by decide) ?_
  refine r_ri nI_0.symm ?_
  refine r_istore_n d_Lane_sharersOf_3 (Nat.le_of_ble_eq_true rfl) ?_
  exact key G [] rfl
end
section
/-! WHO LEAVES -/
def sp_inc (c : Nat → Int32) (k : Nat) : Nat → Int32 := upd c k (c k + 1)
noncomputable def sp_cnt (b : sp_B) (c : Nat → Int32) : Nat → Int32 := @ite _ (thru b) (Classical.propDecidable _) (if 6 ≤ b.2.2.2.2 then sp_inc (sp_inc c (if b.2.2.2.1 = -1 then 1 else 0)) 4 else sp_inc c (if b.2.2.2.1 = -1 then 1 else 0)) (sp_inc c (@ite _ (turnd b) (Classical.propDecidable _) 2 3))
noncomputable def sp_rf (b : sp_B) : List Int32 := @ite _ (thru b ∨ b.2.2.2.1 = -1) (Classical.propDecidable _) [] [b.2.2.2.1]
theorem c_Lane_countLeaver {l : Launch} (htr : l.stackTraces = false) {d : Nat} {h : ac_H} {Φ : ac_R → ac_H → Prop} {b r r' m n w rr : Nat} {x : sp_B} {c : Nat → Int32} {R : List Int32} (hd : 2 ≤ d) (hb : h[b]? = some (lnO b r r' m n)) (hw : h[w]? = some (bo x)) (ok : okB x) (hc : h[b + 13]? = some (.inl (.inl (5, c)))) (HR : Rfs h rr R) (hcap : ¬ x.2.2.2.1 = -1 → R.length < 512) (hwb : w ≠ b + 13) (hrr : b + 24 < rr) (hwr : w < rr)
    (hΦ : ∀ h', fr h h' [b + 13, rr, rr + 1] → h'[b + 13]? = some (.inl (.inl (5, sp_cnt x c))) → Rfs h' rr (R ++ sp_rf x) → Φ (.inl none) h') : ac_Mt l d m_Lane_countLeaver [.ref b, .ref w, .ref rr] h 0 0 Φ := by
  have o4 := ok.2.2.2.1
  refine ac_enter (by decide) rfl htr (fun _ => Nat.le_of_ble_eq_true rfl) ?_
  have main : ∀ t : Int32, (t = 0 ↔ x.2.2.2.1 = -1) → ac_G (l, d, m_Lane_countLeaver, 0, 0, Φ, h.length, none) 14 [(3, .int t), (0, .ref b), (1, .ref w), (2, .ref rr)] [] h 0 0 := by
    intro t ht
    refine r_aload_n d_Lane_countLeaver_14 rfl ?_
    refine r_cVi [] w (d - 1) 0 0 (b01 (thru x)) (fun h' => h = h') d_Lane_countLeaver_15 q_Lane_118 hw rfl rfl (c_Body_isThrough htr (by omega) hw ok ⟨rfl, rfl⟩) (by show d - 1 + 1 ≤ d; omega) (Nat.le_refl _) (Nat.le_refl _) (Nat.le_of_ble_eq_true rfl) (fun h' e9 => ?_)
    subst e9
    refine r_if_eq 59 d_Lane_countLeaver_18 (by decide) (fun c1 => ?_) (fun c1 => ?_)
    · have hnt := b01_0.mp c1
      refine r_aload_n d_Lane_countLeaver_59 rfl ?_
      refine r_getfield d_Lane_countLeaver_60 f_Lane_41 hb rfl ?_
      refine r_aload_n d_Lane_countLeaver_63 rfl ?_
      refine r_cVi [] w (d - 1) 0 0 (b01 (turnd x)) (fun h' => h = h') d_Lane_countLeaver_64 q_Lane_124 hw rfl rfl (c_Body_isTurned htr (by omega) hw ok ⟨rfl, rfl⟩) (by show d - 1 + 1 ≤ d; omega) (Nat.le_refl _) (Nat.le_refl _) (Nat.le_of_ble_eq_true rfl) (fun h' e9 => ?_)
      subst e9
      have go : ∀ kd : Nat, kd < 5 → sp_cnt x c = sp_inc c kd → ac_G (l, d, m_Lane_countLeaver, 0, 0, Φ, h.length, none) 75 [(3, .int t), (0, .ref b), (1, .ref w), (2, .ref rr)] [.int (nI kd), .ref (b + 13)] h 0 0 := by
        intro kd hkd he
        refine r_dup2 d_Lane_countLeaver_75 rfl rfl ?_
        refine r_ialoadN d_Lane_countLeaver_76 hc hkd (by omega) ?_
        refine r_iconst 1 d_Lane_countLeaver_77 (by decide) ?_
        refine r_iadd d_Lane_countLeaver_78 ?_
        refine r_iastoreN d_Lane_countLeaver_79 hc hkd (by omega) (fun h79_ fr79 g79 => ?_)
        refine r_iload_n d_Lane_countLeaver_80 rfl ?_
        have hRf : ∀ (h2 : ac_H), fr h h2 [b + 13] → h2[b + 13]? = some (.inl (.inl (5, sp_cnt x c))) → ¬ x.2.2.2.1 = -1 → ac_G (l, d, m_Lane_countLeaver, 0, 0, Φ, h.length, none) 84 [(3, .int t), (0, .ref b), (1, .ref w), (2, .ref rr)] [] h2 0 0 := by
          intro h2 F2 G2 hne
          have hw2 := fr_at F2 (b := w) (by simp [hwb]) hw
          have HR2 : Rfs h2 rr R := HR.fr F2 (by simp only [List.mem_cons, List.not_mem_nil, or_false, not_or]; omega) (by simp only [List.mem_cons, List.not_mem_nil, or_false, not_or]; omega)
          have hcap9 := hcap hne
          refine r_aload_n d_Lane_countLeaver_84 rfl ?_
          refine r_aload_n d_Lane_countLeaver_85 rfl ?_
          refine r_getfield d_Lane_countLeaver_86 f_Lane_115 hw2 rfl ?_
          refine r_cVv [.int x.2.2.2.1] rr (d - 1) 0 0 (fun h' => fr h2 h' [rr, rr + 1] ∧ Rfs h' rr (R ++ [x.2.2.2.1])) d_Lane_countLeaver_89 q_Lane_127 HR2.1 rfl rfl (c_Rf_add htr HR2 (fun _ h' f' H' => ⟨rfl, f', H'⟩) (fun e => absurd e (by omega))) (by show d - 1 + 1 ≤ d; omega) (Nat.le_refl _) (Nat.le_refl _) (Nat.le_of_ble_eq_true rfl) (fun h4 e4 => ?_)
          refine r_vret d_Lane_countLeaver_92 rfl (hΦ _ (fr_tr F2 e4.1 (by simp) (by simp)) (fr_at e4.1 (by simp only [List.mem_cons, List.not_mem_nil, or_false, not_or]; omega) G2) ?_) (Nat.le_refl _) (Nat.le_refl _)
          have e5 : sp_rf x = [x.2.2.2.1] := if_neg (fun z => z.elim hnt hne)
          rw [e5]; exact e4.2
        refine r_if_eq 92 d_Lane_countLeaver_81 (by decide) (fun c2 => ?_) (fun c2 => ?_)
        · refine r_vret d_Lane_countLeaver_92 rfl (hΦ _ (fr_mo fr79 (by simp)) (by rw [he]; exact g79) ?_) (Nat.le_refl _) (Nat.le_refl _)
          have e5 : sp_rf x = [] := if_pos (Or.inr (ht.mp c2))
          rw [e5, List.append_nil]
          exact HR.fr fr79 (by simp only [List.mem_cons, List.not_mem_nil, or_false, not_or]; omega) (by simp only [List.mem_cons, List.not_mem_nil, or_false, not_or]; omega)
        · exact hRf _ fr79 (by rw [he]; exact g79) (fun z => c2 (ht.mpr z))
      refine r_if_eq 74 d_Lane_countLeaver_67 (by decide) (fun c2 => ?_) (fun c2 => ?_)
      · refine r_iconst 3 d_Lane_countLeaver_74 (by decide) ?_
        refine r_ri nI3 ?_
        exact go 3 (by omega) (by unfold sp_cnt; rw [if_neg hnt, if_neg (b01_0.mp c2)])
      · refine r_iconst 2 d_Lane_countLeaver_70 (by decide) ?_
        refine r_goto 75 d_Lane_countLeaver_71 (by decide) ?_
        refine r_ri nI2 ?_
        exact go 2 (by omega) (by unfold sp_cnt; rw [if_neg hnt, if_pos (Classical.byContradiction fun z => c2 (b01_f z))])
    · have hth : thru x := Classical.byContradiction fun z => c1 (b01_f z)
      have e5 : sp_rf x = [] := if_pos (Or.inl hth)
      refine r_aload_n d_Lane_countLeaver_21 rfl ?_
      refine r_getfield d_Lane_countLeaver_22 f_Lane_41 hb rfl ?_
      refine r_iload_n d_Lane_countLeaver_25 rfl ?_
      have go : ∀ kd : Nat, kd < 5 → (if x.2.2.2.1 = -1 then 1 else 0) = kd → ac_G (l, d, m_Lane_countLeaver, 0, 0, Φ, h.length, none) 34 [(3, .int t), (0, .ref b), (1, .ref w), (2, .ref rr)] [.int (nI kd), .ref (b + 13)] h 0 0 := by
        intro kd hkd he
        refine r_dup2 d_Lane_countLeaver_34 rfl rfl ?_
        refine r_ialoadN d_Lane_countLeaver_35 hc hkd (by omega) ?_
        refine r_iconst 1 d_Lane_countLeaver_36 (by decide) ?_
        refine r_iadd d_Lane_countLeaver_37 ?_
        refine r_iastoreN d_Lane_countLeaver_38 hc hkd (by omega) (fun h38_ fr38 g38 => ?_)
        have hw2 := fr_at fr38 (b := w) (by simp [hwb]) hw
        have hb2 := fr_at fr38 (b := b) (by simp only [List.mem_cons, List.not_mem_nil, or_false, not_or]; omega) hb
        refine r_aload_n d_Lane_countLeaver_39 rfl ?_
        refine r_getfield d_Lane_countLeaver_40 f_Lane_121 hw2 rfl ?_
        refine r_bipush 6 d_Lane_countLeaver_43 (by decide) ?_
        refine r_ri nI6 ?_
        refine r_icmp_lt 58 d_Lane_countLeaver_45 (by decide) (fun c2 => ?_) (fun c2 => ?_)
        · have h6 := (nI_ltI (by omega) (by omega)).mp c2
          refine r_vret d_Lane_countLeaver_58 rfl (hΦ _ (fr_mo fr38 (by simp)) ?_ ?_) (Nat.le_refl _) (Nat.le_refl _)
          · have : sp_cnt x c = sp_inc c kd := by unfold sp_cnt; rw [if_pos hth, if_neg (by omega), he]
            rw [this]; exact g38
          · rw [e5, List.append_nil]; exact HR.fr fr38 (by simp only [List.mem_cons, List.not_mem_nil, or_false, not_or]; omega) (by simp only [List.mem_cons, List.not_mem_nil, or_false, not_or]; omega)
        · have h6 : ¬ x.2.2.2.2 < 6 := fun z => c2 ((nI_ltI (by omega) (by omega)).mpr z)
          refine r_aload_n d_Lane_countLeaver_48 rfl ?_
          refine r_getfield d_Lane_countLeaver_49 f_Lane_41 hb2 rfl ?_
          refine r_iconst 4 d_Lane_countLeaver_52 (by decide) ?_
          refine r_ri nI4 ?_
          refine r_dup2 d_Lane_countLeaver_53 rfl rfl ?_
          refine r_ialoadN d_Lane_countLeaver_54 g38 (by omega) (by omega) ?_
          refine r_iconst 1 d_Lane_countLeaver_55 (by decide) ?_
          refine r_iadd d_Lane_countLeaver_56 ?_
          refine r_iastoreN d_Lane_countLeaver_57 g38 (by omega) (by omega) (fun h57_ fr57 g57 => ?_)
          refine r_vret d_Lane_countLeaver_58 rfl (hΦ _ (fr_tr fr38 fr57 (by simp) (by simp)) ?_ ?_) (Nat.le_refl _) (Nat.le_refl _)
          · have : sp_cnt x c = sp_inc (sp_inc c kd) 4 := by unfold sp_cnt; rw [if_pos hth, if_pos (by omega), he]
            rw [this]; exact g57
          · rw [e5, List.append_nil]; exact (HR.fr fr38 (by simp only [List.mem_cons, List.not_mem_nil, or_false, not_or]; omega) (by simp only [List.mem_cons, List.not_mem_nil, or_false, not_or]; omega)).fr fr57 (by simp only [List.mem_cons, List.not_mem_nil, or_false, not_or]; omega) (by simp only [List.mem_cons, List.not_mem_nil, or_false, not_or]; omega)
      refine r_if_eq 33 d_Lane_countLeaver_26 (by decide) (fun c2 => ?_) (fun c2 => ?_)
      · refine r_iconst 1 d_Lane_countLeaver_33 (by decide) ?_
        refine r_ri nI1 ?_
        exact go 1 (by omega) (by rw [if_pos (ht.mp c2)])
      · refine r_iconst 0 d_Lane_countLeaver_29 (by decide) ?_
        refine r_goto 34 d_Lane_countLeaver_30 (by decide) ?_
        refine r_ri nI_0.symm ?_
        exact go 0 (by omega) (by rw [if_neg (fun z => c2 (ht.mpr z))])
  refine r_aload_n d_Lane_countLeaver_0 rfl ?_
  refine r_getfield d_Lane_countLeaver_1 f_Lane_115 hw rfl ?_
  refine r_iconst (-1) d_Lane_countLeaver_4 (by decide) ?_
  refine r_icmp_eq 12 d_Lane_countLeaver_5 (by decide) (fun c1 => ?_) (fun c1 => ?_)
  · refine r_iconst 0 d_Lane_countLeaver_12 (by decide) ?_
    refine r_istore_n d_Lane_countLeaver_13 (Nat.le_of_ble_eq_true rfl) ?_
    exact main 0 ⟨fun _ => c1, fun _ => rfl⟩
  · refine r_iconst 1 d_Lane_countLeaver_8 (by decide) ?_
    refine r_goto 13 d_Lane_countLeaver_9 (by decide) ?_
    refine r_istore_n d_Lane_countLeaver_13 (Nat.le_of_ble_eq_true rfl) ?_
    exact main 1 ⟨fun z => absurd z (by decide), fun z => absurd z c1⟩
def sp_goal (B : List (Nat × Nat)) (b : sp_B) : Option Nat := B.findIdx? (fun x => mt b x)
theorem goal_some {B : List (Nat × Nat)} {b : sp_B} {k : Nat} (hk : k < B.length) (h : goesTo B b k) : sp_goal B b = some k := by
  obtain ⟨⟨x, hx, hm⟩, hn⟩ := h
  refine List.findIdx?_eq_some_iff_getElem.mpr ⟨hk, ?_, fun j hj => ?_⟩
  · rw [List.getElem?_eq_getElem hk] at hx
    cases hx
    exact mt_iff.mpr hm
  · intro z
    exact hn j hj _ (List.getElem?_eq_getElem (by omega)) (mt_iff.mp z)
theorem goal_none {B : List (Nat × Nat)} {b : sp_B} (h : lost9 B b) : sp_goal B b = none := List.findIdx?_eq_none_iff.mpr fun x hx => by
  cases hm : mt b x with
  | false => rfl
  | true => exact absurd (mt_iff.mp hm) (h x hx)
theorem goal_lt {B : List (Nat × Nat)} {b : sp_B} {k : Nat} (h : sp_goal B b = some k) : k < B.length := (List.findIdx?_eq_some_iff_getElem.mp h).1
theorem gI_m1 {o : Option Nat} (ho : ∀ j, o = some j → j < 4) : gI o = -1 ↔ o = none := by
  cases o with
  | none => exact ⟨fun _ => rfl, fun _ => rfl⟩
  | some k =>
    have := ho k rfl
    refine ⟨fun z => ?_, fun z => by cases z⟩
    have z2 : nI k = -1 := z
    rcases (show k = 0 ∨ k = 1 ∨ k = 2 ∨ k = 3 by omega) with q | q | q | q <;> rw [q] at z2 <;> exact absurd z2 (by decide)
def sp_gone (B : List (Nat × Nat)) (row : List sp_B) : List sp_B := row.filter (fun b => (sp_goal B b).isNone)
noncomputable def sp_cnts (bs : List sp_B) (c : Nat → Int32) : Nat → Int32 := bs.foldl (fun c b => sp_cnt b c) c
theorem sp_rf_le (b : sp_B) : (sp_rf b).length ≤ 1 := by
  unfold sp_rf
  by_cases h : thru b ∨ b.2.2.2.1 = -1
  · rw [if_pos h]; exact Nat.zero_le 1
  · rw [if_neg h]; exact Nat.le_refl 1
/-- how many have a token -/
def ownN (row : List sp_B) : Nat := row.countP (fun b => !decide (b.2.2.2.1 = -1))
theorem ownN_c (b : sp_B) (bs : List sp_B) : ownN (b :: bs) = ownN bs + (if b.2.2.2.1 = -1 then 0 else 1) := by
  unfold ownN
  rw [List.countP_cons]
  by_cases c : b.2.2.2.1 = -1 <;> simp [c]
theorem ownN_a (a b : List sp_B) : ownN (a ++ b) = ownN a + ownN b := List.countP_append
theorem ownN_f (p : sp_B → Bool) (a : List sp_B) : ownN (a.filter p) ≤ ownN a := List.Sublist.countP_le List.filter_sublist
theorem ownN_le (a : List sp_B) : ownN a ≤ a.length := List.countP_le_length
theorem sp_rf_le2 (b : sp_B) : (sp_rf b).length ≤ (if b.2.2.2.1 = -1 then 0 else 1) := by
  unfold sp_rf
  by_cases h : b.2.2.2.1 = -1
  · rw [if_pos (Or.inr h), if_pos h]; exact Nat.le_refl 0
  · rw [if_neg h]
    by_cases h2 : thru b
    · rw [if_pos (Or.inl h2)]; exact Nat.zero_le 1
    · rw [if_neg (fun z => z.elim h2 h)]; exact Nat.le_refl 1
theorem sp_rfs_le : ∀ bs : List sp_B, (bs.flatMap sp_rf).length ≤ ownN bs
  | [] => Nat.le_refl 0
  | b :: bs => by
    rw [List.flatMap_cons, List.length_append, ownN_c]
    have h1 := sp_rf_le2 b
    have h2 := sp_rfs_le bs
    omega
theorem isG_put {G : List (Option Nat)} {gl : Nat → Int32} {o : Option Nat} (h : isG G gl) (ho : ∀ k, o = some k → k < 4) : isG (G ++ [o]) (upd gl G.length (gI o)) := by
  intro i x hx
  unfold upd
  by_cases hi : i < G.length
  · rw [List.getElem?_append_left hi] at hx
    rw [if_neg (by omega)]; exact h i x hx
  · rw [List.getElem?_append_right (by omega)] at hx
    have h1 : i - G.length < 1 := (List.getElem?_eq_some_iff.mp hx).1
    have e : i = G.length := by omega
    subst e
    rw [Nat.sub_self] at hx
    cases hx
    rw [if_pos rfl]; exact ⟨rfl, ho⟩
theorem c_Lane_sendBodies {l : Launch} (htr : l.stackTraces = false) {d : Nat} {h : ac_H} {Φ : ac_R → ac_H → Prop} {b r r' m rr : Nat} {row : List sp_B} {RW : Nat → sp_B} {B : List (Nat × Nat)} {gl c : Nat → Int32} {R : List Int32} (hd : 3 ≤ d) (hb : h[b]? = some (lnO b r r' m row.length)) (HW : Rws h r RW) (hrow : isRow row RW) (HB : Bls h (b + 2) B) (hg : h[b + 14]? = some (.inl (.inl (4, gl)))) (hc : h[b + 13]? = some (.inl (.inl (5, c)))) (HR : Rfs h rr R) (hcap : R.length + ownN row ≤ 512) (hr : r = b + 15 ∨ r = b + 20) (hrr : b + 24 < rr)
    (hΦ : ∀ h' gl', fr h h' [b + 13, b + 14, rr, rr + 1] → h'[b + 14]? = some (.inl (.inl (4, gl'))) → isG (row.map (sp_goal B)) gl' → h'[b + 13]? = some (.inl (.inl (5, sp_cnts (sp_gone B row) c))) → Rfs h' rr (R ++ (sp_gone B row).flatMap sp_rf) → Φ (.inl (some (.int (nI (sp_gone B row).length)))) h') : ac_Mt l d m_Lane_sendBodies [.ref b, .ref rr] h 0 0 Φ := by
  obtain ⟨⟨gr, g1, g2⟩, g3⟩ := id HW
  obtain ⟨r1, r2⟩ := hrow
  have hB4 := HB.2.1
  refine ac_enter (by decide) rfl htr (fun _ => Nat.le_of_ble_eq_true rfl) ?_
  have key : ∀ (rest pre : List sp_B) (h2 : ac_H) (gl2 : Nat → Int32), row = pre ++ rest → fr h h2 [b + 13, b + 14, rr, rr + 1] → h2[b + 14]? = some (.inl (.inl (4, gl2))) → isG (pre.map (sp_goal B)) gl2 → h2[b + 13]? = some (.inl (.inl (5, sp_cnts (sp_gone B pre) c))) → Rfs h2 rr (R ++ (sp_gone B pre).flatMap sp_rf) → ac_G (l, d, m_Lane_sendBodies, 0, 0, Φ, h.length, none) 4 [(3, .int (nI pre.length)), (2, .int (nI (sp_gone B pre).length)), (0, .ref b), (1, .ref rr)] [] h2 0 0 := by
    intro rest
    induction rest with
    | nil =>
      intro pre h2 gl2 e F k1 k2 k3 k4
      rw [List.append_nil] at e
      subst e
      have hb2 := fr_at F (b := b) (by simp only [List.mem_cons, List.not_mem_nil, or_false, not_or]; omega) hb
      refine r_iload_n d_Lane_sendBodies_4 rfl ?_
      refine r_aload_n d_Lane_sendBodies_5 rfl ?_
      refine r_getfield d_Lane_sendBodies_6 f_Lane_52 hb2 rfl ?_
      refine r_icmp_ge 61 d_Lane_sendBodies_9 (by decide) (fun c1 => ?_) (fun c1 => absurd (nI_le (Nat.le_refl _) (by omega)) c1)
      refine r_iload_n d_Lane_sendBodies_61 rfl ?_
      exact r_iret d_Lane_sendBodies_62 rfl (hΦ _ _ F k1 k2 k3 k4) (Nat.le_refl _) (Nat.le_refl _)
    | cons y rest ih =>
      intro pre h2 gl2 e F k1 k2 k3 k4
      have hl : pre.length < row.length := by rw [e]; simp
      have hy : row[pre.length]? = some y := by rw [e, List.getElem?_append_right (Nat.le_refl _), Nat.sub_self]; rfl
      have oky := (r2 _ _ hy).2
      have hb2 := fr_at F (b := b) (by simp only [List.mem_cons, List.not_mem_nil, or_false, not_or]; omega) hb
      have hrow2 := fr_at F (b := r) (by simp only [List.mem_cons, List.not_mem_nil, or_false, not_or]; omega) g1
      have hc2 := fr_at F (b := r + 1 + pre.length) (by simp only [List.mem_cons, List.not_mem_nil, or_false, not_or]; omega) (g3 pre.length (by omega))
      rw [(r2 _ _ hy).1] at hc2
      have HB2 : Bls h2 (b + 2) B := HB.fr F (by simp only [List.mem_cons, List.not_mem_nil, or_false, not_or]; omega) (by simp only [List.mem_cons, List.not_mem_nil, or_false, not_or]; omega) (by simp only [List.mem_cons, List.not_mem_nil, or_false, not_or]; omega)
      have hgl : ∀ k, sp_goal B y = some k → k < 4 := fun k hk => by have := goal_lt hk; omega
      refine r_iload_n d_Lane_sendBodies_4 rfl ?_
      refine r_aload_n d_Lane_sendBodies_5 rfl ?_
      refine r_getfield d_Lane_sendBodies_6 f_Lane_52 hb2 rfl ?_
      refine r_icmp_ge 61 d_Lane_sendBodies_9 (by decide) (fun c1 => absurd ((nI_leI (by omega) (by omega)).mp c1) (by omega)) (fun c1 => ?_)
      refine r_aload_n d_Lane_sendBodies_12 rfl ?_
      refine r_getfield d_Lane_sendBodies_13 f_Lane_45 hb2 rfl ?_
      refine r_iload_n d_Lane_sendBodies_16 rfl ?_
      refine r_aload_n d_Lane_sendBodies_17 rfl ?_
      refine r_getfield d_Lane_sendBodies_18 f_Lane_21 hb2 rfl ?_
      refine r_aload_n d_Lane_sendBodies_21 rfl ?_
      refine r_getfield d_Lane_sendBodies_22 f_Lane_59 hb2 rfl ?_
      refine r_iload_n d_Lane_sendBodies_25 rfl ?_
      refine r_aaloadN d_Lane_sendBodies_26 hrow2 rfl (by omega) (by omega) (g2 _ (by omega)) ?_
      refine r_cVi [.ref (r + 1 + pre.length)] (b + 2) (d - 1) 0 0 (gI (sp_goal B y)) (fun h' => h2 = h') d_Lane_sendBodies_27 q_Lane_107 HB2.1 rfl rfl (c_Blobs_firstMetBy htr (by omega) HB2 hc2 oky (fun z => ⟨by rw [goal_none z]; rfl, rfl⟩) (fun k hk z => ⟨by rw [goal_some hk z]; rfl, rfl⟩)) (by show d - 1 + 1 ≤ d; omega) (Nat.le_refl _) (Nat.le_refl _) (Nat.le_of_ble_eq_true rfl) (fun h' e9 => ?_)
      subst e9
      refine r_iastoreN d_Lane_sendBodies_30 k1 (by omega) (by omega) (fun h30_ fr30 g30 => ?_)
      have p0 := fr_at fr30 (b := b) (by simp only [List.mem_cons, List.not_mem_nil, or_false, not_or]; omega) hb2
      refine r_aload_n d_Lane_sendBodies_31 rfl ?_
      refine r_getfield d_Lane_sendBodies_32 f_Lane_45 p0 rfl ?_
      refine r_iload_n d_Lane_sendBodies_35 rfl ?_
      refine r_ialoadN d_Lane_sendBodies_36 g30 (by omega) (by omega) ?_
      refine r_iconst (-1) d_Lane_sendBodies_37 (by decide) ?_
      have eu : upd gl2 pre.length (gI (sp_goal B y)) pre.length = gI (sp_goal B y) := if_pos rfl
      rw [eu]
      have hG2 : isG ((pre ++ [y]).map (sp_goal B)) (upd gl2 pre.length (gI (sp_goal B y))) := by
        rw [List.map_append]
        have := isG_put k2 hgl
        rw [List.length_map] at this
        exact this
      have F2 : fr h h30_ [b + 13, b + 14, rr, rr + 1] := fr_tr F fr30 (fun _ q => q) (by simp)
      have lenp : (pre ++ [y]).length = pre.length + 1 := by rw [List.length_append]; rfl
      have ep : row = (pre ++ [y]) ++ rest := by rw [e]; simp
      refine r_icmp_ne 55 d_Lane_sendBodies_38 (by decide) (fun c2 => ?_) (fun c2 => ?_)
      · have hne : ¬ sp_goal B y = none := fun z => c2 ((gI_m1 hgl).mpr z)
        have eg : sp_gone B (pre ++ [y]) = sp_gone B pre := by
          unfold sp_gone
          rw [List.filter_append, List.filter_cons_of_neg (by cases hq : sp_goal B y with | none => exact absurd hq hne | some _ => simp), List.filter_nil, List.append_nil]
        refine r_iincP d_Lane_sendBodies_55 rfl (Nat.le_of_ble_eq_true rfl) ?_
        refine r_goto 4 d_Lane_sendBodies_58 (by decide) ?_
        rw [nI_1]
        have := ih (pre ++ [y]) h30_ _ ep F2 g30 hG2 (by rw [eg]; exact fr_at fr30 (by simp only [List.mem_cons, List.not_mem_nil, or_false, not_or]; omega) k3) (by rw [eg]; exact k4.fr fr30 (by simp only [List.mem_cons, List.not_mem_nil, or_false, not_or]; omega) (by simp only [List.mem_cons, List.not_mem_nil, or_false, not_or]; omega))
        rw [eg, lenp] at this
        exact this
      · have hno : sp_goal B y = none := (gI_m1 hgl).mp c2
        have eg : sp_gone B (pre ++ [y]) = sp_gone B pre ++ [y] := by
          unfold sp_gone
          rw [List.filter_append, List.filter_cons_of_pos (by rw [hno]; rfl), List.filter_nil]
        have hc3 := fr_at fr30 (b := r + 1 + pre.length) (by simp only [List.mem_cons, List.not_mem_nil, or_false, not_or]; omega) hc2
        have hrow3 := fr_at fr30 (b := r) (by simp only [List.mem_cons, List.not_mem_nil, or_false, not_or]; omega) hrow2
        have hlg : (sp_gone B pre).length ≤ pre.length := List.length_filter_le _ _
        have hcapp : ¬ y.2.2.2.1 = -1 → (R ++ (sp_gone B pre).flatMap sp_rf).length < 512 := by
          intro hy9
          rw [List.length_append]
          have h1 := sp_rfs_le (sp_gone B pre)
          have h2 : ownN (sp_gone B pre) ≤ ownN pre := ownN_f _ _
          rw [e, ownN_a, ownN_c, if_neg hy9] at hcap
          omega
        refine r_aload_n d_Lane_sendBodies_41 rfl ?_
        refine r_aload_n d_Lane_sendBodies_42 rfl ?_
        refine r_getfield d_Lane_sendBodies_43 f_Lane_59 p0 rfl ?_
        refine r_iload_n d_Lane_sendBodies_46 rfl ?_
        refine r_aaloadN d_Lane_sendBodies_47 hrow3 rfl (by omega) (by omega) (g2 _ (by omega)) ?_
        refine r_aload_n d_Lane_sendBodies_48 rfl ?_
        refine r_cVv [.ref (r + 1 + pre.length), .ref rr] b (d - 1) 0 0 (fun h' => fr h30_ h' [b + 13, rr, rr + 1] ∧ h'[b + 13]? = some (.inl (.inl (5, sp_cnt y (sp_cnts (sp_gone B pre) c)))) ∧ Rfs h' rr ((R ++ (sp_gone B pre).flatMap sp_rf) ++ sp_rf y)) d_Lane_sendBodies_49 q_Lane_111 p0 rfl rfl (c_Lane_countLeaver htr (by omega) p0 hc3 oky (fr_at fr30 (by simp only [List.mem_cons, List.not_mem_nil, or_false, not_or]; omega) k3) (k4.fr fr30 (by simp only [List.mem_cons, List.not_mem_nil, or_false, not_or]; omega) (by simp only [List.mem_cons, List.not_mem_nil, or_false, not_or]; omega)) hcapp (by omega) hrr (by omega) (fun h' f' H1 H2 => ⟨rfl, f', H1, H2⟩)) (by show d - 1 + 1 ≤ d; omega) (Nat.le_refl _) (Nat.le_refl _) (Nat.le_of_ble_eq_true rfl) (fun h4 e4 => ?_)
        obtain ⟨e41, e42, e43⟩ := e4
        refine r_iincP d_Lane_sendBodies_52 rfl (Nat.le_of_ble_eq_true rfl) ?_
        refine r_iincP d_Lane_sendBodies_55 rfl (Nat.le_of_ble_eq_true rfl) ?_
        refine r_goto 4 d_Lane_sendBodies_58 (by decide) ?_
        rw [nI_1, nI_1]
        have := ih (pre ++ [y]) h4 _ ep (fr_tr F2 e41 (fun _ q => q) (by simp)) (fr_at e41 (by simp only [List.mem_cons, List.not_mem_nil, or_false, not_or]; omega) g30) hG2 (by rw [eg]; unfold sp_cnts; rw [List.foldl_append]; exact e42) (by rw [eg, List.flatMap_append, ← List.append_assoc]; simpa using e43)
        rw [eg, lenp, List.length_append] at this
        exact r_loc _ (fun q hq => by simp at hq; rcases hq with q | q | q | q <;> subst q <;> rfl) this
  refine r_iconst 0 d_Lane_sendBodies_0 (by decide) ?_
  refine r_ri nI_0.symm ?_
  refine r_istore_n d_Lane_sendBodies_1 (Nat.le_of_ble_eq_true rfl) ?_
  refine r_iconst 0 d_Lane_sendBodies_2 (by decide) ?_
  refine r_ri nI_0.symm ?_
  refine r_istore_n d_Lane_sendBodies_3 (Nat.le_of_ble_eq_true rfl) ?_
  exact key row [] h gl rfl fr_rf hg (fun i o ho => by cases ho) hc (by simpa [sp_gone] using HR)
end
section
/-! THE NEW ROW -/
def sel (B : List (Nat × Nat)) (k : Nat) (row : List sp_B) : List sp_B := row.filter (fun b => sp_goal B b == some k)
def sp_sh (x : Nat × Nat) (c j : Nat) (b : sp_B) : sp_B := (x.1 + j * (x.2 - x.1 + 1) / c, max (x.1 + j * (x.2 - x.1 + 1) / c) (x.1 + (j + 1) * (x.2 - x.1 + 1) / c - 1), b.2.2.1, b.2.2.2.1, max b.2.2.2.2 (max (x.1 + j * (x.2 - x.1 + 1) / c) (x.1 + (j + 1) * (x.2 - x.1 + 1) / c - 1) - (x.1 + j * (x.2 - x.1 + 1) / c) + 1))
def sp_shs (x : Nat × Nat) (c : Nat) (S : List sp_B) : List sp_B := S.mapIdx (fun j b => sp_sh x c j b)
def isOut (O : List sp_B) (NR : Nat → sp_B) : Prop := ∀ (i : Nat) (y : sp_B), O[i]? = some y → NR i = y
theorem sh_in {x : Nat × Nat} {c j : Nat} (hx : x.1 ≤ x.2) (hj : j < c) : x.1 + j * (x.2 - x.1 + 1) / c ≤ x.2 ∧ x.1 + (j + 1) * (x.2 - x.1 + 1) / c - 1 ≤ x.2 := by
  have hc : 0 < c := by omega
  have h1 : j * (x.2 - x.1 + 1) / c < x.2 - x.1 + 1 := Nat.div_lt_of_lt_mul (by
    have := (Nat.mul_lt_mul_right (show 0 < x.2 - x.1 + 1 by omega)).mpr hj
    exact this)
  have h2 : (j + 1) * (x.2 - x.1 + 1) / c ≤ x.2 - x.1 + 1 := Nat.div_le_of_le_mul (Nat.mul_le_mul_right _ hj)
  omega
theorem sp_sh_ok {x : Nat × Nat} {c j : Nat} {b : sp_B} (hx : x.1 ≤ x.2) (hx9 : x.2 ≤ 9) (hj : j < c) (ok : okB b) : okB (sp_sh x c j b) := by
  obtain ⟨s1, s2⟩ := sh_in hx hj
  obtain ⟨o1, o2, o3, o4, o5⟩ := ok
  refine ⟨Nat.le_max_left _ _, Nat.max_le.mpr ⟨by omega, by omega⟩, o3, ?_, o5⟩
  show max b.2.2.2.2 (max _ _ - _ + 1) ≤ 10
  have : max (x.1 + j * (x.2 - x.1 + 1) / c) (x.1 + (j + 1) * (x.2 - x.1 + 1) / c - 1) ≤ 9 := Nat.max_le.mpr ⟨by omega, by omega⟩
  exact Nat.max_le.mpr ⟨o4, Nat.succ_le_succ (Nat.le_trans (Nat.sub_le _ _) this)⟩
theorem nI_maxp {f p : Nat} (hf : f < 2 ^ 30) (hp : p < 2 ^ 30) : (if nI f < nI p - 1 then nI p - 1 else nI f) = nI (max f (p - 1)) := by
  cases p with
  | zero =>
    rw [if_neg (by
      have e : nI 0 - 1 = -1 := by decide
      rw [e, Int32.lt_iff_toInt_lt, nI_toInt (by omega)]
      have : (-1 : Int32).toInt = -1 := by decide
      omega)]
    rw [Nat.max_eq_left (by omega)]
  | succ p => rw [nI_pred]; exact nI_max (by omega) (by omega)
theorem isOut_put {O : List sp_B} {NR : Nat → sp_B} {y : sp_B} (h : isOut O NR) : isOut (O ++ [y]) (fun i => if i = O.length then y else NR i) := by
  intro i w hw
  by_cases hi : i < O.length
  · rw [List.getElem?_append_left hi] at hw
    show (if i = O.length then y else NR i) = w
    rw [if_neg (by omega)]; exact h i w hw
  · rw [List.getElem?_append_right (by omega)] at hw
    have h1 : i - O.length < 1 := (List.getElem?_eq_some_iff.mp hw).1
    have e : i = O.length := by omega
    subst e
    rw [Nat.sub_self] at hw
    cases hw
    show (if O.length = O.length then y else NR O.length) = y
    rw [if_pos rfl]
theorem Rws_put {h h' : ac_H} {r j : Nat} {NR : Nat → sp_B} {y : sp_B} (H : Rws h r NR) (hj : j < 4) (F : fr h h' [r + 1 + j]) (hy : h'[r + 1 + j]? = some (bo y)) : Rws h' r (fun i => if i = j then y else NR i) := by
  obtain ⟨⟨gr, g1, g2⟩, g3⟩ := H
  refine ⟨⟨gr, fr_at F (by simp; omega) g1, g2⟩, fun i hi => ?_⟩
  by_cases e : i = j
  · subst e; show _ = some (bo (if i = i then y else NR i)); rw [if_pos rfl]; exact hy
  · show _ = some (bo (if i = j then y else NR i)); rw [if_neg e]; exact fr_at F (by simp; omega) (g3 i hi)
theorem sel_snoc {B : List (Nat × Nat)} {k : Nat} {pre : List sp_B} {y : sp_B} : sel B k (pre ++ [y]) = sel B k pre ++ (if sp_goal B y = some k then [y] else []) := by
  unfold sel
  rw [List.filter_append]
  congr 1
  by_cases hg : sp_goal B y = some k
  · rw [if_pos hg, List.filter_cons_of_pos (by simp [hg])]; rfl
  · rw [if_neg hg, List.filter_cons_of_neg (by simp [hg])]; rfl
theorem sel_app {B : List (Nat × Nat)} {k : Nat} {p q : List sp_B} : sel B k (p ++ q) = sel B k p ++ sel B k q := List.filter_append ..
theorem c_Lane_shareBlob {l : Launch} (htr : l.stackTraces = false) {d : Nat} {h : ac_H} {Φ : ac_R → ac_H → Prop} {b r r' m k : Nat} {row : List sp_B} {RW NR : Nat → sp_B} {B : List (Nat × Nat)} {gl : Nat → Int32} {x : Nat × Nat} {O : List sp_B} (hd : 2 ≤ d) (hb : h[b]? = some (lnO b r r' m row.length)) (HW : Rws h r RW) (hrow : isRow row RW) (HN : Rws h r' NR) (hO : isOut O NR) (HB : Bls h (b + 2) B) (hg : h[b + 14]? = some (.inl (.inl (4, gl)))) (hG : isG (row.map (sp_goal B)) gl) (hx : B[k]? = some x) (hr : (r = b + 15 ∧ r' = b + 20) ∨ (r = b + 20 ∧ r' = b + 15)) (hS : 0 < (sel B k row).length) (hcap : O.length + (sel B k row).length ≤ 4)
    (hΦ : ∀ h' NR', fr h h' [r' + 1, r' + 2, r' + 3, r' + 4] → Rws h' r' NR' → isOut (O ++ sp_shs x (sel B k row).length (sel B k row)) NR' → Φ (.inl (some (.int (nI (O.length + (sel B k row).length))))) h') : ac_Mt l d m_Lane_shareBlob [.ref b, .int (nI k), .int (nI (sel B k row).length), .int (nI O.length)] h 0 0 Φ := by
  obtain ⟨⟨gr, g1, g2⟩, g3⟩ := id HW
  obtain ⟨⟨gn, n1, n2⟩, n3⟩ := id HN
  obtain ⟨r1, r2⟩ := hrow
  obtain ⟨a1, a2, a3, f, g, a4, a5, a6⟩ := id HB
  have hk : k < B.length := (List.getElem?_eq_some_iff.mp hx).1
  obtain ⟨x1, x2⟩ := a3 x (List.mem_of_getElem? hx)
  obtain ⟨e1, e2⟩ := a6 k x hx
  generalize hc : (sel B k row).length = c at hS hcap hΦ ⊢
  refine ac_enter (by decide) rfl htr (fun _ => Nat.le_of_ble_eq_true rfl) ?_
  have key : ∀ (rest pre : List sp_B) (h2 : ac_H) (NR2 : Nat → sp_B), row = pre ++ rest → fr h h2 [r' + 1, r' + 2, r' + 3, r' + 4] → Rws h2 r' NR2 → isOut (O ++ sp_shs x c (sel B k pre)) NR2 → ac_G (l, d, m_Lane_shareBlob, 0, 0, Φ, h.length, none) 36 [(8, .int (nI pre.length)), (7, .int (nI (O.length + (sel B k pre).length))), (6, .int (nI (sel B k pre).length)), (5, .int (nI (x.2 - x.1 + 1))), (4, .int (nI x.1)), (0, .ref b), (1, .int (nI k)), (2, .int (nI c)), (3, .int (nI O.length))] [] h2 0 0 := by
    intro rest
    induction rest with
    | nil =>
      intro pre h2 NR2 e F HN2 hO2
      rw [List.append_nil] at e
      subst e
      have hb2 := fr_at F (b := b) (by simp only [List.mem_cons, List.not_mem_nil, or_false, not_or]; omega) hb
      refine r_iload d_Lane_shareBlob_36 rfl ?_
      refine r_aload_n d_Lane_shareBlob_38 rfl ?_
      refine r_getfield d_Lane_shareBlob_39 f_Lane_52 hb2 rfl ?_
      refine r_icmp_ge 136 d_Lane_shareBlob_42 (by decide) (fun c1 => ?_) (fun c1 => absurd (nI_le (Nat.le_refl _) (by omega)) c1)
      refine r_iload d_Lane_shareBlob_136 rfl ?_
      rw [hc]
      exact r_iret d_Lane_shareBlob_138 rfl (hΦ _ _ F HN2 hO2) (Nat.le_refl _) (Nat.le_refl _)
    | cons y rest ih =>
      intro pre h2 NR2 e F HN2 hO2
      have hl : pre.length < row.length := by rw [e]; simp
      have hy : row[pre.length]? = some y := by rw [e, List.getElem?_append_right (Nat.le_refl _), Nat.sub_self]; rfl
      have oky := (r2 _ _ hy).2
      have hb2 := fr_at F (b := b) (by simp only [List.mem_cons, List.not_mem_nil, or_false, not_or]; omega) hb
      have hsum : (sel B k pre).length + (sel B k (y :: rest)).length = c := by rw [← hc, e, sel_app, List.length_append]
      have ep : row = (pre ++ [y]) ++ rest := by rw [e]; simp
      have lenp : (pre ++ [y]).length = pre.length + 1 := by rw [List.length_append]; rfl
      obtain ⟨⟨gn2, m1, m2⟩, m3⟩ := id HN2
      have hg2 := fr_at F (b := b + 14) (by simp only [List.mem_cons, List.not_mem_nil, or_false, not_or]; omega) hg
      have hgo : gl pre.length = gI (sp_goal B y) ∧ ∀ j, sp_goal B y = some j → j < 4 := hG pre.length _ (by rw [List.getElem?_map, hy]; rfl)
      refine r_iload d_Lane_shareBlob_36 rfl ?_
      refine r_aload_n d_Lane_shareBlob_38 rfl ?_
      refine r_getfield d_Lane_shareBlob_39 f_Lane_52 hb2 rfl ?_
      refine r_icmp_ge 136 d_Lane_shareBlob_42 (by decide) (fun c1 => absurd ((nI_leI (by omega) (by omega)).mp c1) (by omega)) (fun c1 => ?_)
      refine r_iload d_Lane_shareBlob_45 rfl ?_
      refine r_aload_n d_Lane_shareBlob_47 rfl ?_
      refine r_getfield d_Lane_shareBlob_48 f_Lane_63 hb2 rfl ?_
      refine r_alenR d_Lane_shareBlob_51 m1 rfl ?_
      refine r_icmp_ge 136 d_Lane_shareBlob_52 (by decide) (fun c2 => ?_) (fun c2 => ?_)
      · have h4 := (nI_leI (by omega) (by omega)).mp c2
        have hrest : sel B k (y :: rest) = [] := List.length_eq_zero_iff.mp (by omega)
        have hall : sel B k pre = sel B k row := by rw [e, sel_app, hrest, List.append_nil]
        refine r_iload d_Lane_shareBlob_136 rfl ?_
        rw [hall] at hO2 ⊢
        rw [hc]
        exact r_iret d_Lane_shareBlob_138 rfl (hΦ _ _ F HN2 hO2) (Nat.le_refl _) (Nat.le_refl _)
      · have h4 := lt_of_nle (by omega) c2 (by omega)
        refine r_iload_n d_Lane_shareBlob_55 rfl ?_
        refine r_if_le 136 d_Lane_shareBlob_56 (by decide) (fun c3 => absurd c3 (nI_nle hS (by omega))) (fun c3 => ?_)
        refine r_aload_n d_Lane_shareBlob_59 rfl ?_
        refine r_getfield d_Lane_shareBlob_60 f_Lane_45 hb2 rfl ?_
        refine r_iload d_Lane_shareBlob_63 rfl ?_
        refine r_ialoadN d_Lane_shareBlob_65 hg2 (by omega) (by omega) ?_
        refine r_iload_n d_Lane_shareBlob_66 rfl ?_
        rw [hgo.1]
        refine r_icmp_ne 130 d_Lane_shareBlob_67 (by decide) (fun c4 => ?_) (fun c4 => ?_)
        · have hne : ¬ sp_goal B y = some k := fun z => c4 ((gI_eq hgo.2 (by omega)).mpr z)
          have es : sel B k (pre ++ [y]) = sel B k pre := by rw [sel_snoc, if_neg hne, List.append_nil]
          refine r_iincP d_Lane_shareBlob_130 rfl (Nat.le_of_ble_eq_true rfl) ?_
          refine r_goto 36 d_Lane_shareBlob_133 (by decide) ?_
          rw [nI_1]
          have := ih (pre ++ [y]) h2 NR2 ep F HN2 (by rw [es]; exact hO2)
          rw [es, lenp] at this
          exact this
        · have he : sp_goal B y = some k := (gI_eq hgo.2 (by omega)).mp c4
          have es : sel B k (pre ++ [y]) = sel B k pre ++ [y] := by rw [sel_snoc, if_pos he]
          have hj : (sel B k pre).length < c := by
            have : 0 < (sel B k (y :: rest)).length := by
              unfold sel; rw [List.filter_cons_of_pos (by simp [he])]; simp
            omega
          generalize hjj : (sel B k pre).length = j at *
          generalize hnn : x.2 - x.1 + 1 = n at *
          have hn10 : n ≤ 10 := by omega
          have hj4 : j < 4 := by omega
          obtain ⟨s1, s2⟩ := sh_in (c := c) (j := j) x1 hj
          rw [hnn] at s1 s2
          have hjn : j * n ≤ 40 := Nat.le_trans (Nat.mul_le_mul (show j ≤ 4 by omega) hn10) (by omega)
          have hjn2 : (j + 1) * n ≤ 40 := Nat.le_trans (Nat.mul_le_mul (show j + 1 ≤ 4 by omega) hn10) (by omega)
          have hq2 : (j + 1) * n / c ≤ 40 := Nat.le_trans (Nat.div_le_self _ _) hjn2
          have hc0 : ¬ nI c = 0 := nI_ne0 hS (by omega)
          refine r_iload d_Lane_shareBlob_70 rfl ?_
          refine r_iload d_Lane_shareBlob_72 rfl ?_
          refine r_iload d_Lane_shareBlob_74 rfl ?_
          refine r_imul d_Lane_shareBlob_76 ?_
          refine r_ri (pk_mul _ _) ?_
          refine r_iload_n d_Lane_shareBlob_77 rfl ?_
          refine r_idiv d_Lane_shareBlob_78 hc0 ?_
          refine r_ri (pk_div (by omega) hS (by omega)) ?_
          refine r_iadd d_Lane_shareBlob_79 ?_
          refine r_ri (nI_add _ _) ?_
          refine r_istore d_Lane_shareBlob_80 (Nat.le_of_ble_eq_true rfl) ?_
          refine r_iload d_Lane_shareBlob_82 rfl ?_
          refine r_iload d_Lane_shareBlob_84 rfl ?_
          refine r_iconst 1 d_Lane_shareBlob_86 (by decide) ?_
          refine r_iadd d_Lane_shareBlob_87 ?_
          refine r_ri (nI_1 _) ?_
          refine r_iload d_Lane_shareBlob_88 rfl ?_
          refine r_imul d_Lane_shareBlob_90 ?_
          refine r_ri (pk_mul _ _) ?_
          refine r_iload_n d_Lane_shareBlob_91 rfl ?_
          refine r_idiv d_Lane_shareBlob_92 hc0 ?_
          refine r_ri (pk_div (by omega) hS (by omega)) ?_
          refine r_iadd d_Lane_shareBlob_93 ?_
          refine r_ri (nI_add _ _) ?_
          have hrow2 := fr_at F (b := r) (by simp only [List.mem_cons, List.not_mem_nil, or_false, not_or]; omega) g1
          have hy2 := fr_at F (b := r + 1 + pre.length) (by simp only [List.mem_cons, List.not_mem_nil, or_false, not_or]; omega) (g3 pre.length (by omega))
          rw [(r2 _ _ hy).1] at hy2
          have hd1 : 1 ≤ ac_d (l, d, m_Lane_shareBlob, 0, 0, Φ, h.length, none) := by show 1 ≤ d; omega
          refine r_iconst 1 d_Lane_shareBlob_94 (by decide) ?_
          refine r_isub d_Lane_shareBlob_95 ?_
          refine r_istore d_Lane_shareBlob_96 (Nat.le_of_ble_eq_true rfl) ?_
          refine r_aload_n d_Lane_shareBlob_98 rfl ?_
          refine r_getfield d_Lane_shareBlob_99 f_Lane_63 hb2 rfl ?_
          refine r_iload d_Lane_shareBlob_102 rfl ?_
          refine r_aaloadN d_Lane_shareBlob_104 m1 rfl h4 (by omega) (m2 _ h4) ?_
          refine r_aload_n d_Lane_shareBlob_105 rfl ?_
          refine r_getfield d_Lane_shareBlob_106 f_Lane_59 hb2 rfl ?_
          refine r_iload d_Lane_shareBlob_109 rfl ?_
          refine r_aaloadN d_Lane_shareBlob_111 hrow2 rfl (by omega) (by omega) (g2 _ (by omega)) ?_
          refine r_iload d_Lane_shareBlob_112 rfl ?_
          refine r_iload d_Lane_shareBlob_114 rfl ?_
          refine r_iload d_Lane_shareBlob_116 rfl ?_
          refine r_max d_Lane_shareBlob_118 mx_Lane_154 mx_1 mx_2 mx_3 (by omega) (Nat.le_of_ble_eq_true rfl) (Nat.le_of_ble_eq_true rfl) (Nat.le_of_ble_eq_true rfl) ?_
          refine r_ri (nI_maxp (by omega) (by omega)) ?_
          refine r_cVv [.ref (r + 1 + pre.length), .int (nI (x.1 + j * n / c)), .int (nI (max (x.1 + j * n / c) (x.1 + (j + 1) * n / c - 1)))] (r' + 1 + (O.length + j)) (d - 1) 0 0 (fun h' => fr h2 h' [r' + 1 + (O.length + j)] ∧ h'[r' + 1 + (O.length + j)]? = some (bo (sp_sh x c j y))) d_Lane_shareBlob_121 q_Lane_160 (m3 _ h4) rfl rfl (c_Body_follow htr (by omega) (m3 _ h4) hy2 (by omega) oky (Nat.le_max_left _ _) (Nat.max_le.mpr ⟨by omega, by omega⟩) (fun h' f' H' => ⟨rfl, f', by unfold sp_sh; rw [hnn]; exact H'⟩)) (by show d - 1 + 1 ≤ d; omega) (Nat.le_refl _) (Nat.le_refl _) (Nat.le_of_ble_eq_true rfl) (fun h4_ e4 => ?_)
          refine r_iincP d_Lane_shareBlob_124 rfl (Nat.le_of_ble_eq_true rfl) ?_
          refine r_iincP d_Lane_shareBlob_127 rfl (Nat.le_of_ble_eq_true rfl) ?_
          refine r_iincP d_Lane_shareBlob_130 rfl (Nat.le_of_ble_eq_true rfl) ?_
          refine r_goto 36 d_Lane_shareBlob_133 (by decide) ?_
          rw [nI_1, nI_1, nI_1]
          have F4 : fr h h4_ [r' + 1, r' + 2, r' + 3, r' + 4] := fr_tr F e4.1 (fun _ q => q) (fun q hq => by simp at hq ⊢; omega)
          have := ih (pre ++ [y]) h4_ _ ep F4 (Rws_put HN2 h4 e4.1 e4.2) (by
            have e5 : O ++ sp_shs x c (sel B k (pre ++ [y])) = (O ++ sp_shs x c (sel B k pre)) ++ [sp_sh x c j y] := by
              rw [es]; unfold sp_shs; rw [List.mapIdx_append, ← List.append_assoc]; simp [hjj]
            have e6 : (O ++ sp_shs x c (sel B k pre)).length = O.length + j := by rw [List.length_append]; unfold sp_shs; rw [List.length_mapIdx, hjj]
            rw [e5]
            have := isOut_put (y := sp_sh x c j y) hO2
            rw [e6] at this
            exact this)
          rw [es, lenp, List.length_append, hjj] at this
          exact r_loc _ (fun q hq => by simp at hq; rcases hq with q | q | q | q | q | q | q | q | q <;> subst q <;> rfl) this
  refine r_aload_n d_Lane_shareBlob_0 rfl ?_
  refine r_getfield d_Lane_shareBlob_1 f_Lane_21 hb rfl ?_
  refine r_getfield d_Lane_shareBlob_4 f_Lane_141 a1 rfl ?_
  refine r_iload_n d_Lane_shareBlob_7 rfl ?_
  refine r_ialoadN d_Lane_shareBlob_8 a4 (by omega) (by omega) ?_
  rw [e1]
  refine r_istore d_Lane_shareBlob_9 (Nat.le_of_ble_eq_true rfl) ?_
  refine r_aload_n d_Lane_shareBlob_11 rfl ?_
  refine r_getfield d_Lane_shareBlob_12 f_Lane_21 hb rfl ?_
  refine r_getfield d_Lane_shareBlob_15 f_Lane_144 a1 rfl ?_
  refine r_iload_n d_Lane_shareBlob_18 rfl ?_
  refine r_ialoadN d_Lane_shareBlob_19 a5 (by omega) (by omega) ?_
  rw [e2]
  refine r_iload d_Lane_shareBlob_20 rfl ?_
  refine r_isub d_Lane_shareBlob_22 ?_
  refine r_iconst 1 d_Lane_shareBlob_23 (by decide) ?_
  refine r_iadd d_Lane_shareBlob_24 ?_
  refine r_ri (nI_len x1) ?_
  refine r_istore d_Lane_shareBlob_25 (Nat.le_of_ble_eq_true rfl) ?_
  refine r_iconst 0 d_Lane_shareBlob_27 (by decide) ?_
  refine r_ri nI_0.symm ?_
  refine r_istore d_Lane_shareBlob_28 (Nat.le_of_ble_eq_true rfl) ?_
  refine r_iload_n d_Lane_shareBlob_30 rfl ?_
  refine r_istore d_Lane_shareBlob_31 (Nat.le_of_ble_eq_true rfl) ?_
  refine r_iconst 0 d_Lane_shareBlob_33 (by decide) ?_
  refine r_ri nI_0.symm ?_
  refine r_istore d_Lane_shareBlob_34 (Nat.le_of_ble_eq_true rfl) ?_
  exact r_loc _ (fun q hq => by simp at hq; rcases hq with q | q | q | q | q | q | q | q | q <;> subst q <;> rfl) (key row [] h NR rfl fr_rf HN (by simpa [sp_shs, sel] using hO))
/-- a body that comes with the blob x -/
def sp_ent (row : List sp_B) (x : Nat × Nat) : sp_B := (x.1, x.2, sp_side row x, -1, x.2 - x.1 + 1)
/-- one blob's part of the new row; how many may still come -/
def sp_one (B : List (Nat × Nat)) (row : List sp_B) (k : Nat) (x : Nat × Nat) (st : List sp_B × Nat) : List sp_B × Nat :=
  if 0 < (sel B k row).length then (st.1 ++ sp_shs x (sel B k row).length (sel B k row), st.2) else if 0 < st.2 then (st.1 ++ [sp_ent row x], st.2 - 1) else st
def sp_renew (B : List (Nat × Nat)) (row : List sp_B) : Nat → List sp_B × Nat
  | 0 => ([], 4 - (row.length - (sp_gone B row).length))
  | n + 1 => match B[n]? with
    | some x => sp_one B row n x (sp_renew B row n)
    | none => sp_renew B row n
/-- those that go to blob n or a later one -/
def sp_kept (B : List (Nat × Nat)) (row : List sp_B) (n : Nat) : List sp_B := row.filter (fun b => match sp_goal B b with | some k => decide (n ≤ k) | none => false)
theorem kept_0 (B : List (Nat × Nat)) : ∀ row : List sp_B, (sp_kept B row 0).length + (sp_gone B row).length = row.length
  | [] => rfl
  | b :: row => by
    have ih := kept_0 B row
    unfold sp_kept sp_gone at *
    cases hg : sp_goal B b with
    | none =>
      rw [List.filter_cons_of_neg (by simp [hg]), List.filter_cons_of_pos (by simp [hg]), List.length_cons, List.length_cons]; omega
    | some k =>
      rw [List.filter_cons_of_pos (by simp [hg]), List.filter_cons_of_neg (by simp [hg]), List.length_cons, List.length_cons]; omega
theorem kept_s (B : List (Nat × Nat)) (n : Nat) : ∀ row : List sp_B, (sp_kept B row n).length = (sel B n row).length + (sp_kept B row (n + 1)).length
  | [] => rfl
  | b :: row => by
    have ih := kept_s B n row
    unfold sp_kept sel at *
    cases hg : sp_goal B b with
    | none =>
      rw [List.filter_cons_of_neg (by simp [hg]), List.filter_cons_of_neg (by simp [hg]), List.filter_cons_of_neg (by simp [hg])]; exact ih
    | some k =>
      rcases Nat.lt_trichotomy n k with q | q | q
      · rw [List.filter_cons_of_pos (by simp [hg]; omega), List.filter_cons_of_neg (by simp [hg]; omega), List.filter_cons_of_pos (by simp [hg]; omega), List.length_cons, List.length_cons]; omega
      · rw [List.filter_cons_of_pos (by simp [hg]; omega), List.filter_cons_of_pos (by simp [hg]; omega), List.filter_cons_of_neg (by simp [hg]; omega), List.length_cons, List.length_cons]; omega
      · rw [List.filter_cons_of_neg (by simp [hg]; omega), List.filter_cons_of_neg (by simp [hg]; omega), List.filter_cons_of_neg (by simp [hg]; omega)]; exact ih
theorem renew_cap {B : List (Nat × Nat)} {row : List sp_B} (h4 : row.length ≤ 4) : ∀ n, n ≤ B.length → (sp_renew B row n).1.length + (sp_kept B row n).length + (sp_renew B row n).2 = 4
  | 0, _ => by
    have h0 := kept_0 B row
    show 0 + (sp_kept B row 0).length + (4 - (row.length - (sp_gone B row).length)) = 4
    omega
  | n + 1, hn => by
    have ih := renew_cap (B := B) h4 n (by omega)
    have hk := kept_s B n row
    have hst : sp_renew B row (n + 1) = sp_one B row n B[n] (sp_renew B row n) := by rw [sp_renew, List.getElem?_eq_getElem (show n < B.length by omega)]
    rw [hst]
    unfold sp_one
    by_cases c1 : 0 < (sel B n row).length
    · rw [if_pos c1]
      show ((sp_renew B row n).1 ++ sp_shs _ _ _).length + _ + (sp_renew B row n).2 = 4
      rw [List.length_append]; unfold sp_shs; rw [List.length_mapIdx]; omega
    · rw [if_neg c1]
      by_cases c2 : 0 < (sp_renew B row n).2
      · rw [if_pos c2]
        show ((sp_renew B row n).1 ++ [_]).length + _ + ((sp_renew B row n).2 - 1) = 4
        rw [List.length_append, List.length_singleton]; omega
      · rw [if_neg c2]; omega
theorem side_le {row : List sp_B} {x : Nat × Nat} (h : ∀ b ∈ row, okB b) : sp_side row x ≤ 1 := by
  unfold sp_side
  cases hf : row.find? (fun b => mt b x) with
  | none => show (if x.1 + x.2 < 9 then 0 else 1) ≤ 1; split <;> omega
  | some b => exact (h b (List.mem_of_find?_eq_some hf)).2.2.1
theorem renew_ok {B : List (Nat × Nat)} {row : List sp_B} (hB : okBl B) (h : ∀ b ∈ row, okB b) : ∀ n, ∀ b ∈ (sp_renew B row n).1, okB b
  | 0, b, hb => by cases hb
  | n + 1, b, hb => by
    have ih := renew_ok hB h n
    rw [sp_renew] at hb
    cases hx : B[n]? with
    | none => rw [hx] at hb; exact ih b hb
    | some x =>
      rw [hx] at hb
      obtain ⟨x1, x2⟩ := hB x (List.mem_of_getElem? hx)
      have hb : b ∈ (sp_one B row n x (sp_renew B row n)).1 := hb
      unfold sp_one at hb
      by_cases c1 : 0 < (sel B n row).length
      · rw [if_pos c1] at hb
        rcases List.mem_append.mp hb with q | q
        · exact ih b q
        · unfold sp_shs at q
          obtain ⟨i, hi, rfl⟩ := List.mem_mapIdx.mp q
          exact sp_sh_ok x1 x2 hi (h _ (List.mem_filter.mp (List.getElem_mem hi)).1)
      · rw [if_neg c1] at hb
        by_cases c2 : 0 < (sp_renew B row n).2
        · rw [if_pos c2] at hb
          rcases List.mem_append.mp hb with q | q
          · exact ih b q
          · simp at q; subst q
            exact ⟨x1, x2, side_le h, by show x.2 - x.1 + 1 ≤ 10; omega, Or.inl rfl⟩
        · rw [if_neg c2] at hb; exact ih b hb
theorem sel_count {B : List (Nat × Nat)} {k : Nat} : ∀ row : List sp_B, (row.map (sp_goal B)).count (some k) = (sel B k row).length
  | [] => rfl
  | b :: row => by
    have ih := sel_count (B := B) (k := k) row
    unfold sel at *
    rw [List.map_cons, List.count_cons, ih]
    by_cases hg : sp_goal B b = some k
    · rw [List.filter_cons_of_pos (by simp [hg]), List.length_cons]; simp [hg]
    · rw [List.filter_cons_of_neg (by simp [hg])]; simp [hg]
theorem c_Lane_renewRow {l : Launch} (htr : l.stackTraces = false) {d : Nat} {h : ac_H} {Φ : ac_R → ac_H → Prop} {b r r' m : Nat} {row : List sp_B} {RW NR : Nat → sp_B} {B : List (Nat × Nat)} {gl : Nat → Int32} (hd : 3 ≤ d) (hb : h[b]? = some (lnO b r r' m row.length)) (HW : Rws h r RW) (hrow : isRow row RW) (HN : Rws h r' NR) (HB : Bls h (b + 2) B) (hg : h[b + 14]? = some (.inl (.inl (4, gl)))) (hG : isG (row.map (sp_goal B)) gl) (hr : (r = b + 15 ∧ r' = b + 20) ∨ (r = b + 20 ∧ r' = b + 15))
    (hΦ : ∀ h' NR', fr h h' [b, r' + 1, r' + 2, r' + 3, r' + 4] → h'[b]? = some (lnO b r' r m (sp_renew B row B.length).1.length) → Rws h' r' NR' → isRow (sp_renew B row B.length).1 NR' → Φ (.inl none) h') : ac_Mt l d m_Lane_renewRow [.ref b, .int (nI (row.length - (sp_gone B row).length))] h 0 0 Φ := by
  obtain ⟨r1, r2⟩ := id hrow
  obtain ⟨a1, a2, a3, f, g, a4, a5, a6⟩ := id HB
  have hok : ∀ x ∈ row, okB x := fun x hx => by obtain ⟨i, hi⟩ := List.getElem?_of_mem hx; exact (r2 i x hi).2
  have hlg : (sp_gone B row).length ≤ row.length := List.length_filter_le _ _
  refine ac_enter (by decide) rfl htr (fun _ => Nat.le_of_ble_eq_true rfl) ?_
  have key : ∀ (n k : Nat) (h2 : ac_H) (NR2 : Nat → sp_B), k + n = B.length → fr h h2 [r' + 1, r' + 2, r' + 3, r' + 4] → Rws h2 r' NR2 → isOut (sp_renew B row k).1 NR2 → ac_G (l, d, m_Lane_renewRow, 0, 0, Φ, h.length, none) 9 [(4, .int (nI k)), (3, .int (nI (sp_renew B row k).1.length)), (2, .int (nI (sp_renew B row k).2)), (0, .ref b), (1, .int (nI (row.length - (sp_gone B row).length)))] [] h2 0 0 := by
    intro n
    induction n with
    | zero =>
      intro k h2 NR2 hk F HN2 hO2
      have e : k = B.length := by omega
      subst e
      have hcap := renew_cap (B := B) r1 B.length (Nat.le_refl _)
      have hb2 := fr_at F (b := b) (by simp only [List.mem_cons, List.not_mem_nil, or_false, not_or]; omega) hb
      have hB2 := fr_at F (b := b + 2) (by simp only [List.mem_cons, List.not_mem_nil, or_false, not_or]; omega) a1
      refine r_iload d_Lane_renewRow_9 rfl ?_
      refine r_aload_n d_Lane_renewRow_11 rfl ?_
      refine r_getfield d_Lane_renewRow_12 f_Lane_21 hb2 rfl ?_
      refine r_getfield d_Lane_renewRow_15 f_Lane_132 hB2 rfl ?_
      refine r_icmp_ge 107 d_Lane_renewRow_18 (by decide) (fun c1 => ?_) (fun c1 => absurd (nI_le (Nat.le_refl _) (by omega)) c1)
      refine r_aload_n d_Lane_renewRow_107 rfl ?_
      refine r_getfield d_Lane_renewRow_108 f_Lane_59 hb2 rfl ?_
      refine r_astore d_Lane_renewRow_111 (Nat.le_of_ble_eq_true rfl) ?_
      refine r_aload_n d_Lane_renewRow_113 rfl ?_
      refine r_aload_n d_Lane_renewRow_114 rfl ?_
      refine r_getfield d_Lane_renewRow_115 f_Lane_63 hb2 rfl ?_
      refine r_putfieldN d_Lane_renewRow_118 f_Lane_59 hb2 (Nat.le_of_ble_eq_true rfl) (fun _ => rfl) (fun _ => rfl) (fun h118_ fr118 g118 => ?_)
      refine r_aload_n d_Lane_renewRow_121 rfl ?_
      refine r_aload d_Lane_renewRow_122 rfl ?_
      refine r_putfieldN d_Lane_renewRow_124 f_Lane_63 g118 (Nat.le_of_ble_eq_true rfl) (fun _ => rfl) (fun _ => rfl) (fun h124_ fr124 g124 => ?_)
      refine r_aload_n d_Lane_renewRow_127 rfl ?_
      refine r_iload_n d_Lane_renewRow_128 rfl ?_
      refine r_putfieldN d_Lane_renewRow_129 f_Lane_52 g124 (Nat.le_of_ble_eq_true rfl) (fun _ => rfl) (fun _ => rfl) (fun h129_ fr129 g129 => ?_)
      refine r_vret d_Lane_renewRow_132 rfl (hΦ _ NR2 (fr_tr (fr_tr (fr_tr F fr118 (cs := [b, r' + 1, r' + 2, r' + 3, r' + 4]) (fun q hq => List.mem_cons_of_mem _ hq) (by simp)) fr124 (cs := [b, r' + 1, r' + 2, r' + 3, r' + 4]) (fun _ q => q) (by simp)) fr129 (fun _ q => q) (by simp)) g129 (((HN2.fr fr118 ?_).fr fr124 ?_).fr fr129 ?_) ⟨by omega, fun i x hx => ⟨hO2 i x hx, renew_ok a3 hok _ x (List.mem_of_getElem? hx)⟩⟩) (Nat.le_refl _) (Nat.le_refl _)
      · intro j hj; simp; omega
      · intro j hj; simp; omega
      · intro j hj; simp; omega
    | succ n ih =>
      intro k h2 NR2 hk F HN2 hO2
      have hcap := renew_cap (B := B) r1 k (by omega)
      have hks := kept_s B k row
      have hx := List.getElem?_eq_getElem (show k < B.length by omega)
      generalize B[k] = x at hx
      obtain ⟨x1, x2⟩ := a3 x (List.mem_of_getElem? hx)
      obtain ⟨e1, e2⟩ := a6 k x hx
      have hst : sp_renew B row (k + 1) = sp_one B row k x (sp_renew B row k) := by rw [sp_renew, hx]
      have hb2 := fr_at F (b := b) (by simp only [List.mem_cons, List.not_mem_nil, or_false, not_or]; omega) hb
      have HB2 : Bls h2 (b + 2) B := HB.fr F (by simp only [List.mem_cons, List.not_mem_nil, or_false, not_or]; omega) (by simp only [List.mem_cons, List.not_mem_nil, or_false, not_or]; omega) (by simp only [List.mem_cons, List.not_mem_nil, or_false, not_or]; omega)
      have hB2 := HB2.1
      have hg2 := fr_at F (b := b + 14) (by simp only [List.mem_cons, List.not_mem_nil, or_false, not_or]; omega) hg
      have HW2 : Rws h2 r RW := HW.fr F (fun j hj => by simp; omega)
      have hm9 : (row.map (sp_goal B)).length = row.length := List.length_map _
      refine r_iload d_Lane_renewRow_9 rfl ?_
      refine r_aload_n d_Lane_renewRow_11 rfl ?_
      refine r_getfield d_Lane_renewRow_12 f_Lane_21 hb2 rfl ?_
      refine r_getfield d_Lane_renewRow_15 f_Lane_132 hB2 rfl ?_
      refine r_icmp_ge 107 d_Lane_renewRow_18 (by decide) (fun c1 => absurd ((nI_leI (by omega) (by omega)).mp c1) (by omega)) (fun c1 => ?_)
      refine r_aload_n d_Lane_renewRow_21 rfl ?_
      refine r_iload d_Lane_renewRow_22 rfl ?_
      refine r_cVi [.int (nI k)] b (d - 1) 0 0 (nI (sel B k row).length) (fun h' => h2 = h') d_Lane_renewRow_24 q_Lane_133 hb2 rfl rfl (c_Lane_sharersOf (n := 0) htr (G := row.map (sp_goal B)) (by rw [hm9]; exact hb2) hg2 hG (by omega) (by omega) ⟨by rw [sel_count], rfl⟩) (by show d - 1 + 1 ≤ d; omega) (Nat.le_refl _) (Nat.le_refl _) (Nat.le_of_ble_eq_true rfl) (fun h' e9 => ?_)
      subst e9
      refine r_istore d_Lane_renewRow_27 (Nat.le_of_ble_eq_true rfl) ?_
      refine r_iload d_Lane_renewRow_29 rfl ?_
      refine r_if_le 47 d_Lane_renewRow_31 (by decide) (fun c2 => ?_) (fun c2 => ?_)
      · have hS : ¬ 0 < (sel B k row).length := fun z => nI_nle z (by omega) c2
        refine r_iload_n d_Lane_renewRow_47 rfl ?_
        refine r_if_le 101 d_Lane_renewRow_48 (by decide) (fun c3 => ?_) (fun c3 => ?_)
        · have hfr : ¬ 0 < (sp_renew B row k).2 := fun z => nI_nle z (by omega) c3
          have est : sp_renew B row (k + 1) = sp_renew B row k := by rw [hst]; unfold sp_one; rw [if_neg hS, if_neg hfr]
          refine r_iincP d_Lane_renewRow_101 rfl (Nat.le_of_ble_eq_true rfl) ?_
          refine r_goto 9 d_Lane_renewRow_104 (by decide) ?_
          rw [nI_1]
          have := ih (k + 1) h2 NR2 (by omega) F HN2 (by rw [est]; exact hO2)
          rw [est] at this
          exact r_loc _ (fun q hq => by simp at hq; rcases hq with q | q | q | q | q <;> subst q <;> rfl) this
        · have hfr : 0 < (sp_renew B row k).2 := by
            rcases Nat.eq_zero_or_pos (sp_renew B row k).2 with z | z
            · exact absurd (by rw [z]; decide) c3
            · exact z
          have est : sp_renew B row (k + 1) = ((sp_renew B row k).1 ++ [sp_ent row x], (sp_renew B row k).2 - 1) := by rw [hst]; unfold sp_one; rw [if_neg hS, if_pos hfr]
          have h4 : (sp_renew B row k).1.length < 4 := by omega
          obtain ⟨⟨gn2, m1, m2⟩, m3⟩ := id HN2
          obtain ⟨-, -, -, f2, g2, p4, p5, p6⟩ := id HB2
          obtain ⟨q1, q2⟩ := p6 k x hx
          refine r_iload_n d_Lane_renewRow_51 rfl ?_
          refine r_aload_n d_Lane_renewRow_52 rfl ?_
          refine r_getfield d_Lane_renewRow_53 f_Lane_63 hb2 rfl ?_
          refine r_alenR d_Lane_renewRow_56 m1 rfl ?_
          refine r_icmp_ge 101 d_Lane_renewRow_57 (by decide) (fun c4 => absurd ((nI_leI (by omega) (by omega)).mp c4) (by omega)) (fun c4 => ?_)
          refine r_aload_n d_Lane_renewRow_60 rfl ?_
          refine r_getfield d_Lane_renewRow_61 f_Lane_63 hb2 rfl ?_
          refine r_iload_n d_Lane_renewRow_64 rfl ?_
          refine r_aaloadN d_Lane_renewRow_65 m1 rfl h4 (by omega) (m2 _ h4) ?_
          refine r_aload_n d_Lane_renewRow_66 rfl ?_
          refine r_getfield d_Lane_renewRow_67 f_Lane_21 hb2 rfl ?_
          refine r_getfield d_Lane_renewRow_70 f_Lane_141 hB2 rfl ?_
          refine r_iload d_Lane_renewRow_73 rfl ?_
          refine r_ialoadN d_Lane_renewRow_75 p4 (by omega) (by omega) ?_
          rw [q1]
          refine r_aload_n d_Lane_renewRow_76 rfl ?_
          refine r_getfield d_Lane_renewRow_77 f_Lane_21 hb2 rfl ?_
          refine r_getfield d_Lane_renewRow_80 f_Lane_144 hB2 rfl ?_
          refine r_iload d_Lane_renewRow_83 rfl ?_
          refine r_ialoadN d_Lane_renewRow_85 p5 (by omega) (by omega) ?_
          rw [q2]
          refine r_aload_n d_Lane_renewRow_86 rfl ?_
          refine r_iload d_Lane_renewRow_87 rfl ?_
          refine r_cVi [.int (nI k)] b (d - 1) 0 0 (nI (sp_side row x)) (fun h' => h2 = h') d_Lane_renewRow_89 q_Lane_147 hb2 rfl rfl (c_Lane_sideFor htr (by omega) hb2 HW2 hrow HB2 hx ⟨rfl, rfl⟩) (by show d - 1 + 1 ≤ d; omega) (Nat.le_refl _) (Nat.le_refl _) (Nat.le_of_ble_eq_true rfl) (fun h' e9 => ?_)
          subst e9
          refine r_cVv [.int (nI x.1), .int (nI x.2), .int (nI (sp_side row x))] (r' + 1 + (sp_renew B row k).1.length) (d - 1) 0 0 (fun h' => fr h2 h' [r' + 1 + (sp_renew B row k).1.length] ∧ h'[r' + 1 + (sp_renew B row k).1.length]? = some (bo (sp_ent row x))) d_Lane_renewRow_92 q_Lane_150 (m3 _ h4) rfl rfl (c_Body_enter htr (m3 _ h4) x1 (fun h' f' H' => ⟨rfl, f', H'⟩)) (by show d - 1 + 1 ≤ d; omega) (Nat.le_refl _) (Nat.le_refl _) (Nat.le_of_ble_eq_true rfl) (fun h4_ e4 => ?_)
          have F4 : fr h h4_ [r' + 1, r' + 2, r' + 3, r' + 4] := fr_tr F e4.1 (fun _ q => q) (fun q hq => by simp at hq ⊢; omega)
          refine r_iincP d_Lane_renewRow_95 rfl (Nat.le_of_ble_eq_true rfl) ?_
          refine r_iincM d_Lane_renewRow_98 rfl (Nat.le_of_ble_eq_true rfl) ?_
          refine r_iincP d_Lane_renewRow_101 rfl (Nat.le_of_ble_eq_true rfl) ?_
          refine r_goto 9 d_Lane_renewRow_104 (by decide) ?_
          rw [nI_1, nI_1]
          have e5 : nI (sp_renew B row k).2 - 1 = nI ((sp_renew B row k).2 - 1) := by rw [nI1, pk_sub (by omega)]
          rw [e5]
          have := ih (k + 1) h4_ _ (by omega) F4 (Rws_put HN2 h4 e4.1 e4.2) (by rw [est]; exact isOut_put hO2)
          rw [est] at this
          rw [List.length_append, List.length_singleton] at this
          exact r_loc _ (fun q hq => by simp at hq; rcases hq with q | q | q | q | q <;> subst q <;> rfl) this
      · have hS : 0 < (sel B k row).length := by
          rcases Nat.eq_zero_or_pos (sel B k row).length with z | z
          · exact absurd (by rw [z]; decide) c2
          · exact z
        have est : sp_renew B row (k + 1) = ((sp_renew B row k).1 ++ sp_shs x (sel B k row).length (sel B k row), (sp_renew B row k).2) := by rw [hst]; unfold sp_one; rw [if_pos hS]
        refine r_aload_n d_Lane_renewRow_34 rfl ?_
        refine r_iload d_Lane_renewRow_35 rfl ?_
        refine r_iload d_Lane_renewRow_37 rfl ?_
        refine r_iload_n d_Lane_renewRow_39 rfl ?_
        refine r_cVi [.int (nI k), .int (nI (sel B k row).length), .int (nI (sp_renew B row k).1.length)] b (d - 1) 0 0 (nI ((sp_renew B row k).1.length + (sel B k row).length)) (fun h' => ∃ NR', fr h2 h' [r' + 1, r' + 2, r' + 3, r' + 4] ∧ Rws h' r' NR' ∧ isOut ((sp_renew B row k).1 ++ sp_shs x (sel B k row).length (sel B k row)) NR') d_Lane_renewRow_40 q_Lane_137 hb2 rfl rfl (c_Lane_shareBlob htr (by omega) hb2 HW2 hrow HN2 hO2 HB2 hg2 hG hx hr hS (by omega) (fun h' NR' f' H1 H2 => ⟨rfl, NR', f', H1, H2⟩)) (by show d - 1 + 1 ≤ d; omega) (Nat.le_refl _) (Nat.le_refl _) (Nat.le_of_ble_eq_true rfl) (fun h4_ e4 => ?_)
        obtain ⟨NR4, f4, H41, H42⟩ := e4
        refine r_istore_n d_Lane_renewRow_43 (Nat.le_of_ble_eq_true rfl) ?_
        refine r_goto 101 d_Lane_renewRow_44 (by decide) ?_
        refine r_iincP d_Lane_renewRow_101 rfl (Nat.le_of_ble_eq_true rfl) ?_
        refine r_goto 9 d_Lane_renewRow_104 (by decide) ?_
        rw [nI_1]
        have := ih (k + 1) h4_ NR4 (by omega) (fr_tr F f4 (fun _ q => q) (fun _ q => q)) H41 (by rw [est]; exact H42)
        rw [est] at this
        have e6 : ((sp_renew B row k).1 ++ sp_shs x (sel B k row).length (sel B k row)).length = (sp_renew B row k).1.length + (sel B k row).length := by rw [List.length_append]; unfold sp_shs; rw [List.length_mapIdx]
        rw [e6] at this
        exact r_loc _ (fun q hq => by simp at hq; rcases hq with q | q | q | q | q <;> subst q <;> rfl) this
  refine r_iconst 4 d_Lane_renewRow_0 (by decide) ?_
  refine r_ri nI4 ?_
  refine r_iload_n d_Lane_renewRow_1 rfl ?_
  refine r_isub d_Lane_renewRow_2 ?_
  refine r_ri (pk_sub (by omega)) ?_
  refine r_istore_n d_Lane_renewRow_3 (Nat.le_of_ble_eq_true rfl) ?_
  refine r_iconst 0 d_Lane_renewRow_4 (by decide) ?_
  refine r_ri nI_0.symm ?_
  refine r_istore_n d_Lane_renewRow_5 (Nat.le_of_ble_eq_true rfl) ?_
  refine r_iconst 0 d_Lane_renewRow_6 (by decide) ?_
  refine r_ri nI_0.symm ?_
  refine r_istore d_Lane_renewRow_7 (Nat.le_of_ble_eq_true rfl) ?_
  exact r_loc _ (fun q hq => by simp at hq; rcases hq with q | q | q | q | q <;> subst q <;> rfl) (key B.length 0 h NR (by omega) fr_rf HN (fun i y hy => by cases hy))
end
section
/-! TOKENS TO THOSE AT THE PADDLES -/
def setA (y : sp_B) (a : Int32) : sp_B := (y.1, y.2.1, y.2.2.1, a, y.2.2.2.2)
def okQ (q : sp_Q) : Prop := ∀ x ∈ q, 0 ≤ x.1.toInt
noncomputable def sp_pay1 (y : sp_B) (qs : sp_Q × sp_Q) : sp_B × (sp_Q × sp_Q) := @ite _ (y.2.2.2.1 = -1 ∧ rched y) (Classical.propDecidable _) (if y.2.2.1 = 0 then (match qs.1 with
  | [] => (y, qs)
  | x :: t => (setA y x.1, (t, qs.2))) else (match qs.2 with
  | [] => (y, qs)
  | x :: t => (setA y x.1, (qs.1, t)))) (y, qs)
noncomputable def sp_pay : List sp_B → sp_Q × sp_Q → List sp_B × (sp_Q × sp_Q)
  | [], qs => ([], qs)
  | y :: rest, qs => ((sp_pay1 y qs).1 :: (sp_pay rest (sp_pay1 y qs).2).1, (sp_pay rest (sp_pay1 y qs).2).2)
theorem isRow_put {pre rest : List sp_B} {y y' : sp_B} {RW : Nat → sp_B} (h : isRow (pre ++ y :: rest) RW) (ok : okB y') : isRow ((pre ++ [y']) ++ rest) (fun i => if i = pre.length then y' else RW i) := by
  obtain ⟨h1, h2⟩ := h
  refine ⟨by simpa using h1, fun i x hx => ?_⟩
  show (if i = pre.length then y' else RW i) = x ∧ okB x
  rw [List.append_assoc] at hx
  by_cases hi : i < pre.length
  · rw [List.getElem?_append_left hi] at hx
    rw [if_neg (by omega)]
    exact h2 i x (by rw [List.getElem?_append_left hi]; exact hx)
  · rw [List.getElem?_append_right (by omega)] at hx
    by_cases e : i = pre.length
    · subst e
      rw [Nat.sub_self] at hx
      cases hx
      rw [if_pos rfl]; exact ⟨rfl, ok⟩
    · rw [if_neg e]
      refine h2 i x ?_
      rw [List.getElem?_append_right (by omega)]
      obtain ⟨j, hj⟩ : ∃ j, i - pre.length = j + 1 := ⟨i - pre.length - 1, by omega⟩
      rw [hj] at hx ⊢
      exact hx
theorem c_Lane_handOut {l : Launch} (htr : l.stackTraces = false) {d : Nat} {h : ac_H} {Φ : ac_R → ac_H → Prop} {b r r' m : Nat} {row : List sp_B} {RW : Nat → sp_B} {qs : sp_Q × sp_Q} {gq : Nat → Option Nat} (hd : 1 ≤ d) (hb : h[b]? = some (lnO b r r' m row.length)) (HW : Rws h r RW) (hrow : isRow row RW) (hq : h[b + 6]? = some (.inl (.inr (.inr (1, 2, gq))))) (hq0 : gq 0 = some (b + 7)) (hq1 : gq 1 = some (b + 10)) (H0 : TLs h (b + 7) 6 qs.1) (H1 : TLs h (b + 10) 6 qs.2) (ok0 : okQ qs.1) (ok1 : okQ qs.2) (hr : r = b + 15 ∨ r = b + 20)
    (hΦ : ∀ h' RW', fr h h' [r + 1, r + 2, r + 3, r + 4, b + 7, b + 8, b + 9, b + 10, b + 11, b + 12] → Rws h' r RW' → isRow (sp_pay row qs).1 RW' → TLs h' (b + 7) 6 (sp_pay row qs).2.1 → TLs h' (b + 10) 6 (sp_pay row qs).2.2 → okQ (sp_pay row qs).2.1 → okQ (sp_pay row qs).2.2 → (sp_pay row qs).1.length = row.length → Φ (.inl none) h') : ac_Mt l d m_Lane_handOutTokens [.ref b] h 0 0 Φ := by
  refine ac_enter (by decide) rfl htr (fun _ => Nat.le_of_ble_eq_true rfl) ?_
  have hr4 := hrow.1
  have key : ∀ (rest pre : List sp_B) (qs2 : sp_Q × sp_Q) (h2 : ac_H) (RW2 : Nat → sp_B), pre.length + rest.length = row.length → isRow (pre ++ rest) RW2 → fr h h2 [r + 1, r + 2, r + 3, r + 4, b + 7, b + 8, b + 9, b + 10, b + 11, b + 12] → Rws h2 r RW2 → TLs h2 (b + 7) 6 qs2.1 → TLs h2 (b + 10) 6 qs2.2 → okQ qs2.1 → okQ qs2.2 → (pre ++ (sp_pay rest qs2).1, (sp_pay rest qs2).2) = sp_pay row qs → ac_G (l, d, m_Lane_handOutTokens, 0, 0, Φ, h.length, none) 2 [(1, .int (nI pre.length)), (0, .ref b)] [] h2 0 0 := by
    intro rest
    induction rest with
    | nil =>
      intro pre qs2 h2 RW2 hl hr2 F HW2 T0 T1 k0 k1 he
      rw [List.append_nil] at hr2
      have hb2 := fr_at F (b := b) (by simp only [List.mem_cons, List.not_mem_nil, or_false, not_or]; omega) hb
      have h4 := hr2.1
      rw [List.length_nil] at hl
      refine r_iload_n d_Lane_handOutTokens_2 rfl ?_
      refine r_aload_n d_Lane_handOutTokens_3 rfl ?_
      refine r_getfield d_Lane_handOutTokens_4 f_Lane_52 hb2 rfl ?_
      refine r_icmp_ge 62 d_Lane_handOutTokens_7 (by decide) (fun c1 => ?_) (fun c1 => absurd (nI_le (by omega) (by omega)) c1)
      rw [← he] at hΦ
      have e1 : pre ++ (sp_pay [] qs2).1 = pre := List.append_nil _
      refine r_vret d_Lane_handOutTokens_62 rfl (hΦ h2 RW2 F HW2 (by rw [e1]; exact hr2) T0 T1 k0 k1 (by show (pre ++ (sp_pay [] qs2).1).length = _; rw [e1]; omega)) (Nat.le_refl _) (Nat.le_refl _)
    | cons y rest ih =>
      intro pre qs2 h2 RW2 hl hr2 F HW2 T0 T1 k0 k1 he
      rw [List.length_cons] at hl
      have h4 : pre.length < 4 := by have := hr2.1; rw [List.length_append, List.length_cons] at this; omega
      have hy : (pre ++ y :: rest)[pre.length]? = some y := by rw [List.getElem?_append_right (Nat.le_refl _), Nat.sub_self]; rfl
      obtain ⟨ey, oky⟩ := hr2.2 _ _ hy
      obtain ⟨⟨gr, g1, g2⟩, g3⟩ := id HW2
      have hc := g3 pre.length h4
      rw [ey] at hc
      have hb2 := fr_at F (b := b) (by simp only [List.mem_cons, List.not_mem_nil, or_false, not_or]; omega) hb
      have hq2 := fr_at F (b := b + 6) (by simp only [List.mem_cons, List.not_mem_nil, or_false, not_or]; omega) hq
      have o3 := oky.2.2.1
      have lenp : ∀ y' : sp_B, (pre ++ [y']).length = pre.length + 1 := fun y' => by rw [List.length_append]; rfl
      -- nothing changes
      have same : sp_pay1 y qs2 = (y, qs2) → ac_G (l, d, m_Lane_handOutTokens, 0, 0, Φ, h.length, none) 56 [(2, .ref (r + 1 + pre.length)), (1, .int (nI pre.length)), (0, .ref b)] [] h2 0 0 := by
        intro e1
        refine r_iincP d_Lane_handOutTokens_56 rfl (Nat.le_of_ble_eq_true rfl) ?_
        refine r_goto 2 d_Lane_handOutTokens_59 (by decide) ?_
        rw [nI_1]
        have := ih (pre ++ [y]) qs2 h2 RW2 (by rw [lenp]; omega) (by rw [List.append_assoc]; exact hr2) F HW2 T0 T1 k0 k1 (by rw [← he, sp_pay, e1]; simp)
        rw [lenp] at this
        exact r_loc _ (fun q hq => by simp at hq; rcases hq with q | q <;> subst q <;> rfl) this
      refine r_iload_n d_Lane_handOutTokens_2 rfl ?_
      refine r_aload_n d_Lane_handOutTokens_3 rfl ?_
      refine r_getfield d_Lane_handOutTokens_4 f_Lane_52 hb2 rfl ?_
      refine r_icmp_ge 62 d_Lane_handOutTokens_7 (by decide) (fun c1 => absurd ((nI_leI (by omega) (by omega)).mp c1) (by omega)) (fun c1 => ?_)
      refine r_aload_n d_Lane_handOutTokens_10 rfl ?_
      refine r_getfield d_Lane_handOutTokens_11 f_Lane_59 hb2 rfl ?_
      refine r_iload_n d_Lane_handOutTokens_14 rfl ?_
      refine r_aaloadN d_Lane_handOutTokens_15 g1 rfl h4 (by omega) (g2 _ h4) ?_
      refine r_astore_n d_Lane_handOutTokens_16 (Nat.le_of_ble_eq_true rfl) ?_
      refine r_aload_n d_Lane_handOutTokens_17 rfl ?_
      refine r_getfield d_Lane_handOutTokens_18 f_Lane_115 hc rfl ?_
      refine r_iconst (-1) d_Lane_handOutTokens_21 (by decide) ?_
      refine r_icmp_ne 56 d_Lane_handOutTokens_22 (by decide) (fun c2 => ?_) (fun c2 => ?_)
      · exact same (if_neg (fun z => c2 z.1))
      · refine r_aload_n d_Lane_handOutTokens_25 rfl ?_
        refine r_cVi [] (r + 1 + pre.length) (d - 1) 0 0 (b01 (rched y)) (fun h' => h2 = h') d_Lane_handOutTokens_26 q_Lane_171 hc rfl rfl (c_Body_reached htr hc oky ⟨rfl, rfl⟩) (by show d - 1 + 1 ≤ d; omega) (Nat.le_refl _) (Nat.le_refl _) (Nat.le_of_ble_eq_true rfl) (fun h' e9 => ?_)
        subst e9
        refine r_if_eq 56 d_Lane_handOutTokens_29 (by decide) (fun c3 => ?_) (fun c3 => ?_)
        · exact same (if_neg (fun z => b01_0.mp c3 z.2))
        · have hre : rched y := Classical.byContradiction fun z => c3 (b01_f z)
          refine r_aload_n d_Lane_handOutTokens_32 rfl ?_
          refine r_aload_n d_Lane_handOutTokens_33 rfl ?_
          refine r_getfield d_Lane_handOutTokens_34 f_Lane_37 hb2 rfl ?_
          refine r_aload_n d_Lane_handOutTokens_37 rfl ?_
          refine r_getfield d_Lane_handOutTokens_38 f_Lane_168 hc rfl ?_
          -- the body gets a, the queues are qs3
          have fin : ∀ (a : Int32) (qs3 : sp_Q × sp_Q) (h3 : ac_H), sp_pay1 y qs2 = (setA y a, qs3) → okB (setA y a) → fr h2 h3 [b + 7, b + 8, b + 9, b + 10, b + 11, b + 12] → TLs h3 (b + 7) 6 qs3.1 → TLs h3 (b + 10) 6 qs3.2 → okQ qs3.1 → okQ qs3.2 → ac_G (l, d, m_Lane_handOutTokens, 0, 0, Φ, h.length, none) 53 [(2, .ref (r + 1 + pre.length)), (1, .int (nI pre.length)), (0, .ref b)] [.int a, .ref (r + 1 + pre.length)] h3 0 0 := by
            intro a qs3 h3 e1 oka F3 A0 A1 o0 o1
            have hc3 := fr_at F3 (b := r + 1 + pre.length) (by simp only [List.mem_cons, List.not_mem_nil, or_false, not_or]; omega) hc
            refine r_putfieldN d_Lane_handOutTokens_53 f_Lane_115 hc3 (Nat.le_of_ble_eq_true rfl) (fun _ => rfl) (fun _ => rfl) (fun h53_ fr53 g53 => ?_)
            refine r_iincP d_Lane_handOutTokens_56 rfl (Nat.le_of_ble_eq_true rfl) ?_
            refine r_goto 2 d_Lane_handOutTokens_59 (by decide) ?_
            rw [nI_1]
            have HW3 : Rws h3 r RW2 := HW2.fr F3 (fun j hj => by simp; omega)
            have := ih (pre ++ [setA y a]) qs3 h53_ _ (by rw [lenp]; omega) (isRow_put hr2 oka) (fr_tr (fr_tr F F3 (cs := [r + 1, r + 2, r + 3, r + 4, b + 7, b + 8, b + 9, b + 10, b + 11, b + 12]) (fun _ q => q) (by simp)) fr53 (fun _ q => q) (fun q hq => by simp at hq ⊢; omega)) (Rws_put HW3 h4 fr53 g53) (A0.fr fr53 (by simp only [List.mem_cons, List.not_mem_nil, or_false, not_or]; omega) (by simp only [List.mem_cons, List.not_mem_nil, or_false, not_or]; omega) (by simp only [List.mem_cons, List.not_mem_nil, or_false, not_or]; omega)) (A1.fr fr53 (by simp only [List.mem_cons, List.not_mem_nil, or_false, not_or]; omega) (by simp only [List.mem_cons, List.not_mem_nil, or_false, not_or]; omega) (by simp only [List.mem_cons, List.not_mem_nil, or_false, not_or]; omega)) o0 o1 (by rw [← he, sp_pay, e1]; simp)
            rw [lenp] at this
            exact r_loc _ (fun q hq => by simp at hq; rcases hq with q | q <;> subst q <;> rfl) this
          have eself : setA y (-1) = y := by unfold setA; rw [← c2]
          refine r_if_ne 48 d_Lane_handOutTokens_41 (by decide) (fun c4 => ?_) (fun c4 => ?_)
          · have hs : ¬ y.2.2.1 = 0 := fun z => c4 (by rw [z]; decide)
            refine r_iconst 1 d_Lane_handOutTokens_48 (by decide) ?_
            refine r_ri nI1 ?_
            refine r_aaloadN d_Lane_handOutTokens_49 hq2 rfl (by omega) (by omega) hq1 ?_
            rcases qs2 with ⟨p0, p1⟩
            cases p1 with
            | nil =>
              refine r_cVi [] (b + 10) (d - 1) 0 0 (-1) (fun h' => h2 = h') d_Lane_handOutTokens_50 q_Lane_174 T1.1 rfl rfl (c_TL_removeOldest htr T1 (fun _ => ⟨rfl, rfl⟩) (fun x9 r9 h' e _ _ => by cases e)) (by show d - 1 + 1 ≤ d; omega) (Nat.le_refl _) (Nat.le_refl _) (Nat.le_of_ble_eq_true rfl) (fun h' e9 => ?_)
              subst e9
              exact fin (-1) (p0, []) h2 (by unfold sp_pay1; rw [if_pos ⟨c2, hre⟩, if_neg hs, eself]) (by rw [eself]; exact oky) fr_rf T0 T1 k0 k1
            | cons x p1 =>
              refine r_cVi [] (b + 10) (d - 1) 0 0 x.1 (fun h' => fr h2 h' [b + 10, b + 10 + 1, b + 10 + 2] ∧ TLs h' (b + 10) 6 p1) d_Lane_handOutTokens_50 q_Lane_174 T1.1 rfl rfl (c_TL_removeOldest htr T1 (fun e => by cases e) (fun x9 r9 h' e f' H' => by cases e; exact ⟨rfl, f', H'⟩)) (by show d - 1 + 1 ≤ d; omega) (Nat.le_refl _) (Nat.le_refl _) (Nat.le_of_ble_eq_true rfl) (fun h3 e3 => ?_)
              exact fin x.1 (p0, p1) h3 (by unfold sp_pay1; rw [if_pos ⟨c2, hre⟩, if_neg hs]) ⟨oky.1, oky.2.1, oky.2.2.1, oky.2.2.2.1, Or.inr (k1 x List.mem_cons_self)⟩ (fr_mo e3.1 (by simp)) (T0.fr e3.1 (by simp only [List.mem_cons, List.not_mem_nil, or_false, not_or]; omega) (by simp only [List.mem_cons, List.not_mem_nil, or_false, not_or]; omega) (by simp only [List.mem_cons, List.not_mem_nil, or_false, not_or]; omega)) e3.2 k0 (fun z hz => k1 z (List.mem_cons_of_mem _ hz))
          · have hs : y.2.2.1 = 0 := (nI_eq (by omega) (by omega)).mp (by rw [c4]; decide)
            refine r_iconst 0 d_Lane_handOutTokens_44 (by decide) ?_
            refine r_goto 49 d_Lane_handOutTokens_45 (by decide) ?_
            refine r_ri nI_0.symm ?_
            refine r_aaloadN d_Lane_handOutTokens_49 hq2 rfl (by omega) (by omega) hq0 ?_
            rcases qs2 with ⟨p0, p1⟩
            cases p0 with
            | nil =>
              refine r_cVi [] (b + 7) (d - 1) 0 0 (-1) (fun h' => h2 = h') d_Lane_handOutTokens_50 q_Lane_174 T0.1 rfl rfl (c_TL_removeOldest htr T0 (fun _ => ⟨rfl, rfl⟩) (fun x9 r9 h' e _ _ => by cases e)) (by show d - 1 + 1 ≤ d; omega) (Nat.le_refl _) (Nat.le_refl _) (Nat.le_of_ble_eq_true rfl) (fun h' e9 => ?_)
              subst e9
              exact fin (-1) ([], p1) h2 (by unfold sp_pay1; rw [if_pos ⟨c2, hre⟩, if_pos hs, eself]) (by rw [eself]; exact oky) fr_rf T0 T1 k0 k1
            | cons x p0 =>
              refine r_cVi [] (b + 7) (d - 1) 0 0 x.1 (fun h' => fr h2 h' [b + 7, b + 7 + 1, b + 7 + 2] ∧ TLs h' (b + 7) 6 p0) d_Lane_handOutTokens_50 q_Lane_174 T0.1 rfl rfl (c_TL_removeOldest htr T0 (fun e => by cases e) (fun x9 r9 h' e f' H' => by cases e; exact ⟨rfl, f', H'⟩)) (by show d - 1 + 1 ≤ d; omega) (Nat.le_refl _) (Nat.le_refl _) (Nat.le_of_ble_eq_true rfl) (fun h3 e3 => ?_)
              exact fin x.1 (p0, p1) h3 (by unfold sp_pay1; rw [if_pos ⟨c2, hre⟩, if_pos hs]) ⟨oky.1, oky.2.1, oky.2.2.1, oky.2.2.2.1, Or.inr (k0 x List.mem_cons_self)⟩ (fr_mo e3.1 (by simp)) e3.2 (T1.fr e3.1 (by simp only [List.mem_cons, List.not_mem_nil, or_false, not_or]; omega) (by simp only [List.mem_cons, List.not_mem_nil, or_false, not_or]; omega) (by simp only [List.mem_cons, List.not_mem_nil, or_false, not_or]; omega)) (fun z hz => k0 z (List.mem_cons_of_mem _ hz)) k1
  refine r_iconst 0 d_Lane_handOutTokens_0 (by decide) ?_
  refine r_ri nI_0.symm ?_
  refine r_istore_n d_Lane_handOutTokens_1 (Nat.le_of_ble_eq_true rfl) ?_
  exact key row [] qs h RW (by simp) hrow fr_rf HW H0 H1 ok0 ok1 (by simp)
end
section
/-! A LANE: what it is, a change of its mode, its tick -/
abbrev sp_L : Type := (Int32 × Int32 × Int32 × Int32) × (Int32 × Int32) × (sp_Q × sp_Q) × (Nat → Int32) × Nat × List sp_B
/-- h' is h where P does not hold -/
def frP (h h' : ac_H) (P : Nat → Prop) : Prop := h'.length = h.length ∧ ∀ x, ¬ P x → h'[x]? = h[x]?
theorem frP_rf {h : ac_H} {P : Nat → Prop} : frP h h P := ⟨rfl, fun _ _ => rfl⟩
theorem frP_tr {h h1 h2 : ac_H} {P : Nat → Prop} (a : frP h h1 P) (b : frP h1 h2 P) : frP h h2 P := ⟨b.1.trans a.1, fun x hx => (b.2 x hx).trans (a.2 x hx)⟩
theorem frP_mo {h h1 : ac_H} {P Q : Nat → Prop} (a : frP h h1 P) (hq : ∀ x, P x → Q x) : frP h h1 Q := ⟨a.1, fun x hx => a.2 x (fun z => hx (hq x z))⟩
theorem frP_of {h h1 : ac_H} {as : List Nat} {P : Nat → Prop} (a : fr h h1 as) (hp : ∀ x ∈ as, P x) : frP h h1 P := ⟨a.1, fun x hx => a.2 x (fun z => hx (hp x z))⟩
theorem frP_at {h h' : ac_H} {P : Nat → Prop} (a : frP h h' P) {b : Nat} {e : ac_E} (hb : ¬ P b) (he : h[b]? = some e) : h'[b]? = some e := (a.2 b hb).trans he
theorem TLs.pt {h h' : ac_H} {t N : Nat} {q : sp_Q} (H : TLs h t N q) (hp : ∀ j, j < 3 → h'[t + j]? = h[t + j]?) : TLs h' t N q := by
  obtain ⟨a1, a2, a3, f, g, a4, a5, a6⟩ := H
  exact ⟨(hp 0 (by omega)).trans a1, a2, a3, f, g, (hp 1 (by omega)).trans a4, (hp 2 (by omega)).trans a5, a6⟩
theorem Rfs.pt {h h' : ac_H} {t : Nat} {q : List Int32} (H : Rfs h t q) (hp : ∀ j, j < 2 → h'[t + j]? = h[t + j]?) : Rfs h' t q := by
  obtain ⟨a1, a2, f, a4, a6⟩ := H
  exact ⟨(hp 0 (by omega)).trans a1, a2, f, (hp 1 (by omega)).trans a4, a6⟩
theorem Bls.pt {h h' : ac_H} {t : Nat} {B : List (Nat × Nat)} (H : Bls h t B) (hp : ∀ j, j < 3 → h'[t + j]? = h[t + j]?) : Bls h' t B := by
  obtain ⟨a1, a2, a3, f, g, a4, a5, a6⟩ := H
  exact ⟨(hp 0 (by omega)).trans a1, a2, a3, f, g, (hp 1 (by omega)).trans a4, (hp 2 (by omega)).trans a5, a6⟩
theorem Rws.pt {h h' : ac_H} {r : Nat} {RW : Nat → sp_B} (H : Rws h r RW) (hp : ∀ j, j < 5 → h'[r + j]? = h[r + j]?) : Rws h' r RW := by
  obtain ⟨⟨gr, a1, a2⟩, a3⟩ := H
  refine ⟨⟨gr, (hp 0 (by omega)).trans a1, a2⟩, fun i hi => ?_⟩
  have := hp (1 + i) (by omega)
  rw [← Nat.add_assoc] at this
  exact this.trans (a3 i hi)
/-- the lane L lies at b -/
def Lns (h : ac_H) (b : Nat) (L : sp_L) : Prop := L.2.2.2.2.1 ≤ 3 ∧ okQ L.2.2.1.1 ∧ okQ L.2.2.1.2 ∧ ∃ (r r' : Nat) (RW NR : Nat → sp_B) (B : List (Nat × Nat)) (gl : Nat → Int32) (gq : Nat → Option Nat), ((r = b + 15 ∧ r' = b + 20) ∨ (r = b + 20 ∧ r' = b + 15)) ∧
  h[b]? = some (lnO b r r' L.2.2.2.2.1 L.2.2.2.2.2.length) ∧ h[b + 1]? = some (.inr (2, [.int L.1.1, .int L.1.2.1, .int L.1.2.2.1, .int L.1.2.2.2])) ∧ Bls h (b + 2) B ∧ h[b + 5]? = some (.inr (4, [.int L.2.1.1, .int L.2.1.2])) ∧
  (h[b + 6]? = some (.inl (.inr (.inr (1, 2, gq)))) ∧ gq 0 = some (b + 7) ∧ gq 1 = some (b + 10)) ∧ TLs h (b + 7) 6 L.2.2.1.1 ∧ TLs h (b + 10) 6 L.2.2.1.2 ∧ h[b + 13]? = some (.inl (.inl (5, L.2.2.2.1))) ∧ h[b + 14]? = some (.inl (.inl (4, gl))) ∧ Rws h r RW ∧ isRow L.2.2.2.2.2 RW ∧ Rws h r' NR
theorem Lns.pt {h h' : ac_H} {b : Nat} {L : sp_L} (H : Lns h b L) (hp : ∀ j, j < 25 → h'[b + j]? = h[b + j]?) : Lns h' b L := by
  obtain ⟨x1, x2, x3, r, r', RW, NR, B, gl, gq, a0, a1, a2, a3, a4, ⟨a5, a6, a7⟩, a8, a9, a10, a11, a12, a13, a14⟩ := H
  have sub : ∀ k n, k + n ≤ 25 → ∀ j, j < n → h'[b + k + j]? = h[b + k + j]? := fun k n hk j hj => by
    have := hp (k + j) (by omega)
    rw [← Nat.add_assoc] at this
    exact this
  have sr : ∀ r9, r9 = b + 15 ∨ r9 = b + 20 → ∀ j, j < 5 → h'[r9 + j]? = h[r9 + j]? := fun r9 h9 => by
    rcases h9 with q | q <;> subst q
    · exact sub 15 5 (by omega)
    · exact sub 20 5 (by omega)
  exact ⟨x1, x2, x3, r, r', RW, NR, B, gl, gq, a0, (hp 0 (by omega)).trans a1, (hp 1 (by omega)).trans a2, a3.pt (sub 2 3 (by omega)), (hp 5 (by omega)).trans a4, ⟨(hp 6 (by omega)).trans a5, a6, a7⟩, a8.pt (sub 7 3 (by omega)), a9.pt (sub 10 3 (by omega)), (hp 13 (by omega)).trans a10, (hp 14 (by omega)).trans a11, a12.pt (sr r (by omega)), a13, a14.pt (sr r' (by omega))⟩
/-- the places of a lane at b and of the refunds at rr -/
def inL (b rr x : Nat) : Prop := (b ≤ x ∧ x < b + 25) ∨ x = rr ∨ x = rr + 1
/-- what a change to mode m leaves of a queue, and what it gives back -/
def sp_mq (m s : Nat) (q : sp_Q) : sp_Q := if m = 0 ∨ m = s + 1 then q else []
def sp_mr (m s : Nat) (q : sp_Q) : List Int32 := if m = 0 ∨ m = s + 1 then [] else q.map (·.1)
def sp_mode (m : Nat) (L : sp_L) : sp_L := (L.1, L.2.1, (sp_mq m 0 L.2.2.1.1, sp_mq m 1 L.2.2.1.2), L.2.2.2.1, m, L.2.2.2.2.2)
theorem sp_mq_ok {m s : Nat} {q : sp_Q} (h : okQ q) : okQ (sp_mq m s q) := by
  unfold sp_mq
  split
  · exact h
  · exact fun x hx => by cases hx
theorem c_Lane_changeMode {l : Launch} (htr : l.stackTraces = false) {d : Nat} {h : ac_H} {Φ : ac_R → ac_H → Prop} {b rr m : Nat} {L : sp_L} {R : List Int32} (hd : 2 ≤ d) (H : Lns h b L) (HR : Rfs h rr R) (hm : m ≤ 3) (hrr : b + 24 < rr) (hcap : R.length + L.2.2.1.1.length + L.2.2.1.2.length ≤ 512)
    (hΦ : ∀ h', frP h h' (inL b rr) → Lns h' b (sp_mode m L) → Rfs h' rr (R ++ sp_mr m 0 L.2.2.1.1 ++ sp_mr m 1 L.2.2.1.2) → Φ (.inl (some (.int (nI ((sp_mr m 0 L.2.2.1.1).length + (sp_mr m 1 L.2.2.1.2).length))))) h') : ac_Mt l d m_Lane_changeMode [.ref b, .int (nI m), .ref rr] h 0 0 Φ := by
  obtain ⟨x1, x2, x3, r, r', RW, NR, B, gl, gq, a0, a1, a2, a3, a4, ⟨a5, a6, a7⟩, a8, a9, a10, a11, a12, a13, a14⟩ := H
  refine ac_enter (by decide) rfl htr (fun _ => Nat.le_of_ble_eq_true rfl) ?_
  refine r_aload_n d_Lane_changeMode_0 rfl ?_
  refine r_iload_n d_Lane_changeMode_1 rfl ?_
  refine r_putfieldN d_Lane_changeMode_2 f_Lane_48 a1 (Nat.le_of_ble_eq_true rfl) (fun _ => rfl) (fun _ => rfl) (fun h2_ fr2 g2 => ?_)
  have g2 : h2_[b]? = some (lnO b r r' m L.2.2.2.2.2.length) := g2
  refine r_iconst 0 d_Lane_changeMode_5 (by decide) ?_
  refine r_ri nI_0.symm ?_
  refine r_istore_n d_Lane_changeMode_6 (Nat.le_of_ble_eq_true rfl) ?_
  refine r_iconst 0 d_Lane_changeMode_7 (by decide) ?_
  refine r_ri nI_0.symm ?_
  refine r_istore d_Lane_changeMode_8 (Nat.le_of_ble_eq_true rfl) ?_
  -- one side
  have side : ∀ (s n t : Nat) (q : sp_Q) (R2 : List Int32) (h3 : ac_H), s ≤ 1 → t + 2 < rr → h3[b]? = some (lnO b r r' m L.2.2.2.2.2.length) → h3[b + 6]? = some (.inl (.inr (.inr (1, 2, gq)))) → gq s = some t → TLs h3 t 6 q → Rfs h3 rr R2 → R2.length + q.length ≤ 512 → (∀ h4, fr h3 h4 [t, t + 1, t + 2, rr, rr + 1] → TLs h4 t 6 (sp_mq m s q) → Rfs h4 rr (R2 ++ sp_mr m s q) → ac_G (l, d, m_Lane_changeMode, 0, 0, Φ, h.length, none) 10 [(4, .int (nI (s + 1))), (3, .int (nI (n + (sp_mr m s q).length))), (0, .ref b), (1, .int (nI m)), (2, .ref rr)] [] h4 0 0) → ac_G (l, d, m_Lane_changeMode, 0, 0, Φ, h.length, none) 10 [(4, .int (nI s)), (3, .int (nI n)), (0, .ref b), (1, .int (nI m)), (2, .ref rr)] [] h3 0 0 := by
    intro s n t q R2 h3 hs ht k1 k2 k3 k4 k5 k6 kk
    refine r_iload d_Lane_changeMode_10 rfl ?_
    refine r_aload_n d_Lane_changeMode_12 rfl ?_
    refine r_getfield d_Lane_changeMode_13 f_Lane_37 k1 rfl ?_
    refine r_alenR d_Lane_changeMode_16 k2 rfl ?_
    refine r_icmp_ge 49 d_Lane_changeMode_17 (by decide) (fun c1 => absurd ((nI_leI (by omega) (by omega)).mp c1) (by omega)) (fun c1 => ?_)
    refine r_aload_n d_Lane_changeMode_20 rfl ?_
    refine r_iload d_Lane_changeMode_21 rfl ?_
    refine r_cVi [.int (nI s)] b (d - 1) 0 0 (b01 (tk m s)) (fun h' => h3 = h') d_Lane_changeMode_23 q_Lane_69 k1 rfl rfl (c_Lane_takesSide htr k1 hm hs ⟨rfl, rfl⟩) (by show d - 1 + 1 ≤ d; omega) (Nat.le_refl _) (Nat.le_refl _) (Nat.le_of_ble_eq_true rfl) (fun h' e9 => ?_)
    subst e9
    refine r_if_ne 43 d_Lane_changeMode_26 (by decide) (fun c2 => ?_) (fun c2 => ?_)
    · have hk9 : m = 0 ∨ m = s + 1 := Classical.byContradiction fun z => c2 (b01_f z)
      have e1 : sp_mq m s q = q := if_pos hk9
      have e2 : sp_mr m s q = [] := if_pos hk9
      rw [e1, e2, List.append_nil] at kk
      refine r_iincP d_Lane_changeMode_43 rfl (Nat.le_of_ble_eq_true rfl) ?_
      refine r_goto 10 d_Lane_changeMode_46 (by decide) ?_
      rw [nI_1]
      exact r_loc _ (fun q hq => by simp at hq; rcases hq with q | q | q | q | q <;> subst q <;> rfl) (kk h3 fr_rf k4 k5)
    · have hk9 : ¬ (m = 0 ∨ m = s + 1) := b01_0.mp c2
      have e1 : sp_mq m s q = [] := if_neg hk9
      have e2 : sp_mr m s q = q.map (·.1) := if_neg hk9
      rw [e1, e2, List.length_map] at kk
      refine r_iload_n d_Lane_changeMode_29 rfl ?_
      refine r_aload_n d_Lane_changeMode_30 rfl ?_
      refine r_getfield d_Lane_changeMode_31 f_Lane_37 k1 rfl ?_
      refine r_iload d_Lane_changeMode_34 rfl ?_
      refine r_aaloadN d_Lane_changeMode_36 k2 rfl (by omega) (by omega) k3 ?_
      refine r_aload_n d_Lane_changeMode_37 rfl ?_
      refine r_cVi [.ref rr] t (d - 1) 0 0 (nI q.length) (fun h' => fr h3 h' [t, t + 1, t + 2, rr, rr + 1] ∧ TLs h' t 6 [] ∧ Rfs h' rr (R2 ++ q.map (·.1))) d_Lane_changeMode_38 q_Lane_73 k4.1 rfl rfl (c_TL_refundAll htr (by omega) k4 k5 ht k6 (fun h' f' H1 H2 => ⟨rfl, f', H1, H2⟩)) (by show d - 1 + 1 ≤ d; omega) (Nat.le_refl _) (Nat.le_refl _) (Nat.le_of_ble_eq_true rfl) (fun h4 e4 => ?_)
      refine r_iadd d_Lane_changeMode_41 ?_
      refine r_ri (nI_add _ _) ?_
      refine r_istore_n d_Lane_changeMode_42 (Nat.le_of_ble_eq_true rfl) ?_
      refine r_iincP d_Lane_changeMode_43 rfl (Nat.le_of_ble_eq_true rfl) ?_
      refine r_goto 10 d_Lane_changeMode_46 (by decide) ?_
      rw [nI_1]
      exact r_loc _ (fun q hq => by simp at hq; rcases hq with q | q | q | q | q <;> subst q <;> rfl) (kk h4 e4.1 e4.2.1 e4.2.2)
  have hm0 : (sp_mr m 0 L.2.2.1.1).length ≤ L.2.2.1.1.length := by unfold sp_mr; split <;> simp
  refine r_loc [(4, .int (nI 0)), (3, .int (nI 0)), (0, .ref b), (1, .int (nI m)), (2, .ref rr)] (fun q hq => by simp at hq; rcases hq with q | q | q | q | q <;> subst q <;> rfl) ?_
  refine side 0 0 (b + 7) L.2.2.1.1 R h2_ (by omega) (by omega) g2 (fr_at fr2 (by simp only [List.mem_cons, List.not_mem_nil, or_false, not_or]; omega) a5) a6 (a8.fr fr2 (by simp only [List.mem_cons, List.not_mem_nil, or_false, not_or]; omega) (by simp only [List.mem_cons, List.not_mem_nil, or_false, not_or]; omega) (by simp only [List.mem_cons, List.not_mem_nil, or_false, not_or]; omega)) (HR.fr fr2 (by simp only [List.mem_cons, List.not_mem_nil, or_false, not_or]; omega) (by simp only [List.mem_cons, List.not_mem_nil, or_false, not_or]; omega)) (by omega) (fun h4 F4 T4 R4 => ?_)
  refine side 1 _ (b + 10) L.2.2.1.2 _ h4 (by omega) (by omega) (fr_at F4 (by simp only [List.mem_cons, List.not_mem_nil, or_false, not_or]; omega) g2) (fr_at F4 (by simp only [List.mem_cons, List.not_mem_nil, or_false, not_or]; omega) (fr_at fr2 (by simp only [List.mem_cons, List.not_mem_nil, or_false, not_or]; omega) a5)) a7 ((a9.fr fr2 (by simp only [List.mem_cons, List.not_mem_nil, or_false, not_or]; omega) (by simp only [List.mem_cons, List.not_mem_nil, or_false, not_or]; omega) (by simp only [List.mem_cons, List.not_mem_nil, or_false, not_or]; omega)).fr F4 (by simp only [List.mem_cons, List.not_mem_nil, or_false, not_or]; omega) (by simp only [List.mem_cons, List.not_mem_nil, or_false, not_or]; omega) (by simp only [List.mem_cons, List.not_mem_nil, or_false, not_or]; omega)) R4 (by rw [List.length_append]; omega) (fun h5 F5 T5 R5 => ?_)
  have k1 := fr_at F5 (b := b) (by simp only [List.mem_cons, List.not_mem_nil, or_false, not_or]; omega) (fr_at F4 (by simp only [List.mem_cons, List.not_mem_nil, or_false, not_or]; omega) g2)
  have k2 := fr_at F5 (b := b + 6) (by simp only [List.mem_cons, List.not_mem_nil, or_false, not_or]; omega) (fr_at F4 (by simp only [List.mem_cons, List.not_mem_nil, or_false, not_or]; omega) (fr_at fr2 (by simp only [List.mem_cons, List.not_mem_nil, or_false, not_or]; omega) a5))
  refine r_iload d_Lane_changeMode_10 rfl ?_
  refine r_aload_n d_Lane_changeMode_12 rfl ?_
  refine r_getfield d_Lane_changeMode_13 f_Lane_37 k1 rfl ?_
  refine r_alenR d_Lane_changeMode_16 k2 rfl ?_
  refine r_icmp_ge 49 d_Lane_changeMode_17 (by decide) (fun c1 => ?_) (fun c1 => absurd (nI_le (Nat.le_refl _) (by omega)) c1)
  refine r_iload_n d_Lane_changeMode_49 rfl ?_
  refine r_ri (by rw [Nat.zero_add]) ?_
  have P2 : frP h h5 (inL b rr) := frP_tr (frP_tr (frP_of fr2 (fun x hx => by simp at hx; unfold inL; omega)) (frP_of F4 (fun x hx => by simp at hx; unfold inL; omega))) (frP_of F5 (fun x hx => by simp at hx; unfold inL; omega))
  have FF : fr h h5 [b, b + 7, b + 8, b + 9, b + 10, b + 11, b + 12, rr, rr + 1] := fr_tr (fr_tr fr2 F4 (cs := [b, b + 7, b + 8, b + 9, b + 10, b + 11, b + 12, rr, rr + 1]) (by simp) (fun x hx => by simp at hx ⊢; omega)) F5 (fun _ q => q) (fun x hx => by simp at hx ⊢; omega)
  refine r_iret d_Lane_changeMode_50 rfl (hΦ h5 P2 ⟨hm, sp_mq_ok x2, sp_mq_ok x3, r, r', RW, NR, B, gl, gq, a0, k1, fr_at FF (by simp only [List.mem_cons, List.not_mem_nil, or_false, not_or]; omega) a2, a3.fr FF (by simp only [List.mem_cons, List.not_mem_nil, or_false, not_or]; omega) (by simp only [List.mem_cons, List.not_mem_nil, or_false, not_or]; omega) (by simp only [List.mem_cons, List.not_mem_nil, or_false, not_or]; omega), fr_at FF (by simp only [List.mem_cons, List.not_mem_nil, or_false, not_or]; omega) a4, ⟨k2, a6, a7⟩, T4.fr F5 (by simp only [List.mem_cons, List.not_mem_nil, or_false, not_or]; omega) (by simp only [List.mem_cons, List.not_mem_nil, or_false, not_or]; omega) (by simp only [List.mem_cons, List.not_mem_nil, or_false, not_or]; omega), T5, fr_at FF (by simp only [List.mem_cons, List.not_mem_nil, or_false, not_or]; omega) a10, fr_at FF (by simp only [List.mem_cons, List.not_mem_nil, or_false, not_or]; omega) a11, a12.fr FF (fun j hj => by simp; omega), a13, a14.fr FF (fun j hj => by simp; omega)⟩ R5) (Nat.le_refl _) (Nat.le_refl _)

theorem sp_exp_len (now : Int32) : ∀ (q : sp_Q) (R : List Int32), (sp_exp now q R).1.length + (sp_exp now q R).2.length = q.length + R.length
  | [], R => rfl
  | x :: q, R => by
    rw [sp_exp]
    by_cases c : now - x.2 < 200
    · rw [if_pos c]
    · rw [if_neg c, sp_exp_len now q (R ++ [x.1])]
      simp only [List.length_append, List.length_cons, List.length_nil]; omega
theorem sp_exp_ok (now : Int32) : ∀ (q : sp_Q) (R : List Int32), okQ q → okQ (sp_exp now q R).1
  | [], R, h => h
  | x :: q, R, h => by
    rw [sp_exp]
    by_cases c : now - x.2 < 200
    · rw [if_pos c]; exact h
    · rw [if_neg c]; exact sp_exp_ok now q _ (fun y hy => h y (List.mem_cons_of_mem _ hy))
noncomputable def sp_ord (op : Prop) (ang : Int32) (bl : Prop) : Int32 := @sp_order op (Classical.propDecidable _) ang bl (Classical.propDecidable _)
theorem sp_ord_eq {op bl : Prop} {x y ang : Int32} (hx : ¬ x = 0 ↔ op) (hy : ¬ y = 0 ↔ bl) : sp_order (¬ x = 0) ang (¬ y = 0) = sp_ord op ang bl := by
  unfold sp_ord sp_order
  by_cases c : op
  · rw [if_pos c, if_pos (hx.mpr c)]
  · rw [if_neg c, if_neg (fun z => c (hx.mp z))]
    by_cases c2 : bl
    · rw [if_neg (fun z => z.2 (hy.mpr c2)), if_neg (fun z => z.2 c2)]
    · by_cases c3 : 0 < ang
      · rw [if_pos ⟨c3, fun z => c2 (hy.mp z)⟩, if_pos ⟨c3, c2⟩]
      · rw [if_neg (fun z => c3 z.1), if_neg (fun z => c3 z.1)]
/-- what is seen -/
def sp_see (E : Int32 × Int32 × Int32 × Int32) : Int32 := E.1 &&& E.2.1 ||| E.1 &&& E.2.2.1 ||| E.2.1 &&& E.2.2.1
noncomputable def sp_blobs (L : sp_L) : List (Nat × Nat) := sp_find (sp_see L.1) 10
/-- a lane after a tick, the refunds, how many left -/
noncomputable def sp_tR (now : Int32) (L : sp_L) (R : List Int32) : List Int32 := (sp_exp now L.2.2.1.2 (sp_exp now L.2.2.1.1 R).2).2
noncomputable def sp_tRow (L : sp_L) : List sp_B := (sp_renew (sp_blobs L) L.2.2.2.2.2 (sp_blobs L).length).1
noncomputable def sp_tPay (now : Int32) (L : sp_L) (R : List Int32) : List sp_B × (sp_Q × sp_Q) := sp_pay (sp_tRow L) ((sp_exp now L.2.2.1.1 R).1, (sp_exp now L.2.2.1.2 (sp_exp now L.2.2.1.1 R).2).1)
noncomputable def sp_tOrd (now al : Int32) (L : sp_L) (R : List Int32) : Int32 := sp_ord (¬ al = 0 ∨ owned (sp_tPay now L R).1) L.2.1.1 (¬ sp_see L.1 &&& 120 = 0)
noncomputable def sp_tick (now al : Int32) (L : sp_L) (R : List Int32) : sp_L × List Int32 × Nat :=
  (((L.1.1, L.1.1, L.1.2.1, sp_see L.1), (L.2.1.1 + sp_tOrd now al L R, sp_tOrd now al L R), (sp_tPay now L R).2, sp_cnts (sp_gone (sp_blobs L) L.2.2.2.2.2) L.2.2.2.1, L.2.2.2.2.1, (sp_tPay now L R).1), sp_tR now L R ++ (sp_gone (sp_blobs L) L.2.2.2.2.2).flatMap sp_rf, (sp_gone (sp_blobs L) L.2.2.2.2.2).length)
theorem c_Lane_tick {l : Launch} (htr : l.stackTraces = false) {d : Nat} {h : ac_H} {Φ : ac_R → ac_H → Prop} {b rr : Nat} {now al : Int32} {L : sp_L} {R : List Int32} (hd : 4 ≤ d) (H : Lns h b L) (HR : Rfs h rr R) (hrr : b + 24 < rr) (hcap : R.length + L.2.2.1.1.length + L.2.2.1.2.length + ownN L.2.2.2.2.2 ≤ 512)
    (hΦ : ∀ h', frP h h' (inL b rr) → Lns h' b (sp_tick now al L R).1 → Rfs h' rr (sp_tick now al L R).2.1 → Φ (.inl (some (.int (nI (sp_tick now al L R).2.2)))) h') : ac_Mt l d m_Lane_tick [.ref b, .int now, .int al, .ref rr] h 0 0 Φ := by
  obtain ⟨x1, x2, x3, r, r', RW, NR, B, gl, gq, a0, a1, a2, a3, a4, ⟨a5, a6, a7⟩, a8, a9, a10, a11, a12, a13, a14⟩ := H
  have hl1 := sp_exp_len now L.2.2.1.1 R
  have hl2 := sp_exp_len now L.2.2.1.2 (sp_exp now L.2.2.1.1 R).2
  refine ac_enter (by decide) rfl htr (fun _ => Nat.le_of_ble_eq_true rfl) ?_
  refine r_iconst 0 d_Lane_tick_0 (by decide) ?_
  refine r_ri nI_0.symm ?_
  refine r_istore d_Lane_tick_1 (Nat.le_of_ble_eq_true rfl) ?_
  have side : ∀ (s t : Nat) (q : sp_Q) (R2 : List Int32) (h3 : ac_H), s ≤ 1 → t + 2 < rr → h3[b]? = some (lnO b r r' L.2.2.2.2.1 L.2.2.2.2.2.length) → h3[b + 6]? = some (.inl (.inr (.inr (1, 2, gq)))) → gq s = some t → TLs h3 t 6 q → Rfs h3 rr R2 → R2.length + q.length ≤ 512 → (∀ h4, fr h3 h4 [t, t + 1, t + 2, rr, rr + 1] → TLs h4 t 6 (sp_exp now q R2).1 → Rfs h4 rr (sp_exp now q R2).2 → ac_G (l, d, m_Lane_tick, 0, 0, Φ, h.length, none) 3 [(4, .int (nI (s + 1))), (0, .ref b), (1, .int now), (2, .int al), (3, .ref rr)] [] h4 0 0) → ac_G (l, d, m_Lane_tick, 0, 0, Φ, h.length, none) 3 [(4, .int (nI s)), (0, .ref b), (1, .int now), (2, .int al), (3, .ref rr)] [] h3 0 0 := by
    intro s t q R2 h3 hs ht k1 k2 k3 k4 k5 k6 kk
    refine r_iload d_Lane_tick_3 rfl ?_
    refine r_aload_n d_Lane_tick_5 rfl ?_
    refine r_getfield d_Lane_tick_6 f_Lane_37 k1 rfl ?_
    refine r_alenR d_Lane_tick_9 k2 rfl ?_
    refine r_icmp_ge 31 d_Lane_tick_10 (by decide) (fun c1 => absurd ((nI_leI (by omega) (by omega)).mp c1) (by omega)) (fun c1 => ?_)
    refine r_aload_n d_Lane_tick_13 rfl ?_
    refine r_getfield d_Lane_tick_14 f_Lane_37 k1 rfl ?_
    refine r_iload d_Lane_tick_17 rfl ?_
    refine r_aaloadN d_Lane_tick_19 k2 rfl (by omega) (by omega) k3 ?_
    refine r_iload_n d_Lane_tick_20 rfl ?_
    refine r_aload_n d_Lane_tick_21 rfl ?_
    refine r_cVv [.int now, .ref rr] t (d - 1) 0 0 (fun h' => fr h3 h' [t, t + 1, t + 2, rr, rr + 1] ∧ TLs h' t 6 (sp_exp now q R2).1 ∧ Rfs h' rr (sp_exp now q R2).2) d_Lane_tick_22 q_Lane_77 k4.1 rfl rfl (c_TL_refundExpired htr (by omega) k4 k5 (by omega) ht k6 (fun h' f' H1 H2 => ⟨rfl, f', H1, H2⟩)) (by show d - 1 + 1 ≤ d; omega) (Nat.le_refl _) (Nat.le_refl _) (Nat.le_of_ble_eq_true rfl) (fun h4 e4 => ?_)
    refine r_iincP d_Lane_tick_25 rfl (Nat.le_of_ble_eq_true rfl) ?_
    refine r_goto 3 d_Lane_tick_28 (by decide) ?_
    rw [nI_1]
    exact r_loc _ (fun q hq => by simp at hq; rcases hq with q | q | q | q | q <;> subst q <;> rfl) (kk h4 e4.1 e4.2.1 e4.2.2)
  refine side 0 (b + 7) L.2.2.1.1 R h (by omega) (by omega) a1 a5 a6 a8 HR (by omega) (fun h4 F4 T4 R4 => ?_)
  refine side 1 (b + 10) L.2.2.1.2 _ h4 (by omega) (by omega) (fr_at F4 (by simp only [List.mem_cons, List.not_mem_nil, or_false, not_or]; omega) a1) (fr_at F4 (by simp only [List.mem_cons, List.not_mem_nil, or_false, not_or]; omega) a5) a7 (a9.fr F4 (by simp only [List.mem_cons, List.not_mem_nil, or_false, not_or]; omega) (by simp only [List.mem_cons, List.not_mem_nil, or_false, not_or]; omega) (by simp only [List.mem_cons, List.not_mem_nil, or_false, not_or]; omega)) R4 (by omega) (fun h5 F5 T5 R5 => ?_)
  have T4 := T4.fr F5 (by simp only [List.mem_cons, List.not_mem_nil, or_false, not_or]; omega) (by simp only [List.mem_cons, List.not_mem_nil, or_false, not_or]; omega) (by simp only [List.mem_cons, List.not_mem_nil, or_false, not_or]; omega)
  have FF : fr h h5 [b + 7, b + 8, b + 9, b + 10, b + 11, b + 12, rr, rr + 1] := fr_tr F4 F5 (fun x hx => by simp at hx ⊢; omega) (fun x hx => by simp at hx ⊢; omega)
  have k1 := fr_at FF (b := b) (by simp only [List.mem_cons, List.not_mem_nil, or_false, not_or]; omega) a1
  have k2 := fr_at FF (b := b + 6) (by simp only [List.mem_cons, List.not_mem_nil, or_false, not_or]; omega) a5
  have ke := fr_at FF (b := b + 1) (by simp only [List.mem_cons, List.not_mem_nil, or_false, not_or]; omega) a2
  refine r_iload d_Lane_tick_3 rfl ?_
  refine r_aload_n d_Lane_tick_5 rfl ?_
  refine r_getfield d_Lane_tick_6 f_Lane_37 k1 rfl ?_
  refine r_alenR d_Lane_tick_9 k2 rfl ?_
  refine r_icmp_ge 31 d_Lane_tick_10 (by decide) (fun c1 => ?_) (fun c1 => absurd (nI_le (Nat.le_refl _) (by omega)) c1)
  refine r_aload_n d_Lane_tick_31 rfl ?_
  refine r_getfield d_Lane_tick_32 f_Lane_12 k1 rfl ?_
  refine r_cVv [] (b + 1) (d - 1) 0 0 (fun h' => fr h5 h' [b + 1] ∧ h'[b + 1]? = some (.inr (2, [.int L.1.1, .int L.1.1, .int L.1.2.1, .int (sp_see L.1)]))) d_Lane_tick_35 q_Lane_81 ke rfl rfl (c_Eye_take htr ke (fun h' f' H1 => ⟨rfl, f', H1⟩)) (by show d - 1 + 1 ≤ d; omega) (Nat.le_refl _) (Nat.le_refl _) (Nat.le_of_ble_eq_true rfl) (fun h6 e6 => ?_)
  obtain ⟨F6, e6⟩ := e6
  have FF : fr h h6 [b + 1, b + 7, b + 8, b + 9, b + 10, b + 11, b + 12, rr, rr + 1] := fr_tr FF F6 (fun x hx => by simp at hx ⊢; omega) (fun x hx => by simp at hx ⊢; omega)
  have k1 := fr_at F6 (b := b) (by simp only [List.mem_cons, List.not_mem_nil, or_false, not_or]; omega) k1
  have HB6 : Bls h6 (b + 2) B := a3.fr FF (by simp only [List.mem_cons, List.not_mem_nil, or_false, not_or]; omega) (by simp only [List.mem_cons, List.not_mem_nil, or_false, not_or]; omega) (by simp only [List.mem_cons, List.not_mem_nil, or_false, not_or]; omega)
  refine r_aload_n d_Lane_tick_38 rfl ?_
  refine r_getfield d_Lane_tick_39 f_Lane_21 k1 rfl ?_
  refine r_aload_n d_Lane_tick_42 rfl ?_
  refine r_getfield d_Lane_tick_43 f_Lane_12 k1 rfl ?_
  refine r_getfield d_Lane_tick_46 f_Lane_84 e6 rfl ?_
  refine r_cVv [.int (sp_see L.1)] (b + 2) (d - 1) 0 0 (fun h' => fr h6 h' [b + 2, b + 2 + 1, b + 2 + 2] ∧ Bls h' (b + 2) (sp_blobs L)) d_Lane_tick_49 q_Lane_87 HB6.1 rfl rfl (c_Blobs_find htr (by omega) HB6 (fun h' f' H1 => ⟨rfl, f', H1⟩)) (by show d - 1 + 1 ≤ d; omega) (Nat.le_refl _) (Nat.le_refl _) (Nat.le_of_ble_eq_true rfl) (fun h7 e7 => ?_)
  obtain ⟨F7, HB7⟩ := e7
  have FF : fr h h7 [b + 1, b + 2, b + 3, b + 4, b + 7, b + 8, b + 9, b + 10, b + 11, b + 12, rr, rr + 1] := fr_tr FF F7 (fun x hx => by simp at hx ⊢; omega) (fun x hx => by simp at hx ⊢; omega)
  have F57 : fr h5 h7 [b + 1, b + 2, b + 3, b + 4] := fr_tr F6 F7 (fun x hx => by simp at hx ⊢; omega) (fun x hx => by simp at hx ⊢; omega)
  have k1 := fr_at F7 (b := b) (by simp only [List.mem_cons, List.not_mem_nil, or_false, not_or]; omega) k1
  have ke := fr_at F7 (b := b + 1) (by simp only [List.mem_cons, List.not_mem_nil, or_false, not_or]; omega) e6
  have HW7 : Rws h7 r RW := a12.fr FF (fun j hj => by simp; omega)
  have HN7 : Rws h7 r' NR := a14.fr FF (fun j hj => by simp; omega)
  have hc7 := fr_at FF (b := b + 13) (by simp only [List.mem_cons, List.not_mem_nil, or_false, not_or]; omega) a10
  have hg7 := fr_at FF (b := b + 14) (by simp only [List.mem_cons, List.not_mem_nil, or_false, not_or]; omega) a11
  have HR7 : Rfs h7 rr (sp_tR now L R) := R5.fr F57 (by simp only [List.mem_cons, List.not_mem_nil, or_false, not_or]; omega) (by simp only [List.mem_cons, List.not_mem_nil, or_false, not_or]; omega)
  have hcap7 : (sp_tR now L R).length + ownN L.2.2.2.2.2 ≤ 512 := by unfold sp_tR; omega
  have hrow4 := a13.1
  have hlg : (sp_gone (sp_blobs L) L.2.2.2.2.2).length ≤ L.2.2.2.2.2.length := List.length_filter_le _ _
  refine r_aload_n d_Lane_tick_52 rfl ?_
  refine r_aload_n d_Lane_tick_53 rfl ?_
  refine r_cVi [.ref rr] b (d - 1) 0 0 (nI (sp_gone (sp_blobs L) L.2.2.2.2.2).length) (fun h' => ∃ gl', fr h7 h' [b + 13, b + 14, rr, rr + 1] ∧ h'[b + 14]? = some (.inl (.inl (4, gl'))) ∧ isG (L.2.2.2.2.2.map (sp_goal (sp_blobs L))) gl' ∧ h'[b + 13]? = some (.inl (.inl (5, sp_cnts (sp_gone (sp_blobs L) L.2.2.2.2.2) L.2.2.2.1))) ∧ Rfs h' rr (sp_tR now L R ++ (sp_gone (sp_blobs L) L.2.2.2.2.2).flatMap sp_rf)) d_Lane_tick_54 q_Lane_90 k1 rfl rfl (c_Lane_sendBodies htr (by omega) k1 HW7 a13 HB7 hg7 hc7 HR7 hcap7 (by omega) hrr (fun h' gl' f' H1 H2 H3 H4 => ⟨rfl, gl', f', H1, H2, H3, H4⟩)) (by show d - 1 + 1 ≤ d; omega) (Nat.le_refl _) (Nat.le_refl _) (Nat.le_of_ble_eq_true rfl) (fun h8 e8 => ?_)
  obtain ⟨gl8, F8, g81, g82, g83, g84⟩ := e8
  have k1 := fr_at F8 (b := b) (by simp only [List.mem_cons, List.not_mem_nil, or_false, not_or]; omega) k1
  have ke := fr_at F8 (b := b + 1) (by simp only [List.mem_cons, List.not_mem_nil, or_false, not_or]; omega) ke
  have HW8 : Rws h8 r RW := HW7.fr F8 (fun j hj => by simp; omega)
  have HN8 : Rws h8 r' NR := HN7.fr F8 (fun j hj => by simp; omega)
  have HB8 : Bls h8 (b + 2) (sp_blobs L) := HB7.fr F8 (by simp only [List.mem_cons, List.not_mem_nil, or_false, not_or]; omega) (by simp only [List.mem_cons, List.not_mem_nil, or_false, not_or]; omega) (by simp only [List.mem_cons, List.not_mem_nil, or_false, not_or]; omega)
  refine r_istore d_Lane_tick_57 (Nat.le_of_ble_eq_true rfl) ?_
  refine r_aload_n d_Lane_tick_59 rfl ?_
  refine r_aload_n d_Lane_tick_60 rfl ?_
  refine r_getfield d_Lane_tick_61 f_Lane_52 k1 rfl ?_
  refine r_iload d_Lane_tick_64 rfl ?_
  refine r_isub d_Lane_tick_66 ?_
  refine r_ri (pk_sub hlg) ?_
  refine r_cVv [.int (nI (L.2.2.2.2.2.length - (sp_gone (sp_blobs L) L.2.2.2.2.2).length))] b (d - 1) 0 0 (fun h' => ∃ NR', fr h8 h' [b, r' + 1, r' + 2, r' + 3, r' + 4] ∧ h'[b]? = some (lnO b r' r L.2.2.2.2.1 (sp_tRow L).length) ∧ Rws h' r' NR' ∧ isRow (sp_tRow L) NR') d_Lane_tick_67 q_Lane_93 k1 rfl rfl (c_Lane_renewRow htr (by omega) k1 HW8 a13 HN8 HB8 g81 g82 a0 (fun h' NR' f' H1 H2 H3 => ⟨rfl, NR', f', H1, H2, H3⟩)) (by show d - 1 + 1 ≤ d; omega) (Nat.le_refl _) (Nat.le_refl _) (Nat.le_of_ble_eq_true rfl) (fun h9 e9 => ?_)
  obtain ⟨NR9, F9, g91, g92, g93⟩ := e9
  have F59 : fr h5 h9 [b, b + 1, b + 2, b + 3, b + 4, b + 13, b + 14, rr, rr + 1, r' + 1, r' + 2, r' + 3, r' + 4] := fr_tr (fr_tr F57 F8 (cs := [b, b + 1, b + 2, b + 3, b + 4, b + 13, b + 14, rr, rr + 1, r' + 1, r' + 2, r' + 3, r' + 4]) (fun x hx => by simp at hx ⊢; omega) (fun x hx => by simp at hx ⊢; omega)) F9 (fun _ q => q) (fun x hx => by simp at hx ⊢; omega)
  have T0 : TLs h9 (b + 7) 6 (sp_exp now L.2.2.1.1 R).1 := T4.fr F59 (by simp only [List.mem_cons, List.not_mem_nil, or_false, not_or]; omega) (by simp only [List.mem_cons, List.not_mem_nil, or_false, not_or]; omega) (by simp only [List.mem_cons, List.not_mem_nil, or_false, not_or]; omega)
  have T1 : TLs h9 (b + 10) 6 (sp_exp now L.2.2.1.2 (sp_exp now L.2.2.1.1 R).2).1 := T5.fr F59 (by simp only [List.mem_cons, List.not_mem_nil, or_false, not_or]; omega) (by simp only [List.mem_cons, List.not_mem_nil, or_false, not_or]; omega) (by simp only [List.mem_cons, List.not_mem_nil, or_false, not_or]; omega)
  have k2 := fr_at F59 (b := b + 6) (by simp only [List.mem_cons, List.not_mem_nil, or_false, not_or]; omega) k2
  have ke := fr_at F9 (b := b + 1) (by simp only [List.mem_cons, List.not_mem_nil, or_false, not_or]; omega) ke
  have HW9 : Rws h9 r RW := HW8.fr F9 (fun j hj => by simp; omega)
  refine r_aload_n d_Lane_tick_70 rfl ?_
  refine r_cVv [] b (d - 1) 0 0 (fun h' => ∃ RW', fr h9 h' [r' + 1, r' + 2, r' + 3, r' + 4, b + 7, b + 8, b + 9, b + 10, b + 11, b + 12] ∧ Rws h' r' RW' ∧ isRow (sp_tPay now L R).1 RW' ∧ TLs h' (b + 7) 6 (sp_tPay now L R).2.1 ∧ TLs h' (b + 10) 6 (sp_tPay now L R).2.2 ∧ okQ (sp_tPay now L R).2.1 ∧ okQ (sp_tPay now L R).2.2 ∧ (sp_tPay now L R).1.length = (sp_tRow L).length) d_Lane_tick_71 q_Lane_96 g91 rfl rfl (c_Lane_handOut htr (by omega) g91 g92 g93 k2 a6 a7 (qs := ((sp_exp now L.2.2.1.1 R).1, (sp_exp now L.2.2.1.2 (sp_exp now L.2.2.1.1 R).2).1)) T0 T1 (sp_exp_ok _ _ _ x2) (sp_exp_ok _ _ _ x3) (by omega) (fun h' RW' f' H1 H2 H3 H4 H5 H6 H7 => ⟨rfl, RW', f', H1, H2, H3, H4, H5, H6, H7⟩)) (by show d - 1 + 1 ≤ d; omega) (Nat.le_refl _) (Nat.le_refl _) (Nat.le_of_ble_eq_true rfl) (fun h10 e10 => ?_)
  obtain ⟨RW10, F10, q1, q2, q3, q4, q5, q6, q7⟩ := e10
  have k1 := fr_at F10 (b := b) (by simp only [List.mem_cons, List.not_mem_nil, or_false, not_or]; omega) g91
  rw [← q7] at k1
  have ke := fr_at F10 (b := b + 1) (by simp only [List.mem_cons, List.not_mem_nil, or_false, not_or]; omega) ke
  have F5A : fr h5 h10 [b, b + 1, b + 2, b + 3, b + 4, b + 7, b + 8, b + 9, b + 10, b + 11, b + 12, b + 13, b + 14, rr, rr + 1, r' + 1, r' + 2, r' + 3, r' + 4] := fr_tr F59 F10 (fun x hx => by simp at hx ⊢; omega) (fun x hx => by simp at hx ⊢; omega)
  have kp := fr_at F5A (b := b + 5) (by simp only [List.mem_cons, List.not_mem_nil, or_false, not_or]; omega) (fr_at (fr_tr F4 F5 (cs := [b + 7, b + 8, b + 9, b + 10, b + 11, b + 12, rr, rr + 1]) (fun x hx => by simp at hx ⊢; omega) (fun x hx => by simp at hx ⊢; omega)) (b := b + 5) (by simp only [List.mem_cons, List.not_mem_nil, or_false, not_or]; omega) a4)
  refine r_aload_n d_Lane_tick_74 rfl ?_
  refine r_getfield d_Lane_tick_75 f_Lane_28 k1 rfl ?_
  refine r_iload_n d_Lane_tick_78 rfl ?_
  -- the paddles
  have last : ∀ x y : Int32, (¬ x = 0 ↔ (¬ al = 0 ∨ owned (sp_tPay now L R).1)) → (¬ y = 0 ↔ ¬ sp_see L.1 &&& 120 = 0) → ac_G (l, d, m_Lane_tick, 0, 0, Φ, h.length, none) 112 [(4, .int (nI (sp_gone (sp_blobs L) L.2.2.2.2.2).length)), (0, .ref b), (1, .int now), (2, .int al), (3, .ref rr)] [.int y, .int x, .ref (b + 5)] h10 0 0 := by
    intro x y ex ey
    refine r_cVv [.int x, .int y] (b + 5) (d - 1) 0 0 (fun h' => fr h10 h' [b + 5] ∧ h'[b + 5]? = some (.inr (4, [.int (L.2.1.1 + sp_tOrd now al L R), .int (sp_tOrd now al L R)]))) d_Lane_tick_112 q_Lane_103 kp rfl rfl (c_Pad_move htr kp (fun h' f' H1 => ⟨rfl, f', by rw [sp_ord_eq ex ey] at H1; exact H1⟩)) (by show d - 1 + 1 ≤ d; omega) (Nat.le_refl _) (Nat.le_refl _) (Nat.le_of_ble_eq_true rfl) (fun h11 e11 => ?_)
    obtain ⟨F11, e11⟩ := e11
    refine r_iload d_Lane_tick_115 rfl ?_
    have Fall : frP h h11 (inL b rr) := frP_tr (frP_tr (frP_tr (frP_of F4 (fun x hx => by simp at hx; unfold inL; omega)) (frP_of F5 (fun x hx => by simp at hx; unfold inL; omega))) (frP_of F5A (fun x hx => by simp at hx; unfold inL; omega))) (frP_of F11 (fun x hx => by simp at hx; unfold inL; omega))
    refine r_iret d_Lane_tick_117 rfl (hΦ h11 Fall ⟨x1, q5, q6, r', r, RW10, RW, sp_blobs L, gl8, gq, by omega, fr_at F11 (by simp only [List.mem_cons, List.not_mem_nil, or_false, not_or]; omega) k1, fr_at F11 (by simp only [List.mem_cons, List.not_mem_nil, or_false, not_or]; omega) ke, ((HB8.fr F9 (by simp only [List.mem_cons, List.not_mem_nil, or_false, not_or]; omega) (by simp only [List.mem_cons, List.not_mem_nil, or_false, not_or]; omega) (by simp only [List.mem_cons, List.not_mem_nil, or_false, not_or]; omega)).fr F10 (by simp only [List.mem_cons, List.not_mem_nil, or_false, not_or]; omega) (by simp only [List.mem_cons, List.not_mem_nil, or_false, not_or]; omega) (by simp only [List.mem_cons, List.not_mem_nil, or_false, not_or]; omega)).fr F11 (by simp only [List.mem_cons, List.not_mem_nil, or_false, not_or]; omega) (by simp only [List.mem_cons, List.not_mem_nil, or_false, not_or]; omega) (by simp only [List.mem_cons, List.not_mem_nil, or_false, not_or]; omega), e11, ⟨fr_at F11 (by simp only [List.mem_cons, List.not_mem_nil, or_false, not_or]; omega) (fr_at F10 (by simp only [List.mem_cons, List.not_mem_nil, or_false, not_or]; omega) k2), a6, a7⟩, q3.fr F11 (by simp only [List.mem_cons, List.not_mem_nil, or_false, not_or]; omega) (by simp only [List.mem_cons, List.not_mem_nil, or_false, not_or]; omega) (by simp only [List.mem_cons, List.not_mem_nil, or_false, not_or]; omega), q4.fr F11 (by simp only [List.mem_cons, List.not_mem_nil, or_false, not_or]; omega) (by simp only [List.mem_cons, List.not_mem_nil, or_false, not_or]; omega) (by simp only [List.mem_cons, List.not_mem_nil, or_false, not_or]; omega), fr_at F11 (by simp only [List.mem_cons, List.not_mem_nil, or_false, not_or]; omega) (fr_at F10 (by simp only [List.mem_cons, List.not_mem_nil, or_false, not_or]; omega) (fr_at F9 (by simp only [List.mem_cons, List.not_mem_nil, or_false, not_or]; omega) g83)), fr_at F11 (by simp only [List.mem_cons, List.not_mem_nil, or_false, not_or]; omega) (fr_at F10 (by simp only [List.mem_cons, List.not_mem_nil, or_false, not_or]; omega) (fr_at F9 (by simp only [List.mem_cons, List.not_mem_nil, or_false, not_or]; omega) g81)), q1.fr F11 (fun j hj => by simp; omega), q2, (HW9.fr F10 (fun j hj => by simp; omega)).fr F11 (fun j hj => by simp; omega)⟩ (((g84.fr F9 (by simp only [List.mem_cons, List.not_mem_nil, or_false, not_or]; omega) (by simp only [List.mem_cons, List.not_mem_nil, or_false, not_or]; omega)).fr F10 (by simp only [List.mem_cons, List.not_mem_nil, or_false, not_or]; omega) (by simp only [List.mem_cons, List.not_mem_nil, or_false, not_or]; omega)).fr F11 (by simp only [List.mem_cons, List.not_mem_nil, or_false, not_or]; omega) (by simp only [List.mem_cons, List.not_mem_nil, or_false, not_or]; omega))) (Nat.le_refl _) (Nat.le_refl _)
  have mid : ∀ x : Int32, (¬ x = 0 ↔ (¬ al = 0 ∨ owned (sp_tPay now L R).1)) → ac_G (l, d, m_Lane_tick, 0, 0, Φ, h.length, none) 94 [(4, .int (nI (sp_gone (sp_blobs L) L.2.2.2.2.2).length)), (0, .ref b), (1, .int now), (2, .int al), (3, .ref rr)] [.int x, .ref (b + 5)] h10 0 0 := by
    intro x ex
    refine r_aload_n d_Lane_tick_94 rfl ?_
    refine r_getfield d_Lane_tick_95 f_Lane_12 k1 rfl ?_
    refine r_getfield d_Lane_tick_98 f_Lane_84 ke rfl ?_
    refine r_bipush 120 d_Lane_tick_101 (by decide) ?_
    refine r_iand d_Lane_tick_103 ?_
    refine r_if_eq 111 d_Lane_tick_104 (by decide) (fun c2 => ?_) (fun c2 => ?_)
    · refine r_iconst 0 d_Lane_tick_111 (by decide) ?_
      exact last x 0 ex ⟨fun z => absurd rfl z, fun z => absurd c2 z⟩
    · refine r_iconst 1 d_Lane_tick_107 (by decide) ?_
      refine r_goto 112 d_Lane_tick_108 (by decide) ?_
      exact last x 1 ex ⟨fun _ => c2, fun _ => by decide⟩
  refine r_if_ne 89 d_Lane_tick_79 (by decide) (fun c1 => ?_) (fun c1 => ?_)
  · refine r_iconst 1 d_Lane_tick_89 (by decide) ?_
    refine r_goto 94 d_Lane_tick_90 (by decide) ?_
    exact r_loc _ (fun q hq => by simp at hq; rcases hq with q | q | q | q | q <;> subst q <;> rfl) (mid 1 ⟨fun _ => Or.inl c1, fun _ => by decide⟩)
  · refine r_aload_n d_Lane_tick_82 rfl ?_
    refine r_cVi [] b (d - 1) 0 0 (b01 (owned (sp_tPay now L R).1)) (fun h' => h10 = h') d_Lane_tick_83 q_Lane_99 k1 rfl rfl (c_Lane_some htr k1 q1 q2 ⟨rfl, rfl⟩) (by show d - 1 + 1 ≤ d; omega) (Nat.le_refl _) (Nat.le_refl _) (Nat.le_of_ble_eq_true rfl) (fun h' e9 => ?_)
    subst e9
    refine r_if_eq 93 d_Lane_tick_86 (by decide) (fun c2 => ?_) (fun c2 => ?_)
    · refine r_iconst 0 d_Lane_tick_93 (by decide) ?_
      exact r_loc _ (fun q hq => by simp at hq; rcases hq with q | q | q | q | q <;> subst q <;> rfl) (mid 0 ⟨fun z => absurd rfl z, fun z => z.elim (fun z => absurd c1 z) (fun z => absurd z (b01_0.mp c2))⟩)
    · refine r_iconst 1 d_Lane_tick_89 (by decide) ?_
      refine r_goto 94 d_Lane_tick_90 (by decide) ?_
      exact r_loc _ (fun q hq => by simp at hq; rcases hq with q | q | q | q | q <;> subst q <;> rfl) (mid 1 ⟨fun _ => Or.inr (Classical.byContradiction fun z => c2 (b01_f z)), fun _ => by decide⟩)
end
section
/-! CONSTRUCTORS: heaps written as h0 ++ cs, what is made goes to the end -/
section APP
variable {g : ac_P} {pc : Nat} {L : List (Nat × Value)} {S : List Value} {h0 cs : ac_H} {k z : Nat}
theorem ap_get {j : Nat} : (h0 ++ cs)[h0.length + j]? = cs[j]? := by
  rw [List.getElem?_append_right (by omega), Nat.add_sub_cancel_left]
theorem ap_set {j : Nat} {e : ac_E} : (h0 ++ cs).set (h0.length + j) e = h0 ++ cs.set j e := by
  rw [List.set_append_right _ _ (by omega), Nat.add_sub_cancel_left]
theorem r_newA {idx ci N : Nat} {fs : List Value} (hd : decode (ac_cc g) pc = .ok (.new idx, 3)) (hf : ac_N (ac_y g).cls idx ci N fs) (h1 : k + 1 ≤ ac_mc g) (h2 : z + N ≤ ac_ms g) (kk : ac_G g (pc + 3) L (.ref (h0.length + cs.length) :: S) (h0 ++ (cs ++ [.inr (ci, fs)])) (k + 1) (z + N)) : ac_G g pc L S (h0 ++ cs) k z := by
  refine r_new hd hf h1 h2 ?_
  rw [List.length_append, List.append_assoc]; exact kk
theorem r_newarrayIA {n : Nat} (hd : decode (ac_cc g) pc = .ok (.newarray .int, 2)) (hw9 : Cond.arrayClass .int ∈ ac_U) (hn : n < 1000000) (h1 : k + 1 ≤ ac_mc g) (h2 : z + n ≤ ac_ms g) (kk : ac_G g (pc + 2) L (.ref (h0.length + cs.length) :: S) (h0 ++ (cs ++ [.inl (.inl (n, fun _ => 0))])) (k + 1) (z + n)) : ac_G g pc L (.int (nI n) :: S) (h0 ++ cs) k z := by
  refine r_newarrayI hd hw9 hn h1 h2 ?_
  rw [List.length_append, List.append_assoc]; exact kk
theorem r_anewarrayA {n kd idx : Nat} {C9 : String} (hd : decode (ac_cc g) pc = .ok (.anewarray idx, 3)) (hk9 : ac_kn[kd]? = some C9) (hw9 : Cond.classLink (ac_y g).cls idx C9 ∈ ac_U) (hn : n < 1000000) (h1 : k + 1 ≤ ac_mc g) (h2 : z + n ≤ ac_ms g) (kk : ac_G g (pc + 3) L (.ref (h0.length + cs.length) :: S) (h0 ++ (cs ++ [.inl (.inr (.inr (kd, n, fun _ => none)))])) (k + 1) (z + n)) : ac_G g pc L (.int (nI n) :: S) (h0 ++ cs) k z := by
  refine r_anewarray hd hk9 hw9 hn h1 h2 ?_
  rw [List.length_append, List.append_assoc]; exact kk
theorem r_putfieldA {idx ci j : Nat} {ty : FieldType} {fs : List Value} {v : Value} (o : Nat) (hd : decode (ac_cc g) pc = .ok (.putfield idx, 3)) (hf : ac_F (ac_y g).cls idx ci j ty false) (hh : cs[o]? = some (.inr (ci, fs))) (hj : j < fs.length) (hn : ∀ σ, narrow ty (ac_v σ v) = ac_v σ v) (hfit : ∀ σ, fits ty (ac_v σ v) = true) (kk : ac_G g (pc + 3) L S (h0 ++ cs.set o (.inr (ci, fs.set j v))) k z) : ac_G g pc L (v :: .ref (h0.length + o) :: S) (h0 ++ cs) k z := by
  refine r_putfield hd hf (ap_get.trans hh) hj hn hfit ?_
  rw [ap_set]; exact kk
theorem r_putfieldFA {idx ci j : Nat} {ty : FieldType} {fs : List Value} {v : Value} (o : Nat) (hd : decode (ac_cc g) pc = .ok (.putfield idx, 3)) (hf : ac_F (ac_y g).cls idx ci j ty true) (hh : cs[o]? = some (.inr (ci, fs))) (hj : j < fs.length) (hn : ∀ σ, narrow ty (ac_v σ v) = ac_v σ v) (hfit : ∀ σ, fits ty (ac_v σ v) = true) (hin9 : (ac_y g).name = "<init>") (hdc : ∀ (C : String) (T : u_T) (N : Nat), ac_cl[ci]? = some (C, T, N) → (T j).1 = (ac_y g).cls) (kk : ac_G g (pc + 3) L S (h0 ++ cs.set o (.inr (ci, fs.set j v))) k z) : ac_G g pc L (v :: .ref (h0.length + o) :: S) (h0 ++ cs) k z := by
  refine r_putfieldF hd hf (ap_get.trans hh) hj hn hfit hin9 hdc ?_
  rw [ap_set]; exact kk
theorem r_aastoreA {n kd ci : Nat} {r9 : vw_C} {f : Nat → Option Nat} {i : Int32} {fs : List Value} (a b : Nat) (hd : decode (ac_cc g) pc = .ok (.aastore, 1)) (hh : cs[a]? = some (.inl (.inr (.inr (kd, n, f))))) (hb9 : cs[b]? = some (.inr (ci, fs))) (hc9 : ac_cl[ci]? = some r9) (hk9 : ac_kn[kd]? = some r9.1) (hin : vp_in i n) (kk : ac_G g (pc + 1) L S (h0 ++ cs.set a (.inl (.inr (.inr (kd, n, va_up f i.toNatClampNeg (some (h0.length + b))))))) k z) : ac_G g pc L (.ref (h0.length + b) :: .int i :: .ref (h0.length + a) :: S) (h0 ++ cs) k z := by
  refine r_aastore hd (ap_get.trans hh) (ap_get.trans hb9) hc9 hk9 hin ?_
  rw [ap_set]; exact kk
/-- a constructor of what was just made -/
theorem r_initNA {mi : ac_I} {n idx : Nat} (host : String) (as : List Value) (e0 : ac_E) (es : Nat → ac_H) (d' mc ms : Nat) (hd : decode (ac_cc g) pc = .ok (.invokespecial idx, 3)) (hk9 : ac_KIN (ac_y g).cls idx mi n host) (hn : as.length = n) (hM : ∀ h1 : ac_H, ac_Mt (ac_l g) d' mi (.ref h1.length :: as) (h1 ++ [e0]) mc ms (fun r h' => r = .inl none ∧ h' = h1 ++ es h1.length)) (hdd : d' + 1 ≤ ac_d g) (h1 : k + mc ≤ ac_mc g) (h2 : z + ms ≤ ac_ms g) (hs : (S.map fun v => v.category).sum ≤ 8) (kk : ac_G g (pc + 3) L S (h0 ++ (cs ++ es (h0.length + cs.length))) (k + mc) (z + ms)) : ac_G g pc L (as.reverse ++ .ref (h0.length + cs.length) :: S) (h0 ++ (cs ++ [e0])) k z := by
  have := hM (h0 ++ cs)
  rw [List.length_append, List.append_assoc] at this
  refine r_callIN host as _ d' mc ms hd hk9 hn this (fun E h' hp => nomatch hp.1) hdd h1 h2 hs (fun r h' hp _ => ?_)
  obtain ⟨e1, e2⟩ := hp
  cases e1
  rw [e2, List.append_assoc]
  exact kk
theorem r_initA {mi : ac_I} {n idx : Nat} (as : List Value) (e0 : ac_E) (es : Nat → ac_H) (d' mc ms : Nat) (hd : decode (ac_cc g) pc = .ok (.invokespecial idx, 3)) (hk9 : ac_KI (ac_y g).cls idx mi n) (hn : as.length = n) (hM : ∀ h1 : ac_H, ac_Mt (ac_l g) d' mi (.ref h1.length :: as) (h1 ++ [e0]) mc ms (fun r h' => r = .inl none ∧ h' = h1 ++ es h1.length)) (hdd : d' + 1 ≤ ac_d g) (h1 : k + mc ≤ ac_mc g) (h2 : z + ms ≤ ac_ms g) (hs : (S.map fun v => v.category).sum ≤ 8) (kk : ac_G g (pc + 3) L S (h0 ++ (cs ++ es (h0.length + cs.length))) (k + mc) (z + ms)) : ac_G g pc L (as.reverse ++ .ref (h0.length + cs.length) :: S) (h0 ++ (cs ++ [e0])) k z := by
  have := hM (h0 ++ cs)
  rw [List.length_append, List.append_assoc] at this
  refine r_callI as _ d' mc ms hd hk9 hn this (fun E h' hp => nomatch hp.1) hdd h1 h2 hs (fun r h' hp _ => ?_)
  obtain ⟨e1, e2⟩ := hp
  cases e1
  rw [e2, List.append_assoc]
  exact kk
theorem r_hp {h h' : ac_H} (he : h = h') (kk : ac_G g pc L S h' k z) : ac_G g pc L S h k z := by rw [he]; exact kk
end APP
abbrev z_arr (n : Nat) : ac_E := .inl (.inl (n, fun _ => 0))
abbrev e_Eye (_ : Nat) : ac_H := [.inr (2, [.int 0, .int 0, .int 0, .int 0])]
theorem c_Eye_init {l : Launch} (htr : l.stackTraces = false) {d : Nat} (hd : 1 ≤ d) (h0 : ac_H) : ac_Mt l d m_Eye_init (.ref h0.length :: []) (h0 ++ [.inr (2, [.int 0, .int 0, .int 0, .int 0])]) 0 0 (fun r h' => r = .inl none ∧ h' = h0 ++ e_Eye h0.length) := by
  refine ac_enter (by decide) rfl htr (fun _ => Nat.le_of_ble_eq_true rfl) ?_
  refine r_aload_n d_Eye_init_0 rfl ?_
  refine r_objInit d_Eye_init_1 oi_Eye_3 oi_1 oi_2 (by omega) (Nat.le_of_ble_eq_true rfl) ?_
  refine r_aload_n d_Eye_init_4 rfl ?_
  refine r_iconst 0 d_Eye_init_5 (by decide) ?_
  refine r_putfieldA (h0 := h0) 0 d_Eye_init_6 f_Eye_9 rfl (Nat.le_of_ble_eq_true rfl) (fun _ => rfl) (fun _ => rfl) ?_
  refine r_aload_n d_Eye_init_9 rfl ?_
  refine r_iconst 0 d_Eye_init_10 (by decide) ?_
  refine r_putfieldA (h0 := h0) 0 d_Eye_init_11 f_Eye_15 rfl (Nat.le_of_ble_eq_true rfl) (fun _ => rfl) (fun _ => rfl) ?_
  refine r_aload_n d_Eye_init_14 rfl ?_
  refine r_iconst 0 d_Eye_init_15 (by decide) ?_
  refine r_putfieldA (h0 := h0) 0 d_Eye_init_16 f_Eye_18 rfl (Nat.le_of_ble_eq_true rfl) (fun _ => rfl) (fun _ => rfl) ?_
  refine r_aload_n d_Eye_init_19 rfl ?_
  refine r_iconst 0 d_Eye_init_20 (by decide) ?_
  refine r_putfieldA (h0 := h0) 0 d_Eye_init_21 f_Eye_21 rfl (Nat.le_of_ble_eq_true rfl) (fun _ => rfl) (fun _ => rfl) ?_
  exact r_vret d_Eye_init_24 rfl ⟨rfl, rfl⟩ (Nat.le_refl _) (Nat.le_refl _)
abbrev e_Pad (_ : Nat) : ac_H := [.inr (4, [.int 0, .int 0])]
theorem c_Pad_init {l : Launch} (htr : l.stackTraces = false) {d : Nat} (hd : 1 ≤ d) (h0 : ac_H) : ac_Mt l d m_Pad_init (.ref h0.length :: []) (h0 ++ [.inr (4, [.int 0, .int 0])]) 0 0 (fun r h' => r = .inl none ∧ h' = h0 ++ e_Pad h0.length) := by
  refine ac_enter (by decide) rfl htr (fun _ => Nat.le_of_ble_eq_true rfl) ?_
  refine r_aload_n d_Pad_init_0 rfl ?_
  refine r_objInit d_Pad_init_1 oi_Pad_3 oi_1 oi_2 (by omega) (Nat.le_of_ble_eq_true rfl) ?_
  refine r_aload_n d_Pad_init_4 rfl ?_
  refine r_iconst 0 d_Pad_init_5 (by decide) ?_
  refine r_putfieldA (h0 := h0) 0 d_Pad_init_6 f_Pad_9 rfl (Nat.le_of_ble_eq_true rfl) (fun _ => rfl) (fun _ => rfl) ?_
  refine r_aload_n d_Pad_init_9 rfl ?_
  refine r_iconst 0 d_Pad_init_10 (by decide) ?_
  refine r_putfieldA (h0 := h0) 0 d_Pad_init_11 f_Pad_15 rfl (Nat.le_of_ble_eq_true rfl) (fun _ => rfl) (fun _ => rfl) ?_
  exact r_vret d_Pad_init_14 rfl ⟨rfl, rfl⟩ (Nat.le_refl _) (Nat.le_refl _)
abbrev e_Body (_ : Nat) : ac_H := [.inr (1, [.int 0, .int 0, .int 0, .int (-1), .int 0])]
theorem c_Body_init {l : Launch} (htr : l.stackTraces = false) {d : Nat} (hd : 1 ≤ d) (h0 : ac_H) : ac_Mt l d m_Body_init (.ref h0.length :: []) (h0 ++ [.inr (1, [.int 0, .int 0, .int 0, .int 0, .int 0])]) 0 0 (fun r h' => r = .inl none ∧ h' = h0 ++ e_Body h0.length) := by
  refine ac_enter (by decide) rfl htr (fun _ => Nat.le_of_ble_eq_true rfl) ?_
  refine r_aload_n d_Body_init_0 rfl ?_
  refine r_objInit d_Body_init_1 oi_Body_3 oi_1 oi_2 (by omega) (Nat.le_of_ble_eq_true rfl) ?_
  refine r_aload_n d_Body_init_4 rfl ?_
  refine r_iconst 0 d_Body_init_5 (by decide) ?_
  refine r_putfieldA (h0 := h0) 0 d_Body_init_6 f_Body_9 rfl (Nat.le_of_ble_eq_true rfl) (fun _ => rfl) (fun _ => rfl) ?_
  refine r_aload_n d_Body_init_9 rfl ?_
  refine r_iconst 0 d_Body_init_10 (by decide) ?_
  refine r_putfieldA (h0 := h0) 0 d_Body_init_11 f_Body_15 rfl (Nat.le_of_ble_eq_true rfl) (fun _ => rfl) (fun _ => rfl) ?_
  refine r_aload_n d_Body_init_14 rfl ?_
  refine r_iconst 0 d_Body_init_15 (by decide) ?_
  refine r_putfieldA (h0 := h0) 0 d_Body_init_16 f_Body_18 rfl (Nat.le_of_ble_eq_true rfl) (fun _ => rfl) (fun _ => rfl) ?_
  refine r_aload_n d_Body_init_19 rfl ?_
  refine r_iconst (-1) d_Body_init_20 (by decide) ?_
  refine r_putfieldA (h0 := h0) 0 d_Body_init_21 f_Body_21 rfl (Nat.le_of_ble_eq_true rfl) (fun _ => rfl) (fun _ => rfl) ?_
  refine r_aload_n d_Body_init_24 rfl ?_
  refine r_iconst 0 d_Body_init_25 (by decide) ?_
  refine r_putfieldA (h0 := h0) 0 d_Body_init_26 f_Body_24 rfl (Nat.le_of_ble_eq_true rfl) (fun _ => rfl) (fun _ => rfl) ?_
  exact r_vret d_Body_init_29 rfl ⟨rfl, rfl⟩ (Nat.le_refl _) (Nat.le_refl _)
abbrev e_Blobs (b : Nat) : ac_H := [.inr (0, [.ref (b + 1), .ref (b + 2), .int 0]), z_arr 4, z_arr 4]
theorem c_Blobs_init {l : Launch} (htr : l.stackTraces = false) {d : Nat} (hd : 1 ≤ d) (h0 : ac_H) : ac_Mt l d m_Blobs_init (.ref h0.length :: []) (h0 ++ [.inr (0, [.null, .null, .int 0])]) 2 8 (fun r h' => r = .inl none ∧ h' = h0 ++ e_Blobs h0.length) := by
  refine ac_enter (by decide) rfl htr (fun _ => Nat.le_of_ble_eq_true rfl) ?_
  refine r_aload_n d_Blobs_init_0 rfl ?_
  refine r_objInit d_Blobs_init_1 oi_Blobs_3 oi_1 oi_2 (by omega) (Nat.le_of_ble_eq_true rfl) ?_
  refine r_aload_n d_Blobs_init_4 rfl ?_
  refine r_iconst 4 d_Blobs_init_5 (by decide) ?_
  refine r_ri (show (4 : Int32) = nI 4 by decide) ?_
  refine r_newarrayIA (h0 := h0) d_Blobs_init_6 ar_I (by decide) (Nat.le_of_ble_eq_true rfl) (Nat.le_of_ble_eq_true rfl) ?_
  refine r_putfieldFA (h0 := h0) 0 d_Blobs_init_8 f_Blobs_9 rfl (Nat.le_of_ble_eq_true rfl) (fun _ => rfl) (fun _ => rfl) rfl (fun _ _ _ e9 => by cases e9; rfl) ?_
  refine r_aload_n d_Blobs_init_11 rfl ?_
  refine r_iconst 4 d_Blobs_init_12 (by decide) ?_
  refine r_ri (show (4 : Int32) = nI 4 by decide) ?_
  refine r_newarrayIA (h0 := h0) d_Blobs_init_13 ar_I (by decide) (Nat.le_of_ble_eq_true rfl) (Nat.le_of_ble_eq_true rfl) ?_
  refine r_putfieldFA (h0 := h0) 0 d_Blobs_init_15 f_Blobs_15 rfl (Nat.le_of_ble_eq_true rfl) (fun _ => rfl) (fun _ => rfl) rfl (fun _ _ _ e9 => by cases e9; rfl) ?_
  refine r_aload_n d_Blobs_init_18 rfl ?_
  refine r_iconst 0 d_Blobs_init_19 (by decide) ?_
  refine r_putfieldA (h0 := h0) 0 d_Blobs_init_20 f_Blobs_18 rfl (Nat.le_of_ble_eq_true rfl) (fun _ => rfl) (fun _ => rfl) ?_
  exact r_vret d_Blobs_init_23 rfl ⟨rfl, rfl⟩ (Nat.le_refl _) (Nat.le_refl _)
abbrev e_Rf (b : Nat) : ac_H := [.inr (5, [.ref (b + 1), .int 0]), z_arr 512]
theorem c_Rf_init {l : Launch} (htr : l.stackTraces = false) {d : Nat} (hd : 1 ≤ d) (h0 : ac_H) : ac_Mt l d m_Rf_init (.ref h0.length :: []) (h0 ++ [.inr (5, [.null, .int 0])]) 1 512 (fun r h' => r = .inl none ∧ h' = h0 ++ e_Rf h0.length) := by
  refine ac_enter (by decide) rfl htr (fun _ => Nat.le_of_ble_eq_true rfl) ?_
  refine r_aload_n d_Rf_init_0 rfl ?_
  refine r_objInit d_Rf_init_1 oi_Rf_3 oi_1 oi_2 (by omega) (Nat.le_of_ble_eq_true rfl) ?_
  refine r_aload_n d_Rf_init_4 rfl ?_
  refine r_sipush 512 d_Rf_init_5 (by decide) ?_
  refine r_ri (show (512 : Int32) = nI 512 by decide) ?_
  refine r_newarrayIA (h0 := h0) d_Rf_init_8 ar_I (by decide) (Nat.le_of_ble_eq_true rfl) (Nat.le_of_ble_eq_true rfl) ?_
  refine r_putfieldFA (h0 := h0) 0 d_Rf_init_10 f_Rf_9 rfl (Nat.le_of_ble_eq_true rfl) (fun _ => rfl) (fun _ => rfl) rfl (fun _ _ _ e9 => by cases e9; rfl) ?_
  refine r_aload_n d_Rf_init_13 rfl ?_
  refine r_iconst 0 d_Rf_init_14 (by decide) ?_
  refine r_putfieldA (h0 := h0) 0 d_Rf_init_15 f_Rf_15 rfl (Nat.le_of_ble_eq_true rfl) (fun _ => rfl) (fun _ => rfl) ?_
  exact r_vret d_Rf_init_18 rfl ⟨rfl, rfl⟩ (Nat.le_refl _) (Nat.le_refl _)
abbrev e_TL (n b : Nat) : ac_H := [.inr (6, [.ref (b + 1), .ref (b + 2), .int 0]), z_arr n, z_arr n]
theorem c_TL_init {l : Launch} (htr : l.stackTraces = false) {d : Nat} (hd : 1 ≤ d) {n : Nat} (hn : n < 1000) (h0 : ac_H) : ac_Mt l d m_TL_init (.ref h0.length :: [.int (nI n)]) (h0 ++ [.inr (6, [.null, .null, .int 0])]) 2 (n + n) (fun r h' => r = .inl none ∧ h' = h0 ++ e_TL n h0.length) := by
  refine ac_enter (by decide) rfl htr (fun _ => Nat.le_of_ble_eq_true rfl) ?_
  refine r_aload_n d_TL_init_0 rfl ?_
  refine r_objInit d_TL_init_1 oi_TL_3 oi_1 oi_2 (by omega) (Nat.le_of_ble_eq_true rfl) ?_
  refine r_aload_n d_TL_init_4 rfl ?_
  refine r_iconst 0 d_TL_init_5 (by decide) ?_
  refine r_putfieldA (h0 := h0) 0 d_TL_init_6 f_TL_9 rfl (Nat.le_of_ble_eq_true rfl) (fun _ => rfl) (fun _ => rfl) ?_
  refine r_iload_n d_TL_init_9 rfl ?_
  refine r_iconst 0 d_TL_init_10 (by decide) ?_
  refine r_max d_TL_init_11 mx_TL_15 mx_1 mx_2 mx_3 (by omega) (Nat.le_of_ble_eq_true rfl) (Nat.le_of_ble_eq_true rfl) (Nat.le_of_ble_eq_true rfl) ?_
  refine r_ri (y := nI n) (if_neg (fun z => nI_pos (by omega) z)) ?_
  refine r_istore_n d_TL_init_14 (Nat.le_of_ble_eq_true rfl) ?_
  refine r_aload_n d_TL_init_15 rfl ?_
  refine r_iload_n d_TL_init_16 rfl ?_
  refine r_newarrayIA (h0 := h0) d_TL_init_17 ar_I (by omega) (Nat.le_of_ble_eq_true rfl) (by show 0 + n ≤ n + n; omega) ?_
  refine r_putfieldFA (h0 := h0) 0 d_TL_init_19 f_TL_21 rfl (Nat.le_of_ble_eq_true rfl) (fun _ => rfl) (fun _ => rfl) rfl (fun _ _ _ e9 => by cases e9; rfl) ?_
  refine r_aload_n d_TL_init_22 rfl ?_
  refine r_iload_n d_TL_init_23 rfl ?_
  refine r_newarrayIA (h0 := h0) d_TL_init_24 ar_I (by omega) (Nat.le_of_ble_eq_true rfl) (by show 0 + n + n ≤ n + n; omega) ?_
  refine r_putfieldFA (h0 := h0) 0 d_TL_init_26 f_TL_25 rfl (Nat.le_of_ble_eq_true rfl) (fun _ => rfl) (fun _ => rfl) rfl (fun _ _ _ e9 => by cases e9; rfl) ?_
  exact r_vret d_TL_init_29 rfl ⟨rfl, rfl⟩ (Nat.le_of_ble_eq_true rfl) (by show 0 + n + n ≤ n + n; omega)
abbrev g_row (b : Nat) : Nat → Option Nat := va_up (va_up (va_up (va_up (fun _ => none) 0 (some (b + 1))) 1 (some (b + 2))) 2 (some (b + 3))) 3 (some (b + 4))
abbrev e_row (b : Nat) : ac_H := [.inl (.inr (.inr (2, 4, g_row b))), .inr (1, [.int 0, .int 0, .int 0, .int (-1), .int 0]), .inr (1, [.int 0, .int 0, .int 0, .int (-1), .int 0]), .inr (1, [.int 0, .int 0, .int 0, .int (-1), .int 0]), .inr (1, [.int 0, .int 0, .int 0, .int (-1), .int 0])]
theorem c_Lane_newRow {l : Launch} (htr : l.stackTraces = false) {d : Nat} (hd : 2 ≤ d) (h0 : ac_H) : ac_Mt l d m_Lane_newRow [] h0 5 24 (fun r h' => r = .inl (some (.ref h0.length)) ∧ h' = h0 ++ e_row h0.length) := by
  refine ac_enter (by decide) rfl htr (fun _ => Nat.le_of_ble_eq_true rfl) ?_
  have key : ac_G (l, d, m_Lane_newRow, 5, 24, (fun r h' => r = .inl (some (.ref h0.length)) ∧ h' = h0 ++ e_row h0.length), h0.length, none) 0 (lv_args 0 []) [] (h0 ++ []) 0 0 := by
    refine r_iconst 4 d_Lane_newRow_0 (by decide) ?_
    refine r_ri (show (4 : Int32) = nI 4 by decide) ?_
    refine r_anewarrayA (h0 := h0) (kd := 2) d_Lane_newRow_1 rfl an_Lane_66 (by decide) (Nat.le_of_ble_eq_true rfl) (Nat.le_of_ble_eq_true rfl) ?_
    refine r_astore_n d_Lane_newRow_4 (Nat.le_of_ble_eq_true rfl) ?_
    refine r_iconst 0 d_Lane_newRow_5 (by decide) ?_
    refine r_istore_n d_Lane_newRow_6 (Nat.le_of_ble_eq_true rfl) ?_
    refine r_iload_n d_Lane_newRow_7 rfl ?_
    refine r_aload_n d_Lane_newRow_8 rfl ?_
    refine r_alenR d_Lane_newRow_9 (ap_get (h0 := h0) (j := 0)) rfl ?_
    refine r_icmp_ge 29 d_Lane_newRow_10 (by decide) (fun c => absurd c (by decide)) (fun _ => ?_)
    refine r_aload_n d_Lane_newRow_13 rfl ?_
    refine r_iload_n d_Lane_newRow_14 rfl ?_
    refine r_newA (h0 := h0) d_Lane_newRow_15 nw_Lane_66 (Nat.le_of_ble_eq_true rfl) (Nat.le_of_ble_eq_true rfl) ?_
    refine r_dup d_Lane_newRow_18 rfl ?_
    refine r_initNA "PairedGates" [] (.inr (1, [.int 0, .int 0, .int 0, .int 0, .int 0])) e_Body (d - 1) 0 0 d_Lane_newRow_19 q_Lane_68 rfl (fun h1 => c_Body_init htr (by omega) h1) (by show d - 1 + 1 ≤ d; omega) (Nat.le_of_ble_eq_true rfl) (Nat.le_of_ble_eq_true rfl) (Nat.le_of_ble_eq_true rfl) ?_
    refine r_aastoreA (h0 := h0) 0 1 d_Lane_newRow_22 rfl rfl rfl rfl (by unfold vp_in; decide) ?_
    refine r_iincP d_Lane_newRow_23 rfl (Nat.le_of_ble_eq_true rfl) ?_
    refine r_goto 7 d_Lane_newRow_26 (by decide) ?_
    refine r_iload_n d_Lane_newRow_7 rfl ?_
    refine r_aload_n d_Lane_newRow_8 rfl ?_
    refine r_alenR d_Lane_newRow_9 (ap_get (h0 := h0) (j := 0)) rfl ?_
    refine r_icmp_ge 29 d_Lane_newRow_10 (by decide) (fun c => absurd c (by decide)) (fun _ => ?_)
    refine r_aload_n d_Lane_newRow_13 rfl ?_
    refine r_iload_n d_Lane_newRow_14 rfl ?_
    refine r_newA (h0 := h0) d_Lane_newRow_15 nw_Lane_66 (Nat.le_of_ble_eq_true rfl) (Nat.le_of_ble_eq_true rfl) ?_
    refine r_dup d_Lane_newRow_18 rfl ?_
    refine r_initNA "PairedGates" [] (.inr (1, [.int 0, .int 0, .int 0, .int 0, .int 0])) e_Body (d - 1) 0 0 d_Lane_newRow_19 q_Lane_68 rfl (fun h1 => c_Body_init htr (by omega) h1) (by show d - 1 + 1 ≤ d; omega) (Nat.le_of_ble_eq_true rfl) (Nat.le_of_ble_eq_true rfl) (Nat.le_of_ble_eq_true rfl) ?_
    refine r_aastoreA (h0 := h0) 0 2 d_Lane_newRow_22 rfl rfl rfl rfl (by unfold vp_in; decide) ?_
    refine r_iincP d_Lane_newRow_23 rfl (Nat.le_of_ble_eq_true rfl) ?_
    refine r_goto 7 d_Lane_newRow_26 (by decide) ?_
    refine r_iload_n d_Lane_newRow_7 rfl ?_
    refine r_aload_n d_Lane_newRow_8 rfl ?_
    refine r_alenR d_Lane_newRow_9 (ap_get (h0 := h0) (j := 0)) rfl ?_
    refine r_icmp_ge 29 d_Lane_newRow_10 (by decide) (fun c => absurd c (by decide)) (fun _ => ?_)
    refine r_aload_n d_Lane_newRow_13 rfl ?_
    refine r_iload_n d_Lane_newRow_14 rfl ?_
    refine r_newA (h0 := h0) d_Lane_newRow_15 nw_Lane_66 (Nat.le_of_ble_eq_true rfl) (Nat.le_of_ble_eq_true rfl) ?_
    refine r_dup d_Lane_newRow_18 rfl ?_
    refine r_initNA "PairedGates" [] (.inr (1, [.int 0, .int 0, .int 0, .int 0, .int 0])) e_Body (d - 1) 0 0 d_Lane_newRow_19 q_Lane_68 rfl (fun h1 => c_Body_init htr (by omega) h1) (by show d - 1 + 1 ≤ d; omega) (Nat.le_of_ble_eq_true rfl) (Nat.le_of_ble_eq_true rfl) (Nat.le_of_ble_eq_true rfl) ?_
    refine r_aastoreA (h0 := h0) 0 3 d_Lane_newRow_22 rfl rfl rfl rfl (by unfold vp_in; decide) ?_
    refine r_iincP d_Lane_newRow_23 rfl (Nat.le_of_ble_eq_true rfl) ?_
    refine r_goto 7 d_Lane_newRow_26 (by decide) ?_
    refine r_iload_n d_Lane_newRow_7 rfl ?_
    refine r_aload_n d_Lane_newRow_8 rfl ?_
    refine r_alenR d_Lane_newRow_9 (ap_get (h0 := h0) (j := 0)) rfl ?_
    refine r_icmp_ge 29 d_Lane_newRow_10 (by decide) (fun c => absurd c (by decide)) (fun _ => ?_)
    refine r_aload_n d_Lane_newRow_13 rfl ?_
    refine r_iload_n d_Lane_newRow_14 rfl ?_
    refine r_newA (h0 := h0) d_Lane_newRow_15 nw_Lane_66 (Nat.le_of_ble_eq_true rfl) (Nat.le_of_ble_eq_true rfl) ?_
    refine r_dup d_Lane_newRow_18 rfl ?_
    refine r_initNA "PairedGates" [] (.inr (1, [.int 0, .int 0, .int 0, .int 0, .int 0])) e_Body (d - 1) 0 0 d_Lane_newRow_19 q_Lane_68 rfl (fun h1 => c_Body_init htr (by omega) h1) (by show d - 1 + 1 ≤ d; omega) (Nat.le_of_ble_eq_true rfl) (Nat.le_of_ble_eq_true rfl) (Nat.le_of_ble_eq_true rfl) ?_
    refine r_aastoreA (h0 := h0) 0 4 d_Lane_newRow_22 rfl rfl rfl rfl (by unfold vp_in; decide) ?_
    refine r_iincP d_Lane_newRow_23 rfl (Nat.le_of_ble_eq_true rfl) ?_
    refine r_goto 7 d_Lane_newRow_26 (by decide) ?_
    refine r_iload_n d_Lane_newRow_7 rfl ?_
    refine r_aload_n d_Lane_newRow_8 rfl ?_
    refine r_alenR d_Lane_newRow_9 (ap_get (h0 := h0) (j := 0)) rfl ?_
    refine r_icmp_ge 29 d_Lane_newRow_10 (by decide) (fun _ => ?_) (fun c => absurd (by decide) c)
    refine r_aload_n d_Lane_newRow_29 rfl ?_
    exact r_aretA d_Lane_newRow_30 rfl ⟨rfl, rfl⟩ (Nat.le_of_ble_eq_true rfl) (Nat.le_of_ble_eq_true rfl)
  rw [List.append_nil] at key
  exact key
theorem r_newRowA {g : ac_P} {pc : Nat} {L : List (Nat × Value)} {S : List Value} {h0 cs : ac_H} {k z : Nat} (htr : (ac_l g).stackTraces = false) (hcl : (ac_y g).cls = "PairedGates$Lane") (hd : decode (ac_cc g) pc = .ok (.invokestatic 55, 3)) (hdd : 3 ≤ ac_d g) (h1 : k + 5 ≤ ac_mc g) (h2 : z + 24 ≤ ac_ms g) (hs : (S.map fun v => v.category).sum ≤ 8) (n : Nat) (hn : cs.length = n) (kk : ac_G g (pc + 3) L (.ref (h0.length + n) :: S) (h0 ++ (cs ++ e_row (h0.length + n))) (k + 5) (z + 24)) : ac_G g pc L S (h0 ++ cs) k z := by
  subst hn
  refine r_callS [] (ac_d g - 1) 5 24 hd (by rw [hcl]; exact q_Lane_55) rfl (c_Lane_newRow htr (by omega) (h0 ++ cs)) (by omega) h1 h2 hs (fun r h' hp _ => ?_) (fun E h' hp _ => nomatch hp.1)
  obtain ⟨e1, e2⟩ := hp
  cases e1
  rw [e2, List.append_assoc, List.length_append]
  exact kk
abbrev g_qs (b : Nat) : Nat → Option Nat := va_up (va_up (fun _ => none) 0 (some (b + 7))) 1 (some (b + 10))
abbrev e_La1 (b : Nat) (o : ac_E) : ac_H := [o, .inr (2, [.int 0, .int 0, .int 0, .int 0]), .inr (0, [.ref (b + 3), .ref (b + 4), .int 0]), z_arr 4, z_arr 4, .inr (4, [.int 0, .int 0]), .inl (.inr (.inr (1, 2, g_qs b))), .inr (6, [.ref (b + 8), .ref (b + 9), .int 0]), z_arr 6, z_arr 6, .inr (6, [.ref (b + 11), .ref (b + 12), .int 0]), z_arr 6, z_arr 6]
abbrev e_La2 (b : Nat) (o : ac_E) : ac_H := [o, .inr (2, [.int 0, .int 0, .int 0, .int 0]), .inr (0, [.ref (b + 3), .ref (b + 4), .int 0]), z_arr 4, z_arr 4, .inr (4, [.int 0, .int 0]), .inl (.inr (.inr (1, 2, g_qs b))), .inr (6, [.ref (b + 8), .ref (b + 9), .int 0]), z_arr 6, z_arr 6, .inr (6, [.ref (b + 11), .ref (b + 12), .int 0]), z_arr 6, z_arr 6, z_arr 5, z_arr 4]
abbrev e_La3 (b : Nat) (o : ac_E) : ac_H := [o, .inr (2, [.int 0, .int 0, .int 0, .int 0]), .inr (0, [.ref (b + 3), .ref (b + 4), .int 0]), z_arr 4, z_arr 4, .inr (4, [.int 0, .int 0]), .inl (.inr (.inr (1, 2, g_qs b))), .inr (6, [.ref (b + 8), .ref (b + 9), .int 0]), z_arr 6, z_arr 6, .inr (6, [.ref (b + 11), .ref (b + 12), .int 0]), z_arr 6, z_arr 6, z_arr 5, z_arr 4, .inl (.inr (.inr (2, 4, g_row (b + 15)))), .inr (1, [.int 0, .int 0, .int 0, .int (-1), .int 0]), .inr (1, [.int 0, .int 0, .int 0, .int (-1), .int 0]), .inr (1, [.int 0, .int 0, .int 0, .int (-1), .int 0]), .inr (1, [.int 0, .int 0, .int 0, .int (-1), .int 0])]
abbrev e_Lane (b : Nat) : ac_H := [.inr (3, [.ref (b + 1), .ref (b + 2), .ref (b + 5), .ref (b + 6), .ref (b + 13), .ref (b + 14), .int 0, .int 0, .ref (b + 15), .ref (b + 20)]), .inr (2, [.int 0, .int 0, .int 0, .int 0]), .inr (0, [.ref (b + 3), .ref (b + 4), .int 0]), z_arr 4, z_arr 4, .inr (4, [.int 0, .int 0]), .inl (.inr (.inr (1, 2, g_qs b))), .inr (6, [.ref (b + 8), .ref (b + 9), .int 0]), z_arr 6, z_arr 6, .inr (6, [.ref (b + 11), .ref (b + 12), .int 0]), z_arr 6, z_arr 6, z_arr 5, z_arr 4, .inl (.inr (.inr (2, 4, g_row (b + 15)))), .inr (1, [.int 0, .int 0, .int 0, .int (-1), .int 0]), .inr (1, [.int 0, .int 0, .int 0, .int (-1), .int 0]), .inr (1, [.int 0, .int 0, .int 0, .int (-1), .int 0]), .inr (1, [.int 0, .int 0, .int 0, .int (-1), .int 0]), .inl (.inr (.inr (2, 4, g_row (b + 20)))), .inr (1, [.int 0, .int 0, .int 0, .int (-1), .int 0]), .inr (1, [.int 0, .int 0, .int 0, .int (-1), .int 0]), .inr (1, [.int 0, .int 0, .int 0, .int (-1), .int 0]), .inr (1, [.int 0, .int 0, .int 0, .int (-1), .int 0])]
theorem c_Lane_init {l : Launch} (htr : l.stackTraces = false) {d : Nat} (hd : 3 ≤ d) (h0 : ac_H) : ac_Mt l d m_Lane_init (.ref h0.length :: []) (h0 ++ [.inr (3, [.null, .null, .null, .null, .null, .null, .int 0, .int 0, .null, .null])]) 24 106 (fun r h' => r = .inl none ∧ h' = h0 ++ e_Lane h0.length) := by
  have hd1 : 1 ≤ d := by omega
  refine ac_enter (by decide) rfl htr (fun _ => Nat.le_of_ble_eq_true rfl) ?_
  refine r_aload_n d_Lane_init_0 rfl ?_
  refine r_objInit d_Lane_init_1 oi_Lane_3 oi_1 oi_2 (by omega) (Nat.le_of_ble_eq_true rfl) ?_
  refine r_aload_n d_Lane_init_4 rfl ?_
  refine r_newA (h0 := h0) d_Lane_init_5 nw_Lane_9 (Nat.le_of_ble_eq_true rfl) (Nat.le_of_ble_eq_true rfl) ?_
  refine r_dup d_Lane_init_8 rfl ?_
  refine r_initNA "PairedGates" [] (.inr (2, [.int 0, .int 0, .int 0, .int 0])) e_Eye (d - 1) 0 0 d_Lane_init_9 q_Lane_11 rfl (fun h1 => c_Eye_init htr (by omega) h1) (by show d - 1 + 1 ≤ d; omega) (Nat.le_of_ble_eq_true rfl) (Nat.le_of_ble_eq_true rfl) (Nat.le_of_ble_eq_true rfl) ?_
  refine r_putfieldFA (h0 := h0) 0 d_Lane_init_12 f_Lane_12 rfl (Nat.le_of_ble_eq_true rfl) (fun _ => rfl) (fun _ => rfl) rfl (fun _ _ _ e9 => by cases e9; rfl) ?_
  refine r_aload_n d_Lane_init_15 rfl ?_
  refine r_newA (h0 := h0) d_Lane_init_16 nw_Lane_18 (Nat.le_of_ble_eq_true rfl) (Nat.le_of_ble_eq_true rfl) ?_
  refine r_dup d_Lane_init_19 rfl ?_
  refine r_initNA "PairedGates" [] (.inr (0, [.null, .null, .int 0])) e_Blobs (d - 1) 2 8 d_Lane_init_20 q_Lane_20 rfl (fun h1 => c_Blobs_init htr (by omega) h1) (by show d - 1 + 1 ≤ d; omega) (Nat.le_of_ble_eq_true rfl) (Nat.le_of_ble_eq_true rfl) (Nat.le_of_ble_eq_true rfl) ?_
  refine r_putfieldFA (h0 := h0) 0 d_Lane_init_23 f_Lane_21 rfl (Nat.le_of_ble_eq_true rfl) (fun _ => rfl) (fun _ => rfl) rfl (fun _ _ _ e9 => by cases e9; rfl) ?_
  refine r_aload_n d_Lane_init_26 rfl ?_
  refine r_newA (h0 := h0) d_Lane_init_27 nw_Lane_25 (Nat.le_of_ble_eq_true rfl) (Nat.le_of_ble_eq_true rfl) ?_
  refine r_dup d_Lane_init_30 rfl ?_
  refine r_initNA "PairedGates" [] (.inr (4, [.int 0, .int 0])) e_Pad (d - 1) 0 0 d_Lane_init_31 q_Lane_27 rfl (fun h1 => c_Pad_init htr (by omega) h1) (by show d - 1 + 1 ≤ d; omega) (Nat.le_of_ble_eq_true rfl) (Nat.le_of_ble_eq_true rfl) (Nat.le_of_ble_eq_true rfl) ?_
  refine r_putfieldFA (h0 := h0) 0 d_Lane_init_34 f_Lane_28 rfl (Nat.le_of_ble_eq_true rfl) (fun _ => rfl) (fun _ => rfl) rfl (fun _ _ _ e9 => by cases e9; rfl) ?_
  refine r_aload_n d_Lane_init_37 rfl ?_
  refine r_iconst 2 d_Lane_init_38 (by decide) ?_
  refine r_ri (show (2 : Int32) = nI 2 by decide) ?_
  refine r_anewarrayA (h0 := h0) (kd := 1) d_Lane_init_39 rfl an_Lane_32 (by decide) (Nat.le_of_ble_eq_true rfl) (Nat.le_of_ble_eq_true rfl) ?_
  refine r_dup d_Lane_init_42 rfl ?_
  refine r_iconst 0 d_Lane_init_43 (by decide) ?_
  refine r_newA (h0 := h0) d_Lane_init_44 nw_Lane_32 (Nat.le_of_ble_eq_true rfl) (Nat.le_of_ble_eq_true rfl) ?_
  refine r_dup d_Lane_init_47 rfl ?_
  refine r_bipush 6 d_Lane_init_48 (by decide) ?_
  refine r_ri nI6 ?_
  refine r_initA [.int (nI 6)] (.inr (6, [.null, .null, .int 0])) (e_TL 6) (d - 1) 2 12 d_Lane_init_50 q_Lane_34 rfl (fun h1 => c_TL_init htr (by omega) (by omega) h1) (by show d - 1 + 1 ≤ d; omega) (Nat.le_of_ble_eq_true rfl) (Nat.le_of_ble_eq_true rfl) (Nat.le_of_ble_eq_true rfl) ?_
  refine r_aastoreA (h0 := h0) 6 7 d_Lane_init_53 rfl rfl rfl rfl (by unfold vp_in; decide) ?_
  refine r_dup d_Lane_init_54 rfl ?_
  refine r_iconst 1 d_Lane_init_55 (by decide) ?_
  refine r_newA (h0 := h0) d_Lane_init_56 nw_Lane_32 (Nat.le_of_ble_eq_true rfl) (Nat.le_of_ble_eq_true rfl) ?_
  refine r_dup d_Lane_init_59 rfl ?_
  refine r_bipush 6 d_Lane_init_60 (by decide) ?_
  refine r_ri nI6 ?_
  refine r_initA [.int (nI 6)] (.inr (6, [.null, .null, .int 0])) (e_TL 6) (d - 1) 2 12 d_Lane_init_62 q_Lane_34 rfl (fun h1 => c_TL_init htr (by omega) (by omega) h1) (by show d - 1 + 1 ≤ d; omega) (Nat.le_of_ble_eq_true rfl) (Nat.le_of_ble_eq_true rfl) (Nat.le_of_ble_eq_true rfl) ?_
  refine r_aastoreA (h0 := h0) 6 10 d_Lane_init_65 rfl rfl rfl rfl (by unfold vp_in; decide) ?_
  refine r_putfieldFA (h0 := h0) 0 d_Lane_init_66 f_Lane_37 rfl (Nat.le_of_ble_eq_true rfl) (fun _ => rfl) (fun _ => rfl) rfl (fun _ _ _ e9 => by cases e9; rfl) ?_
  refine r_hp (h' := h0 ++ e_La1 h0.length (.inr (3, [.ref (h0.length + 1), .ref (h0.length + 2), .ref (h0.length + 5), .ref (h0.length + 6), .null, .null, .int 0, .int 0, .null, .null]))) rfl ?_
  refine r_aload_n d_Lane_init_69 rfl ?_
  refine r_iconst 5 d_Lane_init_70 (by decide) ?_
  refine r_ri (show (5 : Int32) = nI 5 by decide) ?_
  refine r_newarrayIA (h0 := h0) d_Lane_init_71 ar_I (by decide) (Nat.le_of_ble_eq_true rfl) (Nat.le_of_ble_eq_true rfl) ?_
  refine r_putfieldFA (h0 := h0) 0 d_Lane_init_73 f_Lane_41 rfl (Nat.le_of_ble_eq_true rfl) (fun _ => rfl) (fun _ => rfl) rfl (fun _ _ _ e9 => by cases e9; rfl) ?_
  refine r_aload_n d_Lane_init_76 rfl ?_
  refine r_iconst 4 d_Lane_init_77 (by decide) ?_
  refine r_ri (show (4 : Int32) = nI 4 by decide) ?_
  refine r_newarrayIA (h0 := h0) d_Lane_init_78 ar_I (by decide) (Nat.le_of_ble_eq_true rfl) (Nat.le_of_ble_eq_true rfl) ?_
  refine r_putfieldFA (h0 := h0) 0 d_Lane_init_80 f_Lane_45 rfl (Nat.le_of_ble_eq_true rfl) (fun _ => rfl) (fun _ => rfl) rfl (fun _ _ _ e9 => by cases e9; rfl) ?_
  refine r_aload_n d_Lane_init_83 rfl ?_
  refine r_iconst 0 d_Lane_init_84 (by decide) ?_
  refine r_putfieldA (h0 := h0) 0 d_Lane_init_85 f_Lane_48 rfl (Nat.le_of_ble_eq_true rfl) (fun _ => rfl) (fun _ => rfl) ?_
  refine r_aload_n d_Lane_init_88 rfl ?_
  refine r_iconst 0 d_Lane_init_89 (by decide) ?_
  refine r_putfieldA (h0 := h0) 0 d_Lane_init_90 f_Lane_52 rfl (Nat.le_of_ble_eq_true rfl) (fun _ => rfl) (fun _ => rfl) ?_
  refine r_aload_n d_Lane_init_93 rfl ?_
  refine r_hp (h' := h0 ++ e_La2 h0.length (.inr (3, [.ref (h0.length + 1), .ref (h0.length + 2), .ref (h0.length + 5), .ref (h0.length + 6), .ref (h0.length + 13), .ref (h0.length + 14), .int 0, .int 0, .null, .null]))) rfl ?_
  refine r_newRowA (h0 := h0) htr rfl d_Lane_init_94 (by show 3 ≤ d; omega) (Nat.le_of_ble_eq_true rfl) (Nat.le_of_ble_eq_true rfl) (Nat.le_of_ble_eq_true rfl) 15 rfl ?_
  refine r_hp (h' := h0 ++ e_La3 h0.length (.inr (3, [.ref (h0.length + 1), .ref (h0.length + 2), .ref (h0.length + 5), .ref (h0.length + 6), .ref (h0.length + 13), .ref (h0.length + 14), .int 0, .int 0, .null, .null]))) rfl ?_
  refine r_putfieldA (h0 := h0) 0 d_Lane_init_97 f_Lane_59 rfl (Nat.le_of_ble_eq_true rfl) (fun _ => rfl) (fun _ => rfl) ?_
  refine r_aload_n d_Lane_init_100 rfl ?_
  refine r_hp (h' := h0 ++ e_La3 h0.length (.inr (3, [.ref (h0.length + 1), .ref (h0.length + 2), .ref (h0.length + 5), .ref (h0.length + 6), .ref (h0.length + 13), .ref (h0.length + 14), .int 0, .int 0, .ref (h0.length + 15), .null]))) rfl ?_
  refine r_newRowA (h0 := h0) htr rfl d_Lane_init_101 (by show 3 ≤ d; omega) (Nat.le_of_ble_eq_true rfl) (Nat.le_of_ble_eq_true rfl) (Nat.le_of_ble_eq_true rfl) 20 rfl ?_
  refine r_putfieldA (h0 := h0) 0 d_Lane_init_104 f_Lane_63 rfl (Nat.le_of_ble_eq_true rfl) (fun _ => rfl) (fun _ => rfl) ?_
  exact r_vret d_Lane_init_107 rfl ⟨rfl, rfl⟩ (Nat.le_of_ble_eq_true rfl) (Nat.le_of_ble_eq_true rfl)
def L0 : sp_L := ((0, 0, 0, 0), (0, 0), ([], []), (fun _ => 0), 0, [])
theorem TLs_new {h : ac_H} {t N : Nat} (hN : N < 1000) (h1 : h[t]? = some (.inr (6, [.ref (t + 1), .ref (t + 2), .int 0]))) (h2 : h[t + 1]? = some (z_arr N)) (h3 : h[t + 2]? = some (z_arr N)) : TLs h t N [] := ⟨h1, Nat.zero_le _, hN, _, _, h2, h3, fun i x hx => by cases hx⟩
theorem Rws_new {h0 : ac_H} {cs : ac_H} {r : Nat} (h1 : cs[r]? = some (.inl (.inr (.inr (2, 4, g_row (h0.length + r)))))) (hb : ∀ j, j < 4 → cs[r + 1 + j]? = some (bo (0, 0, 0, -1, 0))) : Rws (h0 ++ cs) (h0.length + r) (fun _ => (0, 0, 0, -1, 0)) := by
  refine ⟨⟨_, ap_get.trans h1, fun j hj => ?_⟩, fun i hi => ?_⟩
  · rcases (show j = 0 ∨ j = 1 ∨ j = 2 ∨ j = 3 by omega) with q | q | q | q <;> subst q <;> rfl
  · have e : h0.length + r + 1 + i = h0.length + (r + 1 + i) := by omega
    rw [e, ap_get]; exact hb i hi
theorem Lns_new (h0 : ac_H) : Lns (h0 ++ e_Lane h0.length) h0.length L0 := by
  have gt : ∀ j e, (e_Lane h0.length)[j]? = some e → (h0 ++ e_Lane h0.length)[h0.length + j]? = some e := fun j e he => ap_get.trans he
  refine ⟨Nat.zero_le 3, fun x hx => (by cases hx), fun x hx => (by cases hx), h0.length + 15, h0.length + 20, (fun _ => (0, 0, 0, -1, 0)), (fun _ => (0, 0, 0, -1, 0)), [], (fun _ => 0), g_qs h0.length, Or.inl ⟨rfl, rfl⟩, gt 0 _ rfl, gt 1 _ rfl, ⟨gt 2 _ rfl, Nat.zero_le 4, fun x hx => (by cases hx), _, _, gt 3 _ rfl, gt 4 _ rfl, fun i x hx => (by cases hx)⟩, gt 5 _ rfl, ⟨gt 6 _ rfl, rfl, rfl⟩, TLs_new (by omega) (gt 7 _ rfl) (gt 8 _ rfl) (gt 9 _ rfl), TLs_new (by omega) (gt 10 _ rfl) (gt 11 _ rfl) (gt 12 _ rfl), gt 13 _ rfl, gt 14 _ rfl, Rws_new rfl (fun j hj => ?_), ⟨Nat.zero_le 4, fun i x hx => (by cases hx)⟩, Rws_new rfl (fun j hj => ?_)⟩
  · rcases (show j = 0 ∨ j = 1 ∨ j = 2 ∨ j = 3 by omega) with q | q | q | q <;> subst q <;> rfl
  · rcases (show j = 0 ∨ j = 1 ∨ j = 2 ∨ j = 3 by omega) with q | q | q | q <;> subst q <;> rfl
/-- the state: two lanes, the acceptances, the refunds, the alarm, the time -/
abbrev sp_S : Type := (sp_L × sp_L) × sp_Q × List Int32 × Int32 × Nat
def PGs (h : ac_H) (s : sp_S) : Prop := (∃ gl, h[1]? = some (.inl (.inr (.inr (0, 2, gl)))) ∧ gl 0 = some 2 ∧ gl 1 = some 27) ∧ h[0]? = some (.inr (7, [.ref 1, .ref 52, .ref 55, .int s.2.2.2.1, .int (nI s.2.2.2.2)])) ∧ Lns h 2 s.1.1 ∧ Lns h 27 s.1.2 ∧ TLs h 52 512 s.2.1 ∧ Rfs h 55 s.2.2.1 ∧ (s.2.2.2.1 = 0 ∨ s.2.2.2.1 = 1)
theorem PGs.pt {h h' : ac_H} {s : sp_S} (H : PGs h s) (hp : ∀ j, j < 57 → h'[j]? = h[j]?) : PGs h' s := by
  obtain ⟨⟨gl, a1, a2, a3⟩, a4, a5, a6, a7, a8, a9⟩ := H
  exact ⟨⟨gl, (hp 1 (by omega)).trans a1, a2, a3⟩, (hp 0 (by omega)).trans a4, a5.pt (fun j hj => hp _ (by omega)), a6.pt (fun j hj => hp _ (by omega)), a7.pt (fun j hj => hp _ (by omega)), a8.pt (fun j hj => hp _ (by omega)), a9⟩
def S0 : sp_S := ((L0, L0), [], [], 0, 0)
abbrev g_lanes : Nat → Option Nat := va_up (va_up (fun _ => none) 0 (some 2)) 1 (some 27)
abbrev e_PG : ac_H := .inr (7, [.ref 1, .ref 52, .ref 55, .int 0, .int 0]) :: .inl (.inr (.inr (0, 2, g_lanes))) :: (e_Lane 2 ++ e_Lane 27 ++ e_TL 512 52 ++ e_Rf 55)
abbrev e_PG1 (o a : ac_E) : ac_H := o :: a :: e_Lane 2
abbrev e_PG2 (o a : ac_E) : ac_H := o :: a :: (e_Lane 2 ++ e_Lane 27)
theorem r_newB {g : ac_P} {pc : Nat} {L : List (Nat × Value)} {S : List Value} {h : ac_H} {k z : Nat} {idx ci N : Nat} {fs : List Value} (n : Nat) (hn : h.length = n) (hd : decode (ac_cc g) pc = .ok (.new idx, 3)) (hf : ac_N (ac_y g).cls idx ci N fs) (h1 : k + 1 ≤ ac_mc g) (h2 : z + N ≤ ac_ms g) (kk : ac_G g (pc + 3) L (.ref n :: S) (h ++ [.inr (ci, fs)]) (k + 1) (z + N)) : ac_G g pc L S h k z := by
  subst hn
  exact r_new hd hf h1 h2 kk
theorem r_initNB {g : ac_P} {pc : Nat} {L : List (Nat × Value)} {S : List Value} {h : ac_H} {k z : Nat} {mi : ac_I} {n idx : Nat} (host : String) (as : List Value) (e0 : ac_E) (es : Nat → ac_H) (d' mc ms b : Nat) (hb : h.length = b) (hd : decode (ac_cc g) pc = .ok (.invokespecial idx, 3)) (hk9 : ac_KIN (ac_y g).cls idx mi n host) (hn : as.length = n) (hM : ∀ h1 : ac_H, ac_Mt (ac_l g) d' mi (.ref h1.length :: as) (h1 ++ [e0]) mc ms (fun r h' => r = .inl none ∧ h' = h1 ++ es h1.length)) (hdd : d' + 1 ≤ ac_d g) (h1 : k + mc ≤ ac_mc g) (h2 : z + ms ≤ ac_ms g) (hs : (S.map fun v => v.category).sum ≤ 8) (kk : ac_G g (pc + 3) L S (h ++ es b) (k + mc) (z + ms)) : ac_G g pc L (as.reverse ++ .ref b :: S) (h ++ [e0]) k z := by
  subst hb
  refine r_callIN host as _ d' mc ms hd hk9 hn (hM h) (fun E h' hp => nomatch hp.1) hdd h1 h2 hs (fun r h' hp _ => ?_)
  obtain ⟨e1, e2⟩ := hp
  cases e1
  rw [e2]
  exact kk
theorem r_initB {g : ac_P} {pc : Nat} {L : List (Nat × Value)} {S : List Value} {h : ac_H} {k z : Nat} {mi : ac_I} {n idx : Nat} (as : List Value) (e0 : ac_E) (es : Nat → ac_H) (d' mc ms b : Nat) (hb : h.length = b) (hd : decode (ac_cc g) pc = .ok (.invokespecial idx, 3)) (hk9 : ac_KI (ac_y g).cls idx mi n) (hn : as.length = n) (hM : ∀ h1 : ac_H, ac_Mt (ac_l g) d' mi (.ref h1.length :: as) (h1 ++ [e0]) mc ms (fun r h' => r = .inl none ∧ h' = h1 ++ es h1.length)) (hdd : d' + 1 ≤ ac_d g) (h1 : k + mc ≤ ac_mc g) (h2 : z + ms ≤ ac_ms g) (hs : (S.map fun v => v.category).sum ≤ 8) (kk : ac_G g (pc + 3) L S (h ++ es b) (k + mc) (z + ms)) : ac_G g pc L (as.reverse ++ .ref b :: S) (h ++ [e0]) k z := by
  subst hb
  refine r_callI as _ d' mc ms hd hk9 hn (hM h) (fun E h' hp => nomatch hp.1) hdd h1 h2 hs (fun r h' hp _ => ?_)
  obtain ⟨e1, e2⟩ := hp
  cases e1
  rw [e2]
  exact kk
theorem c_PG_init {l : Launch} (htr : l.stackTraces = false) {d : Nat} (hd : 4 ≤ d) : ac_Mt l d m_PG_init (.ref 0 :: []) [.inr (7, [.null, .null, .null, .int 0, .int 0])] 56 1775 (fun r h' => r = .inl none ∧ h' = e_PG) := by
  have hd1 : 1 ≤ d := by omega
  refine ac_enter (by decide) rfl htr (fun _ => Nat.le_of_ble_eq_true rfl) ?_
  refine r_aload_n d_PG_init_0 rfl ?_
  refine r_objInit d_PG_init_1 oi_PG_1 oi_1 oi_2 (by omega) (Nat.le_of_ble_eq_true rfl) ?_
  refine r_aload_n d_PG_init_4 rfl ?_
  refine r_iconst 2 d_PG_init_5 (by decide) ?_
  refine r_ri nI2 ?_
  refine r_anewarray (kd := 0) d_PG_init_6 rfl an_PG_7 (by decide) (Nat.le_of_ble_eq_true rfl) (Nat.le_of_ble_eq_true rfl) ?_
  refine r_dup d_PG_init_9 rfl ?_
  refine r_iconst 0 d_PG_init_10 (by decide) ?_
  refine r_newB 2 rfl d_PG_init_11 nw_PG_7 (Nat.le_of_ble_eq_true rfl) (Nat.le_of_ble_eq_true rfl) ?_
  refine r_dup d_PG_init_14 rfl ?_
  refine r_initNB "PairedGates" [] (.inr (3, [.null, .null, .null, .null, .null, .null, .int 0, .int 0, .null, .null])) e_Lane (d - 1) 24 106 2 rfl d_PG_init_15 q_PG_9 rfl (fun h1 => c_Lane_init htr (by omega) h1) (by show d - 1 + 1 ≤ d; omega) (Nat.le_of_ble_eq_true rfl) (Nat.le_of_ble_eq_true rfl) (Nat.le_of_ble_eq_true rfl) ?_
  refine r_aastore (a := 1) (b := 2) d_PG_init_18 rfl rfl rfl rfl (by unfold vp_in; decide) ?_
  refine r_hp (h' := e_PG1 (.inr (7, [.null, .null, .null, .int 0, .int 0])) (.inl (.inr (.inr (0, 2, va_up (fun _ => none) 0 (some 2)))))) rfl ?_
  refine r_dup d_PG_init_19 rfl ?_
  refine r_iconst 1 d_PG_init_20 (by decide) ?_
  refine r_newB 27 rfl d_PG_init_21 nw_PG_7 (Nat.le_of_ble_eq_true rfl) (Nat.le_of_ble_eq_true rfl) ?_
  refine r_dup d_PG_init_24 rfl ?_
  refine r_initNB "PairedGates" [] (.inr (3, [.null, .null, .null, .null, .null, .null, .int 0, .int 0, .null, .null])) e_Lane (d - 1) 24 106 27 rfl d_PG_init_25 q_PG_9 rfl (fun h1 => c_Lane_init htr (by omega) h1) (by show d - 1 + 1 ≤ d; omega) (Nat.le_of_ble_eq_true rfl) (Nat.le_of_ble_eq_true rfl) (Nat.le_of_ble_eq_true rfl) ?_
  refine r_aastore (a := 1) (b := 27) d_PG_init_28 rfl rfl rfl rfl (by unfold vp_in; decide) ?_
  refine r_hp (h' := e_PG2 (.inr (7, [.null, .null, .null, .int 0, .int 0])) (.inl (.inr (.inr (0, 2, g_lanes))))) rfl ?_
  refine r_putfieldF d_PG_init_29 f_PG_10 rfl (Nat.le_of_ble_eq_true rfl) (fun _ => rfl) (fun _ => rfl) rfl (fun _ _ _ e9 => by cases e9; rfl) ?_
  refine r_aload_n d_PG_init_32 rfl ?_
  refine r_hp (h' := e_PG2 (.inr (7, [.ref 1, .null, .null, .int 0, .int 0])) (.inl (.inr (.inr (0, 2, g_lanes))))) rfl ?_
  refine r_newB 52 rfl d_PG_init_33 nw_PG_16 (Nat.le_of_ble_eq_true rfl) (Nat.le_of_ble_eq_true rfl) ?_
  refine r_dup d_PG_init_36 rfl ?_
  refine r_sipush 512 d_PG_init_37 (by decide) ?_
  refine r_ri (show (512 : Int32) = nI 512 by decide) ?_
  refine r_initB [.int (nI 512)] (.inr (6, [.null, .null, .int 0])) (e_TL 512) (d - 1) 2 1024 52 rfl d_PG_init_40 q_PG_18 rfl (fun h1 => c_TL_init htr (by omega) (by omega) h1) (by show d - 1 + 1 ≤ d; omega) (Nat.le_of_ble_eq_true rfl) (Nat.le_of_ble_eq_true rfl) (Nat.le_of_ble_eq_true rfl) ?_
  refine r_putfieldF d_PG_init_43 f_PG_21 rfl (Nat.le_of_ble_eq_true rfl) (fun _ => rfl) (fun _ => rfl) rfl (fun _ _ _ e9 => by cases e9; rfl) ?_
  refine r_aload_n d_PG_init_46 rfl ?_
  refine r_hp (h' := e_PG2 (.inr (7, [.ref 1, .ref 52, .null, .int 0, .int 0])) (.inl (.inr (.inr (0, 2, g_lanes)))) ++ e_TL 512 52) rfl ?_
  refine r_newB 55 rfl d_PG_init_47 nw_PG_25 (Nat.le_of_ble_eq_true rfl) (Nat.le_of_ble_eq_true rfl) ?_
  refine r_dup d_PG_init_50 rfl ?_
  refine r_initNB "PairedGates" [] (.inr (5, [.null, .int 0])) e_Rf (d - 1) 1 512 55 rfl d_PG_init_51 q_PG_27 rfl (fun h1 => c_Rf_init htr (by omega) h1) (by show d - 1 + 1 ≤ d; omega) (Nat.le_of_ble_eq_true rfl) (Nat.le_of_ble_eq_true rfl) (Nat.le_of_ble_eq_true rfl) ?_
  refine r_putfieldF d_PG_init_54 f_PG_28 rfl (Nat.le_of_ble_eq_true rfl) (fun _ => rfl) (fun _ => rfl) rfl (fun _ _ _ e9 => by cases e9; rfl) ?_
  refine r_hp (h' := e_PG) rfl ?_
  refine r_aload_n d_PG_init_57 rfl ?_
  refine r_iconst 0 d_PG_init_58 (by decide) ?_
  refine r_putfield d_PG_init_59 f_PG_32 rfl (Nat.le_of_ble_eq_true rfl) (fun _ => rfl) (fun _ => rfl) ?_
  refine r_aload_n d_PG_init_62 rfl ?_
  refine r_iconst 0 d_PG_init_63 (by decide) ?_
  refine r_putfield d_PG_init_64 f_PG_36 rfl (Nat.le_of_ble_eq_true rfl) (fun _ => rfl) (fun _ => rfl) ?_
  exact r_vret d_PG_init_67 rfl ⟨rfl, rfl⟩ (Nat.le_of_ble_eq_true rfl) (Nat.le_of_ble_eq_true rfl)
theorem PGs_new {h : ac_H} (hp : ∀ j, j < 57 → h[j]? = e_PG[j]?) : PGs h S0 := by
  have gt : ∀ j e, j < 57 → e_PG[j]? = some e → h[j]? = some e := fun j e hj he => (hp j hj).trans he
  have l2 : Lns ([z_arr 0, z_arr 0] ++ e_Lane 2) 2 L0 := Lns_new [z_arr 0, z_arr 0]
  have l27 : Lns (List.replicate 27 (z_arr 0) ++ e_Lane 27) 27 L0 := Lns_new (List.replicate 27 (z_arr 0))
  refine ⟨⟨g_lanes, gt 1 _ (by omega) rfl, rfl, rfl⟩, gt 0 _ (by omega) rfl, l2.pt (fun j hj => (hp (2 + j) (by omega)).trans ?_), l27.pt (fun j hj => (hp (27 + j) (by omega)).trans ?_), TLs_new (by omega) (gt 52 _ (by omega) rfl) (gt 53 _ (by omega) rfl) (gt 54 _ (by omega) rfl), ⟨gt 55 _ (by omega) rfl, Nat.zero_le _, _, gt 56 _ (by omega) rfl, fun i x hx => (by cases hx)⟩, Or.inl rfl⟩
  · show e_PG[2 + j]? = ([z_arr 0, z_arr 0] ++ e_Lane 2)[2 + j]?
    rcases (show j = 0 ∨ j = 1 ∨ j = 2 ∨ j = 3 ∨ j = 4 ∨ j = 5 ∨ j = 6 ∨ j = 7 ∨ j = 8 ∨ j = 9 ∨ j = 10 ∨ j = 11 ∨ j = 12 ∨ j = 13 ∨ j = 14 ∨ j = 15 ∨ j = 16 ∨ j = 17 ∨ j = 18 ∨ j = 19 ∨ j = 20 ∨ j = 21 ∨ j = 22 ∨ j = 23 ∨ j = 24 by omega) with q | q | q | q | q | q | q | q | q | q | q | q | q | q | q | q | q | q | q | q | q | q | q | q | q <;> subst q <;> rfl
  · show e_PG[27 + j]? = (List.replicate 27 (z_arr 0) ++ e_Lane 27)[27 + j]?
    rcases (show j = 0 ∨ j = 1 ∨ j = 2 ∨ j = 3 ∨ j = 4 ∨ j = 5 ∨ j = 6 ∨ j = 7 ∨ j = 8 ∨ j = 9 ∨ j = 10 ∨ j = 11 ∨ j = 12 ∨ j = 13 ∨ j = 14 ∨ j = 15 ∨ j = 16 ∨ j = 17 ∨ j = 18 ∨ j = 19 ∨ j = 20 ∨ j = 21 ∨ j = 22 ∨ j = 23 ∨ j = 24 by omega) with q | q | q | q | q | q | q | q | q | q | q | q | q | q | q | q | q | q | q | q | q | q | q | q | q <;> subst q <;> rfl
end
section
/-! THROWS of the component -/
abbrev x_I : String := "java/lang/IndexOutOfBoundsException"
abbrev x_A : String := "java/lang/IllegalArgumentException"
abbrev x_S : String := "java/lang/IllegalStateException"
def x_ns : List String := ["java/lang/RuntimeException", "java/lang/Exception"]
def x_in (ic : Nat) (E : String) : Prop := ∀ w ∈ Bundle.ownAtoms "PairedGates" ic E x_ns, (w ∈ ac_U ∧ w.onTables = true) ∨ w ∈ ac_ow ∨ w ∈ xq_sw
theorem x_I_in : x_in 159 x_I := by unfold x_in; decide +kernel
theorem x_A_in : x_in 57 x_A := by unfold x_in; decide +kernel
theorem x_S_in : x_in 102 x_S := by unfold x_in; decide +kernel
theorem x_ns_fit : ∀ n ∈ x_ns, Bundle.fit n = true := by decide +kernel
/-- a throw at pc of a method of the component -/
theorem x_thr {g : ac_P} {pc ik is ic : Nat} {E text : String} (hc : (ac_y g).cls = "PairedGates") (hE : Bundle.fit E = true) (hl : Cond.classLink "PairedGates" ik E ∈ ac_U) (hi : Cond.initialized E ∈ ac_U) (hs : ("PairedGates", is, text) ∈ ac_str) (hx : x_in ic E) (d0 : decode (ac_cc g) pc = .ok (.new ik, 3)) (d3 : decode (ac_cc g) (pc + 3) = .ok (.dup, 1)) (d4 : decode (ac_cc g) (pc + 4) = .ok (.ldc is, 2)) (d6 : decode (ac_cc g) (pc + 6) = .ok (.invokespecial ic, 3)) (d9 : decode (ac_cc g) (pc + 9) = .ok (.athrow, 1)) (hd : 6 ≤ ac_d g) : ac_thr g pc E := by
  have e2 : x_ns.length = 2 := rfl
  exact ⟨x_ns, ik, is, ic, text, hE, x_ns_fit, by rw [hc]; exact hl, hi, by rw [hc]; exact hs, by rw [hc]; exact hx, d0, d3, d4, d6, d9, by rw [e2]; omega, by rw [e2]; omega⟩
end
