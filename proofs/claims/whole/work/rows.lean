section
-- ===== PART A: goes FIRST, ahead of the names: the tables' words, and 'selects' of the private methods out of them =====
/-- a private method of a class that the tables say can be made, by its rows of tables_1 -/
def lw_okq (q : MethodName × Nat) : Prop := (q.1.cls ≠ "java/lang/invoke/MethodHandle" ∧ q.1.cls ≠ "java/lang/invoke/VarHandle") ∧ Cond.instantiable q.1.cls q.2 ∈ tables_1 ∧ Cond.privateMethod q.1 ∈ tables_1 ∧ Cond.instanceMethod q.1 ∈ tables_1
theorem lw_p0 : lw_okq (⟨"PairedGates", "laneAt", "(I)LPairedGates$Lane;"⟩, 5) := ⟨⟨by decide +kernel, by decide +kernel⟩, List.mem_of_getElem? (i := 18) (by decide +kernel), List.mem_of_getElem? (i := 247) (by decide +kernel), List.mem_of_getElem? (i := 248) (by decide +kernel)⟩
theorem lw_p1 : lw_okq (⟨"java/lang/Throwable", "fillInStackTrace", "(I)Ljava/lang/Throwable;"⟩, 6) := ⟨⟨by decide +kernel, by decide +kernel⟩, List.mem_of_getElem? (i := 289) (by decide +kernel), List.mem_of_getElem? (i := 287) (by decide +kernel), List.mem_of_getElem? (i := 288) (by decide +kernel)⟩
theorem lw_p2 : lw_okq (⟨"PairedGates$Blobs", "addBeam", "(I)V"⟩, 3) := ⟨⟨by decide +kernel, by decide +kernel⟩, List.mem_of_getElem? (i := 54) (by decide +kernel), List.mem_of_getElem? (i := 371) (by decide +kernel), List.mem_of_getElem? (i := 372) (by decide +kernel)⟩
theorem lw_p3 : lw_okq (⟨"PairedGates$Lane", "sendBodies", "(LPairedGates$Refunds;)I"⟩, 10) := ⟨⟨by decide +kernel, by decide +kernel⟩, List.mem_of_getElem? (i := 27) (by decide +kernel), List.mem_of_getElem? (i := 375) (by decide +kernel), List.mem_of_getElem? (i := 376) (by decide +kernel)⟩
theorem lw_p4 : lw_okq (⟨"PairedGates$Lane", "countLeaver", "(LPairedGates$Body;LPairedGates$Refunds;)V"⟩, 10) := ⟨⟨by decide +kernel, by decide +kernel⟩, List.mem_of_getElem? (i := 27) (by decide +kernel), List.mem_of_getElem? (i := 387) (by decide +kernel), List.mem_of_getElem? (i := 388) (by decide +kernel)⟩
theorem lw_p5 : lw_okq (⟨"PairedGates$Body", "endsHigh", "()Z"⟩, 5) := ⟨⟨by decide +kernel, by decide +kernel⟩, List.mem_of_getElem? (i := 114) (by decide +kernel), List.mem_of_getElem? (i := 395) (by decide +kernel), List.mem_of_getElem? (i := 396) (by decide +kernel)⟩
theorem lw_p6 : lw_okq (⟨"PairedGates$Body", "startsLow", "()Z"⟩, 5) := ⟨⟨by decide +kernel, by decide +kernel⟩, List.mem_of_getElem? (i := 114) (by decide +kernel), List.mem_of_getElem? (i := 399) (by decide +kernel), List.mem_of_getElem? (i := 400) (by decide +kernel)⟩
theorem lw_p7 : lw_okq (⟨"PairedGates$Lane", "renewRow", "(I)V"⟩, 10) := ⟨⟨by decide +kernel, by decide +kernel⟩, List.mem_of_getElem? (i := 27) (by decide +kernel), List.mem_of_getElem? (i := 408) (by decide +kernel), List.mem_of_getElem? (i := 409) (by decide +kernel)⟩
theorem lw_p8 : lw_okq (⟨"PairedGates$Lane", "sharersOf", "(I)I"⟩, 10) := ⟨⟨by decide +kernel, by decide +kernel⟩, List.mem_of_getElem? (i := 27) (by decide +kernel), List.mem_of_getElem? (i := 412) (by decide +kernel), List.mem_of_getElem? (i := 413) (by decide +kernel)⟩
theorem lw_p9 : lw_okq (⟨"PairedGates$Lane", "shareBlob", "(III)I"⟩, 10) := ⟨⟨by decide +kernel, by decide +kernel⟩, List.mem_of_getElem? (i := 27) (by decide +kernel), List.mem_of_getElem? (i := 416) (by decide +kernel), List.mem_of_getElem? (i := 417) (by decide +kernel)⟩
theorem lw_p10 : lw_okq (⟨"PairedGates$Lane", "sideFor", "(I)I"⟩, 10) := ⟨⟨by decide +kernel, by decide +kernel⟩, List.mem_of_getElem? (i := 27) (by decide +kernel), List.mem_of_getElem? (i := 426) (by decide +kernel), List.mem_of_getElem? (i := 427) (by decide +kernel)⟩
theorem lw_p11 : lw_okq (⟨"PairedGates$Lane", "handOutTokens", "()V"⟩, 10) := ⟨⟨by decide +kernel, by decide +kernel⟩, List.mem_of_getElem? (i := 27) (by decide +kernel), List.mem_of_getElem? (i := 435) (by decide +kernel), List.mem_of_getElem? (i := 436) (by decide +kernel)⟩
theorem lw_p12 : lw_okq (⟨"PairedGates$Lane", "someBodyHasToken", "()Z"⟩, 10) := ⟨⟨by decide +kernel, by decide +kernel⟩, List.mem_of_getElem? (i := 27) (by decide +kernel), List.mem_of_getElem? (i := 444) (by decide +kernel), List.mem_of_getElem? (i := 445) (by decide +kernel)⟩
theorem lw_p13 : lw_okq (⟨"PairedGatesModel", "refused", "(I)Z"⟩, 31) := ⟨⟨by decide +kernel, by decide +kernel⟩, List.mem_of_getElem? (i := 588) (by decide +kernel), List.mem_of_getElem? (i := 699) (by decide +kernel), List.mem_of_getElem? (i := 700) (by decide +kernel)⟩
theorem lw_p14 : lw_okq (⟨"PairedGatesModel", "tick", "(I)I"⟩, 31) := ⟨⟨by decide +kernel, by decide +kernel⟩, List.mem_of_getElem? (i := 588) (by decide +kernel), List.mem_of_getElem? (i := 707) (by decide +kernel), List.mem_of_getElem? (i := 708) (by decide +kernel)⟩
theorem lw_p15 : lw_okq (⟨"PairedGatesModel", "takeOldest", "(I)I"⟩, 31) := ⟨⟨by decide +kernel, by decide +kernel⟩, List.mem_of_getElem? (i := 588) (by decide +kernel), List.mem_of_getElem? (i := 711) (by decide +kernel), List.mem_of_getElem? (i := 712) (by decide +kernel)⟩
def lw_privs_1 : List (MethodName × Nat) := [(⟨"PairedGates", "laneAt", "(I)LPairedGates$Lane;"⟩, 5), (⟨"java/lang/Throwable", "fillInStackTrace", "(I)Ljava/lang/Throwable;"⟩, 6), (⟨"PairedGates$Blobs", "addBeam", "(I)V"⟩, 3), (⟨"PairedGates$Lane", "sendBodies", "(LPairedGates$Refunds;)I"⟩, 10), (⟨"PairedGates$Lane", "countLeaver", "(LPairedGates$Body;LPairedGates$Refunds;)V"⟩, 10), (⟨"PairedGates$Body", "endsHigh", "()Z"⟩, 5), (⟨"PairedGates$Body", "startsLow", "()Z"⟩, 5), (⟨"PairedGates$Lane", "renewRow", "(I)V"⟩, 10), (⟨"PairedGates$Lane", "sharersOf", "(I)I"⟩, 10), (⟨"PairedGates$Lane", "shareBlob", "(III)I"⟩, 10), (⟨"PairedGates$Lane", "sideFor", "(I)I"⟩, 10), (⟨"PairedGates$Lane", "handOutTokens", "()V"⟩, 10), (⟨"PairedGates$Lane", "someBodyHasToken", "()Z"⟩, 10), (⟨"PairedGatesModel", "refused", "(I)Z"⟩, 31), (⟨"PairedGatesModel", "tick", "(I)I"⟩, 31), (⟨"PairedGatesModel", "takeOldest", "(I)I"⟩, 31)]
theorem lw_r1 : ∀ q ∈ lw_privs_1, lw_okq q := List.forall_mem_cons.mpr ⟨lw_p0, List.forall_mem_cons.mpr ⟨lw_p1, List.forall_mem_cons.mpr ⟨lw_p2, List.forall_mem_cons.mpr ⟨lw_p3, List.forall_mem_cons.mpr ⟨lw_p4, List.forall_mem_cons.mpr ⟨lw_p5, List.forall_mem_cons.mpr ⟨lw_p6, List.forall_mem_cons.mpr ⟨lw_p7, List.forall_mem_cons.mpr ⟨lw_p8, List.forall_mem_cons.mpr ⟨lw_p9, List.forall_mem_cons.mpr ⟨lw_p10, List.forall_mem_cons.mpr ⟨lw_p11, List.forall_mem_cons.mpr ⟨lw_p12, List.forall_mem_cons.mpr ⟨lw_p13, List.forall_mem_cons.mpr ⟨lw_p14, List.forall_mem_cons.mpr ⟨lw_p15, fun _ h => absurd h List.not_mem_nil⟩⟩⟩⟩⟩⟩⟩⟩⟩⟩⟩⟩⟩⟩⟩⟩
theorem lw_p16 : lw_okq (⟨"PairedGatesModel", "giveBack", "(I)V"⟩, 31) := ⟨⟨by decide +kernel, by decide +kernel⟩, List.mem_of_getElem? (i := 588) (by decide +kernel), List.mem_of_getElem? (i := 715) (by decide +kernel), List.mem_of_getElem? (i := 716) (by decide +kernel)⟩
theorem lw_p17 : lw_okq (⟨"PairedGatesModel", "look", "(I)V"⟩, 31) := ⟨⟨by decide +kernel, by decide +kernel⟩, List.mem_of_getElem? (i := 588) (by decide +kernel), List.mem_of_getElem? (i := 719) (by decide +kernel), List.mem_of_getElem? (i := 720) (by decide +kernel)⟩
theorem lw_p18 : lw_okq (⟨"PairedGatesModel", "goOn", "(I)I"⟩, 31) := ⟨⟨by decide +kernel, by decide +kernel⟩, List.mem_of_getElem? (i := 588) (by decide +kernel), List.mem_of_getElem? (i := 723) (by decide +kernel), List.mem_of_getElem? (i := 724) (by decide +kernel)⟩
theorem lw_p19 : lw_okq (⟨"PairedGatesModel", "meets", "(III)Z"⟩, 31) := ⟨⟨by decide +kernel, by decide +kernel⟩, List.mem_of_getElem? (i := 588) (by decide +kernel), List.mem_of_getElem? (i := 727) (by decide +kernel), List.mem_of_getElem? (i := 728) (by decide +kernel)⟩
theorem lw_p20 : lw_okq (⟨"PairedGatesModel", "leave", "(II)V"⟩, 31) := ⟨⟨by decide +kernel, by decide +kernel⟩, List.mem_of_getElem? (i := 588) (by decide +kernel), List.mem_of_getElem? (i := 731) (by decide +kernel), List.mem_of_getElem? (i := 732) (by decide +kernel)⟩
theorem lw_p21 : lw_okq (⟨"PairedGatesModel", "copy", "(II)V"⟩, 31) := ⟨⟨by decide +kernel, by decide +kernel⟩, List.mem_of_getElem? (i := 588) (by decide +kernel), List.mem_of_getElem? (i := 735) (by decide +kernel), List.mem_of_getElem? (i := 736) (by decide +kernel)⟩
theorem lw_p22 : lw_okq (⟨"PairedGatesModel", "share", "(II)V"⟩, 31) := ⟨⟨by decide +kernel, by decide +kernel⟩, List.mem_of_getElem? (i := 588) (by decide +kernel), List.mem_of_getElem? (i := 739) (by decide +kernel), List.mem_of_getElem? (i := 740) (by decide +kernel)⟩
theorem lw_p23 : lw_okq (⟨"PairedGatesModel", "begin", "(II)V"⟩, 31) := ⟨⟨by decide +kernel, by decide +kernel⟩, List.mem_of_getElem? (i := 588) (by decide +kernel), List.mem_of_getElem? (i := 743) (by decide +kernel), List.mem_of_getElem? (i := 744) (by decide +kernel)⟩
theorem lw_p24 : lw_okq (⟨"PairedGatesModel", "pay", "(I)V"⟩, 31) := ⟨⟨by decide +kernel, by decide +kernel⟩, List.mem_of_getElem? (i := 588) (by decide +kernel), List.mem_of_getElem? (i := 747) (by decide +kernel), List.mem_of_getElem? (i := 748) (by decide +kernel)⟩
theorem lw_p25 : lw_okq (⟨"PairedGatesModel", "turn", "(I)V"⟩, 31) := ⟨⟨by decide +kernel, by decide +kernel⟩, List.mem_of_getElem? (i := 588) (by decide +kernel), List.mem_of_getElem? (i := 751) (by decide +kernel), List.mem_of_getElem? (i := 752) (by decide +kernel)⟩
theorem lw_p26 : lw_okq (⟨"PairedGatesModel", "hasSide", "(II)Z"⟩, 31) := ⟨⟨by decide +kernel, by decide +kernel⟩, List.mem_of_getElem? (i := 588) (by decide +kernel), List.mem_of_getElem? (i := 759) (by decide +kernel), List.mem_of_getElem? (i := 760) (by decide +kernel)⟩
theorem lw_p27 : lw_okq (⟨"PairedGatesModel", "isRepeated", "(I)Z"⟩, 31) := ⟨⟨by decide +kernel, by decide +kernel⟩, List.mem_of_getElem? (i := 588) (by decide +kernel), List.mem_of_getElem? (i := 763) (by decide +kernel), List.mem_of_getElem? (i := 764) (by decide +kernel)⟩
def lw_privs_2 : List (MethodName × Nat) := [(⟨"PairedGatesModel", "giveBack", "(I)V"⟩, 31), (⟨"PairedGatesModel", "look", "(I)V"⟩, 31), (⟨"PairedGatesModel", "goOn", "(I)I"⟩, 31), (⟨"PairedGatesModel", "meets", "(III)Z"⟩, 31), (⟨"PairedGatesModel", "leave", "(II)V"⟩, 31), (⟨"PairedGatesModel", "copy", "(II)V"⟩, 31), (⟨"PairedGatesModel", "share", "(II)V"⟩, 31), (⟨"PairedGatesModel", "begin", "(II)V"⟩, 31), (⟨"PairedGatesModel", "pay", "(I)V"⟩, 31), (⟨"PairedGatesModel", "turn", "(I)V"⟩, 31), (⟨"PairedGatesModel", "hasSide", "(II)Z"⟩, 31), (⟨"PairedGatesModel", "isRepeated", "(I)Z"⟩, 31)]
theorem lw_r2 : ∀ q ∈ lw_privs_2, lw_okq q := List.forall_mem_cons.mpr ⟨lw_p16, List.forall_mem_cons.mpr ⟨lw_p17, List.forall_mem_cons.mpr ⟨lw_p18, List.forall_mem_cons.mpr ⟨lw_p19, List.forall_mem_cons.mpr ⟨lw_p20, List.forall_mem_cons.mpr ⟨lw_p21, List.forall_mem_cons.mpr ⟨lw_p22, List.forall_mem_cons.mpr ⟨lw_p23, List.forall_mem_cons.mpr ⟨lw_p24, List.forall_mem_cons.mpr ⟨lw_p25, List.forall_mem_cons.mpr ⟨lw_p26, List.forall_mem_cons.mpr ⟨lw_p27, fun _ h => absurd h List.not_mem_nil⟩⟩⟩⟩⟩⟩⟩⟩⟩⟩⟩⟩
def lw_privs : List (MethodName × Nat) := lw_privs_1 ++ (lw_privs_2)
def lw_tbl : List Cond := k2_sels lw_privs ++ tables_1
theorem lw_privs_ok : ∀ q ∈ lw_privs, lw_okq q := by
  show ∀ q ∈ lw_privs_1 ++ (lw_privs_2), lw_okq q
  exact List.forall_mem_append.mpr ⟨lw_r1, lw_r2⟩
/-! THE CLAIM OUT OF ONE WALK OF THE LAW'S BODY. Your part is whole_start (and what it stands on); all else here is the same for every law, but numbers. -/
def R_law : String := "PairedGatesLaw"
def lw_P (b : Addr) (xs : List Int32) (args : Array Value) (s : State) : Prop := args = #[.ref b] ∧ s.IntsAt b xs ∧ xs.length ≤ 2048 ∧ (Jvm.Cond.and given_1 narrow_1).before args s = true
def lw_Q (_ : Array Value) (s : State) (o : Outcome) (t : State) : Prop := o = .returned (some (.int 1)) ∧ Framed s o t [] 601024 7293034
def lw_Z (below : List Frame) (a : Array Value) (s : State) : State → Prop := fun t => ∃ o, t.status = .running ∧ Ended t below o ∧ lw_Q a s o t
/-- the law's own end, with 1 on the stack, nothing written that was there before, its room as the claim has it -/
theorem lw_ret {p : Program} {l : Launch} {e : Env} {s : State} {m : MethodId} {below : List Frame} {meth : Method} {c : Code} {b : Nat} (hx : p.tables.exec = Jvm.exec) (hb : c.code = code) (hr : meth.sig.returnType = ret) (hlocks : meth.locks = false) {pc : Nat} {H : Heap} {ls : Array Slot} (hdg : decode code pc = .ok (.ireturn, 1)) : W p l e room_1 s m #[Value.ref b] below meth c H [] 601024 7293034 (lw_Z below #[Value.ref b] s) (F0 m pc ls [.int 1]) := by
  intro T hT X
  obtain ⟨fs, hret, hrun, hended, hW, hframe⟩ := X.leave (v := some (.int 1)) (hlocks := hlocks) (fun h => by rw [hr] at h; cases h)
  have hmeth' : T.vm.method? m = some meth := X.method'
  refine ⟨T.setFrames fs, ?_, .returned (some (.int 1)), hrun, hended, rfl, ⟨_, rfl⟩, hW, hframe⟩
  jvm_step X.here [X.here.top, hx, hb, hdg, hmeth', hr, ret, narrow_b1]
  (try refine ⟨rfl, ?_⟩); (try refine ⟨rfl, ?_⟩)
  first | (intro acts; rw [hret _ acts rfl rfl rfl]) | rw [hret _ _ rfl rfl rfl]
  exact Steps.refl _
/-- what holds at the law's entry: the machine, the code, the tables' words (any of lw_tbl by 'hts w (by decide +kernel)'), the script of L ints xs at the cell b, what the Statement gives of the start (any of its parts by flat_of_before) -/
def lw_At (p : Program) (s : State) (m : MethodId) (meth : Method) (c : Code) (b L : Nat) (xs : Nat → Int32) : Prop :=
  p.tables.exec = Jvm.exec ∧ c.code = code ∧ meth.sig.returnType = ret ∧ c.maxLocals = 7 ∧ s.vm.findClass R_law = some m.cls ∧ (∀ w ∈ lw_tbl, w.before #[Value.ref b] s = true) ∧ va_X b L xs s s.heap ∧ b < s.heap.size ∧ meth.locks = false ∧ (Jvm.Cond.and given_1 narrow_1).before #[Value.ref b] s = true
def R_Blobs : String := "PairedGates$Blobs"
def T_Blobs : u_T := fun k => match k with
  | 0 => ("PairedGates$Blobs", "first", "[I", true)
  | 1 => ("PairedGates$Blobs", "last", "[I", true)
  | _ => ("PairedGates$Blobs", "size", "I", false)
def t_Blobs : Nat → FieldType := fun k => match k with
  | 0 => .array .int
  | 1 => .array .int
  | _ => .int
theorem n_Blobs : ∀ a, a < 3 → ∀ b, b < 3 → a ≠ b → (T_Blobs a).2.1 ≠ (T_Blobs b).2.1 := by decide +kernel
theorem t_Blobs_ok : ∀ k, k < 3 → parseFieldDescriptor (T_Blobs k).2.2.1 = some (t_Blobs k) := by decide +kernel
def R_Body : String := "PairedGates$Body"
def T_Body : u_T := fun k => match k with
  | 0 => ("PairedGates$Body", "first", "I", false)
  | 1 => ("PairedGates$Body", "last", "I", false)
  | 2 => ("PairedGates$Body", "side", "I", false)
  | 3 => ("PairedGates$Body", "account", "I", false)
  | _ => ("PairedGates$Body", "length", "I", false)
def t_Body : Nat → FieldType := fun k => match k with
  | 0 => .int
  | 1 => .int
  | 2 => .int
  | 3 => .int
  | _ => .int
theorem n_Body : ∀ a, a < 5 → ∀ b, b < 5 → a ≠ b → (T_Body a).2.1 ≠ (T_Body b).2.1 := by decide +kernel
theorem t_Body_ok : ∀ k, k < 5 → parseFieldDescriptor (T_Body k).2.2.1 = some (t_Body k) := by decide +kernel
def R_Eye : String := "PairedGates$Eye"
def T_Eye : u_T := fun k => match k with
  | 0 => ("PairedGates$Eye", "told", "I", false)
  | 1 => ("PairedGates$Eye", "latest", "I", false)
  | 2 => ("PairedGates$Eye", "earlier", "I", false)
  | _ => ("PairedGates$Eye", "seen", "I", false)
def t_Eye : Nat → FieldType := fun k => match k with
  | 0 => .int
  | 1 => .int
  | 2 => .int
  | _ => .int
theorem n_Eye : ∀ a, a < 4 → ∀ b, b < 4 → a ≠ b → (T_Eye a).2.1 ≠ (T_Eye b).2.1 := by decide +kernel
theorem t_Eye_ok : ∀ k, k < 4 → parseFieldDescriptor (T_Eye k).2.2.1 = some (t_Eye k) := by decide +kernel
def R_Lane : String := "PairedGates$Lane"
def T_Lane : u_T := fun k => match k with
  | 0 => ("PairedGates$Lane", "eye", "LPairedGates$Eye;", true)
  | 1 => ("PairedGates$Lane", "blobs", "LPairedGates$Blobs;", true)
  | 2 => ("PairedGates$Lane", "paddles", "LPairedGates$Paddles;", true)
  | 3 => ("PairedGates$Lane", "queues", "[LPairedGates$TokenList;", true)
  | 4 => ("PairedGates$Lane", "counts", "[I", true)
  | 5 => ("PairedGates$Lane", "goals", "[I", true)
  | 6 => ("PairedGates$Lane", "openMode", "I", false)
  | 7 => ("PairedGates$Lane", "size", "I", false)
  | 8 => ("PairedGates$Lane", "row", "[LPairedGates$Body;", false)
  | _ => ("PairedGates$Lane", "nextRow", "[LPairedGates$Body;", false)
def t_Lane : Nat → FieldType := fun k => match k with
  | 0 => .object "PairedGates$Eye"
  | 1 => .object "PairedGates$Blobs"
  | 2 => .object "PairedGates$Paddles"
  | 3 => .array (.object "PairedGates$TokenList")
  | 4 => .array .int
  | 5 => .array .int
  | 6 => .int
  | 7 => .int
  | 8 => .array (.object "PairedGates$Body")
  | _ => .array (.object "PairedGates$Body")
theorem n_Lane : ∀ a, a < 10 → ∀ b, b < 10 → a ≠ b → (T_Lane a).2.1 ≠ (T_Lane b).2.1 := by decide +kernel
theorem t_Lane_ok : ∀ k, k < 10 → parseFieldDescriptor (T_Lane k).2.2.1 = some (t_Lane k) := by decide +kernel
def R_Pad : String := "PairedGates$Paddles"
def T_Pad : u_T := fun k => match k with
  | 0 => ("PairedGates$Paddles", "angle", "I", false)
  | _ => ("PairedGates$Paddles", "order", "I", false)
def t_Pad : Nat → FieldType := fun k => match k with
  | 0 => .int
  | _ => .int
theorem n_Pad : ∀ a, a < 2 → ∀ b, b < 2 → a ≠ b → (T_Pad a).2.1 ≠ (T_Pad b).2.1 := by decide +kernel
theorem t_Pad_ok : ∀ k, k < 2 → parseFieldDescriptor (T_Pad k).2.2.1 = some (t_Pad k) := by decide +kernel
def R_Rf : String := "PairedGates$Refunds"
def T_Rf : u_T := fun k => match k with
  | 0 => ("PairedGates$Refunds", "accounts", "[I", true)
  | _ => ("PairedGates$Refunds", "size", "I", false)
def t_Rf : Nat → FieldType := fun k => match k with
  | 0 => .array .int
  | _ => .int
theorem n_Rf : ∀ a, a < 2 → ∀ b, b < 2 → a ≠ b → (T_Rf a).2.1 ≠ (T_Rf b).2.1 := by decide +kernel
theorem t_Rf_ok : ∀ k, k < 2 → parseFieldDescriptor (T_Rf k).2.2.1 = some (t_Rf k) := by decide +kernel
def R_TL : String := "PairedGates$TokenList"
def T_TL : u_T := fun k => match k with
  | 0 => ("PairedGates$TokenList", "accounts", "[I", true)
  | 1 => ("PairedGates$TokenList", "times", "[I", true)
  | _ => ("PairedGates$TokenList", "size", "I", false)
def t_TL : Nat → FieldType := fun k => match k with
  | 0 => .array .int
  | 1 => .array .int
  | _ => .int
theorem n_TL : ∀ a, a < 3 → ∀ b, b < 3 → a ≠ b → (T_TL a).2.1 ≠ (T_TL b).2.1 := by decide +kernel
theorem t_TL_ok : ∀ k, k < 3 → parseFieldDescriptor (T_TL k).2.2.1 = some (t_TL k) := by decide +kernel
def R_PG : String := "PairedGates"
def T_PG : u_T := fun k => match k with
  | 0 => ("PairedGates", "lanes", "[LPairedGates$Lane;", true)
  | 1 => ("PairedGates", "acceptances", "LPairedGates$TokenList;", true)
  | 2 => ("PairedGates", "refundList", "LPairedGates$Refunds;", true)
  | 3 => ("PairedGates", "alarmOn", "Z", false)
  | _ => ("PairedGates", "now", "I", false)
def t_PG : Nat → FieldType := fun k => match k with
  | 0 => .array (.object "PairedGates$Lane")
  | 1 => .object "PairedGates$TokenList"
  | 2 => .object "PairedGates$Refunds"
  | 3 => .boolean
  | _ => .int
theorem n_PG : ∀ a, a < 5 → ∀ b, b < 5 → a ≠ b → (T_PG a).2.1 ≠ (T_PG b).2.1 := by decide +kernel
theorem t_PG_ok : ∀ k, k < 5 → parseFieldDescriptor (T_PG k).2.2.1 = some (t_PG k) := by decide +kernel
def R_Mo : String := "PairedGatesModel"
def T_Mo : u_T := fun k => match k with
  | 0 => ("PairedGatesModel", "fault", "I", false)
  | 1 => ("PairedGatesModel", "time", "I", false)
  | 2 => ("PairedGatesModel", "alarm", "Z", false)
  | 3 => ("PairedGatesModel", "told", "[I", true)
  | 4 => ("PairedGatesModel", "before", "[I", true)
  | 5 => ("PairedGatesModel", "earlier", "[I", true)
  | 6 => ("PairedGatesModel", "seen", "[I", true)
  | 7 => ("PairedGatesModel", "modes", "[I", true)
  | 8 => ("PairedGatesModel", "angle", "[I", true)
  | 9 => ("PairedGatesModel", "order", "[I", true)
  | 10 => ("PairedGatesModel", "counts", "[I", true)
  | 11 => ("PairedGatesModel", "bodies", "[I", true)
  | 12 => ("PairedGatesModel", "first", "[I", true)
  | 13 => ("PairedGatesModel", "last", "[I", true)
  | 14 => ("PairedGatesModel", "side", "[I", true)
  | 15 => ("PairedGatesModel", "owns", "[I", true)
  | 16 => ("PairedGatesModel", "length", "[I", true)
  | 17 => ("PairedGatesModel", "blobOf", "[I", true)
  | 18 => ("PairedGatesModel", "oldFirst", "[I", true)
  | 19 => ("PairedGatesModel", "oldLast", "[I", true)
  | 20 => ("PairedGatesModel", "blobs", "I", false)
  | 21 => ("PairedGatesModel", "blobFirst", "[I", true)
  | 22 => ("PairedGatesModel", "blobLast", "[I", true)
  | 23 => ("PairedGatesModel", "waiting", "[I", true)
  | 24 => ("PairedGatesModel", "account", "[I", true)
  | 25 => ("PairedGatesModel", "since", "[I", true)
  | 26 => ("PairedGatesModel", "accepted", "I", false)
  | 27 => ("PairedGatesModel", "takenOf", "[I", true)
  | 28 => ("PairedGatesModel", "takenAt", "[I", true)
  | 29 => ("PairedGatesModel", "refunds", "I", false)
  | _ => ("PairedGatesModel", "refund", "[I", true)
def t_Mo : Nat → FieldType := fun k => match k with
  | 0 => .int
  | 1 => .int
  | 2 => .boolean
  | 3 => .array .int
  | 4 => .array .int
  | 5 => .array .int
  | 6 => .array .int
  | 7 => .array .int
  | 8 => .array .int
  | 9 => .array .int
  | 10 => .array .int
  | 11 => .array .int
  | 12 => .array .int
  | 13 => .array .int
  | 14 => .array .int
  | 15 => .array .int
  | 16 => .array .int
  | 17 => .array .int
  | 18 => .array .int
  | 19 => .array .int
  | 20 => .int
  | 21 => .array .int
  | 22 => .array .int
  | 23 => .array .int
  | 24 => .array .int
  | 25 => .array .int
  | 26 => .int
  | 27 => .array .int
  | 28 => .array .int
  | 29 => .int
  | _ => .array .int
theorem n_Mo : ∀ a, a < 31 → ∀ b, b < 31 → a ≠ b → (T_Mo a).2.1 ≠ (T_Mo b).2.1 := by decide +kernel
theorem t_Mo_ok : ∀ k, k < 31 → parseFieldDescriptor (T_Mo k).2.2.1 = some (t_Mo k) := by decide +kernel
abbrev ac_cl : List vw_C := [(R_Blobs, T_Blobs, 3), (R_Body, T_Body, 5), (R_Eye, T_Eye, 4), (R_Lane, T_Lane, 10), (R_Pad, T_Pad, 2), (R_Rf, T_Rf, 2), (R_TL, T_TL, 3), (R_PG, T_PG, 5), (R_Mo, T_Mo, 31)]
/-- the words that stay good whatever is linked -/
def ac_U : List Cond := lw_tbl.filter goodWord
theorem ac_good : ∀ w ∈ ac_U, goodWord w = true := fun _ h => (List.mem_filter.mp h).2
theorem ac_mem {i : Nat} {w : Cond} (h : lw_tbl[i]? = some w) (g : goodWord w = true) : w ∈ ac_U := List.mem_filter.mpr ⟨List.mem_of_getElem? h, g⟩
def ac_kn : List String := ["PairedGates$Lane", "PairedGates$TokenList", "PairedGates$Body"]
/-- what is no cast -/
def ac_nc : List (String × String) := [("java/lang/IllegalArgumentException", "java/lang/IllegalStateException"), ("java/lang/IllegalArgumentException", "java/lang/IndexOutOfBoundsException"), ("java/lang/IllegalStateException", "java/lang/IllegalArgumentException"), ("java/lang/IllegalStateException", "java/lang/IndexOutOfBoundsException"), ("java/lang/IndexOutOfBoundsException", "java/lang/IllegalArgumentException"), ("java/lang/IndexOutOfBoundsException", "java/lang/IllegalStateException")]
/-- words that need a row of their own to stay: constructors of nest mates, casts -/
def ac_ow : List Cond := [.methodLinkNest "PairedGates" 9 ⟨"PairedGates$Lane", "<init>", "()V"⟩ "PairedGates", .methodLinkNest "PairedGates$Lane" 11 ⟨"PairedGates$Eye", "<init>", "()V"⟩ "PairedGates", .methodLinkNest "PairedGates$Lane" 20 ⟨"PairedGates$Blobs", "<init>", "()V"⟩ "PairedGates", .methodLinkNest "PairedGates$Lane" 27 ⟨"PairedGates$Paddles", "<init>", "()V"⟩ "PairedGates", .methodLinkNest "PairedGates$Lane" 68 ⟨"PairedGates$Body", "<init>", "()V"⟩ "PairedGates", .methodLinkNest "PairedGates" 27 ⟨"PairedGates$Refunds", "<init>", "()V"⟩ "PairedGates", .castable "java/lang/IndexOutOfBoundsException" "java/lang/IndexOutOfBoundsException", .castable "java/lang/IllegalArgumentException" "java/lang/IllegalArgumentException", .castable "java/lang/IllegalStateException" "java/lang/IllegalStateException"]
theorem ac_ow_tab : ∀ w ∈ ac_ow, w.onTables = true := by decide +kernel
theorem ac_ow_warm : ∀ w ∈ ac_ow, ∀ {s U : State}, s.WarmedH U.vm → va_Nw w s → va_Nw w U := by
  intro w hw s U hW hZ
  simp only [ac_ow, List.mem_cons, List.not_mem_nil, or_false] at hw
  rcases hw with rfl | rfl | rfl | rfl | rfl | rfl | rfl | rfl | rfl
  · exact hZ.warmM hW
  · exact hZ.warmM hW
  · exact hZ.warmM hW
  · exact hZ.warmM hW
  · exact hZ.warmM hW
  · exact hZ.warmM hW
  · exact hZ.warmC hW
  · exact hZ.warmC hW
  · exact hZ.warmC hW
def ac_str : List (String × Nat × String) := [("PairedGates", 157, "there is no such lane"), ("PairedGates", 55, "ticks are 1 .. 300"), ("PairedGates", 164, "there is no such side"), ("PairedGates", 68, "an account is not below 0"), ("PairedGates", 95, "modes are 0 .. 3"), ("PairedGates", 100, "the lane has bodies"), ("PairedGates", 166, "there is no such body"), ("PairedGates", 128, "what is 0 .. 4")]
end
section
/-! WHAT IS THROWN, in rows of our own: a contract that says both ends, calls by it, the way out of a frame, the way into a handler -/
section XQ
/-- the frame g, with the object q thrown over it, comes to Q -/
def xq_W (p : Program) (l : Launch) (e : Env) (R : Room) (s : State) (m : MethodId) (args : Array Value) (below : List Frame) (meth : Method) (c : Code) (H : Heap) (locs : List Loc) (k z : Nat) (Q : State → Prop) (g : JFrame) (q : Addr) : Prop :=
  ∀ T : State, T.heap = H → Stand p l e R s m args below meth c T locs k z → ∃ t, Steps p.tables e below ((T.setTop g).pushFrame (.throwing q)) t ∧ Q t
/-- both ends of a method in one: Qr where it went back, Qx where it threw -/
def xq_P (Qr : State → Option Value → State → Prop) (Qx : State → String → State → Prop) (mc ms : Nat) (free : Addr → Prop) : Array Value → State → Outcome → State → Prop := fun _ st o t =>
  ∃ L : List Loc, st.WarmedH t.vm ∧ st.sameButNew ({ t with vm := st.vm } : State) L mc ms ∧ (∀ q ∈ L, free q.base) ∧
    ((∃ v, o = .returned v ∧ Qr st v t) ∨ ∃ (q : Addr) (E : String) (ce : Cell), o = .threw q ∧ Qx st E t ∧ t.heap[q]? = some ce ∧ ce.vm = .none ∧ st.vm.findClass E = some ce.cls)
abbrev xq_M (l : Launch) (y : MethodName) (ws : List Cond) (rm : Room) (Pc : Array Value → State → Prop) (Qr : State → Option Value → State → Prop) (Qx : State → String → State → Prop) (mc ms : Nat) (free : Addr → Prop) : Prop :=
  MetFree l y (headSpec ws rm) Pc (fun _ _ _ _ _ => True) (xq_P Qr Qx mc ms free)
/-- a call has been made at T: it stands again, behind the call or with something thrown over it -/
def xq_R (p : Program) (l : Launch) (e : Env) (R : Room) (s : State) (m : MethodId) (args : Array Value) (below : List Frame) (meth : Method) (c : Code) (H : Heap) (locs : List Loc) (k z mc ms : Nat) (g : JFrame) (rest : List Value) (Qr : State → Option Value → State → Prop) (Qx : State → String → State → Prop) (free : Addr → Prop) : Prop :=
  ∀ T : State, T.heap = H → Stand p l e R s m args below meth c T locs k z → ∃ (st t T' : State) (L : List Loc), st.heap = H ∧ Stand p l e R s m args below meth c T' (locs ++ L) (k + mc) (z + ms) ∧ (∀ q ∈ L, free q.base) ∧ T'.heap = t.heap ∧
    ((∃ v, Qr st v t ∧ ∀ tg, Steps p.tables e below (T'.setTop { g with pc := g.pc + 3, stack := v.toList ++ rest }) tg → Steps p.tables e below (T.setTop g) tg) ∨
     ∃ (q : Addr) (E : String) (ce : Cell), Qx st E t ∧ t.heap[q]? = some ce ∧ ce.vm = .none ∧ s.vm.findClass E = some ce.cls ∧ Steps p.tables e below (T.setTop g) ((T'.setTop { g with stack := rest }).pushFrame (.throwing q)))
variable {p : Program} {l : Launch} {e : Env} {R : Room} {s : State} {m : MethodId} {args : Array Value} {below : List Frame} {meth : Method} {c : Code} {H : Heap} {locs : List Loc} {k z : Nat}
variable {y : MethodName} {ws : List Cond} {rm : Room} {Pc : Array Value → State → Prop} {Qr : State → Option Value → State → Prop} {Qx : State → String → State → Prop} {mc ms : Nat} {free : Addr → Prop}
/-- the body of a called method, from the point where its frame is laid (after Back.of_free of the library, with the thrown end beside it) -/
theorem xq_body (hM : xq_M l y ws rm Pc Qr Qx mc ms free) (hrc : rm.cells = mc) (hrs : rm.slots = ms) {maxL : Nat} (hfr : rm.frames + 1 ≤ R.frames) (hlo : 8 + (maxL + 11) + rm.locals ≤ R.locals)
    {U : State} (X : Stand p l e R s m args below meth c U locs k z) {g : JFrame} (hg : g.method = m) (hsize : g.locals.size = c.maxLocals) {ig : Instr} {len : Nat} (hdg : decode c.code g.pc = .ok (ig, len)) (hW : 2 * g.monitorRoom + (g.stack.map fun v => v.category).sum ≤ 8)
    {mk : MethodId} {a : Array Value} (hn : U.methodNamed? y = some mk) {methY : Method} {cY : Code} (hmY : U.vm.method? mk = some methY) (hcY : methY.code = some cY) (hlY : cY.maxLocals = maxL) (hpre : ∀ w ∈ ws, w.before a U = true) (hini : (Cond.initialized y.cls).before a U = true) (hk : k + mc ≤ R.cells) (hz : z + ms ≤ R.slots) (hPc : Pc a (U.calling g mk a)) :
    ∃ (t T' : State) (L : List Loc), Stand p l e R s m args below meth c T' (locs ++ L) (k + mc) (z + ms) ∧ (∀ q ∈ L, free q.base) ∧ T'.heap = t.heap ∧
      ((∃ v, Qr (U.calling g mk a) v t ∧ Steps p.tables e below (doInvoke e (U.setTop g) [] mk a).1 (T'.setTop { g with pc := g.pc + len, stack := v.toList ++ g.stack })) ∨
       ∃ (q : Addr) (E : String) (ce : Cell), Qx (U.calling g mk a) E t ∧ t.heap[q]? = some ce ∧ ce.vm = .none ∧ U.vm.findClass E = some ce.cls ∧ Steps p.tables e below (doInvoke e (U.setTop g) [] mk a).1 ((T'.setTop g).pushFrame (.throwing q))) := by
  obtain ⟨kY, hkY, -⟩ := className_of_methodNamed hn
  have hiY : kY.init = .initialized := Cond.initialized_spec (findClass_of_methodNamed hn) hkY hini
  have h : At U g.method c below := by rw [hg]; exact X.here
  have happ : (headSpec ws rm).appliesLoose y e.platform (U.calling g mk a) = true :=
    Spec.appliesLoose_calling (g := g) h hdg hn hkY hiY
      (X.room_calling (g := g) (R' := (headSpec ws rm).room) hsize hmY hcY hfr (by rw [hlY]; show _ + rm.locals ≤ _; omega) (by show k + rm.cells ≤ _; omega) (by show z + rm.slots ≤ _; omega)) (atoms_intro hpre)
  obtain ⟨mid, hmid⟩ := h.above
  have hfs : (U.setTop g).frames = (.java g :: mid) ++ below := by rw [State.frames_setTop' g h.top, hmid]; rfl
  obtain ⟨o, s₂, hsteps, -, hend, hq⟩ := Steps.callFree hM p X.admits X.cas X.clock (acts := []) hfs happ hPc trivial
  have hq' : xq_P Qr Qx mc ms free a (U.calling g mk a) o s₂ := hq
  obtain ⟨L, hWm, hsm, hL, hor⟩ := hq'
  rw [State.frames_setTop' g h.top] at hend
  obtain ⟨g₀, hg0⟩ := Option.isSome_iff_exists.mp h.top
  obtain ⟨r, hr⟩ := State.topJava?_eq_some.mp hg0
  obtain ⟨e2, q2, q3, q4, q5, q6⟩ := id hsm
  have e3 : s₂ = ({ (U.calling g mk a).setFrames s₂.frames with heap := s₂.heap, slotsUsed := s₂.slotsUsed } : State).setVm s₂.vm := by
    have e4 : s₂ = ({ s₂ with vm := (U.calling g mk a).vm } : State).setVm s₂.vm := rfl
    rw [e2] at e4
    exact e4
  have hWU : U.WarmedH s₂.vm := hWm
  have hr' : (({ U with heap := s₂.heap, slotsUsed := s₂.slotsUsed } : State).setVm s₂.vm).frames = .java g₀ :: r := hr
  have hsame : U.sameButNew ({ U with heap := s₂.heap, slotsUsed := s₂.slotsUsed } : State) L mc ms := by
    refine ⟨?_, q2, q3, q4, q5, q6⟩
    obtain ⟨t, ht, -⟩ := State.frames_cons hr
    show ({ U with heap := s₂.heap, slotsUsed := s₂.slotsUsed } : State) = { U.setFrames U.frames with heap := s₂.heap, slotsUsed := s₂.slotsUsed }
    rw [State.setFrames_self ht]
  have hSt : Stand p l e R s m args below meth c (({ U with heap := s₂.heap, slotsUsed := s₂.slotsUsed } : State).setVm s₂.vm) (locs ++ L) (k + mc) (z + ms) :=
    ⟨X.admits, X.cas, X.clock, X.frames, X.room, X.hears, X.method, X.code, (X.here.setHeapUsed s₂.heap s₂.slotsUsed).setVm hWU.alike, X.tail, State.WarmedH.trans X.warmed hWU, X.limits, X.bytes, X.same.trans (hsame.setVm s.vm)⟩
  refine ⟨s₂, _, L, hSt, hL, rfl, ?_⟩
  rcases hor with ⟨v, rfl, hv⟩ | ⟨q, E, ce, rfl, hE, hce, hcv, hcl⟩
  · obtain ⟨c₂, i₂, len₂, hc₂, hd₂, hf₂⟩ := hend
    have hcc : c₂ = c := by
      have h1 : s₂.code? g.method = U.code? g.method := by
        rw [State.code?_eq, State.code?_eq, hWU.alike.method?]
      exact Option.some.inj (hc₂.symm.trans (h1.trans h.code))
    subst hcc
    have hlen : len₂ = len := by rw [hdg] at hd₂; cases hd₂; rfl
    subst hlen
    have hs₂ : s₂ = (({ U with heap := s₂.heap, slotsUsed := s₂.slotsUsed } : State).setVm s₂.vm).setTop { g with pc := g.pc + len₂, stack := v.toList ++ g.stack } := by
      refine e3.trans ?_
      rw [hf₂, State.calling_eq h.top, State.setFrames_setFrames, State.setTop_of_frames _ hr', hr]
      rfl
    refine Or.inl ⟨v, hv, ?_⟩
    rw [← hs₂]
    exact hsteps
  · have hf₂ : s₂.frames = .throwing q :: .java g :: U.frames.tail := hend
    have hs₂ : s₂ = ((({ U with heap := s₂.heap, slotsUsed := s₂.slotsUsed } : State).setVm s₂.vm).setTop g).pushFrame (.throwing q) := by
      refine e3.trans ?_
      rw [hf₂, State.calling_eq h.top, State.setFrames_setFrames, State.pushFrame, State.frames_setTop _ hr', State.setTop_of_frames _ hr', State.setFrames_setFrames, hr]
      rfl
    refine Or.inr ⟨q, E, ce, hE, hce, hcv, hcl, ?_⟩
    rw [← hs₂]
    exact hsteps
/-- a call by a receiver -/
theorem xq_V (hM : xq_M l y ws rm Pc Qr Qx mc ms free) (hbl : FrameBlind Pc) (hx : p.tables.exec = Jvm.exec) {cc : ByteArray} (hb : c.code = cc) {nL : Nat} (hml : c.maxLocals = nL) {own C : String} (hown : s.vm.findClass own = some m.cls) {idx maxL n : Nat} {bytes : ByteArray} {ret : Option FieldType}
    (hrc : rm.cells = mc) (hrs : rm.slots = ms) (hfr : rm.frames + 1 ≤ R.frames) (hlo : 8 + (maxL + 11) + rm.locals ≤ R.locals) (hws : ∀ w ∈ ws, ∀ (a' : Array Value) (U : State), s.WarmedH U.vm → w.before a' U = true) (hini : (Cond.initialized y.cls).before args s = true) (hy : y.cls ≠ "java/lang/invoke/MethodHandle" ∧ y.cls ≠ "java/lang/invoke/VarHandle") (hlen : ∀ sig, parseMethodDescriptor y.desc = some sig → n = sig.parameters.length)
    (hl : (Cond.methodLink own idx y).before args s = true) (hin : (Cond.instanceMethod y).before args s = true) (hse : (Cond.selects C y y).before args s = true) (hcode : (Cond.code y bytes maxL ret).before args s = true)
    {b : Addr} {As rest : List Value} (hrv : ∃ cellB : Cell, H[b]? = some cellB ∧ cellB.vm.isStatics = false ∧ s.vm.findClass C = some cellB.cls) (hpay : ∀ U : State, U.heap = H → s.WarmedH U.vm → Pc (Value.ref b :: As).toArray U)
    {g : JFrame} (hg : g.method = m) (hn : As.length = n) (hsize : g.locals.size = nL) (hstack : g.stack = As.reverse ++ .ref b :: rest) (hW : 2 * g.monitorRoom + (rest.map fun v => v.category).sum ≤ 8) (hdg : decode cc g.pc = .ok (.invokevirtual idx, 3)) (hk : k + mc ≤ R.cells) (hz : z + ms ≤ R.slots) :
    xq_R p l e R s m args below meth c H locs k z mc ms g rest Qr Qx free := by
  intro T hT X
  obtain ⟨cellB, hcB, hoB, hclB⟩ := hrv
  obtain ⟨mk, methM, hnamed, hmethM, hstM, habM⟩ := Cond.instanceMethod_spec hin
  obtain ⟨methM', cM, hmM', hcM, -, hlM, -, -, -, hsigM⟩ := Cond.code_spec hnamed hcode
  cases hmethM.symm.trans hmM'
  obtain ⟨c2, r2, m2, q1, q2, q3, q4, kP, hkP, hkPi⟩ := Cond.selects_spec hse
  cases hclB.symm.trans q1
  cases (State.methodFound?_of_named hnamed hy).symm.trans q2
  cases hnamed.symm.trans q3
  have hsel : selectMethod e.platform s.vm cellB.cls mk = .method mk := by rw [Launch.admits_selectMethod X.admits]; exact q4
  obtain ⟨vm₁, X₁, hstep⟩ := X.invokevirtual hx hown hl hnamed hmethM hstM hkP hkPi hy (a := b) (cell := cellB) (by rw [hT]; exact hcB)
    (fun z9 h9 => by rw [h9] at hoB; cases hoB) hsel hmethM habM hkP hkPi (g := g) hg (argsL := As) (rest := rest) (hn.trans (hlen _ hsigM)) hstack (by rw [hb]; exact hdg)
  have hmU : (T.setVm vm₁).vm.method? mk = some methM := by
    rw [X₁.warmed.alike.method?]; exact hmethM
  obtain ⟨t, T', L, hSt, hL, hh, hor⟩ := xq_body (a := (Value.ref b :: As).toArray) hM hrc hrs hfr hlo X₁ (g := { g with stack := rest }) hg (hsize.trans hml.symm) (by rw [hb]; exact hdg) hW (X₁.named hnamed) hmU hcM hlM (fun w hw => hws w hw _ _ X₁.warmed)
    (word_at X₁.warmed (Or.inl (by first | rfl | simp [Cond.onTables, Cond.keeps, Cond.steady])) hini) hk hz (hbl _ _ _ _ (hpay (T.setVm vm₁) hT X₁.warmed))
  refine ⟨_, t, T', L, (show ((T.setVm vm₁).calling { g with stack := rest } mk (Value.ref b :: As).toArray).heap = H from hT), hSt, hL, hh, ?_⟩
  rcases hor with ⟨v, hv, hs⟩ | ⟨q, E, ce, hE, hce, hcv, hcl, hs⟩
  · exact Or.inl ⟨v, hv, fun tg h9 => hstep _ fun acts => by rw [doInvoke_state]; exact hs.trans h9⟩
  · refine Or.inr ⟨q, E, ce, hE, hce, hcv, ?_, hstep _ fun acts => by rw [doInvoke_state]; exact hs⟩
    rw [X₁.warmed.alike.findClass] at hcl
    exact hcl
/-- a call of a static method, by what its code is known to be -/
theorem xq_S (hM : xq_M l y ws rm Pc Qr Qx mc ms free) (hbl : FrameBlind Pc) (hx : p.tables.exec = Jvm.exec) {cc : ByteArray} (hb : c.code = cc) {nL : Nat} (hml : c.maxLocals = nL) {own : String} (hown : s.vm.findClass own = some m.cls) {idx maxL n : Nat}
    (hrc : rm.cells = mc) (hrs : rm.slots = ms) (hfr : rm.frames + 1 ≤ R.frames) (hlo : 8 + (maxL + 11) + rm.locals ≤ R.locals) (hws : ∀ w ∈ ws, ∀ (a' : Array Value) (U : State), s.WarmedH U.vm → w.before a' U = true) (hini : (Cond.initialized y.cls).before args s = true) (hy : y.cls ≠ "java/lang/invoke/MethodHandle" ∧ y.cls ≠ "java/lang/invoke/VarHandle") (hlen : ∀ sig, parseMethodDescriptor y.desc = some sig → n = sig.parameters.length)
    (hl : (Cond.methodLink own idx y).before args s = true) (hst : (Cond.static y).before args s = true) {mk : MethodId} {methM : Method} {cM : Code} (hnamed : s.methodNamed? y = some mk) (hmethM : s.vm.method? mk = some methM) (hcM : methM.code = some cM) (hlM : cM.maxLocals = maxL) (hsigM : parseMethodDescriptor y.desc = some methM.sig)
    {As rest : List Value} (hpay : ∀ U : State, U.heap = H → s.WarmedH U.vm → Pc As.toArray U)
    {g : JFrame} (hg : g.method = m) (hn : As.length = n) (hsize : g.locals.size = nL) (hstack : g.stack = As.reverse ++ rest) (hW : 2 * g.monitorRoom + (rest.map fun v => v.category).sum ≤ 8) (hdg : decode cc g.pc = .ok (.invokestatic idx, 3)) (hk : k + mc ≤ R.cells) (hz : z + ms ≤ R.slots) :
    xq_R p l e R s m args below meth c H locs k z mc ms g rest Qr Qx free := by
  intro T hT X
  have hstatic : methM.isStatic = true := Cond.static_spec hnamed hmethM hst
  obtain ⟨kP, hkP, -⟩ := className_of_methodNamed hnamed
  have hiP : kP.init = .initialized := Cond.initialized_spec (findClass_of_methodNamed hnamed) hkP hini
  obtain ⟨vm₁, X₁, hstep⟩ := X.invokestatic hx hown hl hnamed hmethM hstatic hkP hiP hy (g := g) hg (argsL := As) (rest := rest) (hn.trans (hlen _ hsigM)) hstack (by rw [hb]; exact hdg)
  have hmU : (T.setVm vm₁).vm.method? mk = some methM := by
    rw [X₁.warmed.alike.method?]; exact hmethM
  obtain ⟨t, T', L, hSt, hL, hh, hor⟩ := xq_body (a := As.toArray) hM hrc hrs hfr hlo X₁ (g := { g with stack := rest }) hg (hsize.trans hml.symm) (by rw [hb]; exact hdg) hW (X₁.named hnamed) hmU hcM hlM (fun w hw => hws w hw _ _ X₁.warmed)
    (word_at X₁.warmed (Or.inl (by first | rfl | simp [Cond.onTables, Cond.keeps, Cond.steady])) hini) hk hz (hbl _ _ _ _ (hpay (T.setVm vm₁) hT X₁.warmed))
  refine ⟨_, t, T', L, (show ((T.setVm vm₁).calling { g with stack := rest } mk As.toArray).heap = H from hT), hSt, hL, hh, ?_⟩
  rcases hor with ⟨v, hv, hs⟩ | ⟨q, E, ce, hE, hce, hcv, hcl, hs⟩
  · exact Or.inl ⟨v, hv, fun tg h9 => hstep _ fun acts => by rw [doInvoke_state]; exact hs.trans h9⟩
  · refine Or.inr ⟨q, E, ce, hE, hce, hcv, ?_, hstep _ fun acts => by rw [doInvoke_state]; exact hs⟩
    rw [X₁.warmed.alike.findClass] at hcl
    exact hcl
/-- what a body owes that may throw -/
def xq_Q (below : List Frame) (Qr : State → Option Value → State → Prop) (Qx : State → String → State → Prop) (a : Array Value) (s : State) (mc ms : Nat) (free : Addr → Prop) : State → Prop := fun t => ∃ o, t.status = .running ∧ Ended t below o ∧ xq_P Qr Qx mc ms free a s o t
theorem xq_ret {Qc : Array Value → State → Outcome → State → Prop} {g : JFrame} (hq : ∀ o t, Qc args s o t → ∃ v, o = .returned v ∧ Qr s v t) (kk : W p l e R s m args below meth c H locs k z (MQ below Qc args s mc ms free) g) : W p l e R s m args below meth c H locs k z (xq_Q below Qr Qx args s mc ms free) g := by
  intro T hT X
  obtain ⟨t, a1, o, b1, b2, b3, L, ⟨b4, b5, b6⟩, b7⟩ := kk T hT X
  exact ⟨t, a1, o, b1, b2, L, b5, b6, b7, Or.inl (hq o t b3)⟩
/-- out of the frame: no handler here -/
theorem xq_out {pc : Nat} {ls : Array Slot} {rest : List Value} {E : String} {ce : Cell} {q : Addr} (hout : ∀ x ∈ c.exceptionTable.toList, covers x pc = false) (hlk : meth.locks = false) (hce : H[q]? = some ce) (hv : ce.vm = .none) (hcl : s.vm.findClass E = some ce.cls) (hx : ∀ t : State, t.heap = H → s.vm.Alike t.vm → Qx s E t) (hf : ∀ q ∈ locs, free q.base) (hk : k ≤ mc) (hz : z ≤ ms) :
    xq_W p l e R s m args below meth c H locs k z (xq_Q below Qr Qx args s mc ms free) (F0 m pc ls rest) q := by
  intro T hT X
  obtain ⟨a1, a2, a3, a4, a5⟩ := X.leaveThrown q (g := F0 m pc ls rest) rfl rfl rfl hout hlk
  refine ⟨_, a1, .threw q, a2, a3, locs, a4, a5.mono hk hz, hf, Or.inr ⟨q, E, ce, rfl, hx _ hT a4.alike, ?_, hv, hcl⟩⟩
  show T.heap[q]? = some ce
  rw [hT]; exact hce
/-- a contract by its body -/
theorem xq_ofW {ws' : List Cond} {cc : ByteArray} {maxL : Nat} {ret : Option FieldType} (hy : plainName y.cls = true) (hw : ws = Cond.code y cc maxL ret :: ws')
    (body : ∀ p e s m args below meth c s₁, BodyLoose p l y (headSpec ws rm) cc maxL ret e s m args below meth c s₁ → c.maxLocals = maxL → c.exceptionTable.toList = [] → Pc args s →
      W p l e (headSpec ws rm).room s m args below meth c s.heap [] 0 0 (xq_Q below Qr Qx args s mc ms free) (entryFrame m args maxL)) : xq_M l y ws rm Pc Qr Qx mc ms free := by
  have hin : Cond.code y cc maxL ret ∈ ws := by rw [hw]; exact List.mem_cons_self
  refine MetFree.of_bodyS (code := cc) (maxLocals := maxL) (ret := ret) hy ?_ ?_
  · intro args s m h hn
    obtain ⟨meth, c, h1, h2, h3, h4, h5, h6, -, -⟩ := Cond.code_spec hn (atoms_spec (ws := ws) h _ hin)
    exact ⟨meth, c, h1, h2, h3, h4, h5, h6⟩
  · intro p e s m args below meth c s₁ B hml hP _
    have htab : c.exceptionTable.toList = [] := by
      obtain ⟨meth9, c9, h1, h2, -, -, -, -, h7, -⟩ := Cond.code_spec B.named (atoms_spec (ws := ws) B.pre _ hin)
      cases Option.some.inj (h1.symm.trans B.method)
      cases Option.some.inj (h2.symm.trans (Stand.of_body B).code)
      rw [Array.isEmpty_iff.mp h7]
    obtain ⟨t, a1, o, b1, b2, b3⟩ := body p e s m args below meth c s₁ B hml htab hP s₁ (by rw [B.state]; rfl) (Stand.of_body B)
    exact ⟨t, o, a1, b1, b2, b3⟩
/-- .. with handlers of its own -/
theorem xq_ofWH {ws' : List Cond} {cc : ByteArray} {maxL : Nat} {ret : Option FieldType} {hh : List (Nat × Nat × Nat × Nat)} (hy : plainName y.cls = true) (hw : ws = Cond.codeWith y cc maxL ret hh :: ws')
    (body : ∀ p e s m args below meth c s₁, BodyLoose p l y (headSpec ws rm) cc maxL ret e s m args below meth c s₁ → c.maxLocals = maxL → c.exceptionTable.toList = tableOf hh → Pc args s →
      W p l e (headSpec ws rm).room s m args below meth c s.heap [] 0 0 (xq_Q below Qr Qx args s mc ms free) (entryFrame m args maxL)) : xq_M l y ws rm Pc Qr Qx mc ms free := by
  have hin : Cond.codeWith y cc maxL ret hh ∈ ws := by rw [hw]; exact List.mem_cons_self
  refine MetFree.of_bodyS (code := cc) (maxLocals := maxL) (ret := ret) hy ?_ ?_
  · intro args s m h hn
    obtain ⟨m9, meth, c, hn9, h1, h2, h3, h4, -, h5, h6, -⟩ := Cond.codeWith_spec (atoms_spec (ws := ws) h _ hin)
    cases hn.symm.trans hn9
    exact ⟨meth, c, h1, h2, h3, h4, h5, h6⟩
  · intro p e s m args below meth c s₁ B hml hP _
    have htab : c.exceptionTable.toList = tableOf hh := by
      obtain ⟨m9, meth9, c9, hn9, h1, h2, -, -, h7, -⟩ := Cond.codeWith_spec (atoms_spec (ws := ws) B.pre _ hin)
      cases hn9.symm.trans B.named
      cases Option.some.inj (h1.symm.trans B.method)
      cases Option.some.inj (h2.symm.trans (Stand.of_body B).code)
      rw [← h7, table_eq]
    obtain ⟨t, a1, o, b1, b2, b3⟩ := body p e s m args below meth c s₁ B hml htab hP s₁ (by rw [B.state]; rfl) (Stand.of_body B)
    exact ⟨t, o, a1, b1, b2, b3⟩
/-! into a handler: the search goes down the table, each row's name is linked where it covers -/
def xq_F (e : Env) (S : State) (f : JFrame) (a : Addr) (h : Handler) (vm' : Vm) : Prop := ∀ (Q : Handler → Pre) (E : CtlPost) (d : Bool) (acts : List Action), wp (findHandler f a) Q E e d acts S ↔ Q h d acts (S.setVm vm')
theorem xq_row {Q : Handler → Pre} {E : CtlPost} {d : Bool} {acts : List Action} {S : State} {f : JFrame} {a : Addr} {x : ExceptionTableEntry} {t : List ExceptionTableEntry} {cT : ClassId} {cell : Cell} (hx : covers x f.pc = true) (h0 : x.catchType ≠ 0) (hl : S.vm.ClassLinks e.platform f.method.cls x.catchType cT) (hcell : S.heap[a]? = some cell) (hobj : ∀ k, cell.vm ≠ .statics k) (hk : ∃ k, S.vm.classes[cell.cls]? = some k) (hc : ∃ k, S.vm.classes[cT]? = some k) :
    wp (findHandler.go f a (x :: t)) Q E e d acts S ↔ if S.vm.assignable cell.cls cT = true then Q (.found x.handlerPc) d acts (S.setVm (S.vm.noted f.method.cls x.catchType (.cls cT))) else wp (findHandler.go f a t) Q E e d acts (S.setVm (S.vm.noted f.method.cls x.catchType (.cls cT))) := by
  simp only [covers] at hx
  obtain ⟨ha, ht⟩ := (resolveClass_links e.toSetting hl).op (op := VmOp.resolveClass f.method.cls x.catchType) rfl
  have hal : S.vm.Alike (S.vm.noted f.method.cls x.catchType (.cls cT)) := (Vm.Alike.refl S.vm).noted _ _ _
  obtain ⟨k1, hk1⟩ := hk
  obtain ⟨k2, hk2⟩ := hc
  obtain ⟨k1', hk1', -⟩ := hal.2.2 _ _ hk1
  obtain ⟨k2', hk2', -⟩ := hal.2.2 _ _ hk2
  have has := hal.assignable cell.cls cT
  cases hfit : S.vm.assignable cell.cls cT <;> rw [hfit] at has <;> simp [findHandler.go, hx, h0, ha, ht, hcell, hobj, hk1', hk2', has, VmOp.dirties, VmOp.acts]
theorem xq_down {s₀ : State} {f : JFrame} {a : Addr} {cell : Cell} (hobj : ∀ k, cell.vm ≠ .statics k) (hk0 : ∃ k, s₀.vm.classes[cell.cls]? = some k) (x : ExceptionTableEntry) (suf : List ExceptionTableEntry) (hx : covers x f.pc = true) (h0 : x.catchType ≠ 0) {cT : ClassId} (hl : s₀.vm.ClassLinks e.platform f.method.cls x.catchType cT) (hfit : s₀.vm.assignable cell.cls cT = true) :
    ∀ (pre : List ExceptionTableEntry) (S : State), s₀.WarmedH S.vm → S.heap[a]? = some cell → (∀ y ∈ pre, covers y f.pc = false ∨ (y.catchType ≠ 0 ∧ ∃ c9, s₀.vm.ClassLinks e.platform f.method.cls y.catchType c9 ∧ s₀.vm.assignable cell.cls c9 = false)) →
      ∃ vm', s₀.WarmedH vm' ∧ ∀ (Q : Handler → Pre) (E : CtlPost) (d : Bool) (acts : List Action), wp (findHandler.go f a (pre ++ x :: suf)) Q E e d acts S ↔ Q (.found x.handlerPc) d acts (S.setVm vm') := by
  obtain ⟨k0, hk0⟩ := hk0
  intro pre
  induction pre with
  | nil =>
    intro S hW hcell _
    obtain ⟨k0', hk0', -⟩ := hW.alike.2.2 _ _ hk0
    obtain ⟨dk, _, _, kt, hd, _, _, _, _, hkt, _, hop⟩ := hl.here
    obtain ⟨kt', hkt', -⟩ := hW.alike.2.2 _ _ hkt
    refine ⟨_, hW.noted hd hop (State.rightAt_cls hl), fun Q E d acts => ?_⟩
    rw [List.nil_append, xq_row hx h0 (hW.classLinks hl) hcell hobj ⟨k0', hk0'⟩ ⟨kt', hkt'⟩, if_pos (by rw [hW.alike.assignable]; exact hfit)]
  | cons y ys ih =>
    intro S hW hcell hpass
    obtain ⟨k0', hk0', -⟩ := hW.alike.2.2 _ _ hk0
    have hrest := fun z9 hz9 => hpass z9 (List.mem_cons_of_mem y hz9)
    cases hcov : covers y f.pc with
    | false =>
      obtain ⟨vm', hW', hq⟩ := ih S hW hcell hrest
      exact ⟨vm', hW', fun Q E d acts => by rw [List.cons_append, W.findHandler_go_skip hcov]; exact hq Q E d acts⟩
    | true =>
      rcases hpass y List.mem_cons_self with h9 | ⟨h9, c9, hl9, hno⟩
      · rw [h9] at hcov; cases hcov
      · obtain ⟨dk, _, _, kt, hd, _, _, _, _, hkt, _, hop⟩ := hl9.here
        obtain ⟨kt', hkt', -⟩ := hW.alike.2.2 _ _ hkt
        obtain ⟨vm', hW', hq⟩ := ih (S.setVm (S.vm.noted f.method.cls y.catchType (.cls c9))) (hW.noted hd hop (State.rightAt_cls hl9)) hcell hrest
        refine ⟨vm', hW', fun Q E d acts => ?_⟩
        rw [List.cons_append, xq_row hcov h9 (hW.classLinks hl9) hcell hobj ⟨k0', hk0'⟩ ⟨kt', hkt'⟩, if_neg (by rw [hW.alike.assignable, hno]; decide)]
        exact hq Q E d acts
theorem xq_step {tb : Tables} {S target : State} {g : JFrame} {a : Addr} (h : At S g.method c below) {pc : Nat} {vm' : Vm} (hfind : xq_F e ((S.setTop g).pushFrame (.throwing a)) g a (.found pc) vm') (hrest : Steps tb e below ((S.setVm vm').setTop { g with pc := pc, stack := [.ref a] }) target) : Steps tb e below ((S.setTop g).pushFrame (.throwing a)) target := by
  obtain ⟨hgo, hw⟩ := h.throwing a
  refine Steps.head hgo hw ?_
  rw [stepThread_throwing (frames_entered h.top _)]
  have key : (stepThrowing e ((S.setTop g).pushFrame (.throwing a)) a (.java g :: S.frames.tail)).1 = ((((S.setTop g).pushFrame (.throwing a)).setVm vm').setFrames (.java { g with pc := pc, stack := [.ref a] } :: S.frames.tail)) := by
    simp only [stepThrowing, searchFrame, vmDo]
    generalize hr : Sem.go _ e false [] ((S.setTop g).pushFrame (.throwing a)) = res
    obtain ⟨as, rfl, ha⟩ := Sem.eq_ok_of hr (a := Handler.found pc) (s' := ((S.setTop g).pushFrame (.throwing a)).setVm vm') (acts' := []) (by simp [hfind _ _ _ _])
    rfl
  rw [key]
  obtain ⟨g₀, hg⟩ := Option.isSome_iff_exists.mp h.top
  obtain ⟨r, hr⟩ := State.topJava?_eq_some.mp hg
  have hr' : (S.setVm vm').frames = .java g₀ :: r := hr
  have hmv : ∀ (u : State) (F G : List Frame), ((u.setFrames F).setVm vm').setFrames G = (u.setVm vm').setFrames G := fun u F G => by
    have h1 : (u.setFrames F).setVm vm' = (u.setVm vm').setFrames F := rfl
    rw [h1, State.setFrames_setFrames]
  rw [State.setTop_of_frames _ hr'] at hrest
  rw [hr, List.tail_cons, State.pushFrame, hmv, State.setTop_of_frames _ hr, hmv]
  exact hrest
/-- caught by the row x; the rows ahead don't cover, or name what E isn't -/
theorem xq_catch {Q : State → Prop} {pc : Nat} {ls : Array Slot} {rest : List Value} {own nm E : String} {ce : Cell} {q : Addr} (hown : s.vm.findClass own = some m.cls) (pre : List ExceptionTableEntry) (x : ExceptionTableEntry) (suf : List ExceptionTableEntry) (hsplit : c.exceptionTable.toList = pre ++ x :: suf)
    (hpass : ∀ y ∈ pre, covers y pc = false ∨ (y.catchType ≠ 0 ∧ ∃ n9 : String, (Cond.classLink own y.catchType n9).before args s = true ∧ va_Nc E n9 s)) (hx : covers x pc = true) (h0 : x.catchType ≠ 0) (hlink : (Cond.classLink own x.catchType nm).before args s = true) (hcast : (Cond.castable E nm).before args s = true) (hce : H[q]? = some ce) (hv : ce.vm = .none) (hcl : s.vm.findClass E = some ce.cls)
    (kk : W p l e R s m args below meth c H locs k z Q (F0 m x.handlerPc ls [.ref q])) : xq_W p l e R s m args below meth c H locs k z Q (F0 m pc ls rest) q := by
  intro T hT X
  have hpl : e.platform.magicAccessors = ({} : Platform).magicAccessors := by rw [X.admits.platform]
  obtain ⟨c3, c4, hc3, hc4, hasg⟩ := Cond.castable_spec hcast
  cases Option.some.inj (hc3.symm.trans hcl)
  obtain ⟨c5, hc5, hcl5⟩ := Cond.classLink_spec hown hlink e.platform hpl
  cases Option.some.inj (hc4.symm.trans hc5)
  have hk0 : ∃ k9, s.vm.classes[ce.cls]? = some k9 := by obtain ⟨k9, h9, -⟩ := Vm.findClass_spec hcl; exact ⟨k9, h9⟩
  obtain ⟨vm', hW', hq⟩ := xq_down (e := e) (f := F0 m pc ls rest) (a := q) (fun k9 h9 => by rw [hv] at h9; cases h9) hk0 x suf hx h0 hcl5 hasg pre ((T.setTop (F0 m pc ls rest)).pushFrame (.throwing q)) X.warmed (by show T.heap[q]? = _; rw [hT]; exact hce) (fun y hy => by
    rcases hpass y hy with h9 | ⟨h9, n9, hl9, hn9⟩
    · exact Or.inl h9
    · obtain ⟨c6, hc6, hcl6⟩ := Cond.classLink_spec hown hl9 e.platform hpl
      obtain ⟨a8, b8, h1, h2, h3⟩ := hn9
      cases Option.some.inj (h1.symm.trans hcl)
      cases Option.some.inj (h2.symm.trans hc6)
      exact Or.inr ⟨h9, _, hcl6, h3⟩)
  obtain ⟨t, a1, b1⟩ := kk (T.setVm vm') hT (X.noted hW')
  refine ⟨t, xq_step (g := F0 m pc ls rest) X.here (vm' := vm') (pc := x.handlerPc) (fun Q9 E9 d9 as9 => ?_) a1, b1⟩
  rw [W.findHandler_eq (meth := meth) (code := c) X.method' X.code, hsplit]
  exact hq Q9 E9 d9 as9
/-! words that read a cell of statics: they hold as long as that cell stays -/
def xq_Z (w : Cond) (A : Nat → Prop) (U : State) (H : Heap) : Prop := ∃ a : Nat, a < H.size ∧ ¬ A a ∧ ∀ (U' : State) (av : Array Value), U.vm.Alike U'.vm → U'.heap[a]? = H[a]? → w.before av U' = true
theorem xq_Z.at {w : Cond} {A B : Nat → Prop} {U U1 : State} {H H1 : Heap} (h : xq_Z w A U H) (hvm : U.vm.Alike U1.vm) (hq : ∀ a : Nat, a < H.size → ¬ A a → H1[a]? = H[a]?) (hAB : ∀ q, B q → A q) : xq_Z w B U1 H1 := by
  obtain ⟨a, h1, h2, h3⟩ := h
  have h4 := hq a h1 h2
  refine ⟨a, ?_, fun z9 => h2 (hAB a z9), fun U' av h5 h6 => h3 U' av (hvm.trans h5) (h6.trans h4)⟩
  rw [Array.getElem?_eq_getElem h1] at h4
  exact (Array.getElem?_eq_some_iff.mp h4).1
theorem xq_Z.use {w : Cond} {A : Nat → Prop} {U : State} {H : Heap} (h : xq_Z w A U H) {U' : State} (av : Array Value) (hvm : U.vm.Alike U'.vm) (hq : ∀ a : Nat, a < H.size → ¬ A a → U'.heap[a]? = H[a]?) : w.before av U' = true := by
  obtain ⟨a, h1, h2, h3⟩ := h
  exact h3 U' av hvm (hq a h1 h2)
theorem xq_Zlay {av : Array Value} {C n d : String} {A : Nat → Prop} (h : (Cond.laysStatic C n d).before av s = true) (hA : ∀ a : Nat, a < s.heap.size → ¬ A a) : xq_Z (.laysStatic C n d) A s s.heap := by
  obtain ⟨c9, k9, i9, f9, a9, ce, h1, h2, h3, h4, h5, h6, h7, h8, h9⟩ := Cond.laysStatic_spec h
  have hlt := (Array.getElem?_eq_some_iff.mp h5).1
  refine ⟨a9, hlt, hA a9 hlt, fun U' av' hvm hq => ?_⟩
  obtain ⟨k', hi', he⟩ := State.fieldFound?_setVm hvm h2
  show (Cond.laysStatic C n d).holds av' U' none U' [] = true
  exact Cond.laysStatic_of (by rw [hvm.findClass]; exact h1) hi' h3 (by rw [he]; exact h4) (by rw [hq]; exact h5) h6 h7 h8 (by rw [he]; exact h9)
theorem xq_Zref {av : Array Value} {C n d : String} {A : Nat → Prop} (hl : (Cond.laysStatic C n d).before av s = true) (hini : (Cond.initialized C).before av s = true) (h : (Cond.isRef (.static C n d)).before av s = true) (hA : ∀ a : Nat, a < s.heap.size → ¬ A a) : xq_Z (.isRef (.static C n d)) A s s.heap := by
  have key : ∀ {v : Value}, v.isRef = true → va_Z C n d v A s s.heap → xq_Z (.isRef (.static C n d)) A s s.heap := by
    intro v hv ⟨cf, kf, fi, f9, a9, ce, h1, h2, h3, h4, h5, h6, h7, h8⟩
    refine ⟨a9, (Array.getElem?_eq_some_iff.mp h5).1, h8, fun U' av' hvm hq => ?_⟩
    obtain ⟨k', hi', he⟩ := State.fieldFound?_setVm hvm h1
    have h4' : k'.statics = some a9 := by rw [he]; exact h4
    have hi2 : U'.fieldFound? C n d = some (cf, k', fi, f9) := hi'
    have h3' : k'.init = .initialized := by rw [he]; exact h3
    have hev : (Term.static C n d).eval av' U' none [] U' = some v := by
      simp [Term.eval, State.fieldNamed?, hi2, h2, h4', hq, h5, h6, h7]
    simp only [Cond.before, Cond.holds, Cond.value, hev]
    clear he hi' hi2 hev h7
    cases v <;> first | rfl | (simp [Value.isRef] at hv)
  rcases va_Zqof hl hini h hA with h9 | ⟨t, h9⟩
  · exact key rfl h9
  · exact key rfl h9
/-- the same frame, seen as if the method were called at the heap that is there now -/
theorem xq_anew {T : State} (X : Stand p l e R s m args below meth c T locs k z) {R' : Room} (h1 : R'.frames ≤ R.frames) (h2 : R'.locals ≤ R.locals) (h3 : k + R'.cells ≤ R.cells) (h4 : z + R'.slots ≤ R.slots) : Stand p l e R' ((T.setVm s.vm).setFrames (.invoking m args :: below)) m args below meth c T [] 0 0 := by
  have htop : (T.setVm s.vm).topJava?.isSome := X.here.top
  have hF : ((T.setVm s.vm).setFrames (.invoking m args :: below)).frames = .invoking m args :: below := State.frames_setFrames _ (State.cur_lt_of_top htop)
  have hlim : e.platform.stackLimits (T.setVm s.vm).me = e.platform.stackLimits s.me := X.limits
  have hbyt : (T.setVm s.vm).me.stackBytes = s.me.stackBytes := X.bytes
  have hdrop : T.heap.toList.drop T.heap.size = [] := List.drop_eq_nil_of_le (Nat.le_of_eq Array.length_toList)
  obtain ⟨g₀, hg0⟩ := Option.isSome_iff_exists.mp htop
  obtain ⟨r, hr⟩ := State.topJava?_eq_some.mp hg0
  refine ⟨X.admits, X.cas, X.clock, hF, ?_, X.hears, X.method, X.code, X.here, X.tail, X.warmed, ?_, ?_, ?_, Nat.le_refl _, Nat.le_refl _, ?_, ?_, fun a c9 h9 => ⟨c9, h9, rfl, rfl, fun _ _ => rfl⟩⟩
  · have hroom := X.room
    have hU : ((T.setVm s.vm).setFrames (.invoking m args :: below)).localsInUse = s.localsInUse := by
      rw [State.localsInUse_invoking hF (meth := meth) (c := c) X.method X.code, State.localsInUse_invoking X.frames X.method X.code]
    have q1 := X.heapSize
    have q2 := X.used
    simp only [State.hasRoom, Bool.and_eq_true, decide_eq_true_eq] at hroom ⊢
    obtain ⟨⟨⟨⟨a1, a2, a3, a4, a5, a6⟩, a7⟩, a8⟩, a9⟩ := hroom
    rw [X.frames, List.length_cons] at a2 a3
    simp only [hF, hU, List.length_cons, State.stackLimits_setFrames, State.stackBytes_setFrames, hlim, hbyt]
    refine ⟨⟨⟨⟨by omega, by omega, by omega, by omega, by omega, a6⟩, ?_⟩, ?_⟩, X.book⟩
    · show T.heap.size + R'.cells ≤ e.platform.maxCells
      omega
    · show T.slotsUsed + R'.slots ≤ e.platform.maxSlots
      omega
  · rw [State.stackLimits_setFrames]; rfl
  · rw [State.stackBytes_setFrames]; rfl
  · obtain ⟨t, ht, -⟩ := State.frames_cons hr
    show T.setVm s.vm = { ((T.setVm s.vm).setFrames (.invoking m args :: below)).setFrames (T.setVm s.vm).frames with heap := T.heap, slotsUsed := T.slotsUsed }
    rw [State.setFrames_setFrames, State.setFrames_self ht]
    rfl
  · show T.slotsUsed = T.slotsUsed + ((T.heap.toList.drop T.heap.size).map (·.slots.size)).sum
    rw [hdrop]; rfl
  · show ((T.heap.toList.drop T.heap.size).map (·.slots.size)).sum ≤ 0
    rw [hdrop]; exact Nat.le_refl _
/-- the four words of a throw that read statics -/
def xq_sw : List Cond := [.isRef (.static Bundle.tN "UNASSIGNED_STACK" Bundle.steD), .isRef (.static Bundle.tN "SUPPRESSED_SENTINEL" Bundle.listD), .laysStatic Bundle.tN "UNASSIGNED_STACK" Bundle.steD, .laysStatic Bundle.tN "SUPPRESSED_SENTINEL" Bundle.listD]
/-- 'throw new E("text")' and out: new; dup; ldc; invokespecial; athrow. hat: each word that is asked holds by the tables, or reads a static that stays -/
theorem xq_throw {cc : ByteArray} {pc : Nat} {ls : Array Slot} {rest : List Value} {A : Nat → Prop} (hx : p.tables.exec = Jvm.exec) (hb : c.code = cc) (htr : l.stackTraces = false) {own E text : String} {names : List String} {ik is ic sa : Nat} (hown : s.vm.findClass own = some m.cls) (hE : Bundle.fit E = true) (hnames : ∀ n ∈ names, Bundle.fit n = true)
    (hk9 : (Cond.classLink own ik E).onTables = true ∧ (Cond.classLink own ik E).before args s = true) (hi9 : (Cond.initialized E).onTables = true ∧ (Cond.initialized E).before args s = true) (hstr : vk_R own is text sa s) (hat : ∀ w ∈ Bundle.ownAtoms own ic E names, (w.onTables = true ∧ w.before args s = true) ∨ xq_Z w A s s.heap) (hS : va_S A s.heap H locs) (hsize : ls.size = c.maxLocals)
    (d0 : decode cc pc = .ok (.new ik, 3)) (d3 : decode cc (pc + 3) = .ok (.dup, 1)) (d4 : decode cc (pc + 4) = .ok (.ldc is, 2)) (d6 : decode cc (pc + 6) = .ok (.invokespecial ic, 3)) (d9 : decode cc (pc + 9) = .ok (.athrow, 1)) (hout : c.exceptionTable.toList = [])
    (hR1 : names.length + 3 < R.frames) (hR2 : (rest.map fun v => v.category).sum + (13 * (names.length + 1) + 43) ≤ R.locals) (hR3 : k + 1 ≤ R.cells) (hR4 : z + 6 ≤ R.slots) (hlk : meth.locks = false)
    (hend : ∀ t : State, s.vm.Alike t.vm → H.size ≤ t.heap.size → (∀ q : Nat, q < H.size → t.heap[q]? = H[q]?) → Qx s E t) (hf : ∀ q ∈ locs, free q.base) (hk : k + 1 ≤ mc) (hz : z + 6 ≤ ms) :
    W p l e R s m args below meth c H locs k z (xq_Q below Qr Qx args s mc ms free) (F0 m pc ls rest) := by
  intro T hT X
  have htp : e.platform.stackTraces = false := (show e.platform.stackTraces = l.stackTraces by rw [X.admits.platform]).trans htr
  have Y := xq_anew X (R' := { frames := R.frames, locals := R.locals, cells := 1, slots := 6 }) (Nat.le_refl _) (Nat.le_refl _) hR3 hR4
  obtain ⟨u, hu⟩ : ∃ u, u = (T.setVm s.vm).setFrames (.invoking m args :: below) := ⟨_, rfl⟩
  rw [← hu] at Y
  have hvm : u.vm = s.vm := by rw [hu]; rfl
  have hhp : u.heap = H := by rw [hu]; exact hT
  have hW0 : s.WarmedH u.vm := by rw [hvm]; exact State.WarmedH.refl s
  have hto : ∀ w : Cond, w.onTables = true → w.before args s = true → w.before args u = true := fun w h1 h2 => va_tabs h1 hvm.symm h2
  have hall : ∀ w ∈ Bundle.ownAtoms own ic E names, w.before args u = true := fun w hw => by
    rcases hat w hw with ⟨h1, h2⟩ | h1
    · exact hto w h1 h2
    · exact h1.use args hW0.alike (fun a h2 h3 => by rw [hhp]; exact hS.2.1 a h2 h3)
  have hown' : u.vm.findClass own = some m.cls := by rw [hvm]; exact hown
  obtain ⟨vm₁, cX, kX, hfX, hkX, -, -, X₁, st1⟩ := Y.newCold hx (own := own) (C := E) (index := ik) (n := 6) hown' (hto _ hk9.1 hk9.2) (hall _ (by simp [Bundle.ownAtoms])) (hto _ hi9.1 hi9.2) (g := F0 m pc ls rest) rfl (by rw [hb]; exact d0) (Nat.le_refl _) (Nat.le_refl _)
  generalize hT1 : (T.setVm vm₁).pushCell { cls := cX, slots := kX.instanceTypes.map defaultValue, vm := .none } = T1 at X₁ st1
  have hcat : (Value.ref T.heap.size).category = 1 := rfl
  have hnew : T1.heap[T.heap.size]? = some (freshCell cX kX) := by rw [← hT1]; exact State.heap_pushCell_size _ _
  have d3' : decode c.code (pc + 3) = .ok (.dup, 1) := by rw [hb]; exact d3
  have hstr' : vk_R own is text sa u := hstr.warm hW0
  obtain ⟨U, hst, hrun, hended, hW, hsame, ce, hce, hO⟩ := X₁.ctorThrowS hx htp (own := own) (cls := E) (names := names) (ic := ic) hown' hE hnames hall (fun x9 hx9 => nomatch hx9) hfX hkX hnew (by rw [hhp, hT]; exact Nat.le_refl _) (msg := .ref sa) rfl
    (g := { method := m, pc := pc + 6, locals := ls, stack := .ref sa :: .ref T.heap.size :: .ref T.heap.size :: rest, locked := none }) rfl hsize rfl rfl (rest := rest) rfl (by rw [hb]; exact d6) (by rw [hb]; exact d9) (fun x9 hx9 => by rw [hout] at hx9; cases hx9) hR1 (by simp only [List.map_cons, List.sum_cons, hcat]; omega) hlk
  have hWs : s.WarmedH U.vm := State.WarmedH.trans hW0 hW
  obtain ⟨e1, e2, e3, e4, e5, e6⟩ := id hsame
  rw [hhp] at e2
  have hkeep : ∀ q : Nat, q < H.size → U.heap[q]? = H[q]? := by
    intro q hq
    have hq' : u.heap[q]? = some H[q] := by rw [hhp]; exact Array.getElem?_eq_getElem hq
    obtain ⟨c9, g1, g2, g3, g4⟩ := e6 q _ hq'
    have hs9 : c9.slots = (H[q]).slots := Array.ext_getElem? fun i => g4 i (fun h9 => nomatch h9)
    have h9 : c9 = H[q] := by rw [g2, hs9]
    have g5 : U.heap[q]? = some c9 := g1
    rw [g5, h9, Array.getElem?_eq_getElem hq]
  have hcl : s.vm.findClass E = some ce.cls := by
    have h9 := hO.cls
    rw [hvm] at h9
    exact h9
  have hnewS : s.sameButNew ({ U with vm := s.vm } : State) locs mc ms := by
    subst hu
    obtain ⟨f1, f2⟩ := hsame
    rw [State.setFrames_setFrames] at f1
    have h2 : (T.setVm s.vm).sameButNew ({ U with vm := s.vm } : State) [] (0 + 1) (0 + 6) := ⟨f1, f2⟩
    have h3 := X.same.trans h2
    rw [List.append_nil] at h3
    exact h3.mono hk hz
  refine ⟨U, st1 _ ?_, .threw T.heap.size, hrun, hended, locs, hWs, hnewS, hf, Or.inr ⟨T.heap.size, E, ce, rfl, hend U hWs.alike e2 hkeep, hce, hO.vm, hcl⟩⟩
  show Steps p.tables e below (T1.setTop { method := m, pc := pc + 3, locals := ls, stack := .ref T.heap.size :: rest, locked := none }) _
  jvm_step X₁.here [X₁.here.top, hx, d3', Value.category]
  exact X₁.ldcString hx (own := own) (text := text) (index := is) (a := sa) hown' hstr'.1 hstr'.2
    (g := { method := m, pc := pc + 4, locals := ls, stack := .ref T.heap.size :: .ref T.heap.size :: rest, locked := none }) rfl (by rw [hb]; exact d4) _ hst
end XQ
end
section
/-! THE ABSTRACT MACHINE: heaps as lists of cells (an address is a place in the list), values whose references are such places. -/
abbrev ac_E : Type := ((Nat × (Nat → Int32)) ⊕ (Nat × (Nat → Int64)) ⊕ (Nat × Nat × (Nat → Option Nat))) ⊕ (Nat × List Value)
abbrev ac_H : Type := List ac_E
/-- an answer, or the class that was thrown -/
abbrev ac_R : Type := Option Value ⊕ String
/-- a method: name, code, locals, type of its answer, its handlers -/
abbrev ac_I : Type := MethodName × ByteArray × Nat × Option FieldType × List (Nat × Nat × Nat × Nat)
/-- where the script lies, and where each abstract address lies -/
abbrev ac_A : Type := Nat × (Nat → Nat)
def ac_v (σ : ac_A) : Value → Value
  | .ref a => .ref (σ.2 a)
  | .retAddr _ => .ref σ.1
  | v => v
theorem ac_v_cat (σ : ac_A) (v : Value) : (ac_v σ v).category = v.category := by cases v <;> rfl
def ac_lv (σ : ac_A) (q : Nat × Value) : Nat × Value := (q.1, ac_v σ q.2)
def ac_c (σ : ac_A) (dA : Nat → ClassId) : ac_E → va_E
  | .inl (.inl (n, f)) => .inl (dA 0, n, .inl f)
  | .inl (.inr (.inl (n, f))) => .inl (dA 1, n, .inr (.inl f))
  | .inl (.inr (.inr (k, n, g))) => .inl (dA (k + 2), n, .inr (.inr (.inr (.inr (fun j => (g j).map σ.2)))))
  | .inr (ci, fs) => .inr (ci, fs.map (ac_v σ))
def ac_w (σ : ac_A) (dA : Nat → ClassId) (h : ac_H) : va_W := h.mapIdx (fun i e => (σ.2 i, ac_c σ dA e))
/-- references lie in the heap -/
def ac_ok (n : Nat) (v : Value) : Prop := ∀ a, v = .ref a → a < n
def ac_okE (n : Nat) (e : ac_E) : Prop := match e with
  | .inl (.inl _) => True
  | .inl (.inr (.inl _)) => True
  | .inl (.inr (.inr (_, _, g))) => ∀ j a, g j = some a → a < n
  | .inr (_, fs) => ∀ v ∈ fs, ac_ok n v
def ac_okH (h : ac_H) : Prop := ∀ (i : Nat) (e : ac_E), h[i]? = some e → ac_okE h.length e
def ac_ag (n : Nat) (σ τ : ac_A) : Prop := σ.1 = τ.1 ∧ ∀ i, i < n → σ.2 i = τ.2 i
theorem ac_ag_rf {n : Nat} {σ : ac_A} : ac_ag n σ σ := ⟨rfl, fun _ _ => rfl⟩
theorem ac_ag_tr {n k : Nat} {σ τ ρ : ac_A} (h1 : ac_ag k σ τ) (h2 : ac_ag n τ ρ) (h : n ≤ k) : ac_ag n σ ρ := ⟨h1.1.trans h2.1, fun i hi => (h1.2 i (Nat.lt_of_lt_of_le hi h)).trans (h2.2 i hi)⟩
theorem ac_v_ag {n : Nat} {σ τ : ac_A} (h : ac_ag n σ τ) {v : Value} (hv : ac_ok n v) : ac_v σ v = ac_v τ v := by
  cases v with
  | ref a => exact congrArg Value.ref (h.2 a (hv a rfl))
  | retAddr p => exact congrArg Value.ref h.1
  | _ => rfl
theorem ac_S_ag {n : Nat} {σ τ : ac_A} (h : ac_ag n σ τ) {S : List Value} (hS : ∀ v ∈ S, ac_ok n v) : S.map (ac_v σ) = S.map (ac_v τ) := List.map_congr_left fun v hv => ac_v_ag h (hS v hv)
theorem ac_L_ag {n : Nat} {σ τ : ac_A} (h : ac_ag n σ τ) {L : List (Nat × Value)} (hL : ∀ q ∈ L, ac_ok n q.2) : L.map (ac_lv σ) = L.map (ac_lv τ) := List.map_congr_left fun q hq => by
  show (q.1, ac_v σ q.2) = (q.1, ac_v τ q.2)
  rw [ac_v_ag h (hL q hq)]
theorem ac_c_ag {n : Nat} {σ τ : ac_A} (dA : Nat → ClassId) (h : ac_ag n σ τ) {e : ac_E} (he : ac_okE n e) : ac_c σ dA e = ac_c τ dA e := by
  match e, he with
  | .inl (.inl (_, _)), _ => rfl
  | .inl (.inr (.inl (_, _))), _ => rfl
  | .inl (.inr (.inr (k, m, g))), he =>
    have : (fun j => (g j).map σ.2) = (fun j => (g j).map τ.2) := by
      funext j
      cases hj : g j with
      | none => rfl
      | some a => exact congrArg some (h.2 a (he j a hj))
    simp only [ac_c, this]
  | .inr (ci, fs), he => simp only [ac_c, ac_S_ag h he]
theorem ac_w_get (σ : ac_A) (dA : Nat → ClassId) (h : ac_H) (i : Nat) : (ac_w σ dA h)[i]? = (h[i]?).map (fun e => (σ.2 i, ac_c σ dA e)) := by simp [ac_w]
theorem ac_w_at {σ : ac_A} {dA : Nat → ClassId} {h : ac_H} {i : Nat} {e : ac_E} (he : h[i]? = some e) : (ac_w σ dA h)[i]? = some (σ.2 i, ac_c σ dA e) := by rw [ac_w_get, he]; rfl
theorem ac_w_set (σ : ac_A) (dA : Nat → ClassId) (h : ac_H) (i : Nat) (e : ac_E) : ac_w σ dA (h.set i e) = (ac_w σ dA h).set i (σ.2 i, ac_c σ dA e) := by
  apply List.ext_getElem?
  intro j
  rw [ac_w_get, List.getElem?_set, List.getElem?_set, ac_w_get]
  have hl : (ac_w σ dA h).length = h.length := by simp [ac_w]
  rw [hl]
  by_cases hij : i = j
  · subst hij
    by_cases hi : i < h.length <;> simp [hi]
  · simp [hij]
theorem ac_w_ag {σ τ : ac_A} (dA : Nat → ClassId) {h : ac_H} (ha : ac_ag h.length σ τ) (ho : ac_okH h) : ac_w σ dA h = ac_w τ dA h := by
  apply List.ext_getElem?
  intro j
  rw [ac_w_get, ac_w_get]
  cases hj : h[j]? with
  | none => rfl
  | some e =>
    have hl : j < h.length := (List.getElem?_eq_some_iff.mp hj).1
    show some (σ.2 j, ac_c σ dA e) = some (τ.2 j, ac_c τ dA e)
    rw [ha.2 j hl, ac_c_ag dA ha (ho j e hj)]
theorem ac_w_push (σ : ac_A) (dA : Nat → ClassId) (h : ac_H) (e : ac_E) : ac_w σ dA (h ++ [e]) = ac_w σ dA h ++ [(σ.2 h.length, ac_c σ dA e)] := by
  simp [ac_w, List.mapIdx_append]
theorem ac_ok_mono {n k : Nat} {v : Value} (h : ac_ok n v) (hk : n ≤ k) : ac_ok k v := fun a ha => Nat.lt_of_lt_of_le (h a ha) hk
theorem ac_okE_mono {n k : Nat} {e : ac_E} (h : ac_okE n e) (hk : n ≤ k) : ac_okE k e := by
  match e, h with
  | .inl (.inl _), _ => trivial
  | .inl (.inr (.inl _)), _ => trivial
  | .inl (.inr (.inr (_, _, _))), h => exact fun j a hj => Nat.lt_of_lt_of_le (h j a hj) hk
  | .inr (_, _), h => exact fun v hv => ac_ok_mono (h v hv) hk
theorem ac_okH_set {h : ac_H} (ho : ac_okH h) {i : Nat} {e : ac_E} (he : ac_okE h.length e) : ac_okH (h.set i e) := by
  intro j x hj
  rw [List.length_set]
  rw [List.getElem?_set] at hj
  by_cases hij : i = j
  · rw [if_pos hij] at hj
    by_cases hi : i < h.length
    · rw [if_pos hi] at hj
      cases hj
      exact he
    · rw [if_neg hi] at hj
      cases hj
  · rw [if_neg hij] at hj
    exact ho j x hj
theorem ac_okH_push {h : ac_H} (ho : ac_okH h) {e : ac_E} (he : ac_okE (h.length + 1) e) : ac_okH (h ++ [e]) := by
  intro j x hj
  have hl : (h ++ [e]).length = h.length + 1 := by simp
  rw [hl]
  by_cases hjl : j < h.length
  · rw [List.getElem?_append_left hjl] at hj
    exact ac_okE_mono (ho j x hj) (Nat.le_succ _)
  · rw [List.getElem?_append_right (by omega)] at hj
    have h0 : j - h.length < [e].length := (List.getElem?_eq_some_iff.mp hj).1
    have h1 : j - h.length = 0 := by
      have : [e].length = 1 := rfl
      omega
    rw [h1] at hj
    cases hj
    exact he
theorem ac_ok_int {n : Nat} {x : Int32} : ac_ok n (.int x) := fun _ h => nomatch h
theorem ac_ok_long {n : Nat} {x : Int64} : ac_ok n (.long x) := fun _ h => nomatch h
theorem ac_ok_scr {n k : Nat} : ac_ok n (.retAddr k) := fun _ h => nomatch h
theorem ac_ok_ref {n a : Nat} (h : a < n) : ac_ok n (.ref a) := fun b e => by cases e; exact h
theorem ac_okc {n : Nat} {v : Value} {S : List Value} (hv : ac_ok n v) (hS : ∀ x ∈ S, ac_ok n x) : ∀ x ∈ v :: S, ac_ok n x := fun x hx => (List.mem_cons.mp hx).elim (fun e => by rw [e]; exact hv) (hS x)
theorem ac_oku {n : Nat} {v : Value} {S : List Value} (hS : ∀ x ∈ v :: S, ac_ok n x) : ac_ok n v ∧ ∀ x ∈ S, ac_ok n x := ⟨hS v List.mem_cons_self, fun x hx => hS x (List.mem_cons_of_mem _ hx)⟩
theorem ac_lt {h : ac_H} {a : Nat} {e : ac_E} (he : h[a]? = some e) : a < h.length := (List.getElem?_eq_some_iff.mp he).1
/-- locals -/
def ac_get : List (Nat × Value) → Nat → Option Value
  | [], _ => none
  | (i, v) :: t, k => if i = k then some v else ac_get t k
def ac_del (L : List (Nat × Value)) (k : Nat) : List (Nat × Value) := L.filter (fun q => !(q.1 == k) && !(q.1 + 1 == k && q.2.category == 2))
def ac_put (L : List (Nat × Value)) (k : Nat) (v : Value) : List (Nat × Value) := (k, v) :: ac_del L k
theorem ac_get_mem : ∀ {L : List (Nat × Value)} {k : Nat} {v : Value}, ac_get L k = some v → (k, v) ∈ L
  | [], _, _, h => nomatch h
  | (i, w) :: t, k, v, h => by
    unfold ac_get at h
    by_cases e : i = k
    · rw [if_pos e] at h
      cases h
      rw [e]
      exact List.mem_cons_self
    · rw [if_neg e] at h
      exact List.mem_cons_of_mem _ (ac_get_mem h)
theorem ac_look {σ : ac_A} {ls : Array Slot} {n : Nat} {L : List (Nat × Value)} (h : lv_has ls n (L.map (ac_lv σ))) {k : Nat} {v : Value} (hl : ac_get L k = some v) : ls[k]? = some (.val (ac_v σ v)) := h.2.2 (k, ac_v σ v) (List.mem_map.mpr ⟨(k, v), ac_get_mem hl, rfl⟩)
theorem ac_del_map (σ : ac_A) (L : List (Nat × Value)) (k : Nat) : (ac_del L k).map (ac_lv σ) = (L.map (ac_lv σ)).filter (fun q => !(q.1 == k) && !(q.1 + 1 == k && q.2.category == 2)) := by
  unfold ac_del
  rw [List.filter_map]
  congr 1
  apply List.filter_congr
  intro q _
  simp [ac_lv, ac_v_cat]
theorem ac_put_map (σ : ac_A) (L : List (Nat × Value)) (k : Nat) (v : Value) : (k, ac_v σ v) :: (L.map (ac_lv σ)).filter (fun q => !(q.1 == k) && !(q.1 + 1 == k && q.2.category == 2)) = (ac_put L k v).map (ac_lv σ) := by
  rw [← ac_del_map]; rfl
theorem ac_okL_del {n k : Nat} {L : List (Nat × Value)} (h : ∀ q ∈ L, ac_ok n q.2) : ∀ q ∈ ac_del L k, ac_ok n q.2 := fun q hq => h q (List.mem_filter.mp hq).1
theorem ac_okL_put {n k : Nat} {v : Value} {L : List (Nat × Value)} (hv : ac_ok n v) (h : ∀ q ∈ L, ac_ok n q.2) : ∀ q ∈ ac_put L k v, ac_ok n q.2 := fun q hq => by
  rcases List.mem_cons.mp hq with e | e
  · rw [e]; exact hv
  · exact ac_okL_del h q e
theorem ac_args_map (σ : ac_A) : ∀ (i : Nat) (a : List Value), lv_args i (a.map (ac_v σ)) = (lv_args i a).map (ac_lv σ)
  | _, [] => rfl
  | i, v :: a => by
    simp only [List.map_cons, lv_args, ac_v_cat]
    rw [ac_args_map σ _ a]
    rfl
theorem ac_args_ok {n : Nat} : ∀ (i : Nat) (a : List Value), (∀ v ∈ a, ac_ok n v) → ∀ q ∈ lv_args i a, ac_ok n q.2
  | _, [], _, q, hq => nomatch hq
  | i, v :: a, h, q, hq => by
    rcases List.mem_cons.mp hq with e | e
    · rw [e]; exact h v List.mem_cons_self
    · exact ac_args_ok _ a (fun x hx => h x (List.mem_cons_of_mem _ hx)) q e
theorem ac_cats (σ : ac_A) (S : List Value) : ((S.map (ac_v σ)).map fun v => v.category) = (S.map fun v => v.category) := by
  rw [List.map_map]
  exact List.map_congr_left fun v _ => ac_v_cat σ v
/-- the array classes: ints, longs, then the kinds of objects -/
def ac_tys (dA : Nat → ClassId) : List (ClassId × FieldType) := (dA 0, .int) :: (dA 1, .long) :: ac_kn.mapIdx (fun k C => (dA (k + 2), .object C))
theorem ac_tys_k {dA : Nat → ClassId} {k : Nat} {C : String} (h : ac_kn[k]? = some C) : (ac_tys dA)[k + 2]? = some (dA (k + 2), .object C) := by
  simp [ac_tys, h]
/-- what stands outside the world: statics of Throwable, links of nest mates, arrays' classes, text constants, what can't be cast -/
def ac_X (A : Nat → Prop) (U : State) (H : Heap) : Prop := (∀ w ∈ xq_sw, xq_Z w A U H) ∧ (∀ w ∈ ac_ow, va_Nw w U) ∧ (∀ C ∈ ac_kn, va_AO C U) ∧ (∀ q ∈ ac_str, ∃ a, vk_R q.1 q.2.1 q.2.2 a U) ∧ (∀ q ∈ ac_nc, va_Nc q.1 q.2 U)
theorem ac_X.at {A B : Nat → Prop} {s U : State} {H H1 : Heap} (hW : s.WarmedH U.vm) (h : ac_X A s H) (hq : ∀ a : Nat, a < H.size → ¬ A a → H1[a]? = H[a]?) (hAB : ∀ q, B q → A q) : ac_X B U H1 :=
  ⟨fun w hw => (h.1 w hw).at hW.alike hq hAB, fun w hw => ac_ow_warm w hw hW (h.2.1 w hw), fun C hC => va_AO.moved hW.alike (h.2.2.1 C hC), fun q hq => by
    obtain ⟨a, ha⟩ := h.2.2.2.1 q hq
    exact ⟨a, ha.warm hW⟩, fun q hq => va_Nc.moved hW.alike (h.2.2.2.2 q hq)⟩
theorem ac_X.call {A : Nat → Prop} {U : State} {H : Heap} (g : JFrame) (mk : MethodId) (a : Array Value) (h : ac_X A U H) : ac_X A (U.calling g mk a) H :=
  ⟨fun w hw => (h.1 w hw).at (Vm.Alike.refl U.vm) (fun _ _ _ => rfl) (fun _ z9 => z9), fun w hw => va_Nw.same (u := U) (ac_ow_tab w hw) rfl (h.2.1 w hw), fun C hC => va_AO.moved (Vm.Alike.refl U.vm) (h.2.2.1 C hC), fun q hq => by
    obtain ⟨a', ha⟩ := h.2.2.2.1 q hq
    exact ⟨a', vk_R.same rfl ha⟩, fun q hq => va_Nc.moved (Vm.Alike.refl U.vm) (h.2.2.2.2 q hq)⟩
/-- the world at a point of a frame -/
def ac_Wd (D : va_G) (dA : Nat → ClassId) (A : Nat → Prop) (s : State) (n0 : Nat) (σ0 σ : ac_A) (h : ac_H) (H : Heap) (locs : List Loc) : Prop :=
  ac_okH h ∧ n0 ≤ h.length ∧ ac_ag n0 σ σ0 ∧ va_P D ac_cl (ac_w σ dA h) H ∧ va_D A (ac_w σ dA h) ∧ va_S A s.heap H locs
/-- launch, depth, method, cells, slots, what is owed at its end, how long the heap was, the script -/
abbrev ac_P : Type := Launch × Nat × ac_I × Nat × Nat × (ac_R → ac_H → Prop) × Nat × Option (Nat × (Nat → Int32))
abbrev ac_l (g : ac_P) : Launch := g.1
abbrev ac_d (g : ac_P) : Nat := g.2.1
abbrev ac_y (g : ac_P) : MethodName := g.2.2.1.1
abbrev ac_cc (g : ac_P) : ByteArray := g.2.2.1.2.1
abbrev ac_ml (g : ac_P) : Nat := g.2.2.1.2.2.1
abbrev ac_rt (g : ac_P) : Option FieldType := g.2.2.1.2.2.2.1
abbrev ac_hh (g : ac_P) : List (Nat × Nat × Nat × Nat) := g.2.2.1.2.2.2.2
abbrev ac_mc (g : ac_P) : Nat := g.2.2.2.1
abbrev ac_ms (g : ac_P) : Nat := g.2.2.2.2.1
abbrev ac_ph (g : ac_P) : ac_R → ac_H → Prop := g.2.2.2.2.2.1
abbrev ac_n0 (g : ac_P) : Nat := g.2.2.2.2.2.2.1
abbrev ac_sc (g : ac_P) : Option (Nat × (Nat → Int32)) := g.2.2.2.2.2.2.2
/-- how a method goes back with r at pc -/
def ac_back (g : ac_P) (pc : Nat) (r : Option Value) : Prop :=
  (∃ v, r = some (.int v) ∧ decode (ac_cc g) pc = .ok (.ireturn, 1) ∧ ∃ ty, ac_rt g = some ty ∧ narrow ty (.int v) = .int v) ∨
  (∃ a n, r = some (.ref a) ∧ decode (ac_cc g) pc = .ok (.areturn, 1) ∧ ac_rt g = some (.object n)) ∨
  (∃ a t, r = some (.ref a) ∧ decode (ac_cc g) pc = .ok (.areturn, 1) ∧ ac_rt g = some (.array t)) ∨
  (r = none ∧ decode (ac_cc g) pc = .ok (.return_, 1) ∧ ac_rt g = none)
/-- 'throw new E("..")' at pc: numbers of the class, of the text, of the constructor -/
def ac_thr (g : ac_P) (pc : Nat) (E : String) : Prop := ∃ (names : List String) (ik is ic : Nat) (text : String),
  Bundle.fit E = true ∧ (∀ n ∈ names, Bundle.fit n = true) ∧ Cond.classLink (ac_y g).cls ik E ∈ ac_U ∧ Cond.initialized E ∈ ac_U ∧ ((ac_y g).cls, is, text) ∈ ac_str ∧ (∀ w ∈ Bundle.ownAtoms (ac_y g).cls ic E names, (w ∈ ac_U ∧ w.onTables = true) ∨ w ∈ ac_ow ∨ w ∈ xq_sw) ∧
  decode (ac_cc g) pc = .ok (.new ik, 3) ∧ decode (ac_cc g) (pc + 3) = .ok (.dup, 1) ∧ decode (ac_cc g) (pc + 4) = .ok (.ldc is, 2) ∧ decode (ac_cc g) (pc + 6) = .ok (.invokespecial ic, 3) ∧ decode (ac_cc g) (pc + 9) = .ok (.athrow, 1) ∧ names.length + 3 < ac_d g ∧ 13 * (names.length + 1) + 51 ≤ 35 * ac_d g
/-- what a frame stands on: the machine, the tables, its room, and how it may end -/
def ac_C (g : ac_P) (p : Program) (e : Env) (R : Room) (s : State) (m : MethodId) (args : Array Value) (below : List Frame) (meth : Method) (c : Code) (D : va_G) (dA : Nat → ClassId) (A : Nat → Prop) (σ0 : ac_A) (Qf : State → Prop) : Prop :=
  (p.tables.exec = Jvm.exec ∧ c.code = ac_cc g ∧ c.maxLocals = ac_ml g ∧ s.vm.findClass (ac_y g).cls = some m.cls ∧ meth.name = (ac_y g).name ∧ (∀ w ∈ ac_U, w.before args s = true) ∧ c.exceptionTable.toList = tableOf (ac_hh g)) ∧
  (va_K D ac_cl (ac_tys dA) s ∧ ac_X A s s.heap ∧ (∀ q, s.heap.size ≤ q → A q) ∧ (ac_d g ≤ R.frames ∧ 35 * ac_d g ≤ R.locals ∧ R.cells = ac_mc g ∧ R.slots = ac_ms g)) ∧
  ((∀ (σ : ac_A) (h : ac_H) (H : Heap) (locs : List Loc) (k z : Nat) (r : Option Value) (pc : Nat) (ls : Array Slot), ac_Wd D dA A s (ac_n0 g) σ0 σ h H locs → ac_ph g (.inl r) h → k ≤ ac_mc g → z ≤ ac_ms g → (∀ v ∈ r.toList, ac_ok h.length v) → ac_back g pc r → W p (ac_l g) e R s m args below meth c H locs k z Qf (F0 m pc ls (r.toList.map (ac_v σ)))) ∧
   (∀ (σ : ac_A) (h : ac_H) (H : Heap) (locs : List Loc) (k z : Nat) (E : String) (ce : Cell) (q pc : Nat) (ls : Array Slot) (rest : List Value), ac_Wd D dA A s (ac_n0 g) σ0 σ h H locs → ac_ph g (.inr E) h → k ≤ ac_mc g → z ≤ ac_ms g → H[q]? = some ce → ce.vm = .none → s.vm.findClass E = some ce.cls → ac_hh g = [] → xq_W p (ac_l g) e R s m args below meth c H locs k z Qf (F0 m pc ls rest) q) ∧
   (∀ (σ : ac_A) (h : ac_H) (H : Heap) (locs : List Loc) (k z : Nat) (E : String) (pc : Nat) (ls : Array Slot) (rest : List Value), ac_Wd D dA A s (ac_n0 g) σ0 σ h H locs → ac_ph g (.inr E) h → k + 1 ≤ ac_mc g → z + 6 ≤ ac_ms g → ls.size = ac_ml g → (rest.map fun v => v.category).sum ≤ 8 → ac_hh g = [] → ac_thr g pc E → W p (ac_l g) e R s m args below meth c H locs k z Qf (F0 m pc ls rest))) ∧
  (∀ (L : Nat) (xs : Nat → Int32), ac_sc g = some (L, xs) → va_X σ0.1 L xs s s.heap ∧ σ0.1 < s.heap.size ∧ ¬ A σ0.1)
/-- from here the frame comes to an end that it owes, in every concrete heap that holds h -/
def ac_G (g : ac_P) (pc : Nat) (L : List (Nat × Value)) (S : List Value) (h : ac_H) (k z : Nat) : Prop :=
  ∀ (p : Program) (e : Env) (R : Room) (s : State) (m : MethodId) (args : Array Value) (below : List Frame) (meth : Method) (c : Code) (D : va_G) (dA : Nat → ClassId) (A : Nat → Prop) (σ0 : ac_A) (Qf : State → Prop), ac_C g p e R s m args below meth c D dA A σ0 Qf → ∀ (σ : ac_A) (H : Heap) (locs : List Loc) (ls : Array Slot), ac_Wd D dA A s (ac_n0 g) σ0 σ h H locs → (∀ q ∈ L, ac_ok h.length q.2) → (∀ v ∈ S, ac_ok h.length v) → lv_has ls (ac_ml g) (L.map (ac_lv σ)) → W p (ac_l g) e R s m args below meth c H locs k z Qf (F0 m pc ls (S.map (ac_v σ)))
theorem r_iconst {g : ac_P} {pc : Nat} {L : List (Nat × Value)} {S : List Value} {h : ac_H} {k z : Nat} {n : Int} (v : Int32) (hd : decode (ac_cc g) pc = .ok (.iconst n, 1)) (hv : Int32.ofInt n = v) (kk : ac_G g (pc + 1) L (.int v :: S) h k z) : ac_G g pc L S h k z := by
  intro p e R s m args below meth c D dA A σ0 Qf C σ H locs ls hW hL hS hl
  obtain ⟨⟨hx, hb, hml, hown, hnm, hts, htb⟩, ⟨hK, hX, hA, hR⟩, hend, hsc⟩ := id C
  exact lv_iconst hx hb hd hv (kk p e R s m args below meth c D dA A σ0 Qf C σ H locs ls hW hL (ac_okc ac_ok_int hS) hl)
theorem r_bipush {g : ac_P} {pc : Nat} {L : List (Nat × Value)} {S : List Value} {h : ac_H} {k z : Nat} {n : Int} (v : Int32) (hd : decode (ac_cc g) pc = .ok (.bipush n, 2)) (hv : (Int8.ofInt n).toInt32 = v) (kk : ac_G g (pc + 2) L (.int v :: S) h k z) : ac_G g pc L S h k z := by
  intro p e R s m args below meth c D dA A σ0 Qf C σ H locs ls hW hL hS hl
  obtain ⟨⟨hx, hb, hml, hown, hnm, hts, htb⟩, ⟨hK, hX, hA, hR⟩, hend, hsc⟩ := id C
  exact lv_bipush hx hb hd hv (kk p e R s m args below meth c D dA A σ0 Qf C σ H locs ls hW hL (ac_okc ac_ok_int hS) hl)
theorem r_sipush {g : ac_P} {pc : Nat} {L : List (Nat × Value)} {S : List Value} {h : ac_H} {k z : Nat} {n : Int} (v : Int32) (hd : decode (ac_cc g) pc = .ok (.sipush n, 3)) (hv : (Int16.ofInt n).toInt32 = v) (kk : ac_G g (pc + 3) L (.int v :: S) h k z) : ac_G g pc L S h k z := by
  intro p e R s m args below meth c D dA A σ0 Qf C σ H locs ls hW hL hS hl
  obtain ⟨⟨hx, hb, hml, hown, hnm, hts, htb⟩, ⟨hK, hX, hA, hR⟩, hend, hsc⟩ := id C
  exact lv_sipush hx hb hd hv (kk p e R s m args below meth c D dA A σ0 Qf C σ H locs ls hW hL (ac_okc ac_ok_int hS) hl)
theorem r_lconst {g : ac_P} {pc : Nat} {L : List (Nat × Value)} {S : List Value} {h : ac_H} {k z : Nat} {n : Fin 2} (v : Int64) (hd : decode (ac_cc g) pc = .ok (.lconst n, 1)) (hv : Int64.ofNat (n : Nat) = v) (kk : ac_G g (pc + 1) L (.long v :: S) h k z) : ac_G g pc L S h k z := by
  intro p e R s m args below meth c D dA A σ0 Qf C σ H locs ls hW hL hS hl
  obtain ⟨⟨hx, hb, hml, hown, hnm, hts, htb⟩, ⟨hK, hX, hA, hR⟩, hend, hsc⟩ := id C
  exact lv_lconst hx hb hd hv (kk p e R s m args below meth c D dA A σ0 Qf C σ H locs ls hW hL (ac_okc ac_ok_long hS) hl)
theorem r_ldc {g : ac_P} {pc : Nat} {L : List (Nat × Value)} {S : List Value} {h : ac_H} {k z : Nat} {index : Nat} (v : Int32) (hd : decode (ac_cc g) pc = .ok (.ldc index, 2)) (hc : Jvm.Cond.constant (ac_y g).cls index v ∈ ac_U) (kk : ac_G g (pc + 2) L (.int v :: S) h k z) : ac_G g pc L S h k z := by
  intro p e R s m args below meth c D dA A σ0 Qf C σ H locs ls hW hL hS hl
  obtain ⟨⟨hx, hb, hml, hown, hnm, hts, htb⟩, ⟨hK, hX, hA, hR⟩, hend, hsc⟩ := id C
  exact lv_ldc hx hb hown (hts _ hc) hd (kk p e R s m args below meth c D dA A σ0 Qf C σ H locs ls hW hL (ac_okc ac_ok_int hS) hl)
theorem r_iload_n {g : ac_P} {pc : Nat} {L : List (Nat × Value)} {S : List Value} {h : ac_H} {k z : Nat} {i : Fin 4} {x : Int32} (hd : decode (ac_cc g) pc = .ok (.iload_n i, 1)) (hl0 : ac_get L (i : Nat) = some (.int x)) (kk : ac_G g (pc + 1) L (.int x :: S) h k z) : ac_G g pc L S h k z := by
  intro p e R s m args below meth c D dA A σ0 Qf C σ H locs ls hW hL hS hl
  obtain ⟨⟨hx, hb, hml, hown, hnm, hts, htb⟩, ⟨hK, hX, hA, hR⟩, hend, hsc⟩ := id C
  exact lv_iload_n hx hb hd rfl (ac_look hl hl0) (kk p e R s m args below meth c D dA A σ0 Qf C σ H locs ls hW hL (ac_okc ac_ok_int hS) hl)
theorem r_iload {g : ac_P} {pc : Nat} {L : List (Nat × Value)} {S : List Value} {h : ac_H} {k z : Nat} {i : Nat} {x : Int32} (hd : decode (ac_cc g) pc = .ok (.iload i, 2)) (hl0 : ac_get L i = some (.int x)) (kk : ac_G g (pc + 2) L (.int x :: S) h k z) : ac_G g pc L S h k z := by
  intro p e R s m args below meth c D dA A σ0 Qf C σ H locs ls hW hL hS hl
  obtain ⟨⟨hx, hb, hml, hown, hnm, hts, htb⟩, ⟨hK, hX, hA, hR⟩, hend, hsc⟩ := id C
  exact lv_iload hx hb hd (ac_look hl hl0) (kk p e R s m args below meth c D dA A σ0 Qf C σ H locs ls hW hL (ac_okc ac_ok_int hS) hl)
theorem r_aload_n {g : ac_P} {pc : Nat} {L : List (Nat × Value)} {S : List Value} {h : ac_H} {k z : Nat} {i : Fin 4} {a : Nat} (hd : decode (ac_cc g) pc = .ok (.aload_n i, 1)) (hl0 : ac_get L (i : Nat) = some (.ref a)) (kk : ac_G g (pc + 1) L (.ref a :: S) h k z) : ac_G g pc L S h k z := by
  intro p e R s m args below meth c D dA A σ0 Qf C σ H locs ls hW hL hS hl
  obtain ⟨⟨hx, hb, hml, hown, hnm, hts, htb⟩, ⟨hK, hX, hA, hR⟩, hend, hsc⟩ := id C
  exact lv_aload_n hx hb hd rfl (ac_look hl hl0) (kk p e R s m args below meth c D dA A σ0 Qf C σ H locs ls hW hL (ac_okc (hL _ (ac_get_mem hl0)) hS) hl)
theorem r_aload {g : ac_P} {pc : Nat} {L : List (Nat × Value)} {S : List Value} {h : ac_H} {k z : Nat} {i : Nat} {a : Nat} (hd : decode (ac_cc g) pc = .ok (.aload i, 2)) (hl0 : ac_get L i = some (.ref a)) (kk : ac_G g (pc + 2) L (.ref a :: S) h k z) : ac_G g pc L S h k z := by
  intro p e R s m args below meth c D dA A σ0 Qf C σ H locs ls hW hL hS hl
  obtain ⟨⟨hx, hb, hml, hown, hnm, hts, htb⟩, ⟨hK, hX, hA, hR⟩, hend, hsc⟩ := id C
  exact lv_aload hx hb hd (ac_look hl hl0) (kk p e R s m args below meth c D dA A σ0 Qf C σ H locs ls hW hL (ac_okc (hL _ (ac_get_mem hl0)) hS) hl)
theorem r_aload_nS {g : ac_P} {pc : Nat} {L : List (Nat × Value)} {S : List Value} {h : ac_H} {k z : Nat} {i : Fin 4} {a : Nat} (hd : decode (ac_cc g) pc = .ok (.aload_n i, 1)) (hl0 : ac_get L (i : Nat) = some (.retAddr a)) (kk : ac_G g (pc + 1) L (.retAddr a :: S) h k z) : ac_G g pc L S h k z := by
  intro p e R s m args below meth c D dA A σ0 Qf C σ H locs ls hW hL hS hl
  obtain ⟨⟨hx, hb, hml, hown, hnm, hts, htb⟩, ⟨hK, hX, hA, hR⟩, hend, hsc⟩ := id C
  exact lv_aload_n hx hb hd rfl (ac_look hl hl0) (kk p e R s m args below meth c D dA A σ0 Qf C σ H locs ls hW hL (ac_okc (hL _ (ac_get_mem hl0)) hS) hl)
theorem r_aloadS {g : ac_P} {pc : Nat} {L : List (Nat × Value)} {S : List Value} {h : ac_H} {k z : Nat} {i : Nat} {a : Nat} (hd : decode (ac_cc g) pc = .ok (.aload i, 2)) (hl0 : ac_get L i = some (.retAddr a)) (kk : ac_G g (pc + 2) L (.retAddr a :: S) h k z) : ac_G g pc L S h k z := by
  intro p e R s m args below meth c D dA A σ0 Qf C σ H locs ls hW hL hS hl
  obtain ⟨⟨hx, hb, hml, hown, hnm, hts, htb⟩, ⟨hK, hX, hA, hR⟩, hend, hsc⟩ := id C
  exact lv_aload hx hb hd (ac_look hl hl0) (kk p e R s m args below meth c D dA A σ0 Qf C σ H locs ls hW hL (ac_okc (hL _ (ac_get_mem hl0)) hS) hl)
theorem r_istore_n {g : ac_P} {pc : Nat} {L : List (Nat × Value)} {S : List Value} {h : ac_H} {k z : Nat} {i : Fin 4} {x : Int32} (hd : decode (ac_cc g) pc = .ok (.istore_n i, 1)) (hn : (i : Nat) < ac_ml g) (kk : ac_G g (pc + 1) (ac_put L (i : Nat) (.int x)) S h k z) : ac_G g pc L (.int x :: S) h k z := by
  intro p e R s m args below meth c D dA A σ0 Qf C σ H locs ls hW hL hS hl
  obtain ⟨⟨hx, hb, hml, hown, hnm, hts, htb⟩, ⟨hK, hX, hA, hR⟩, hend, hsc⟩ := id C
  exact lv_istore_n hx hb hd rfl hl hn (ac_put_map σ L (i : Nat) (.int x)) (fun ls' hl' => kk p e R s m args below meth c D dA A σ0 Qf C σ H locs ls' hW (ac_okL_put (ac_oku hS).1 hL) (ac_oku hS).2 hl')
theorem r_istore {g : ac_P} {pc : Nat} {L : List (Nat × Value)} {S : List Value} {h : ac_H} {k z : Nat} {i : Nat} {x : Int32} (hd : decode (ac_cc g) pc = .ok (.istore i, 2)) (hn : i < ac_ml g) (kk : ac_G g (pc + 2) (ac_put L i (.int x)) S h k z) : ac_G g pc L (.int x :: S) h k z := by
  intro p e R s m args below meth c D dA A σ0 Qf C σ H locs ls hW hL hS hl
  obtain ⟨⟨hx, hb, hml, hown, hnm, hts, htb⟩, ⟨hK, hX, hA, hR⟩, hend, hsc⟩ := id C
  exact lv_istore hx hb hd hl hn (ac_put_map σ L i (.int x)) (fun ls' hl' => kk p e R s m args below meth c D dA A σ0 Qf C σ H locs ls' hW (ac_okL_put (ac_oku hS).1 hL) (ac_oku hS).2 hl')
theorem r_astore_n {g : ac_P} {pc : Nat} {L : List (Nat × Value)} {S : List Value} {h : ac_H} {k z : Nat} {i : Fin 4} {x : Nat} (hd : decode (ac_cc g) pc = .ok (.astore_n i, 1)) (hn : (i : Nat) < ac_ml g) (kk : ac_G g (pc + 1) (ac_put L (i : Nat) (.ref x)) S h k z) : ac_G g pc L (.ref x :: S) h k z := by
  intro p e R s m args below meth c D dA A σ0 Qf C σ H locs ls hW hL hS hl
  obtain ⟨⟨hx, hb, hml, hown, hnm, hts, htb⟩, ⟨hK, hX, hA, hR⟩, hend, hsc⟩ := id C
  exact lv_astore_n hx hb hd rfl hl hn (ac_put_map σ L (i : Nat) (.ref x)) (fun ls' hl' => kk p e R s m args below meth c D dA A σ0 Qf C σ H locs ls' hW (ac_okL_put (ac_oku hS).1 hL) (ac_oku hS).2 hl')
theorem r_astore {g : ac_P} {pc : Nat} {L : List (Nat × Value)} {S : List Value} {h : ac_H} {k z : Nat} {i : Nat} {x : Nat} (hd : decode (ac_cc g) pc = .ok (.astore i, 2)) (hn : i < ac_ml g) (kk : ac_G g (pc + 2) (ac_put L i (.ref x)) S h k z) : ac_G g pc L (.ref x :: S) h k z := by
  intro p e R s m args below meth c D dA A σ0 Qf C σ H locs ls hW hL hS hl
  obtain ⟨⟨hx, hb, hml, hown, hnm, hts, htb⟩, ⟨hK, hX, hA, hR⟩, hend, hsc⟩ := id C
  exact lv_astore hx hb hd hl hn (ac_put_map σ L i (.ref x)) (fun ls' hl' => kk p e R s m args below meth c D dA A σ0 Qf C σ H locs ls' hW (ac_okL_put (ac_oku hS).1 hL) (ac_oku hS).2 hl')
theorem ac_get_at : ∀ {L : List (Nat × Value)} {k : Nat} {v : Value}, ac_get L k = some v → ∃ j : Nat, L[j]? = some (k, v) := fun h => List.getElem?_of_mem (ac_get_mem h)
theorem r_iinc {g : ac_P} {pc : Nat} {L : List (Nat × Value)} {S : List Value} {h : ac_H} {k z : Nat} {i : Nat} {n : Int} {x : Int32} (v : Int32) (hd : decode (ac_cc g) pc = .ok (.iinc i n, 3)) (hl0 : ac_get L i = some (.int x)) (hv : x + Int32.ofInt n = v) (hn : i < ac_ml g) (kk : ac_G g (pc + 3) (ac_put L i (.int v)) S h k z) : ac_G g pc L S h k z := by
  intro p e R s m args below meth c D dA A σ0 Qf C σ H locs ls hW hL hS hl
  obtain ⟨⟨hx, hb, hml, hown, hnm, hts, htb⟩, ⟨hK, hX, hA, hR⟩, hend, hsc⟩ := id C
  obtain ⟨j, hj⟩ := ac_get_at hl0
  exact lv_iinc (k := j) hx hb hd hl (by rw [List.getElem?_map, hj]; rfl) hv hn (ac_put_map σ L i (.int v)) (fun ls' hl' => kk p e R s m args below meth c D dA A σ0 Qf C σ H locs ls' hW (ac_okL_put ac_ok_int hL) hS hl')
theorem r_iadd {g : ac_P} {pc : Nat} {L : List (Nat × Value)} {S : List Value} {h : ac_H} {k z : Nat} {x y : Int32} (hd : decode (ac_cc g) pc = .ok (.iadd, 1)) (kk : ac_G g (pc + 1) L (.int (x + y) :: S) h k z) : ac_G g pc L (.int y :: .int x :: S) h k z := by
  intro p e R s m args below meth c D dA A σ0 Qf C σ H locs ls hW hL hS hl
  obtain ⟨⟨hx, hb, hml, hown, hnm, hts, htb⟩, ⟨hK, hX, hA, hR⟩, hend, hsc⟩ := id C
  exact lv_iadd hx hb hd (kk p e R s m args below meth c D dA A σ0 Qf C σ H locs ls hW hL (ac_okc ac_ok_int (ac_oku (ac_oku hS).2).2) hl)
theorem r_isub {g : ac_P} {pc : Nat} {L : List (Nat × Value)} {S : List Value} {h : ac_H} {k z : Nat} {x y : Int32} (hd : decode (ac_cc g) pc = .ok (.isub, 1)) (kk : ac_G g (pc + 1) L (.int (x - y) :: S) h k z) : ac_G g pc L (.int y :: .int x :: S) h k z := by
  intro p e R s m args below meth c D dA A σ0 Qf C σ H locs ls hW hL hS hl
  obtain ⟨⟨hx, hb, hml, hown, hnm, hts, htb⟩, ⟨hK, hX, hA, hR⟩, hend, hsc⟩ := id C
  exact lv_isub hx hb hd (kk p e R s m args below meth c D dA A σ0 Qf C σ H locs ls hW hL (ac_okc ac_ok_int (ac_oku (ac_oku hS).2).2) hl)
theorem r_imul {g : ac_P} {pc : Nat} {L : List (Nat × Value)} {S : List Value} {h : ac_H} {k z : Nat} {x y : Int32} (hd : decode (ac_cc g) pc = .ok (.imul, 1)) (kk : ac_G g (pc + 1) L (.int (x * y) :: S) h k z) : ac_G g pc L (.int y :: .int x :: S) h k z := by
  intro p e R s m args below meth c D dA A σ0 Qf C σ H locs ls hW hL hS hl
  obtain ⟨⟨hx, hb, hml, hown, hnm, hts, htb⟩, ⟨hK, hX, hA, hR⟩, hend, hsc⟩ := id C
  exact lv_imul hx hb hd (kk p e R s m args below meth c D dA A σ0 Qf C σ H locs ls hW hL (ac_okc ac_ok_int (ac_oku (ac_oku hS).2).2) hl)
theorem r_iand {g : ac_P} {pc : Nat} {L : List (Nat × Value)} {S : List Value} {h : ac_H} {k z : Nat} {x y : Int32} (hd : decode (ac_cc g) pc = .ok (.iand, 1)) (kk : ac_G g (pc + 1) L (.int (x &&& y) :: S) h k z) : ac_G g pc L (.int y :: .int x :: S) h k z := by
  intro p e R s m args below meth c D dA A σ0 Qf C σ H locs ls hW hL hS hl
  obtain ⟨⟨hx, hb, hml, hown, hnm, hts, htb⟩, ⟨hK, hX, hA, hR⟩, hend, hsc⟩ := id C
  exact lv_iand hx hb hd (kk p e R s m args below meth c D dA A σ0 Qf C σ H locs ls hW hL (ac_okc ac_ok_int (ac_oku (ac_oku hS).2).2) hl)
theorem r_ior {g : ac_P} {pc : Nat} {L : List (Nat × Value)} {S : List Value} {h : ac_H} {k z : Nat} {x y : Int32} (hd : decode (ac_cc g) pc = .ok (.ior, 1)) (kk : ac_G g (pc + 1) L (.int (x ||| y) :: S) h k z) : ac_G g pc L (.int y :: .int x :: S) h k z := by
  intro p e R s m args below meth c D dA A σ0 Qf C σ H locs ls hW hL hS hl
  obtain ⟨⟨hx, hb, hml, hown, hnm, hts, htb⟩, ⟨hK, hX, hA, hR⟩, hend, hsc⟩ := id C
  exact lv_ior hx hb hd (kk p e R s m args below meth c D dA A σ0 Qf C σ H locs ls hW hL (ac_okc ac_ok_int (ac_oku (ac_oku hS).2).2) hl)
theorem r_ixor {g : ac_P} {pc : Nat} {L : List (Nat × Value)} {S : List Value} {h : ac_H} {k z : Nat} {x y : Int32} (hd : decode (ac_cc g) pc = .ok (.ixor, 1)) (kk : ac_G g (pc + 1) L (.int (x ^^^ y) :: S) h k z) : ac_G g pc L (.int y :: .int x :: S) h k z := by
  intro p e R s m args below meth c D dA A σ0 Qf C σ H locs ls hW hL hS hl
  obtain ⟨⟨hx, hb, hml, hown, hnm, hts, htb⟩, ⟨hK, hX, hA, hR⟩, hend, hsc⟩ := id C
  exact lv_ixor hx hb hd (kk p e R s m args below meth c D dA A σ0 Qf C σ H locs ls hW hL (ac_okc ac_ok_int (ac_oku (ac_oku hS).2).2) hl)
theorem r_ishr {g : ac_P} {pc : Nat} {L : List (Nat × Value)} {S : List Value} {h : ac_H} {k z : Nat} {x y : Int32} (hd : decode (ac_cc g) pc = .ok (.ishr, 1)) (kk : ac_G g (pc + 1) L (.int (x >>> (y &&& 31)) :: S) h k z) : ac_G g pc L (.int y :: .int x :: S) h k z := by
  intro p e R s m args below meth c D dA A σ0 Qf C σ H locs ls hW hL hS hl
  obtain ⟨⟨hx, hb, hml, hown, hnm, hts, htb⟩, ⟨hK, hX, hA, hR⟩, hend, hsc⟩ := id C
  exact lv_ishr hx hb hd (kk p e R s m args below meth c D dA A σ0 Qf C σ H locs ls hW hL (ac_okc ac_ok_int (ac_oku (ac_oku hS).2).2) hl)
theorem r_ishl {g : ac_P} {pc : Nat} {L : List (Nat × Value)} {S : List Value} {h : ac_H} {k z : Nat} {x y : Int32} (hd : decode (ac_cc g) pc = .ok (.ishl, 1)) (kk : ac_G g (pc + 1) L (.int (x <<< (y &&& 31)) :: S) h k z) : ac_G g pc L (.int y :: .int x :: S) h k z := by
  intro p e R s m args below meth c D dA A σ0 Qf C σ H locs ls hW hL hS hl
  obtain ⟨⟨hx, hb, hml, hown, hnm, hts, htb⟩, ⟨hK, hX, hA, hR⟩, hend, hsc⟩ := id C
  exact lv_ishl hx hb hd (kk p e R s m args below meth c D dA A σ0 Qf C σ H locs ls hW hL (ac_okc ac_ok_int (ac_oku (ac_oku hS).2).2) hl)
theorem r_idiv {g : ac_P} {pc : Nat} {L : List (Nat × Value)} {S : List Value} {h : ac_H} {k z : Nat} {x y : Int32} (hd : decode (ac_cc g) pc = .ok (.idiv, 1)) (hne : ¬ y = 0) (kk : ac_G g (pc + 1) L (.int (x / y) :: S) h k z) : ac_G g pc L (.int y :: .int x :: S) h k z := by
  intro p e R s m args below meth c D dA A σ0 Qf C σ H locs ls hW hL hS hl
  obtain ⟨⟨hx, hb, hml, hown, hnm, hts, htb⟩, ⟨hK, hX, hA, hR⟩, hend, hsc⟩ := id C
  exact lv_idiv hx hb hd hne (kk p e R s m args below meth c D dA A σ0 Qf C σ H locs ls hW hL (ac_okc ac_ok_int (ac_oku (ac_oku hS).2).2) hl)
theorem r_irem {g : ac_P} {pc : Nat} {L : List (Nat × Value)} {S : List Value} {h : ac_H} {k z : Nat} {x y : Int32} (hd : decode (ac_cc g) pc = .ok (.irem, 1)) (hne : ¬ y = 0) (kk : ac_G g (pc + 1) L (.int (x - x / y * y) :: S) h k z) : ac_G g pc L (.int y :: .int x :: S) h k z := by
  intro p e R s m args below meth c D dA A σ0 Qf C σ H locs ls hW hL hS hl
  obtain ⟨⟨hx, hb, hml, hown, hnm, hts, htb⟩, ⟨hK, hX, hA, hR⟩, hend, hsc⟩ := id C
  exact lv_irem hx hb hd hne (kk p e R s m args below meth c D dA A σ0 Qf C σ H locs ls hW hL (ac_okc ac_ok_int (ac_oku (ac_oku hS).2).2) hl)
theorem r_ineg {g : ac_P} {pc : Nat} {L : List (Nat × Value)} {S : List Value} {h : ac_H} {k z : Nat} {x : Int32} (hd : decode (ac_cc g) pc = .ok (.ineg, 1)) (kk : ac_G g (pc + 1) L (.int (-x) :: S) h k z) : ac_G g pc L (.int x :: S) h k z := by
  intro p e R s m args below meth c D dA A σ0 Qf C σ H locs ls hW hL hS hl
  obtain ⟨⟨hx, hb, hml, hown, hnm, hts, htb⟩, ⟨hK, hX, hA, hR⟩, hend, hsc⟩ := id C
  exact lv_ineg hx hb hd (kk p e R s m args below meth c D dA A σ0 Qf C σ H locs ls hW hL (ac_okc ac_ok_int (ac_oku hS).2) hl)
theorem r_i2l {g : ac_P} {pc : Nat} {L : List (Nat × Value)} {S : List Value} {h : ac_H} {k z : Nat} {x : Int32} (hd : decode (ac_cc g) pc = .ok (.i2l, 1)) (kk : ac_G g (pc + 1) L (.long x.toInt64 :: S) h k z) : ac_G g pc L (.int x :: S) h k z := by
  intro p e R s m args below meth c D dA A σ0 Qf C σ H locs ls hW hL hS hl
  obtain ⟨⟨hx, hb, hml, hown, hnm, hts, htb⟩, ⟨hK, hX, hA, hR⟩, hend, hsc⟩ := id C
  exact lv_i2l hx hb hd rfl (kk p e R s m args below meth c D dA A σ0 Qf C σ H locs ls hW hL (ac_okc ac_ok_long (ac_oku hS).2) hl)
theorem r_lcmp {g : ac_P} {pc : Nat} {L : List (Nat × Value)} {S : List Value} {h : ac_H} {k z : Nat} {x y : Int64} (hd : decode (ac_cc g) pc = .ok (.lcmp, 1)) (kk : ac_G g (pc + 1) L (.int (lg_cmp x y) :: S) h k z) : ac_G g pc L (.long y :: .long x :: S) h k z := by
  intro p e R s m args below meth c D dA A σ0 Qf C σ H locs ls hW hL hS hl
  obtain ⟨⟨hx, hb, hml, hown, hnm, hts, htb⟩, ⟨hK, hX, hA, hR⟩, hend, hsc⟩ := id C
  exact W.lcmp hx hb hd (kk p e R s m args below meth c D dA A σ0 Qf C σ H locs ls hW hL (ac_okc ac_ok_int (ac_oku (ac_oku hS).2).2) hl)
theorem r_topi {g : ac_P} {pc : Nat} {L : List (Nat × Value)} {S : List Value} {h : ac_H} {k z : Nat} {x : Int32} (kk : ∀ y : Int32, y = x → ac_G g pc L (.int y :: S) h k z) : ac_G g pc L (.int x :: S) h k z := kk x rfl
theorem r_dup {g : ac_P} {pc : Nat} {L : List (Nat × Value)} {S : List Value} {h : ac_H} {k z : Nat} {v : Value} (hd : decode (ac_cc g) pc = .ok (.dup, 1)) (hc : v.category = 1) (kk : ac_G g (pc + 1) L (v :: v :: S) h k z) : ac_G g pc L (v :: S) h k z := by
  intro p e R s m args below meth c D dA A σ0 Qf C σ H locs ls hW hL hS hl
  obtain ⟨⟨hx, hb, hml, hown, hnm, hts, htb⟩, ⟨hK, hX, hA, hR⟩, hend, hsc⟩ := id C
  exact lv_dup hx hb hd ((ac_v_cat σ v).trans hc) (kk p e R s m args below meth c D dA A σ0 Qf C σ H locs ls hW hL (ac_okc (ac_oku hS).1 hS) hl)
theorem r_pop {g : ac_P} {pc : Nat} {L : List (Nat × Value)} {S : List Value} {h : ac_H} {k z : Nat} {v : Value} (hd : decode (ac_cc g) pc = .ok (.pop, 1)) (hc : v.category = 1) (kk : ac_G g (pc + 1) L S h k z) : ac_G g pc L (v :: S) h k z := by
  intro p e R s m args below meth c D dA A σ0 Qf C σ H locs ls hW hL hS hl
  obtain ⟨⟨hx, hb, hml, hown, hnm, hts, htb⟩, ⟨hK, hX, hA, hR⟩, hend, hsc⟩ := id C
  exact lv_pop hx hb hd ((ac_v_cat σ v).trans hc) (kk p e R s m args below meth c D dA A σ0 Qf C σ H locs ls hW hL (ac_oku hS).2 hl)
theorem r_dup_x1 {g : ac_P} {pc : Nat} {L : List (Nat × Value)} {S : List Value} {h : ac_H} {k z : Nat} {v w : Value} (hd : decode (ac_cc g) pc = .ok (.dup_x1, 1)) (hc : v.category = 1) (hc2 : w.category = 1) (kk : ac_G g (pc + 1) L (v :: w :: v :: S) h k z) : ac_G g pc L (v :: w :: S) h k z := by
  intro p e R s m args below meth c D dA A σ0 Qf C σ H locs ls hW hL hS hl
  obtain ⟨⟨hx, hb, hml, hown, hnm, hts, htb⟩, ⟨hK, hX, hA, hR⟩, hend, hsc⟩ := id C
  exact lv_dup_x1 hx hb hd ((ac_v_cat σ v).trans hc) ((ac_v_cat σ w).trans hc2) (kk p e R s m args below meth c D dA A σ0 Qf C σ H locs ls hW hL (ac_okc (ac_oku hS).1 (ac_okc (ac_oku (ac_oku hS).2).1 (ac_okc (ac_oku hS).1 (ac_oku (ac_oku hS).2).2))) hl)
theorem r_dup_x2 {g : ac_P} {pc : Nat} {L : List (Nat × Value)} {S : List Value} {h : ac_H} {k z : Nat} {v w u : Value} (hd : decode (ac_cc g) pc = .ok (.dup_x2, 1)) (hc : v.category = 1) (hc2 : w.category = 1) (hc3 : u.category = 1) (kk : ac_G g (pc + 1) L (v :: w :: u :: v :: S) h k z) : ac_G g pc L (v :: w :: u :: S) h k z := by
  intro p e R s m args below meth c D dA A σ0 Qf C σ H locs ls hW hL hS hl
  obtain ⟨⟨hx, hb, hml, hown, hnm, hts, htb⟩, ⟨hK, hX, hA, hR⟩, hend, hsc⟩ := id C
  exact lv_dup_x2 hx hb hd ((ac_v_cat σ v).trans hc) ((ac_v_cat σ w).trans hc2) ((ac_v_cat σ u).trans hc3) (kk p e R s m args below meth c D dA A σ0 Qf C σ H locs ls hW hL (ac_okc (ac_oku hS).1 (ac_okc (ac_oku (ac_oku hS).2).1 (ac_okc (ac_oku (ac_oku (ac_oku hS).2).2).1 (ac_okc (ac_oku hS).1 (ac_oku (ac_oku (ac_oku hS).2).2).2)))) hl)
theorem r_dup2 {g : ac_P} {pc : Nat} {L : List (Nat × Value)} {S : List Value} {h : ac_H} {k z : Nat} {v w : Value} (hd : decode (ac_cc g) pc = .ok (.dup2, 1)) (hc : v.category = 1) (hc2 : w.category = 1) (kk : ac_G g (pc + 1) L (v :: w :: v :: w :: S) h k z) : ac_G g pc L (v :: w :: S) h k z := by
  intro p e R s m args below meth c D dA A σ0 Qf C σ H locs ls hW hL hS hl
  obtain ⟨⟨hx, hb, hml, hown, hnm, hts, htb⟩, ⟨hK, hX, hA, hR⟩, hend, hsc⟩ := id C
  exact lv_dup2_11 hx hb hd ((ac_v_cat σ v).trans hc) ((ac_v_cat σ w).trans hc2) (kk p e R s m args below meth c D dA A σ0 Qf C σ H locs ls hW hL (ac_okc (ac_oku hS).1 (ac_okc (ac_oku (ac_oku hS).2).1 hS)) hl)
theorem r_if_eq {g : ac_P} {pc : Nat} {L : List (Nat × Value)} {S : List Value} {h : ac_H} {k z : Nat} {x : Int32} {off : Int} (tgt : Nat) (hd : decode (ac_cc g) pc = .ok (.ifCond .eq off, 3)) (ht : (pc : Int) + off = (tgt : Int)) (kt : (x = 0) → ac_G g tgt L S h k z) (kf : ¬ (x = 0) → ac_G g (pc + 3) L S h k z) : ac_G g pc L (.int x :: S) h k z := by
  intro p e R s m args below meth c D dA A σ0 Qf C σ H locs ls hW hL hS hl
  obtain ⟨⟨hx, hb, hml, hown, hnm, hts, htb⟩, ⟨hK, hX, hA, hR⟩, hend, hsc⟩ := id C
  exact lv_if_eq (tgt := tgt) hx hb hd ht (fun q => kt q p e R s m args below meth c D dA A σ0 Qf C σ H locs ls hW hL (ac_oku hS).2 hl) (fun q => kf q p e R s m args below meth c D dA A σ0 Qf C σ H locs ls hW hL (ac_oku hS).2 hl)
theorem r_icmp_eq {g : ac_P} {pc : Nat} {L : List (Nat × Value)} {S : List Value} {h : ac_H} {k z : Nat} {x y : Int32} {off : Int} (tgt : Nat) (hd : decode (ac_cc g) pc = .ok (.if_icmp .eq off, 3)) (ht : (pc : Int) + off = (tgt : Int)) (kt : (x = y) → ac_G g tgt L S h k z) (kf : ¬ (x = y) → ac_G g (pc + 3) L S h k z) : ac_G g pc L (.int y :: .int x :: S) h k z := by
  intro p e R s m args below meth c D dA A σ0 Qf C σ H locs ls hW hL hS hl
  obtain ⟨⟨hx, hb, hml, hown, hnm, hts, htb⟩, ⟨hK, hX, hA, hR⟩, hend, hsc⟩ := id C
  exact lv_icmp_eq (tgt := tgt) hx hb hd ht (fun q => kt q p e R s m args below meth c D dA A σ0 Qf C σ H locs ls hW hL (ac_oku (ac_oku hS).2).2 hl) (fun q => kf q p e R s m args below meth c D dA A σ0 Qf C σ H locs ls hW hL (ac_oku (ac_oku hS).2).2 hl)
theorem r_if_lt {g : ac_P} {pc : Nat} {L : List (Nat × Value)} {S : List Value} {h : ac_H} {k z : Nat} {x : Int32} {off : Int} (tgt : Nat) (hd : decode (ac_cc g) pc = .ok (.ifCond .lt off, 3)) (ht : (pc : Int) + off = (tgt : Int)) (kt : (x < 0) → ac_G g tgt L S h k z) (kf : ¬ (x < 0) → ac_G g (pc + 3) L S h k z) : ac_G g pc L (.int x :: S) h k z := by
  intro p e R s m args below meth c D dA A σ0 Qf C σ H locs ls hW hL hS hl
  obtain ⟨⟨hx, hb, hml, hown, hnm, hts, htb⟩, ⟨hK, hX, hA, hR⟩, hend, hsc⟩ := id C
  exact lv_if_lt (tgt := tgt) hx hb hd ht (fun q => kt q p e R s m args below meth c D dA A σ0 Qf C σ H locs ls hW hL (ac_oku hS).2 hl) (fun q => kf q p e R s m args below meth c D dA A σ0 Qf C σ H locs ls hW hL (ac_oku hS).2 hl)
theorem r_icmp_lt {g : ac_P} {pc : Nat} {L : List (Nat × Value)} {S : List Value} {h : ac_H} {k z : Nat} {x y : Int32} {off : Int} (tgt : Nat) (hd : decode (ac_cc g) pc = .ok (.if_icmp .lt off, 3)) (ht : (pc : Int) + off = (tgt : Int)) (kt : (x < y) → ac_G g tgt L S h k z) (kf : ¬ (x < y) → ac_G g (pc + 3) L S h k z) : ac_G g pc L (.int y :: .int x :: S) h k z := by
  intro p e R s m args below meth c D dA A σ0 Qf C σ H locs ls hW hL hS hl
  obtain ⟨⟨hx, hb, hml, hown, hnm, hts, htb⟩, ⟨hK, hX, hA, hR⟩, hend, hsc⟩ := id C
  exact lv_icmp_lt (tgt := tgt) hx hb hd ht (fun q => kt q p e R s m args below meth c D dA A σ0 Qf C σ H locs ls hW hL (ac_oku (ac_oku hS).2).2 hl) (fun q => kf q p e R s m args below meth c D dA A σ0 Qf C σ H locs ls hW hL (ac_oku (ac_oku hS).2).2 hl)
theorem r_if_ge {g : ac_P} {pc : Nat} {L : List (Nat × Value)} {S : List Value} {h : ac_H} {k z : Nat} {x : Int32} {off : Int} (tgt : Nat) (hd : decode (ac_cc g) pc = .ok (.ifCond .ge off, 3)) (ht : (pc : Int) + off = (tgt : Int)) (kt : (0 ≤ x) → ac_G g tgt L S h k z) (kf : ¬ (0 ≤ x) → ac_G g (pc + 3) L S h k z) : ac_G g pc L (.int x :: S) h k z := by
  intro p e R s m args below meth c D dA A σ0 Qf C σ H locs ls hW hL hS hl
  obtain ⟨⟨hx, hb, hml, hown, hnm, hts, htb⟩, ⟨hK, hX, hA, hR⟩, hend, hsc⟩ := id C
  exact lv_if_ge (tgt := tgt) hx hb hd ht (fun q => kt q p e R s m args below meth c D dA A σ0 Qf C σ H locs ls hW hL (ac_oku hS).2 hl) (fun q => kf q p e R s m args below meth c D dA A σ0 Qf C σ H locs ls hW hL (ac_oku hS).2 hl)
theorem r_icmp_ge {g : ac_P} {pc : Nat} {L : List (Nat × Value)} {S : List Value} {h : ac_H} {k z : Nat} {x y : Int32} {off : Int} (tgt : Nat) (hd : decode (ac_cc g) pc = .ok (.if_icmp .ge off, 3)) (ht : (pc : Int) + off = (tgt : Int)) (kt : (y ≤ x) → ac_G g tgt L S h k z) (kf : ¬ (y ≤ x) → ac_G g (pc + 3) L S h k z) : ac_G g pc L (.int y :: .int x :: S) h k z := by
  intro p e R s m args below meth c D dA A σ0 Qf C σ H locs ls hW hL hS hl
  obtain ⟨⟨hx, hb, hml, hown, hnm, hts, htb⟩, ⟨hK, hX, hA, hR⟩, hend, hsc⟩ := id C
  exact lv_icmp_ge (tgt := tgt) hx hb hd ht (fun q => kt q p e R s m args below meth c D dA A σ0 Qf C σ H locs ls hW hL (ac_oku (ac_oku hS).2).2 hl) (fun q => kf q p e R s m args below meth c D dA A σ0 Qf C σ H locs ls hW hL (ac_oku (ac_oku hS).2).2 hl)
theorem r_if_gt {g : ac_P} {pc : Nat} {L : List (Nat × Value)} {S : List Value} {h : ac_H} {k z : Nat} {x : Int32} {off : Int} (tgt : Nat) (hd : decode (ac_cc g) pc = .ok (.ifCond .gt off, 3)) (ht : (pc : Int) + off = (tgt : Int)) (kt : (0 < x) → ac_G g tgt L S h k z) (kf : ¬ (0 < x) → ac_G g (pc + 3) L S h k z) : ac_G g pc L (.int x :: S) h k z := by
  intro p e R s m args below meth c D dA A σ0 Qf C σ H locs ls hW hL hS hl
  obtain ⟨⟨hx, hb, hml, hown, hnm, hts, htb⟩, ⟨hK, hX, hA, hR⟩, hend, hsc⟩ := id C
  exact lv_if_gt (tgt := tgt) hx hb hd ht (fun q => kt q p e R s m args below meth c D dA A σ0 Qf C σ H locs ls hW hL (ac_oku hS).2 hl) (fun q => kf q p e R s m args below meth c D dA A σ0 Qf C σ H locs ls hW hL (ac_oku hS).2 hl)
theorem r_icmp_gt {g : ac_P} {pc : Nat} {L : List (Nat × Value)} {S : List Value} {h : ac_H} {k z : Nat} {x y : Int32} {off : Int} (tgt : Nat) (hd : decode (ac_cc g) pc = .ok (.if_icmp .gt off, 3)) (ht : (pc : Int) + off = (tgt : Int)) (kt : (y < x) → ac_G g tgt L S h k z) (kf : ¬ (y < x) → ac_G g (pc + 3) L S h k z) : ac_G g pc L (.int y :: .int x :: S) h k z := by
  intro p e R s m args below meth c D dA A σ0 Qf C σ H locs ls hW hL hS hl
  obtain ⟨⟨hx, hb, hml, hown, hnm, hts, htb⟩, ⟨hK, hX, hA, hR⟩, hend, hsc⟩ := id C
  exact lv_icmp_gt (tgt := tgt) hx hb hd ht (fun q => kt q p e R s m args below meth c D dA A σ0 Qf C σ H locs ls hW hL (ac_oku (ac_oku hS).2).2 hl) (fun q => kf q p e R s m args below meth c D dA A σ0 Qf C σ H locs ls hW hL (ac_oku (ac_oku hS).2).2 hl)
theorem r_if_le {g : ac_P} {pc : Nat} {L : List (Nat × Value)} {S : List Value} {h : ac_H} {k z : Nat} {x : Int32} {off : Int} (tgt : Nat) (hd : decode (ac_cc g) pc = .ok (.ifCond .le off, 3)) (ht : (pc : Int) + off = (tgt : Int)) (kt : (x ≤ 0) → ac_G g tgt L S h k z) (kf : ¬ (x ≤ 0) → ac_G g (pc + 3) L S h k z) : ac_G g pc L (.int x :: S) h k z := by
  intro p e R s m args below meth c D dA A σ0 Qf C σ H locs ls hW hL hS hl
  obtain ⟨⟨hx, hb, hml, hown, hnm, hts, htb⟩, ⟨hK, hX, hA, hR⟩, hend, hsc⟩ := id C
  exact lv_if_le (tgt := tgt) hx hb hd ht (fun q => kt q p e R s m args below meth c D dA A σ0 Qf C σ H locs ls hW hL (ac_oku hS).2 hl) (fun q => kf q p e R s m args below meth c D dA A σ0 Qf C σ H locs ls hW hL (ac_oku hS).2 hl)
theorem r_icmp_le {g : ac_P} {pc : Nat} {L : List (Nat × Value)} {S : List Value} {h : ac_H} {k z : Nat} {x y : Int32} {off : Int} (tgt : Nat) (hd : decode (ac_cc g) pc = .ok (.if_icmp .le off, 3)) (ht : (pc : Int) + off = (tgt : Int)) (kt : (x ≤ y) → ac_G g tgt L S h k z) (kf : ¬ (x ≤ y) → ac_G g (pc + 3) L S h k z) : ac_G g pc L (.int y :: .int x :: S) h k z := by
  intro p e R s m args below meth c D dA A σ0 Qf C σ H locs ls hW hL hS hl
  obtain ⟨⟨hx, hb, hml, hown, hnm, hts, htb⟩, ⟨hK, hX, hA, hR⟩, hend, hsc⟩ := id C
  exact lv_icmp_le (tgt := tgt) hx hb hd ht (fun q => kt q p e R s m args below meth c D dA A σ0 Qf C σ H locs ls hW hL (ac_oku (ac_oku hS).2).2 hl) (fun q => kf q p e R s m args below meth c D dA A σ0 Qf C σ H locs ls hW hL (ac_oku (ac_oku hS).2).2 hl)
theorem r_if_ne {g : ac_P} {pc : Nat} {L : List (Nat × Value)} {S : List Value} {h : ac_H} {k z : Nat} {x : Int32} {off : Int} (tgt : Nat) (hd : decode (ac_cc g) pc = .ok (.ifCond .ne off, 3)) (ht : (pc : Int) + off = (tgt : Int)) (kt : ¬ (x = 0) → ac_G g tgt L S h k z) (kf : (x = 0) → ac_G g (pc + 3) L S h k z) : ac_G g pc L (.int x :: S) h k z := by
  intro p e R s m args below meth c D dA A σ0 Qf C σ H locs ls hW hL hS hl
  obtain ⟨⟨hx, hb, hml, hown, hnm, hts, htb⟩, ⟨hK, hX, hA, hR⟩, hend, hsc⟩ := id C
  exact lv_if_ne (tgt := tgt) hx hb hd ht (fun q => kt q p e R s m args below meth c D dA A σ0 Qf C σ H locs ls hW hL (ac_oku hS).2 hl) (fun q => kf q p e R s m args below meth c D dA A σ0 Qf C σ H locs ls hW hL (ac_oku hS).2 hl)
theorem r_icmp_ne {g : ac_P} {pc : Nat} {L : List (Nat × Value)} {S : List Value} {h : ac_H} {k z : Nat} {x y : Int32} {off : Int} (tgt : Nat) (hd : decode (ac_cc g) pc = .ok (.if_icmp .ne off, 3)) (ht : (pc : Int) + off = (tgt : Int)) (kt : ¬ (x = y) → ac_G g tgt L S h k z) (kf : (x = y) → ac_G g (pc + 3) L S h k z) : ac_G g pc L (.int y :: .int x :: S) h k z := by
  intro p e R s m args below meth c D dA A σ0 Qf C σ H locs ls hW hL hS hl
  obtain ⟨⟨hx, hb, hml, hown, hnm, hts, htb⟩, ⟨hK, hX, hA, hR⟩, hend, hsc⟩ := id C
  exact lv_icmp_ne (tgt := tgt) hx hb hd ht (fun q => kt q p e R s m args below meth c D dA A σ0 Qf C σ H locs ls hW hL (ac_oku (ac_oku hS).2).2 hl) (fun q => kf q p e R s m args below meth c D dA A σ0 Qf C σ H locs ls hW hL (ac_oku (ac_oku hS).2).2 hl)
theorem r_goto {g : ac_P} {pc : Nat} {L : List (Nat × Value)} {S : List Value} {h : ac_H} {k z : Nat} {off : Int} (tgt : Nat) (hd : decode (ac_cc g) pc = .ok (.goto off, 3)) (ht : (pc : Int) + off = (tgt : Int)) (kk : ac_G g tgt L S h k z) : ac_G g pc L S h k z := by
  intro p e R s m args below meth c D dA A σ0 Qf C σ H locs ls hW hL hS hl
  obtain ⟨⟨hx, hb, hml, hown, hnm, hts, htb⟩, ⟨hK, hX, hA, hR⟩, hend, hsc⟩ := id C
  exact lv_goto (tgt := tgt) hx hb hd ht (kk p e R s m args below meth c D dA A σ0 Qf C σ H locs ls hW hL hS hl)
theorem r_tableIn {g : ac_P} {pc : Nat} {L : List (Nat × Value)} {S : List Value} {h : ac_H} {k z : Nat} {dflt lo hi : Int} {offs : Array Int} {len : Nat} {x : Int32} {off : Int} (tgt : Nat) (hd : decode (ac_cc g) pc = .ok (.tableswitch dflt lo hi offs, len)) (h1 : ¬ x.toInt < lo) (h2 : ¬ hi < x.toInt) (ho : offs[(x.toInt - lo).toNat]? = some off) (ht : (pc : Int) + off = (tgt : Int)) (kk : ac_G g tgt L S h k z) : ac_G g pc L (.int x :: S) h k z := by
  intro p e R s m args below meth c D dA A σ0 Qf C σ H locs ls hW hL hS hl
  obtain ⟨⟨hx, hb, hml, hown, hnm, hts, htb⟩, ⟨hK, hX, hA, hR⟩, hend, hsc⟩ := id C
  exact lv_tableIn (tgt := tgt) hx hb hd h1 h2 ho ht (kk p e R s m args below meth c D dA A σ0 Qf C σ H locs ls hW hL (ac_oku hS).2 hl)
theorem r_tableOut {g : ac_P} {pc : Nat} {L : List (Nat × Value)} {S : List Value} {h : ac_H} {k z : Nat} {dflt lo hi : Int} {offs : Array Int} {len : Nat} {x : Int32} (tgt : Nat) (hd : decode (ac_cc g) pc = .ok (.tableswitch dflt lo hi offs, len)) (h1 : x.toInt < lo ∨ hi < x.toInt) (ht : (pc : Int) + dflt = (tgt : Int)) (kk : ac_G g tgt L S h k z) : ac_G g pc L (.int x :: S) h k z := by
  intro p e R s m args below meth c D dA A σ0 Qf C σ H locs ls hW hL hS hl
  obtain ⟨⟨hx, hb, hml, hown, hnm, hts, htb⟩, ⟨hK, hX, hA, hR⟩, hend, hsc⟩ := id C
  exact lv_tableOut (tgt := tgt) hx hb hd h1 ht (kk p e R s m args below meth c D dA A σ0 Qf C σ H locs ls hW hL (ac_oku hS).2 hl)
/-- fewer locals, in another order -/
theorem r_loc {g : ac_P} {pc : Nat} {L : List (Nat × Value)} {S : List Value} {h : ac_H} {k z : Nat} (L' : List (Nat × Value)) (hp : ∀ q ∈ L', ac_get L q.1 = some q.2) (kk : ac_G g pc L' S h k z) : ac_G g pc L S h k z := by
  intro p e R s m args below meth c D dA A σ0 Qf C σ H locs ls hW hL hS hl
  obtain ⟨⟨hx, hb, hml, hown, hnm, hts, htb⟩, ⟨hK, hX, hA, hR⟩, hend, hsc⟩ := id C
  exact kk p e R s m args below meth c D dA A σ0 Qf C σ H locs ls hW (fun q hq => hL q (ac_get_mem (hp q hq))) hS ⟨hl.1, hl.2.1, fun q hq => by
    obtain ⟨q', hq', rfl⟩ := List.mem_map.mp hq
    exact ac_look hl (hp q' hq')⟩
theorem r_widen {g : ac_P} {pc : Nat} {L : List (Nat × Value)} {S : List Value} {h : ac_H} {k z : Nat} (k' z' : Nat) (h1 : k ≤ k') (h2 : z ≤ z') (kk : ac_G g pc L S h k' z') : ac_G g pc L S h k z := by
  intro p e R s m args below meth c D dA A σ0 Qf C σ H locs ls hW hL hS hl
  obtain ⟨⟨hx, hb, hml, hown, hnm, hts, htb⟩, ⟨hK, hX, hA, hR⟩, hend, hsc⟩ := id C
  exact W.widen h1 h2 (kk p e R s m args below meth c D dA A σ0 Qf C σ H locs ls hW hL hS hl)
/-- the method goes back -/
theorem r_back {g : ac_P} {pc : Nat} {L : List (Nat × Value)} {S : List Value} {h : ac_H} {k z : Nat} (r : Option Value) (hr : S = r.toList) (hp : ac_ph g (.inl r) h) (h1 : k ≤ ac_mc g) (h2 : z ≤ ac_ms g) (hb9 : ac_back g pc r) : ac_G g pc L S h k z := by
  intro p e R s m args below meth c D dA A σ0 Qf C σ H locs ls hW hL hS hl
  obtain ⟨⟨hx, hb, hml, hown, hnm, hts, htb⟩, ⟨hK, hX, hA, hR⟩, hend, hsc⟩ := id C
  subst hr
  exact hend.1 σ h H locs k z r pc ls hW hp h1 h2 hS hb9
theorem r_iret {g : ac_P} {pc : Nat} {L : List (Nat × Value)} {S : List Value} {h : ac_H} {k z : Nat} {v : Int32} (hd : decode (ac_cc g) pc = .ok (.ireturn, 1)) (hr : ac_rt g = some .int) (hp : ac_ph g (.inl (some (.int v))) h) (h1 : k ≤ ac_mc g) (h2 : z ≤ ac_ms g) : ac_G g pc L [.int v] h k z := r_back (some (.int v)) rfl hp h1 h2 (Or.inl ⟨v, rfl, hd, .int, hr, rfl⟩)
theorem r_zret {g : ac_P} {pc : Nat} {L : List (Nat × Value)} {S : List Value} {h : ac_H} {k z : Nat} {v : Int32} (hd : decode (ac_cc g) pc = .ok (.ireturn, 1)) (hr : ac_rt g = some .boolean) (hv : v = 0 ∨ v = 1) (hp : ac_ph g (.inl (some (.int v))) h) (h1 : k ≤ ac_mc g) (h2 : z ≤ ac_ms g) : ac_G g pc L [.int v] h k z := r_back (some (.int v)) rfl hp h1 h2 (Or.inl ⟨v, rfl, hd, .boolean, hr, by rcases hv with e | e <;> rw [e] <;> rfl⟩)
theorem r_aret {g : ac_P} {pc : Nat} {L : List (Nat × Value)} {S : List Value} {h : ac_H} {k z : Nat} {a : Nat} {n : String} (hd : decode (ac_cc g) pc = .ok (.areturn, 1)) (hr : ac_rt g = some (.object n)) (hp : ac_ph g (.inl (some (.ref a))) h) (h1 : k ≤ ac_mc g) (h2 : z ≤ ac_ms g) : ac_G g pc L [.ref a] h k z := r_back (some (.ref a)) rfl hp h1 h2 (Or.inr (Or.inl ⟨a, n, rfl, hd, hr⟩))
theorem r_aretA {g : ac_P} {pc : Nat} {L : List (Nat × Value)} {S : List Value} {h : ac_H} {k z : Nat} {a : Nat} {t : FieldType} (hd : decode (ac_cc g) pc = .ok (.areturn, 1)) (hr : ac_rt g = some (.array t)) (hp : ac_ph g (.inl (some (.ref a))) h) (h1 : k ≤ ac_mc g) (h2 : z ≤ ac_ms g) : ac_G g pc L [.ref a] h k z := r_back (some (.ref a)) rfl hp h1 h2 (Or.inr (Or.inr (Or.inl ⟨a, t, rfl, hd, hr⟩)))
theorem r_vret {g : ac_P} {pc : Nat} {L : List (Nat × Value)} {S : List Value} {h : ac_H} {k z : Nat} (hd : decode (ac_cc g) pc = .ok (.return_, 1)) (hr : ac_rt g = none) (hp : ac_ph g (.inl none) h) (h1 : k ≤ ac_mc g) (h2 : z ≤ ac_ms g) : ac_G g pc L [] h k z := r_back none rfl hp h1 h2 (Or.inr (Or.inr (Or.inr ⟨rfl, hd, hr⟩)))
theorem r_throw {g : ac_P} {pc : Nat} {L : List (Nat × Value)} {S : List Value} {h : ac_H} {k z : Nat} (E : String) (ht : ac_thr g pc E) (hh : ac_hh g = []) (hp : ac_ph g (.inr E) h) (h1 : k + 1 ≤ ac_mc g) (h2 : z + 6 ≤ ac_ms g) (hs : (S.map fun v => v.category).sum ≤ 8) : ac_G g pc L S h k z := by
  intro p e R s m args below meth c D dA A σ0 Qf C σ H locs ls hW hL hS hl
  obtain ⟨⟨hx, hb, hml, hown, hnm, hts, htb⟩, ⟨hK, hX, hA, hR⟩, hend, hsc⟩ := id C
  exact hend.2.2 σ h H locs k z E pc ls (S.map (ac_v σ)) hW hp h1 h2 hl.1 (by rw [ac_cats]; exact hs) hh ht
/-- a field: own text's number idx names field j of the objects of kind ci -/
def ac_F (own : String) (idx ci j : Nat) (ty : FieldType) (fin : Bool) : Prop := ∃ (C : String) (T : u_T) (N : Nat) (ty0 : Nat → FieldType), ac_cl[ci]? = some (C, T, N) ∧ (∀ w ∈ u_ws C T N, w ∈ ac_U) ∧ j < N ∧ Cond.fieldLink own idx (T j).1 (T j).2.1 (T j).2.2.1 ∈ ac_U ∧ (T j).2.2.2 = fin ∧ parseFieldDescriptor (T j).2.2.1 = some ty ∧ (∀ i, i < N → parseFieldDescriptor (T i).2.2.1 = some (ty0 i)) ∧ (∀ a, a < N → ∀ b, b < N → a ≠ b → (T a).2.1 ≠ (T b).2.1) ∧ (fin = true → (T j).1 = own)
theorem ac_w_obj {σ : ac_A} {dA : Nat → ClassId} {h : ac_H} {i ci : Nat} {fs : List Value} (he : h[i]? = some (.inr (ci, fs))) : (ac_w σ dA h)[i]? = some (σ.2 i, .inr (ci, fs.map (ac_v σ))) := ac_w_at he
theorem ac_w_ints {σ : ac_A} {dA : Nat → ClassId} {h : ac_H} {i n : Nat} {f : Nat → Int32} (he : h[i]? = some (.inl (.inl (n, f)))) : (ac_w σ dA h)[i]? = some (σ.2 i, .inl (dA 0, n, .inl f)) := ac_w_at he
theorem ac_w_longs {σ : ac_A} {dA : Nat → ClassId} {h : ac_H} {i n : Nat} {f : Nat → Int64} (he : h[i]? = some (.inl (.inr (.inl (n, f))))) : (ac_w σ dA h)[i]? = some (σ.2 i, .inl (dA 1, n, .inr (.inl f))) := ac_w_at he
theorem ac_w_refs {σ : ac_A} {dA : Nat → ClassId} {h : ac_H} {i n kd : Nat} {f : Nat → Option Nat} (he : h[i]? = some (.inl (.inr (.inr (kd, n, f))))) : (ac_w σ dA h)[i]? = some (σ.2 i, .inl (dA (kd + 2), n, .inr (.inr (.inr (.inr (fun j => (f j).map σ.2)))))) := ac_w_at he
/-- the same world, but for one cell -/
theorem ac_Wd.put {D : va_G} {dA : Nat → ClassId} {A : Nat → Prop} {s : State} {n0 : Nat} {σ0 σ : ac_A} {h : ac_H} {H H1 : Heap} {locs locs1 : List Loc} (hW : ac_Wd D dA A s n0 σ0 σ h H locs) {a : Nat} {e : ac_E} {e' : va_E} (he : ac_c σ dA e = e') (ho : ac_okE h.length e) (hP : va_P D ac_cl ((ac_w σ dA h).set a (σ.2 a, e')) H1) (hD : va_D A ((ac_w σ dA h).set a (σ.2 a, e'))) (hS : va_S A s.heap H1 locs1) : ac_Wd D dA A s n0 σ0 σ (h.set a e) H1 locs1 := by
  obtain ⟨w1, w2, w3, -, -, -⟩ := hW
  subst he
  exact ⟨ac_okH_set w1 ho, by rw [List.length_set]; exact w2, w3, by rw [ac_w_set]; exact hP, by rw [ac_w_set]; exact hD, hS⟩
theorem r_getfield {g : ac_P} {pc : Nat} {L : List (Nat × Value)} {S : List Value} {h : ac_H} {k z : Nat} {a idx ci j : Nat} {ty : FieldType} {fin : Bool} {fs : List Value} {v : Value} (hd : decode (ac_cc g) pc = .ok (.getfield idx, 3)) (hf : ac_F (ac_y g).cls idx ci j ty fin) (hh : h[a]? = some (.inr (ci, fs))) (hv : fs[j]? = some v) (kk : ac_G g (pc + 3) L (v :: S) h k z) : ac_G g pc L (.ref a :: S) h k z := by
  intro p e R s m args below meth c D dA A σ0 Qf C σ H locs ls hW hL hS hl
  obtain ⟨⟨hx, hb, hml, hown, hnm, hts, htb⟩, ⟨hK, hX, hA, hR⟩, hend, hsc⟩ := id C
  obtain ⟨w1, w2, w3, hP, hD, hSS⟩ := id hW
  obtain ⟨C9, T, N, ty0, f1, f2, f3, f4, f5, f6, f7, f8, f9⟩ := hf
  exact va_get (D := D) (C := C9) (T := T) (N := N) hx hb hts f2 hown hK hP a (ac_w_obj hh) f1 j f3 (hts _ f4) (fun _ q => q) (by rw [List.getElem?_map, hv]; rfl) hd (kk p e R s m args below meth c D dA A σ0 Qf C σ H locs ls hW hL (ac_okc (w1 a _ hh v (List.mem_of_getElem? hv)) (ac_oku hS).2) hl)
theorem r_putfield {g : ac_P} {pc : Nat} {L : List (Nat × Value)} {S : List Value} {h : ac_H} {k z : Nat} {a idx ci j : Nat} {ty : FieldType} {fs : List Value} {v : Value} (hd : decode (ac_cc g) pc = .ok (.putfield idx, 3)) (hf : ac_F (ac_y g).cls idx ci j ty false) (hh : h[a]? = some (.inr (ci, fs))) (hj : j < fs.length) (hn : ∀ σ, narrow ty (ac_v σ v) = ac_v σ v) (hfit : ∀ σ, fits ty (ac_v σ v) = true) (kk : ac_G g (pc + 3) L S (h.set a (.inr (ci, fs.set j v))) k z) : ac_G g pc L (v :: .ref a :: S) h k z := by
  intro p e R s m args below meth c D dA A σ0 Qf C σ H locs ls hW hL hS hl
  obtain ⟨⟨hx, hb, hml, hown, hnm, hts, htb⟩, ⟨hK, hX, hA, hR⟩, hend, hsc⟩ := id C
  obtain ⟨w1, w2, w3, hP, hD, hSS⟩ := id hW
  obtain ⟨C9, T, N, ty0, f1, f2, f3, f4, f5, f6, f7, f8, f9⟩ := hf
  have ho : ac_okE h.length (.inr (ci, fs.set j v)) := fun x hx9 => by
    rcases List.mem_or_eq_of_mem_set hx9 with q | q
    · exact w1 a _ hh x q
    · rw [q]; exact (ac_oku hS).1
  exact va_put (D := D) (C := C9) (T := T) (N := N) hx hb hts f2 ty0 f7 f8 hown hK hP hD hSS a (ac_w_obj hh) f1 j f3 (hts _ f4) (fun _ q => q) f5 f6 (hn σ) (hfit σ) (by rw [List.length_map]; exact hj) hd (fun H1 locs1 hP1 hD1 hS1 => kk p e R s m args below meth c D dA A σ0 Qf C σ H1 locs1 ls (hW.put (e := .inr (ci, fs.set j v)) (by simp only [ac_c, List.map_set]) ho hP1 hD1 hS1) (by rw [List.length_set]; exact hL) (by rw [List.length_set]; exact (ac_oku (ac_oku hS).2).2) hl)
theorem r_putfieldF {g : ac_P} {pc : Nat} {L : List (Nat × Value)} {S : List Value} {h : ac_H} {k z : Nat} {a idx ci j : Nat} {ty : FieldType} {fs : List Value} {v : Value} (hd : decode (ac_cc g) pc = .ok (.putfield idx, 3)) (hf : ac_F (ac_y g).cls idx ci j ty true) (hh : h[a]? = some (.inr (ci, fs))) (hj : j < fs.length) (hn : ∀ σ, narrow ty (ac_v σ v) = ac_v σ v) (hfit : ∀ σ, fits ty (ac_v σ v) = true) (hin9 : (ac_y g).name = "<init>") (kk : ac_G g (pc + 3) L S (h.set a (.inr (ci, fs.set j v))) k z) : ac_G g pc L (v :: .ref a :: S) h k z := by
  intro p e R s m args below meth c D dA A σ0 Qf C σ H locs ls hW hL hS hl
  obtain ⟨⟨hx, hb, hml, hown, hnm, hts, htb⟩, ⟨hK, hX, hA, hR⟩, hend, hsc⟩ := id C
  obtain ⟨w1, w2, w3, hP, hD, hSS⟩ := id hW
  obtain ⟨C9, T, N, ty0, f1, f2, f3, f4, f5, f6, f7, f8, f9⟩ := hf
  have ho : ac_okE h.length (.inr (ci, fs.set j v)) := fun x hx9 => by
    rcases List.mem_or_eq_of_mem_set hx9 with q | q
    · exact w1 a _ hh x q
    · rw [q]; exact (ac_oku hS).1
  exact va_putF (D := D) (C := C9) (T := T) (N := N) hx hb hts f2 ty0 f7 f8 hown hK hP hD hSS a (ac_w_obj hh) f1 j f3 (hts _ f4) (fun _ q => q) f5 (hnm.trans hin9) (f9 rfl) f6 (hn σ) (hfit σ) (by rw [List.length_map]; exact hj) hd (fun H1 locs1 hP1 hD1 hS1 => kk p e R s m args below meth c D dA A σ0 Qf C σ H1 locs1 ls (hW.put (e := .inr (ci, fs.set j v)) (by simp only [ac_c, List.map_set]) ho hP1 hD1 hS1) (by rw [List.length_set]; exact hL) (by rw [List.length_set]; exact (ac_oku (ac_oku hS).2).2) hl)
theorem r_iaload {g : ac_P} {pc : Nat} {L : List (Nat × Value)} {S : List Value} {h : ac_H} {k z : Nat} {a n : Nat} {f : Nat → Int32} {i : Int32} (hd : decode (ac_cc g) pc = .ok (.iaload, 1)) (hh : h[a]? = some (.inl (.inl (n, f)))) (hin : vp_in i n) (kk : ac_G g (pc + 1) L (.int (f i.toNatClampNeg) :: S) h k z) : ac_G g pc L (.int i :: .ref a :: S) h k z := by
  intro p e R s m args below meth c D dA A σ0 Qf C σ H locs ls hW hL hS hl
  obtain ⟨⟨hx, hb, hml, hown, hnm, hts, htb⟩, ⟨hK, hX, hA, hR⟩, hend, hsc⟩ := id C
  obtain ⟨w1, w2, w3, hP, hD, hSS⟩ := id hW
  exact va_iald hx hb hK hP a 0 (ac_w_ints hh) rfl hin hd (kk p e R s m args below meth c D dA A σ0 Qf C σ H locs ls hW hL (ac_okc ac_ok_int (ac_oku (ac_oku hS).2).2) hl)
theorem r_laload {g : ac_P} {pc : Nat} {L : List (Nat × Value)} {S : List Value} {h : ac_H} {k z : Nat} {a n : Nat} {f : Nat → Int64} {i : Int32} (hd : decode (ac_cc g) pc = .ok (.laload, 1)) (hh : h[a]? = some (.inl (.inr (.inl (n, f))))) (hin : vp_in i n) (kk : ac_G g (pc + 1) L (.long (f i.toNatClampNeg) :: S) h k z) : ac_G g pc L (.int i :: .ref a :: S) h k z := by
  intro p e R s m args below meth c D dA A σ0 Qf C σ H locs ls hW hL hS hl
  obtain ⟨⟨hx, hb, hml, hown, hnm, hts, htb⟩, ⟨hK, hX, hA, hR⟩, hend, hsc⟩ := id C
  obtain ⟨w1, w2, w3, hP, hD, hSS⟩ := id hW
  exact va_lald hx hb hK hP a 1 (ac_w_longs hh) rfl hin hd (kk p e R s m args below meth c D dA A σ0 Qf C σ H locs ls hW hL (ac_okc ac_ok_long (ac_oku (ac_oku hS).2).2) hl)
theorem r_iastore {g : ac_P} {pc : Nat} {L : List (Nat × Value)} {S : List Value} {h : ac_H} {k z : Nat} {a n : Nat} {f : Nat → Int32} {i x : Int32} (hd : decode (ac_cc g) pc = .ok (.iastore, 1)) (hh : h[a]? = some (.inl (.inl (n, f)))) (hin : vp_in i n) (kk : ac_G g (pc + 1) L S (h.set a (.inl (.inl (n, upd f i.toNatClampNeg x)))) k z) : ac_G g pc L (.int x :: .int i :: .ref a :: S) h k z := by
  intro p e R s m args below meth c D dA A σ0 Qf C σ H locs ls hW hL hS hl
  obtain ⟨⟨hx, hb, hml, hown, hnm, hts, htb⟩, ⟨hK, hX, hA, hR⟩, hend, hsc⟩ := id C
  obtain ⟨w1, w2, w3, hP, hD, hSS⟩ := id hW
  exact va_iast hx hb hK hP hD hSS a 0 (ac_w_ints hh) rfl hin hd (fun H1 locs1 hP1 hD1 hS1 => kk p e R s m args below meth c D dA A σ0 Qf C σ H1 locs1 ls (hW.put (e := .inl (.inl (n, upd f i.toNatClampNeg x))) rfl trivial hP1 hD1 hS1) (by rw [List.length_set]; exact hL) (by rw [List.length_set]; exact (ac_oku (ac_oku (ac_oku hS).2).2).2) hl)
theorem r_lastore {g : ac_P} {pc : Nat} {L : List (Nat × Value)} {S : List Value} {h : ac_H} {k z : Nat} {a n : Nat} {f : Nat → Int64} {i : Int32} {x : Int64} (hd : decode (ac_cc g) pc = .ok (.lastore, 1)) (hh : h[a]? = some (.inl (.inr (.inl (n, f))))) (hin : vp_in i n) (kk : ac_G g (pc + 1) L S (h.set a (.inl (.inr (.inl (n, vp_updL f i.toNatClampNeg x))))) k z) : ac_G g pc L (.long x :: .int i :: .ref a :: S) h k z := by
  intro p e R s m args below meth c D dA A σ0 Qf C σ H locs ls hW hL hS hl
  obtain ⟨⟨hx, hb, hml, hown, hnm, hts, htb⟩, ⟨hK, hX, hA, hR⟩, hend, hsc⟩ := id C
  obtain ⟨w1, w2, w3, hP, hD, hSS⟩ := id hW
  exact va_last hx hb hK hP hD hSS a 1 (ac_w_longs hh) rfl hin hd (fun H1 locs1 hP1 hD1 hS1 => kk p e R s m args below meth c D dA A σ0 Qf C σ H1 locs1 ls (hW.put (e := .inl (.inr (.inl (n, vp_updL f i.toNatClampNeg x)))) rfl trivial hP1 hD1 hS1) (by rw [List.length_set]; exact hL) (by rw [List.length_set]; exact (ac_oku (ac_oku (ac_oku hS).2).2).2) hl)
theorem r_aaload {g : ac_P} {pc : Nat} {L : List (Nat × Value)} {S : List Value} {h : ac_H} {k z : Nat} {a n kd b : Nat} {C9 : String} {f : Nat → Option Nat} {i : Int32} (hd : decode (ac_cc g) pc = .ok (.aaload, 1)) (hh : h[a]? = some (.inl (.inr (.inr (kd, n, f))))) (hk9 : ac_kn[kd]? = some C9) (hin : vp_in i n) (hf : f i.toNatClampNeg = some b) (kk : ac_G g (pc + 1) L (.ref b :: S) h k z) : ac_G g pc L (.int i :: .ref a :: S) h k z := by
  intro p e R s m args below meth c D dA A σ0 Qf C σ H locs ls hW hL hS hl
  obtain ⟨⟨hx, hb, hml, hown, hnm, hts, htb⟩, ⟨hK, hX, hA, hR⟩, hend, hsc⟩ := id C
  obtain ⟨w1, w2, w3, hP, hD, hSS⟩ := id hW
  refine va_aldq hx hb hK hP a (kd + 2) (ac_w_refs hh) (ac_tys_k hk9) hin hd ?_
  have e9 : va_rf ((fun j => (f j).map σ.2) i.toNatClampNeg) = .ref (σ.2 b) := by
    show va_rf ((f i.toNatClampNeg).map σ.2) = _
    rw [hf]; rfl
  rw [e9]
  exact kk p e R s m args below meth c D dA A σ0 Qf C σ H locs ls hW hL (ac_okc (ac_ok_ref (w1 a _ hh _ _ hf)) (ac_oku (ac_oku hS).2).2) hl
theorem r_aastore {g : ac_P} {pc : Nat} {L : List (Nat × Value)} {S : List Value} {h : ac_H} {k z : Nat} {a n kd b ci : Nat} {r9 : vw_C} {f : Nat → Option Nat} {i : Int32} {fs : List Value} (hd : decode (ac_cc g) pc = .ok (.aastore, 1)) (hh : h[a]? = some (.inl (.inr (.inr (kd, n, f))))) (hb9 : h[b]? = some (.inr (ci, fs))) (hc9 : ac_cl[ci]? = some r9) (hk9 : ac_kn[kd]? = some r9.1) (hin : vp_in i n) (kk : ac_G g (pc + 1) L S (h.set a (.inl (.inr (.inr (kd, n, va_up f i.toNatClampNeg (some b)))))) k z) : ac_G g pc L (.ref b :: .int i :: .ref a :: S) h k z := by
  intro p e R s m args below meth c D dA A σ0 Qf C σ H locs ls hW hL hS hl
  obtain ⟨⟨hx, hb, hml, hown, hnm, hts, htb⟩, ⟨hK, hX, hA, hR⟩, hend, hsc⟩ := id C
  obtain ⟨w1, w2, w3, hP, hD, hSS⟩ := id hW
  have e9 : va_up (fun j => (f j).map σ.2) i.toNatClampNeg (some (σ.2 b)) = fun j => (va_up f i.toNatClampNeg (some b) j).map σ.2 := by
    funext j
    unfold va_up
    by_cases q : j = i.toNatClampNeg
    · rw [if_pos q, if_pos q]; rfl
    · rw [if_neg q, if_neg q]
  have ho : ac_okE h.length (.inl (.inr (.inr (kd, n, va_up f i.toNatClampNeg (some b))))) := fun j x hj => by
    unfold va_up at hj
    by_cases q : j = i.toNatClampNeg
    · rw [if_pos q] at hj
      cases hj
      exact ac_lt hb9
    · rw [if_neg q] at hj
      exact w1 a _ hh j x hj
  exact va_astq hx hb hK hP hD hSS a (kd + 2) b ci (ac_w_refs hh) (ac_tys_k hk9) (ac_w_obj hb9) hc9 hin hd (fun H1 locs1 hP1 hD1 hS1 => kk p e R s m args below meth c D dA A σ0 Qf C σ H1 locs1 ls (hW.put (e := .inl (.inr (.inr (kd, n, va_up f i.toNatClampNeg (some b))))) (by rw [e9]; rfl) ho hP1 hD1 hS1) (by rw [List.length_set]; exact hL) (by rw [List.length_set]; exact (ac_oku (ac_oku (ac_oku hS).2).2).2) hl)
theorem r_alenI {g : ac_P} {pc : Nat} {L : List (Nat × Value)} {S : List Value} {h : ac_H} {k z : Nat} {a n : Nat} {f : Nat → Int32} (hd : decode (ac_cc g) pc = .ok (.arraylength, 1)) (hh : h[a]? = some (.inl (.inl (n, f)))) (kk : ac_G g (pc + 1) L (.int (nI n) :: S) h k z) : ac_G g pc L (.ref a :: S) h k z := by
  intro p e R s m args below meth c D dA A σ0 Qf C σ H locs ls hW hL hS hl
  obtain ⟨⟨hx, hb, hml, hown, hnm, hts, htb⟩, ⟨hK, hX, hA, hR⟩, hend, hsc⟩ := id C
  obtain ⟨w1, w2, w3, hP, hD, hSS⟩ := id hW
  exact va_alen hx hb hK hP a 0 (ac_w_ints hh) (ty := .int) rfl (v := nI n) rfl hd (kk p e R s m args below meth c D dA A σ0 Qf C σ H locs ls hW hL (ac_okc ac_ok_int (ac_oku hS).2) hl)
theorem r_alenR {g : ac_P} {pc : Nat} {L : List (Nat × Value)} {S : List Value} {h : ac_H} {k z : Nat} {a n kd : Nat} {C9 : String} {f : Nat → Option Nat} (hd : decode (ac_cc g) pc = .ok (.arraylength, 1)) (hh : h[a]? = some (.inl (.inr (.inr (kd, n, f))))) (hk9 : ac_kn[kd]? = some C9) (kk : ac_G g (pc + 1) L (.int (nI n) :: S) h k z) : ac_G g pc L (.ref a :: S) h k z := by
  intro p e R s m args below meth c D dA A σ0 Qf C σ H locs ls hW hL hS hl
  obtain ⟨⟨hx, hb, hml, hown, hnm, hts, htb⟩, ⟨hK, hX, hA, hR⟩, hend, hsc⟩ := id C
  obtain ⟨w1, w2, w3, hP, hD, hSS⟩ := id hW
  exact va_alen hx hb hK hP a (kd + 2) (ac_w_refs hh) (ac_tys_k hk9) (v := nI n) rfl hd (kk p e R s m args below meth c D dA A σ0 Qf C σ H locs ls hW hL (ac_okc ac_ok_int (ac_oku hS).2) hl)
theorem r_sload {g : ac_P} {pc : Nat} {L : List (Nat × Value)} {S : List Value} {h : ac_H} {k z : Nat} {n q9 : Nat} {xs : Nat → Int32} {i : Int32} (hd : decode (ac_cc g) pc = .ok (.iaload, 1)) (hs9 : ac_sc g = some (n, xs)) (hin : vp_in i n) (kk : ac_G g (pc + 1) L (.int (xs i.toNatClampNeg) :: S) h k z) : ac_G g pc L (.int i :: .retAddr q9 :: S) h k z := by
  intro p e R s m args below meth c D dA A σ0 Qf C σ H locs ls hW hL hS hl
  obtain ⟨⟨hx, hb, hml, hown, hnm, hts, htb⟩, ⟨hK, hX, hA, hR⟩, hend, hsc⟩ := id C
  obtain ⟨w1, w2, w3, hP, hD, hSS⟩ := id hW
  obtain ⟨x1, x2, x3⟩ := hsc n xs hs9
  have e1 : σ.1 = σ0.1 := w3.1
  rw [← e1] at x1 x2 x3
  exact va_sld hx hb x1 x2 x3 hSS hin hd (kk p e R s m args below meth c D dA A σ0 Qf C σ H locs ls hW hL (ac_okc ac_ok_int (ac_oku (ac_oku hS).2).2) hl)
theorem r_slen {g : ac_P} {pc : Nat} {L : List (Nat × Value)} {S : List Value} {h : ac_H} {k z : Nat} {n q9 : Nat} {xs : Nat → Int32} (hd : decode (ac_cc g) pc = .ok (.arraylength, 1)) (hs9 : ac_sc g = some (n, xs)) (kk : ac_G g (pc + 1) L (.int (nI n) :: S) h k z) : ac_G g pc L (.retAddr q9 :: S) h k z := by
  intro p e R s m args below meth c D dA A σ0 Qf C σ H locs ls hW hL hS hl
  obtain ⟨⟨hx, hb, hml, hown, hnm, hts, htb⟩, ⟨hK, hX, hA, hR⟩, hend, hsc⟩ := id C
  obtain ⟨w1, w2, w3, hP, hD, hSS⟩ := id hW
  obtain ⟨x1, x2, x3⟩ := hsc n xs hs9
  have e1 : σ.1 = σ0.1 := w3.1
  rw [← e1] at x1 x2 x3
  exact va_slen hx hb x1 x2 x3 hSS hd (kk p e R s m args below meth c D dA A σ0 Qf C σ H locs ls hW hL (ac_okc ac_ok_int (ac_oku hS).2) hl)
/-- a cell more: the address map grows -/
theorem ac_Wd.more {D : va_G} {dA : Nat → ClassId} {A : Nat → Prop} {s : State} {n0 : Nat} {σ0 σ : ac_A} {h : ac_H} {H H1 : Heap} {locs locs1 : List Loc} (hW : ac_Wd D dA A s n0 σ0 σ h H locs) (q : Nat) {e : ac_E} {e' : va_E} (he : ∀ τ, ac_c τ dA e = e') (ho : ac_okE (h.length + 1) e) (hP : va_P D ac_cl (ac_w σ dA h ++ [(q, e')]) H1) (hD : va_D A (ac_w σ dA h ++ [(q, e')])) (hS : va_S A s.heap H1 locs1) :
    ac_ag h.length (σ.1, va_up σ.2 h.length q) σ ∧ ac_Wd D dA A s n0 σ0 (σ.1, va_up σ.2 h.length q) (h ++ [e]) H1 locs1 := by
  obtain ⟨w1, w2, w3, -, -, -⟩ := hW
  have ha : ac_ag h.length (σ.1, va_up σ.2 h.length q) σ := ⟨rfl, fun i hi => va_up_ne _ _ (Nat.ne_of_lt hi)⟩
  have e9 : ac_w (σ.1, va_up σ.2 h.length q) dA (h ++ [e]) = ac_w σ dA h ++ [(q, e')] := by
    rw [ac_w_push, ac_w_ag dA ha w1, he]
    show ac_w σ dA h ++ [(va_up σ.2 h.length q h.length, e')] = _
    rw [va_up_self]
  exact ⟨ha, ac_okH_push w1 ho, by rw [List.length_append]; exact Nat.le_trans w2 (Nat.le_add_right _ _), ac_ag_tr ha w3 w2, by rw [e9]; exact hP, by rw [e9]; exact hD, hS⟩
theorem ac_okL_mono {n m : Nat} {L : List (Nat × Value)} (h : ∀ q ∈ L, ac_ok n q.2) (hm : n ≤ m) : ∀ q ∈ L, ac_ok m q.2 := fun q hq => ac_ok_mono (h q hq) hm
theorem ac_okS_mono {n m : Nat} {S : List Value} (h : ∀ v ∈ S, ac_ok n v) (hm : n ≤ m) : ∀ v ∈ S, ac_ok m v := fun v hv => ac_ok_mono (h v hv) hm
theorem r_newarrayI {g : ac_P} {pc : Nat} {L : List (Nat × Value)} {S : List Value} {h : ac_H} {k z : Nat} {n : Nat} (hd : decode (ac_cc g) pc = .ok (.newarray .int, 2)) (hw9 : Cond.arrayClass .int ∈ ac_U) (hn : n < 1000000) (h1 : k + 1 ≤ ac_mc g) (h2 : z + n ≤ ac_ms g) (kk : ac_G g (pc + 2) L (.ref h.length :: S) (h ++ [.inl (.inl (n, fun _ => 0))]) (k + 1) (z + n)) : ac_G g pc L (.int (nI n) :: S) h k z := by
  intro p e R s m args below meth c D dA A σ0 Qf C σ H locs ls hW hL hS hl
  obtain ⟨⟨hx, hb, hml, hown, hnm, hts, htb⟩, ⟨hK, hX, hA, hR⟩, hend, hsc⟩ := id C
  obtain ⟨w1, w2, w3, hP, hD, hSS⟩ := id hW
  refine va_newa (atype := .int) (ty := .int) (a0 := (n, .inl (fun _ => 0))) hx hb (hts _ hw9) rfl hK hP hD hSS hA (fun _ => rfl) (nI_pos (by omega)) (nI_clamp (by omega)) (by show n * _ ≤ _; simp only [componentBytes]; omega) (by omega) (by omega) hd (fun q9 cA H1 hK1 hP1 hD1 hS1 => ?_)
  have hc9 : cA = dA 0 := by
    have a1 := (hK1.2 (ac_tys dA).length (cA, .int) (by simp)).2
    have a2 := (hK.2 0 (dA 0, .int) rfl).2
    exact Option.some.inj (Eq.trans (Eq.symm a1) a2)
  subst hc9
  obtain ⟨ha, hW2⟩ := hW.more q9 (e := .inl (.inl (n, fun _ => 0))) (fun _ => rfl) trivial hP1 hD1 hS1
  have hlen : h.length ≤ (h ++ [(.inl (.inl (n, fun _ => 0)) : ac_E)]).length := by rw [List.length_append]; exact Nat.le_add_right _ _
  have hself : ac_v (σ.1, va_up σ.2 h.length q9) (.ref h.length) = .ref q9 := by
    show Value.ref (va_up σ.2 h.length q9 h.length) = _
    rw [va_up_self]
  have k9 := kk p e R s m args below meth c D dA A σ0 Qf C (σ.1, va_up σ.2 h.length q9) H1 locs ls hW2 (ac_okL_mono hL hlen) (ac_okc (ac_ok_ref (by rw [List.length_append]; exact Nat.lt_succ_self _)) (ac_okS_mono (ac_oku hS).2 hlen)) (by rw [ac_L_ag ha hL]; exact hl)
  rw [List.map_cons, hself, ac_S_ag ha (ac_oku hS).2] at k9
  exact k9
theorem r_newarrayL {g : ac_P} {pc : Nat} {L : List (Nat × Value)} {S : List Value} {h : ac_H} {k z : Nat} {n : Nat} (hd : decode (ac_cc g) pc = .ok (.newarray .long, 2)) (hw9 : Cond.arrayClass .long ∈ ac_U) (hn : n < 1000000) (h1 : k + 1 ≤ ac_mc g) (h2 : z + n ≤ ac_ms g) (kk : ac_G g (pc + 2) L (.ref h.length :: S) (h ++ [.inl (.inr (.inl (n, fun _ => 0)))]) (k + 1) (z + n)) : ac_G g pc L (.int (nI n) :: S) h k z := by
  intro p e R s m args below meth c D dA A σ0 Qf C σ H locs ls hW hL hS hl
  obtain ⟨⟨hx, hb, hml, hown, hnm, hts, htb⟩, ⟨hK, hX, hA, hR⟩, hend, hsc⟩ := id C
  obtain ⟨w1, w2, w3, hP, hD, hSS⟩ := id hW
  refine va_newa (atype := .long) (ty := .long) (a0 := (n, .inr (.inl (fun _ => 0)))) hx hb (hts _ hw9) rfl hK hP hD hSS hA (fun _ => rfl) (nI_pos (by omega)) (nI_clamp (by omega)) (by show n * _ ≤ _; simp only [componentBytes]; omega) (by omega) (by omega) hd (fun q9 cA H1 hK1 hP1 hD1 hS1 => ?_)
  have hc9 : cA = dA 1 := by
    have a1 := (hK1.2 (ac_tys dA).length (cA, .long) (by simp)).2
    have a2 := (hK.2 1 (dA 1, .long) rfl).2
    exact Option.some.inj (Eq.trans (Eq.symm a1) a2)
  subst hc9
  obtain ⟨ha, hW2⟩ := hW.more q9 (e := .inl (.inr (.inl (n, fun _ => 0)))) (fun _ => rfl) trivial hP1 hD1 hS1
  have hlen : h.length ≤ (h ++ [(.inl (.inr (.inl (n, fun _ => 0))) : ac_E)]).length := by rw [List.length_append]; exact Nat.le_add_right _ _
  have hself : ac_v (σ.1, va_up σ.2 h.length q9) (.ref h.length) = .ref q9 := by
    show Value.ref (va_up σ.2 h.length q9 h.length) = _
    rw [va_up_self]
  have k9 := kk p e R s m args below meth c D dA A σ0 Qf C (σ.1, va_up σ.2 h.length q9) H1 locs ls hW2 (ac_okL_mono hL hlen) (ac_okc (ac_ok_ref (by rw [List.length_append]; exact Nat.lt_succ_self _)) (ac_okS_mono (ac_oku hS).2 hlen)) (by rw [ac_L_ag ha hL]; exact hl)
  rw [List.map_cons, hself, ac_S_ag ha (ac_oku hS).2] at k9
  exact k9
theorem r_anewarray {g : ac_P} {pc : Nat} {L : List (Nat × Value)} {S : List Value} {h : ac_H} {k z : Nat} {n kd idx : Nat} {C9 : String} (hd : decode (ac_cc g) pc = .ok (.anewarray idx, 3)) (hk9 : ac_kn[kd]? = some C9) (hw9 : Cond.classLink (ac_y g).cls idx C9 ∈ ac_U) (hn : n < 1000000) (h1 : k + 1 ≤ ac_mc g) (h2 : z + n ≤ ac_ms g) (kk : ac_G g (pc + 3) L (.ref h.length :: S) (h ++ [.inl (.inr (.inr (kd, n, fun _ => none)))]) (k + 1) (z + n)) : ac_G g pc L (.int (nI n) :: S) h k z := by
  intro p e R s m args below meth c D dA A σ0 Qf C σ H locs ls hW hL hS hl
  obtain ⟨⟨hx, hb, hml, hown, hnm, hts, htb⟩, ⟨hK, hX, hA, hR⟩, hend, hsc⟩ := id C
  obtain ⟨w1, w2, w3, hP, hD, hSS⟩ := id hW
  refine va_newq hx hb hown (hts _ hw9) (hX.2.2.1 _ (List.mem_of_getElem? hk9)) hK hP hD hSS hA (N' := n) (nI_pos (by omega)) (nI_clamp (by omega)) (by omega) (by omega) (by omega) hd (fun q9 cA H1 hK1 hP1 hD1 hS1 => ?_)
  have hc9 : cA = dA (kd + 2) := by
    obtain ⟨kA, comp, b1, b2, b3, a1⟩ := (hK1.2 (ac_tys dA).length (cA, .object C9) (by simp)).2
    obtain ⟨kA', comp', b1', b2', b3', a2⟩ := (hK.2 (kd + 2) (dA (kd + 2), .object C9) (ac_tys_k hk9)).2
    exact Option.some.inj (Eq.trans (Eq.symm a1) a2)
  subst hc9
  obtain ⟨ha, hW2⟩ := hW.more q9 (e := .inl (.inr (.inr (kd, n, fun _ => none)))) (fun _ => rfl) (fun _ _ hj => nomatch hj) hP1 hD1 hS1
  have hlen : h.length ≤ (h ++ [(.inl (.inr (.inr (kd, n, fun _ => none))) : ac_E)]).length := by rw [List.length_append]; exact Nat.le_add_right _ _
  have hself : ac_v (σ.1, va_up σ.2 h.length q9) (.ref h.length) = .ref q9 := by
    show Value.ref (va_up σ.2 h.length q9 h.length) = _
    rw [va_up_self]
  have k9 := kk p e R s m args below meth c D dA A σ0 Qf C (σ.1, va_up σ.2 h.length q9) H1 locs ls hW2 (ac_okL_mono hL hlen) (ac_okc (ac_ok_ref (by rw [List.length_append]; exact Nat.lt_succ_self _)) (ac_okS_mono (ac_oku hS).2 hlen)) (by rw [ac_L_ag ha hL]; exact hl)
  rw [List.map_cons, hself, ac_S_ag ha (ac_oku hS).2] at k9
  exact k9
/-- objects of kind ci may be made at idx; fs: the fields of a new one -/
def ac_N (own : String) (idx ci N : Nat) (fs : List Value) : Prop := ∃ (C : String) (T : u_T) (ty0 : Nat → FieldType), ac_cl[ci]? = some (C, T, N) ∧ (∀ w ∈ u_ws C T N, w ∈ ac_U) ∧ (∀ i, i < N → parseFieldDescriptor (T i).2.2.1 = some (ty0 i)) ∧ Cond.classLink own idx C ∈ ac_U ∧ Cond.instantiable C N ∈ ac_U ∧ Cond.initialized C ∈ ac_U ∧ (∀ j, j < N → defaultValue (ty0 j) = vp_V fs j) ∧ (∀ (τ : ac_A), fs.map (ac_v τ) = fs) ∧ (∀ v ∈ fs, ∀ a, v ≠ .ref a)
theorem r_new {g : ac_P} {pc : Nat} {L : List (Nat × Value)} {S : List Value} {h : ac_H} {k z : Nat} {idx ci N : Nat} {fs : List Value} (hd : decode (ac_cc g) pc = .ok (.new idx, 3)) (hf : ac_N (ac_y g).cls idx ci N fs) (h1 : k + 1 ≤ ac_mc g) (h2 : z + N ≤ ac_ms g) (kk : ac_G g (pc + 3) L (.ref h.length :: S) (h ++ [.inr (ci, fs)]) (k + 1) (z + N)) : ac_G g pc L S h k z := by
  intro p e R s m args below meth c D dA A σ0 Qf C σ H locs ls hW hL hS hl
  obtain ⟨⟨hx, hb, hml, hown, hnm, hts, htb⟩, ⟨hK, hX, hA, hR⟩, hend, hsc⟩ := id C
  obtain ⟨w1, w2, w3, hP, hD, hSS⟩ := id hW
  obtain ⟨C9, T, ty0, f1, f2, f3, f4, f5, f6, f7, f8, f9⟩ := hf
  refine va_new (fs := fs) (C := C9) (T := T) (N := N) hx hb hts f2 ty0 f3 hown (hts _ f4) (hts _ f5) (hts _ f6) hK hP hD hSS hA f1 f7 (by omega) (by omega) hd (fun q9 H1 hP1 hD1 hS1 => ?_)
  obtain ⟨ha, hW2⟩ := hW.more q9 (e := .inr (ci, fs)) (fun _ => by simp only [ac_c, f8]) (fun v hv a9 ha9 => absurd ha9 (f9 v hv a9)) hP1 hD1 hS1
  have hlen : h.length ≤ (h ++ [(.inr (ci, fs) : ac_E)]).length := by rw [List.length_append]; exact Nat.le_add_right _ _
  have hself : ac_v (σ.1, va_up σ.2 h.length q9) (.ref h.length) = .ref q9 := by
    show Value.ref (va_up σ.2 h.length q9 h.length) = _
    rw [va_up_self]
  have k9 := kk p e R s m args below meth c D dA A σ0 Qf C (σ.1, va_up σ.2 h.length q9) H1 locs ls hW2 (ac_okL_mono hL hlen) (ac_okc (ac_ok_ref (by rw [List.length_append]; exact Nat.lt_succ_self _)) (ac_okS_mono hS hlen)) (by rw [ac_L_ag ha hL]; exact hl)
  rw [List.map_cons, hself, ac_S_ag ha hS] at k9
  exact k9
theorem r_objInit {g : ac_P} {pc : Nat} {L : List (Nat × Value)} {S : List Value} {h : ac_H} {k z : Nat} {a idx : Nat} (hd : decode (ac_cc g) pc = .ok (.invokespecial idx, 3)) (hw1 : Cond.methodLink (ac_y g).cls idx Lib.objectInit ∈ ac_U) (hw2 : Cond.instanceMethod Lib.objectInit ∈ ac_U) (hw3 : Cond.code Lib.objectInit ⟨#[0xb1]⟩ 1 none ∈ ac_U) (hd1 : 1 ≤ ac_d g) (hs : (S.map fun v => v.category).sum ≤ 8) (kk : ac_G g (pc + 3) L S h k z) : ac_G g pc L (.ref a :: S) h k z := by
  intro p e R s m args below meth c D dA A σ0 Qf C σ H locs ls hW hL hS hl
  obtain ⟨⟨hx, hb, hml, hown, hnm, hts, htb⟩, ⟨hK, hX, hA, hR⟩, hend, hsc⟩ := id C
  refine W.objInit hx hb hown (hts _ hw1) (hts _ hw2) (hts _ hw3) rfl (by rw [hml]; exact hl.1) (a := σ.2 a) (rest := S.map (ac_v σ)) rfl hd (by omega) (by rw [ac_cats]; show 2 * 0 + _ + 12 ≤ _; omega) ?_
  exact kk p e R s m args below meth c D dA A σ0 Qf C σ H locs ls hW hL (ac_oku hS).2 hl
theorem r_max {g : ac_P} {pc : Nat} {L : List (Nat × Value)} {S : List Value} {h : ac_H} {k z : Nat} {idx : Nat} {x y : Int32} (hd : decode (ac_cc g) pc = .ok (.invokestatic idx, 3)) (hw1 : Cond.methodLink (ac_y g).cls idx Lib.Math.max.name ∈ ac_U) (hw2 : Cond.static Lib.Math.max.name ∈ ac_U) (hw3 : Cond.initialized "java/lang/Math" ∈ ac_U) (hw4 : Cond.code Lib.Math.max.name Lib.Math.max.code 2 (some .int) ∈ ac_U) (hd1 : 1 ≤ ac_d g) (h1 : k ≤ ac_mc g) (h2 : z ≤ ac_ms g) (hs : (S.map fun v => v.category).sum ≤ 8) (kk : ac_G g (pc + 3) L (.int (if x < y then y else x) :: S) h k z) : ac_G g pc L (.int y :: .int x :: S) h k z := by
  intro p e R s m args below meth c D dA A σ0 Qf C σ H locs ls hW hL hS hl
  obtain ⟨⟨hx, hb, hml, hown, hnm, hts, htb⟩, ⟨hK, hX, hA, hR⟩, hend, hsc⟩ := id C
  exact va_mmax hx hb (by rw [hml]; exact hl.1.symm) hown (hts _ hw1) (hts _ hw2) (hts _ hw3) (hts _ hw4) (by omega) (by rw [ac_cats]; omega) (by omega) (by omega) hd (kk p e R s m args below meth c D dA A σ0 Qf C σ H locs ls hW hL (ac_okc ac_ok_int (ac_oku (ac_oku hS).2).2) hl)
/-- A CONTRACT: method mi, called with the arguments a in any heap that holds h, within depth d, ends as Φ says; at most MC cells of MS slots are new -/
def ac_Pc (D : va_G) (dA : Nat → ClassId) (σ0 : ac_A) (a : List Value) (h : ac_H) (sz : Nat) : Array Value → State → Prop := va_Pc (a.map (ac_v σ0)) (fun U => U.heap.size = sz ∧ ac_okH h ∧ (∀ v ∈ a, ac_ok h.length v) ∧ va_P D ac_cl (ac_w σ0 dA h) U.heap ∧ va_K D ac_cl (ac_tys dA) U ∧ va_D (fun _ => True) (ac_w σ0 dA h) ∧ ac_X (va_A (ac_w σ0 dA h) sz) U U.heap)
def ac_Af (D : va_G) (dA : Nat → ClassId) (σ0 : ac_A) (h : ac_H) (sz : Nat) (h' : ac_H) (σ' : ac_A) (st t : State) : Prop := ac_okH h' ∧ h.length ≤ h'.length ∧ ac_ag h.length σ' σ0 ∧ va_P D ac_cl (ac_w σ' dA h') t.heap ∧ va_D (va_A (ac_w σ0 dA h) sz) (ac_w σ' dA h') ∧ va_F (va_A (ac_w σ0 dA h) sz) st t
def ac_Qr (D : va_G) (dA : Nat → ClassId) (σ0 : ac_A) (h : ac_H) (sz : Nat) (Φ : ac_R → ac_H → Prop) : State → Option Value → State → Prop := fun st v t => ∃ (r : Option Value) (h' : ac_H) (σ' : ac_A), v = r.map (ac_v σ') ∧ Φ (.inl r) h' ∧ (∀ v ∈ r.toList, ac_ok h'.length v) ∧ ac_Af D dA σ0 h sz h' σ' st t
def ac_Qx (D : va_G) (dA : Nat → ClassId) (σ0 : ac_A) (h : ac_H) (sz : Nat) (Φ : ac_R → ac_H → Prop) : State → String → State → Prop := fun st E t => ∃ (h' : ac_H) (σ' : ac_A), Φ (.inr E) h' ∧ ac_Af D dA σ0 h sz h' σ' st t
def ac_Qc (D : va_G) (dA : Nat → ClassId) (σ0 : ac_A) (h : ac_H) (sz : Nat) (Φ : ac_R → ac_H → Prop) : Array Value → State → Outcome → State → Prop := fun _ st o t => ∃ v, o = .returned v ∧ ac_Qr D dA σ0 h sz Φ st v t
abbrev ac_rm (d MC MS : Nat) : Room := { frames := d, cells := MC, slots := MS, locals := 35 * d }
def ac_Mt (l : Launch) (d : Nat) (mi : ac_I) (a : List Value) (h : ac_H) (MC MS : Nat) (Φ : ac_R → ac_H → Prop) : Prop :=
  ∀ (D : va_G) (dA : Nat → ClassId) (σ0 : ac_A) (sz : Nat), xq_M l mi.1 (Cond.code mi.1 mi.2.1 mi.2.2.1 mi.2.2.2.1 :: ac_U) (ac_rm d MC MS) (ac_Pc D dA σ0 a h sz) (ac_Qr D dA σ0 h sz Φ) (ac_Qx D dA σ0 h sz Φ) MC MS (va_A (ac_w σ0 dA h) sz)
/-- .. of a method with handlers of its own -/
def ac_MtW (l : Launch) (d : Nat) (mi : ac_I) (a : List Value) (h : ac_H) (MC MS : Nat) (Φ : ac_R → ac_H → Prop) : Prop :=
  ∀ (D : va_G) (dA : Nat → ClassId) (σ0 : ac_A) (sz : Nat), xq_M l mi.1 (Cond.codeWith mi.1 mi.2.1 mi.2.2.1 mi.2.2.2.1 mi.2.2.2.2 :: ac_U) (ac_rm d MC MS) (ac_Pc D dA σ0 a h sz) (ac_Qr D dA σ0 h sz Φ) (ac_Qx D dA σ0 h sz Φ) MC MS (va_A (ac_w σ0 dA h) sz)
theorem ac_blind (D : va_G) (dA : Nat → ClassId) (σ0 : ac_A) (a : List Value) (h : ac_H) (sz : Nat) : FrameBlind (ac_Pc D dA σ0 a h sz) := by
  intro b U g mk q
  obtain ⟨q0, q1, q2, q3, q4, q5, q6, q7⟩ := q
  exact ⟨q0, q1, q2, q3, q4, va_K.moved (u := U) (U := U.calling g mk b) (Vm.Alike.refl U.vm) q5, q6, ac_X.call g mk b q7⟩
/-- what a caller pays -/
theorem ac_pay {D : va_G} {dA : Nat → ClassId} {A : Nat → Prop} {s : State} {n0 : Nat} {σ0 σ : ac_A} {h : ac_H} {H : Heap} {locs : List Loc} {a : List Value} (hW : ac_Wd D dA A s n0 σ0 σ h H locs) (hK : va_K D ac_cl (ac_tys dA) s) (hX : ac_X A s s.heap) (hA : ∀ q, s.heap.size ≤ q → A q) (ha : ∀ v ∈ a, ac_ok h.length v) :
    (∀ q, va_A (ac_w σ dA h) H.size q → A q) ∧ ∀ U : State, U.heap = H → s.WarmedH U.vm → ac_Pc D dA σ a h H.size (a.map (ac_v σ)).toArray U := by
  obtain ⟨w1, w2, w3, hP, hD, hSS⟩ := hW
  have hF : ∀ q, va_A (ac_w σ dA h) H.size q → A q := by
    intro q hq
    rcases hq with ⟨i, e, hi⟩ | hq
    · exact hD.2 i (q, e) hi
    · exact hA q (Nat.le_trans hSS.1 hq)
  refine ⟨hF, fun U hU hw => ⟨rfl, by rw [hU], w1, ha, by rw [hU]; exact hP, va_K.moved hw.alike hK, hD.weaken (fun _ _ _ _ => trivial), ?_⟩⟩
  rw [hU]
  exact ac_X.at hw hX (fun a h1 h2 => hSS.2.1 a h1 h2) hF
/-- what a caller gets back -/
theorem ac_got {D : va_G} {dA : Nat → ClassId} {A : Nat → Prop} {s st t T' : State} {n0 : Nat} {σ0 σ σ' : ac_A} {h h' : ac_H} {H : Heap} {locs L9 : List Loc} (hW : ac_Wd D dA A s n0 σ0 σ h H locs) (hF : ∀ q, va_A (ac_w σ dA h) H.size q → A q) (h0 : st.heap = H) (e1 : T'.heap = t.heap) (hL : ∀ q ∈ L9, va_A (ac_w σ dA h) H.size q.base) (hq : ac_Af D dA σ h H.size h' σ' st t) : ac_Wd D dA A s n0 σ0 σ' h' T'.heap (locs ++ L9) := by
  obtain ⟨w1, w2, w3, hP, hD, hSS⟩ := hW
  obtain ⟨q1, q2, q3, q4, q5, q6⟩ := hq
  obtain ⟨f1, f2⟩ := q6
  rw [h0] at f1 f2
  refine ⟨q1, Nat.le_trans w2 q2, ac_ag_tr q3 w3 w2, by rw [e1]; exact q4, q5.weaken (fun _ _ _ hq => hF _ hq), Nat.le_trans hSS.1 (by rw [e1]; exact f1), fun q g1 g2 => ?_, fun q hq => ?_⟩
  · rw [e1, f2 q (Nat.lt_of_lt_of_le g1 hSS.1) (fun z9 => g2 (hF q z9))]
    exact hSS.2.1 q g1 g2
  · rcases List.mem_append.mp hq with g1 | g1
    · exact hSS.2.2 q g1
    · exact hF _ (hL q g1)
/-- E has been thrown over this frame at pc: it goes out, or a handler takes it (which begins by storing it away) -/
def ac_hx (g : ac_P) (pc : Nat) (L : List (Nat × Value)) (E : String) (h : ac_H) (k z : Nat) : Prop :=
  (ac_hh g = [] ∧ ac_ph g (.inr E) h ∧ k ≤ ac_mc g ∧ z ≤ ac_ms g) ∨
  ∃ (pre suf : List (Nat × Nat × Nat × Nat)) (x : Nat × Nat × Nat × Nat) (nm : String) (i len : Nat), ac_hh g = pre ++ x :: suf ∧
    (∀ y ∈ tableOf pre, covers y pc = false ∨ (y.catchType ≠ 0 ∧ ∃ n9 : String, Cond.classLink (ac_y g).cls y.catchType n9 ∈ ac_U ∧ (E, n9) ∈ ac_nc)) ∧
    covers ⟨x.1, x.2.1, x.2.2.1, x.2.2.2⟩ pc = true ∧ x.2.2.2 ≠ 0 ∧ Cond.classLink (ac_y g).cls x.2.2.2 nm ∈ ac_U ∧ Cond.castable E nm ∈ ac_ow ∧
    ((∃ j : Fin 4, (j : Nat) = i ∧ len = 1 ∧ decode (ac_cc g) x.2.2.1 = .ok (.astore_n j, 1)) ∨ (len = 2 ∧ decode (ac_cc g) x.2.2.1 = .ok (.astore i, 2))) ∧ i < ac_ml g ∧ ac_G g (x.2.2.1 + len) (ac_del L i) [] h k z
theorem ac_hx_go {g : ac_P} {pc : Nat} {L : List (Nat × Value)} {E : String} {h : ac_H} {k z : Nat} (hx9 : ac_hx g pc L E h k z) {p : Program} {e : Env} {R : Room} {s : State} {m : MethodId} {args : Array Value} {below : List Frame} {meth : Method} {c : Code} {D : va_G} {dA : Nat → ClassId} {A : Nat → Prop} {σ0 : ac_A} {Qf : State → Prop} (C : ac_C g p e R s m args below meth c D dA A σ0 Qf) {σ : ac_A} {H : Heap} {locs : List Loc} {ls : Array Slot} {rest : List Value} (hW : ac_Wd D dA A s (ac_n0 g) σ0 σ h H locs) (hL : ∀ q ∈ L, ac_ok h.length q.2) (hl : lv_has ls (ac_ml g) (L.map (ac_lv σ))) {ce : Cell} {q : Nat} (hce : H[q]? = some ce) (hv : ce.vm = .none) (hcl : s.vm.findClass E = some ce.cls) :
    xq_W p (ac_l g) e R s m args below meth c H locs k z Qf (F0 m pc ls rest) q := by
  obtain ⟨⟨hx, hb, hml, hown, hnm, hts, htb⟩, ⟨hK, hX, hA, hR⟩, hend, hsc⟩ := id C
  rcases hx9 with ⟨h1, h2, h3, h4⟩ | ⟨pre, suf, x, nm, i, len, h1, h2, h3, h4, h5, h6, h7, h8, kk⟩
  · exact hend.2.1 σ h H locs k z E ce q pc ls rest hW h2 h3 h4 hce hv hcl h1
  · refine xq_catch (E := E) hown (tableOf pre) ⟨x.1, x.2.1, x.2.2.1, x.2.2.2⟩ (tableOf suf) (by rw [htb, h1]; simp [tableOf]) (fun y hy => ?_) h3 h4 (hts _ h5) (va_Nw.use rfl (hX.2.1 _ h6)) hce hv hcl ?_
    · rcases h2 y hy with a1 | ⟨a1, n9, a2, a3⟩
      · exact Or.inl a1
      · exact Or.inr ⟨a1, n9, hts _ a2, hX.2.2.2.2 _ a3⟩
    · have kk2 : ∀ ls' : Array Slot, lv_has ls' (ac_ml g) ((i, Value.ref q) :: (ac_del L i).map (ac_lv σ)) → W p (ac_l g) e R s m args below meth c H locs k z Qf (F0 m (x.2.2.1 + len) ls' []) := fun ls' hl' =>
        kk p e R s m args below meth c D dA A σ0 Qf C σ H locs ls' hW (ac_okL_del hL) (fun _ hq => nomatch hq) ⟨hl'.1, hl'.2.1, fun y hy => hl'.2.2 y (List.mem_cons_of_mem _ hy)⟩
      rcases h7 with ⟨j, hj, rfl, h7⟩ | ⟨rfl, h7⟩
      · exact lv_astore_n (x := q) (lv' := (i, Value.ref q) :: (ac_del L i).map (ac_lv σ)) hx hb h7 hj hl h8 (by rw [ac_del_map]) kk2
      · exact lv_astore (x := q) (lv' := (i, Value.ref q) :: (ac_del L i).map (ac_lv σ)) hx hb h7 hl h8 (by rw [ac_del_map]) kk2
/-- what is to be known of the called -/
def ac_K (own : String) (idx : Nat) (mi : ac_I) (n : Nat) : Prop := Cond.initialized mi.1.cls ∈ ac_U ∧ mi.2.2.1 ≤ 16 ∧ (mi.1.cls ≠ "java/lang/invoke/MethodHandle" ∧ mi.1.cls ≠ "java/lang/invoke/VarHandle" ∧ (parseMethodDescriptor mi.1.desc).map (fun d => d.parameters.length) = some n)
abbrev ac_KV (own : String) (idx : Nat) (mi : ac_I) (n : Nat) : Prop := ac_K own idx mi n ∧ Cond.methodLink own idx mi.1 ∈ ac_U ∧ Cond.instanceMethod mi.1 ∈ ac_U ∧ Cond.selects mi.1.cls mi.1 mi.1 ∈ ac_U ∧ Cond.code mi.1 mi.2.1 mi.2.2.1 mi.2.2.2.1 ∈ ac_U
abbrev ac_KS (own : String) (idx : Nat) (mi : ac_I) (n : Nat) : Prop := ac_K own idx mi n ∧ Cond.methodLink own idx mi.1 ∈ ac_U ∧ Cond.static mi.1 ∈ ac_U ∧ Cond.code mi.1 mi.2.1 mi.2.2.1 mi.2.2.2.1 ∈ ac_U
abbrev ac_KSW (own : String) (idx : Nat) (mi : ac_I) (n : Nat) : Prop := ac_K own idx mi n ∧ Cond.methodLink own idx mi.1 ∈ ac_U ∧ Cond.static mi.1 ∈ ac_U ∧ Cond.codeWith mi.1 mi.2.1 mi.2.2.1 mi.2.2.2.1 mi.2.2.2.2 ∈ ac_U
abbrev ac_KI (own : String) (idx : Nat) (mi : ac_I) (n : Nat) : Prop := ac_K own idx mi n ∧ Cond.methodLink own idx mi.1 ∈ ac_U ∧ Cond.instanceMethod mi.1 ∈ ac_U ∧ Cond.code mi.1 mi.2.1 mi.2.2.1 mi.2.2.2.1 ∈ ac_U ∧ mi.1.name = "<init>" ∧ mi.2.2.2.1 = none
abbrev ac_KIN (own : String) (idx : Nat) (mi : ac_I) (n : Nat) (host : String) : Prop := ac_K own idx mi n ∧ Cond.methodLinkNest own idx mi.1 host ∈ ac_ow ∧ Cond.instanceMethod mi.1 ∈ ac_U ∧ Cond.code mi.1 mi.2.1 mi.2.2.1 mi.2.2.2.1 ∈ ac_U ∧ mi.1.name = "<init>" ∧ mi.2.2.2.1 = none
theorem ac_paid {s : State} {args : Array Value} (hts : ∀ w ∈ ac_U, w.before args s = true) {w : Cond} (hw : w ∈ ac_U) : ∀ w' ∈ w :: ac_U, ∀ (a' : Array Value) (U : State), s.WarmedH U.vm → w'.before a' U = true :=
  pay_in (big := ac_U) hts (fun w' h' => by
    rcases List.mem_cons.mp h' with e | e
    · rw [e]; exact ⟨hw, good_of_word (ac_good w hw)⟩
    · exact ⟨e, good_of_word (ac_good w' e)⟩)
theorem ac_params {y : MethodName} {n : Nat} (h : (parseMethodDescriptor y.desc).map (fun d => d.parameters.length) = some n) : ∀ sig, parseMethodDescriptor y.desc = some sig → n = sig.parameters.length := fun sig hs => by
  rw [hs] at h
  exact (Option.some.inj h).symm
theorem ac_CallB {R : Room} {s : State} {args : Array Value} {own : String} {idx d' mc ms n : Nat} {mi : ac_I} (hts : ∀ w ∈ ac_U, w.before args s = true) (hk : ac_K own idx mi n) (hl : Cond.methodLink own idx mi.1 ∈ ac_U) (hc : Cond.code mi.1 mi.2.1 mi.2.2.1 mi.2.2.2.1 ∈ ac_U) {d : Nat} (hd : d' + 1 ≤ d) (hR1 : d ≤ R.frames) (hR2 : 35 * d ≤ R.locals) :
    CallB R s args own idx mi.1 mi.2.1 mi.2.2.1 mi.2.2.2.1 (Cond.code mi.1 mi.2.1 mi.2.2.1 mi.2.2.2.1 :: ac_U) (ac_rm d' mc ms) mc ms n := by
  obtain ⟨k1, k2, k3, k4, k5⟩ := hk
  exact ⟨rfl, rfl, Nat.le_trans hd hR1, by show 8 + (mi.2.2.1 + 11) + 35 * d' ≤ R.locals; omega, ac_paid hts hc, List.mem_cons_self, hts _ hc, hts _ k1, ⟨k3, k4⟩, ac_params k5, hts _ hl⟩
/-- nothing thrown: an ordinary contract -/
theorem ac_Mt.met {l : Launch} {d : Nat} {mi : ac_I} {a : List Value} {h : ac_H} {MC MS : Nat} {Φ : ac_R → ac_H → Prop} (hM : ac_Mt l d mi a h MC MS Φ) (hno : ∀ E h', ¬ Φ (.inr E) h') (D : va_G) (dA : Nat → ClassId) (σ0 : ac_A) (sz : Nat) : Met l mi.1 (Cond.code mi.1 mi.2.1 mi.2.2.1 mi.2.2.2.1 :: ac_U) (ac_rm d MC MS) (ac_Pc D dA σ0 a h sz) (ac_Qc D dA σ0 h sz Φ) MC MS (va_A (ac_w σ0 dA h) sz) := by
  intro p e h1 h2 h3 s m args below h4 h5 h6 h7
  obtain ⟨n, o, a1, a2, a3, L, a4, a5, a6, a7⟩ := hM D dA σ0 sz p e h1 h2 h3 s m args below h4 h5 h6 h7
  refine ⟨n, o, a1, a2, a3, ?_⟩
  rcases a7 with ⟨v, b1, b2⟩ | ⟨q, E, ce, -, ⟨h', σ', b1, -⟩, -⟩
  · exact ⟨⟨v, b1, b2⟩, L, ⟨⟨v, b1⟩, a4, a5⟩, a6⟩
  · exact absurd b1 (hno E h')
/-- behind a call that may throw -/
theorem ac_after {g : ac_P} {pc : Nat} {L : List (Nat × Value)} {S : List Value} {h : ac_H} {k z : Nat} {p : Program} {e : Env} {R : Room} {s : State} {m : MethodId} {args : Array Value} {below : List Frame} {meth : Method} {c : Code} {D : va_G} {dA : Nat → ClassId} {A : Nat → Prop} {σ0 : ac_A} {Qf : State → Prop} (C : ac_C g p e R s m args below meth c D dA A σ0 Qf) {σ : ac_A} {H : Heap} {locs : List Loc} {ls : Array Slot} {st0 : List Value} {mc ms : Nat} {Ψ : ac_R → ac_H → Prop} (hW : ac_Wd D dA A s (ac_n0 g) σ0 σ h H locs) (hL : ∀ q ∈ L, ac_ok h.length q.2) (hS : ∀ v ∈ S, ac_ok h.length v) (hl : lv_has ls (ac_ml g) (L.map (ac_lv σ))) (hF : ∀ q, va_A (ac_w σ dA h) H.size q → A q) (hr : xq_R p (ac_l g) e R s m args below meth c H locs k z mc ms (F0 m pc ls st0) (S.map (ac_v σ)) (ac_Qr D dA σ h H.size Ψ) (ac_Qx D dA σ h H.size Ψ) (va_A (ac_w σ dA h) H.size))
    (kk : ∀ r h', Ψ (.inl r) h' → h.length ≤ h'.length → ac_G g (pc + 3) L (r.toList ++ S) h' (k + mc) (z + ms)) (kx : ∀ E h', Ψ (.inr E) h' → h.length ≤ h'.length → ac_hx g pc L E h' (k + mc) (z + ms)) : W p (ac_l g) e R s m args below meth c H locs k z Qf (F0 m pc ls st0) := by
  intro T hT X
  obtain ⟨st₀, t, T', L9, h0, X', hL9, e1, hor⟩ := hr T hT X
  rcases hor with ⟨v, hq, st⟩ | ⟨q, E, ce, hq, hce, hcv, hcl, st⟩
  · obtain ⟨r, h', σ', hv, hΨ, okr, haf⟩ := hq
    have hlen : h.length ≤ h'.length := haf.2.1
    have hag : ac_ag h.length σ' σ := haf.2.2.1
    have hW2 := ac_got hW hF h0 e1 hL9 haf
    have k9 := kk r h' hΨ hlen p e R s m args below meth c D dA A σ0 Qf C σ' T'.heap (locs ++ L9) ls hW2 (ac_okL_mono hL hlen) (fun v hv9 => by
      rcases List.mem_append.mp hv9 with q | q
      · exact okr v q
      · exact ac_ok_mono (hS v q) hlen) (by rw [ac_L_ag hag hL]; exact hl) T' rfl X'
    have e9 : (r.toList ++ S).map (ac_v σ') = v.toList ++ S.map (ac_v σ) := by
      cases hv
      rw [List.map_append, ac_S_ag hag hS]
      cases r <;> rfl
    rw [e9] at k9
    obtain ⟨t2, a1, b1⟩ := k9
    exact ⟨t2, st t2 a1, b1⟩
  · obtain ⟨h', σ', hΨ, haf⟩ := hq
    have hlen : h.length ≤ h'.length := haf.2.1
    have hag : ac_ag h.length σ' σ := haf.2.2.1
    have hW2 := ac_got hW hF h0 e1 hL9 haf
    obtain ⟨t2, a1, b1⟩ := ac_hx_go (kx E h' hΨ hlen) C hW2 (ac_okL_mono hL hlen) (by rw [ac_L_ag hag hL]; exact hl) (rest := S.map (ac_v σ)) (by rw [e1]; exact hce) hcv hcl T' rfl X'
    exact ⟨t2, st.trans a1, b1⟩
/-- behind a call that doesn't -/
theorem ac_afterN {g : ac_P} {pc : Nat} {L : List (Nat × Value)} {S : List Value} {h : ac_H} {k z : Nat} {p : Program} {e : Env} {R : Room} {s : State} {m : MethodId} {args : Array Value} {below : List Frame} {meth : Method} {c : Code} {D : va_G} {dA : Nat → ClassId} {A : Nat → Prop} {σ0 : ac_A} {Qf : State → Prop} (C : ac_C g p e R s m args below meth c D dA A σ0 Qf) {σ : ac_A} {H : Heap} {locs : List Loc} {ls : Array Slot} {st0 : List Value} {mc ms : Nat} {Ψ : ac_R → ac_H → Prop} (hW : ac_Wd D dA A s (ac_n0 g) σ0 σ h H locs) (hL : ∀ q ∈ L, ac_ok h.length q.2) (hS : ∀ v ∈ S, ac_ok h.length v) (hl : lv_has ls (ac_ml g) (L.map (ac_lv σ))) (hF : ∀ q, va_A (ac_w σ dA h) H.size q → A q) {av : Array Value} (hr : va_Run p (ac_l g) e R s m args below meth c H locs k z mc ms (F0 m pc ls st0) (S.map (ac_v σ)) (ac_Qc D dA σ h H.size Ψ av) (va_A (ac_w σ dA h) H.size))
    (kk : ∀ r h', Ψ (.inl r) h' → h.length ≤ h'.length → ac_G g (pc + 3) L (r.toList ++ S) h' (k + mc) (z + ms)) : W p (ac_l g) e R s m args below meth c H locs k z Qf (F0 m pc ls st0) := by
  intro T hT X
  obtain ⟨v, st₀, t, T', L9, h0, X', hL9, e1, e2, ⟨v9, hv9, hq⟩, st⟩ := hr T hT X
  cases hv9
  obtain ⟨r, h', σ', hv, hΨ, okr, haf⟩ := hq
  have hlen : h.length ≤ h'.length := haf.2.1
  have hag : ac_ag h.length σ' σ := haf.2.2.1
  have hW2 := ac_got hW hF h0 e1 hL9 haf
  have k9 := kk r h' hΨ hlen p e R s m args below meth c D dA A σ0 Qf C σ' T'.heap (locs ++ L9) ls hW2 (ac_okL_mono hL hlen) (fun v hv9 => by
    rcases List.mem_append.mp hv9 with q | q
    · exact okr v q
    · exact ac_ok_mono (hS v q) hlen) (by rw [ac_L_ag hag hL]; exact hl) T' rfl X'
  have e9 : (r.toList ++ S).map (ac_v σ') = v.toList ++ S.map (ac_v σ) := by
    cases hv
    rw [List.map_append, ac_S_ag hag hS]
    cases r <;> rfl
  rw [e9] at k9
  obtain ⟨t2, a1, b1⟩ := k9
  exact ⟨t2, st t2 a1, b1⟩
/-- a call by a receiver -/
theorem r_callV {g : ac_P} {pc : Nat} {L : List (Nat × Value)} {S : List Value} {h : ac_H} {k z : Nat} {mi : ac_I} {n idx : Nat} (as : List Value) (b : Nat) {ci : Nat} {fs : List Value} (d' mc ms : Nat) {Ψ : ac_R → ac_H → Prop} (hd : decode (ac_cc g) pc = .ok (.invokevirtual idx, 3)) (hk9 : ac_KV (ac_y g).cls idx mi n) (hb9 : h[b]? = some (.inr (ci, fs))) {T9 : u_T} {N9 : Nat} (hc9 : ac_cl[ci]? = some (mi.1.cls, T9, N9)) (hn : as.length = n) (hM : ac_Mt (ac_l g) d' mi (.ref b :: as) h mc ms Ψ) (hdd : d' + 1 ≤ ac_d g) (h1 : k + mc ≤ ac_mc g) (h2 : z + ms ≤ ac_ms g) (hs : (S.map fun v => v.category).sum ≤ 8) (kk : ∀ r h', Ψ (.inl r) h' → h.length ≤ h'.length → ac_G g (pc + 3) L (r.toList ++ S) h' (k + mc) (z + ms)) (kx : ∀ E h', Ψ (.inr E) h' → h.length ≤ h'.length → ac_hx g pc L E h' (k + mc) (z + ms)) : ac_G g pc L (as.reverse ++ .ref b :: S) h k z := by
  intro p e R s m args below meth c D dA A σ0 Qf C σ H locs ls hW hL hS hl
  obtain ⟨⟨hx, hb, hml, hown, hnm, hts, htb⟩, ⟨hK, hX, hA, hR⟩, hend, hsc⟩ := id C
  obtain ⟨hk, hw1, hw2, hw3, hw4⟩ := hk9
  have hSa : ∀ v ∈ as, ac_ok h.length v := fun v hv => hS v (List.mem_append_left _ (List.mem_reverse.mpr hv))
  have hS2 : ∀ v ∈ S, ac_ok h.length v := fun v hv => hS v (List.mem_append_right _ (List.mem_cons_of_mem _ hv))
  have hoka : ∀ v ∈ .ref b :: as, ac_ok h.length v := ac_okc (ac_ok_ref (ac_lt hb9)) hSa
  obtain ⟨hF, hpay⟩ := ac_pay hW hK hX hA hoka
  obtain ⟨k1, k2, k3, k4, k5⟩ := hk
  refine ac_after C hW hL hS2 hl hF (xq_V (As := as.map (ac_v σ)) (b := σ.2 b) (C := mi.1.cls) (maxL := mi.2.2.1) (n := n) (hM D dA σ H.size) (ac_blind D dA σ _ h H.size) hx hb hml hown rfl rfl (Nat.le_trans hdd hR.1) (by show 8 + (mi.2.2.1 + 11) + 35 * d' ≤ R.locals; omega) (ac_paid hts hw4) (hts _ k1) ⟨k3, k4⟩ (ac_params k5) (hts _ hw1) (hts _ hw2) (hts _ hw3) (hts _ hw4) (va_recv hK hW.2.2.2.1 hc9 (ac_w_obj hb9)) hpay rfl (by rw [List.length_map]; exact hn) hl.1 (by show List.map (ac_v σ) (as.reverse ++ .ref b :: S) = _; rw [List.map_append, List.map_reverse]; rfl) (lv_room (by rw [ac_cats]; exact hs)) hd (by rw [hR.2.2.1]; exact h1) (by rw [hR.2.2.2]; exact h2)) kk kx
/-- a call of a static method -/
theorem r_callS {g : ac_P} {pc : Nat} {L : List (Nat × Value)} {S : List Value} {h : ac_H} {k z : Nat} {mi : ac_I} {n idx : Nat} (as : List Value) (d' mc ms : Nat) {Ψ : ac_R → ac_H → Prop} (hd : decode (ac_cc g) pc = .ok (.invokestatic idx, 3)) (hk9 : ac_KS (ac_y g).cls idx mi n) (hn : as.length = n) (hM : ac_Mt (ac_l g) d' mi as h mc ms Ψ) (hdd : d' + 1 ≤ ac_d g) (h1 : k + mc ≤ ac_mc g) (h2 : z + ms ≤ ac_ms g) (hs : (S.map fun v => v.category).sum ≤ 8) (kk : ∀ r h', Ψ (.inl r) h' → h.length ≤ h'.length → ac_G g (pc + 3) L (r.toList ++ S) h' (k + mc) (z + ms)) (kx : ∀ E h', Ψ (.inr E) h' → h.length ≤ h'.length → ac_hx g pc L E h' (k + mc) (z + ms)) : ac_G g pc L (as.reverse ++ S) h k z := by
  intro p e R s m args below meth c D dA A σ0 Qf C σ H locs ls hW hL hS hl
  obtain ⟨⟨hx, hb, hml, hown, hnm, hts, htb⟩, ⟨hK, hX, hA, hR⟩, hend, hsc⟩ := id C
  obtain ⟨hk, hw1, hw2, hw4⟩ := hk9
  have hSa : ∀ v ∈ as, ac_ok h.length v := fun v hv => hS v (List.mem_append_left _ (List.mem_reverse.mpr hv))
  have hS2 : ∀ v ∈ S, ac_ok h.length v := fun v hv => hS v (List.mem_append_right _ hv)
  obtain ⟨hF, hpay⟩ := ac_pay hW hK hX hA hSa
  obtain ⟨k1, k2, k3, k4, k5⟩ := hk
  obtain ⟨mk9, hn9⟩ := Cond.code_named (hts _ hw4)
  obtain ⟨meth9, c9, hm9, hc9, -, hl9, -, -, -, hs9⟩ := Cond.code_spec hn9 (hts _ hw4)
  refine ac_after C hW hL hS2 hl hF (xq_S (As := as.map (ac_v σ)) (maxL := mi.2.2.1) (n := n) (hM D dA σ H.size) (ac_blind D dA σ _ h H.size) hx hb hml hown rfl rfl (Nat.le_trans hdd hR.1) (by show 8 + (mi.2.2.1 + 11) + 35 * d' ≤ R.locals; omega) (ac_paid hts hw4) (hts _ k1) ⟨k3, k4⟩ (ac_params k5) (hts _ hw1) (hts _ hw2) hn9 hm9 hc9 hl9 hs9 hpay rfl (by rw [List.length_map]; exact hn) hl.1 (by show List.map (ac_v σ) (as.reverse ++ S) = _; rw [List.map_append, List.map_reverse]) (lv_room (by rw [ac_cats]; exact hs)) hd (by rw [hR.2.2.1]; exact h1) (by rw [hR.2.2.2]; exact h2)) kk kx
/-- a constructor -/
theorem r_callI {g : ac_P} {pc : Nat} {L : List (Nat × Value)} {S : List Value} {h : ac_H} {k z : Nat} {mi : ac_I} {n idx : Nat} (as : List Value) (b : Nat) (d' mc ms : Nat) {Ψ : ac_R → ac_H → Prop} (hd : decode (ac_cc g) pc = .ok (.invokespecial idx, 3)) (hk9 : ac_KI (ac_y g).cls idx mi n) (hn : as.length = n) (hM : ac_Mt (ac_l g) d' mi (.ref b :: as) h mc ms Ψ) (hno : ∀ E h', ¬ Ψ (.inr E) h') (hdd : d' + 1 ≤ ac_d g) (h1 : k + mc ≤ ac_mc g) (h2 : z + ms ≤ ac_ms g) (hs : (S.map fun v => v.category).sum ≤ 8) (kk : ∀ r h', Ψ (.inl r) h' → h.length ≤ h'.length → ac_G g (pc + 3) L (r.toList ++ S) h' (k + mc) (z + ms)) : ac_G g pc L (as.reverse ++ .ref b :: S) h k z := by
  intro p e R s m args below meth c D dA A σ0 Qf C σ H locs ls hW hL hS hl
  obtain ⟨⟨hx, hb, hml, hown, hnm, hts, htb⟩, ⟨hK, hX, hA, hR⟩, hend, hsc⟩ := id C
  obtain ⟨hk, hw1, hw2, hw4, hi9, hr9⟩ := hk9
  have hSa : ∀ v ∈ as, ac_ok h.length v := fun v hv => hS v (List.mem_append_left _ (List.mem_reverse.mpr hv))
  have hS2 : ∀ v ∈ S, ac_ok h.length v := fun v hv => hS v (List.mem_append_right _ (List.mem_cons_of_mem _ hv))
  have hokb : ac_ok h.length (.ref b) := hS _ (List.mem_append_right _ List.mem_cons_self)
  obtain ⟨hF, hpay⟩ := ac_pay hW hK hX hA (ac_okc hokb hSa)
  have cb := ac_CallB (mc := mc) (ms := ms) hts hk hw1 hw4 hdd hR.1 hR.2.1
  have hM2 := hM.met hno D dA σ H.size
  rw [hr9] at cb hM2
  exact ac_afterN C hW hL hS2 hl hF (va_runI (As := as.map (ac_v σ)) (b := σ.2 b) ⟨hx, hb, hml, hown, hts⟩ hM2 ⟨cb, hi9, hts _ hw2⟩ ⟨ac_blind D dA σ _ h H.size, hpay⟩ rfl (by rw [List.length_map]; exact hn) hl.1 (by show List.map (ac_v σ) (as.reverse ++ .ref b :: S) = _; rw [List.map_append, List.map_reverse]; rfl) (lv_room (by rw [ac_cats]; exact hs)) hd (by rw [hR.2.2.1, hR.2.2.2]; exact ⟨h1, h2⟩)) kk
/-- a constructor of a nest mate -/
theorem r_callIN {g : ac_P} {pc : Nat} {L : List (Nat × Value)} {S : List Value} {h : ac_H} {k z : Nat} {mi : ac_I} {n idx : Nat} (host : String) (as : List Value) (b : Nat) (d' mc ms : Nat) {Ψ : ac_R → ac_H → Prop} (hd : decode (ac_cc g) pc = .ok (.invokespecial idx, 3)) (hk9 : ac_KIN (ac_y g).cls idx mi n host) (hn : as.length = n) (hM : ac_Mt (ac_l g) d' mi (.ref b :: as) h mc ms Ψ) (hno : ∀ E h', ¬ Ψ (.inr E) h') (hdd : d' + 1 ≤ ac_d g) (h1 : k + mc ≤ ac_mc g) (h2 : z + ms ≤ ac_ms g) (hs : (S.map fun v => v.category).sum ≤ 8) (kk : ∀ r h', Ψ (.inl r) h' → h.length ≤ h'.length → ac_G g (pc + 3) L (r.toList ++ S) h' (k + mc) (z + ms)) : ac_G g pc L (as.reverse ++ .ref b :: S) h k z := by
  intro p e R s m args below meth c D dA A σ0 Qf C σ H locs ls hW hL hS hl
  obtain ⟨⟨hx, hb, hml, hown, hnm, hts, htb⟩, ⟨hK, hX, hA, hR⟩, hend, hsc⟩ := id C
  obtain ⟨hk, hw1, hw2, hw4, hi9, hr9⟩ := hk9
  have hSa : ∀ v ∈ as, ac_ok h.length v := fun v hv => hS v (List.mem_append_left _ (List.mem_reverse.mpr hv))
  have hS2 : ∀ v ∈ S, ac_ok h.length v := fun v hv => hS v (List.mem_append_right _ (List.mem_cons_of_mem _ hv))
  have hokb : ac_ok h.length (.ref b) := hS _ (List.mem_append_right _ List.mem_cons_self)
  obtain ⟨hF, hpay⟩ := ac_pay hW hK hX hA (ac_okc hokb hSa)
  obtain ⟨k1, k2, k3, k4, k5⟩ := hk
  have cb : va_CN R s args (ac_y g).cls idx mi.1 host mi.2.1 mi.2.2.1 mi.2.2.2.1 (Cond.code mi.1 mi.2.1 mi.2.2.1 mi.2.2.2.1 :: ac_U) (ac_rm d' mc ms) mc ms n := ⟨⟨rfl, rfl, Nat.le_trans hdd hR.1, by show 8 + (mi.2.2.1 + 11) + 35 * d' ≤ R.locals; omega, ac_paid hts hw4, List.mem_cons_self⟩, hts _ hw4, hts _ k1, ⟨k3, k4⟩, ac_params k5, va_Nw.use rfl (hX.2.1 _ hw1)⟩
  have hM2 := hM.met hno D dA σ H.size
  rw [hr9] at cb hM2
  exact ac_afterN C hW hL hS2 hl hF (va_runIN (As := as.map (ac_v σ)) (b := σ.2 b) ⟨hx, hb, hml, hown, hts⟩ hM2 ⟨cb, hi9, hts _ hw2⟩ ⟨ac_blind D dA σ _ h H.size, hpay⟩ rfl (by rw [List.length_map]; exact hn) hl.1 (by show List.map (ac_v σ) (as.reverse ++ .ref b :: S) = _; rw [List.map_append, List.map_reverse]; rfl) (lv_room (by rw [ac_cats]; exact hs)) hd (by rw [hR.2.2.1, hR.2.2.2]; exact ⟨h1, h2⟩)) kk
/-- a call of a static method with handlers -/
theorem r_callSW {g : ac_P} {pc : Nat} {L : List (Nat × Value)} {S : List Value} {h : ac_H} {k z : Nat} {mi : ac_I} {n idx : Nat} (as : List Value) (d' mc ms : Nat) {Ψ : ac_R → ac_H → Prop} (hd : decode (ac_cc g) pc = .ok (.invokestatic idx, 3)) (hk9 : ac_KSW (ac_y g).cls idx mi n) (hn : as.length = n) (hM : ac_MtW (ac_l g) d' mi as h mc ms Ψ) (hno : ∀ E h', ¬ Ψ (.inr E) h') (hdd : d' + 1 ≤ ac_d g) (h1 : k + mc ≤ ac_mc g) (h2 : z + ms ≤ ac_ms g) (hs : (S.map fun v => v.category).sum ≤ 8) (kk : ∀ r h', Ψ (.inl r) h' → h.length ≤ h'.length → ac_G g (pc + 3) L (r.toList ++ S) h' (k + mc) (z + ms)) : ac_G g pc L (as.reverse ++ S) h k z := by
  intro p e R s m args below meth c D dA A σ0 Qf C σ H locs ls hW hL hS hl
  obtain ⟨⟨hx, hb, hml, hown, hnm, hts, htb⟩, ⟨hK, hX, hA, hR⟩, hend, hsc⟩ := id C
  obtain ⟨hk, hw1, hw2, hw4⟩ := hk9
  have hSa : ∀ v ∈ as, ac_ok h.length v := fun v hv => hS v (List.mem_append_left _ (List.mem_reverse.mpr hv))
  have hS2 : ∀ v ∈ S, ac_ok h.length v := fun v hv => hS v (List.mem_append_right _ hv)
  obtain ⟨hF, hpay⟩ := ac_pay hW hK hX hA hSa
  obtain ⟨k1, k2, k3, k4, k5⟩ := hk
  obtain ⟨mk9, meth9, c9, hn9, hm9, hc9, -, hl9, -, -, -, hs9⟩ := Cond.codeWith_spec (hts _ hw4)
  refine ac_after C hW hL hS2 hl hF (xq_S (As := as.map (ac_v σ)) (maxL := mi.2.2.1) (n := n) (hM D dA σ H.size) (ac_blind D dA σ _ h H.size) hx hb hml hown rfl rfl (Nat.le_trans hdd hR.1) (by show 8 + (mi.2.2.1 + 11) + 35 * d' ≤ R.locals; omega) (ac_paid hts hw4) (hts _ k1) ⟨k3, k4⟩ (ac_params k5) (hts _ hw1) (hts _ hw2) hn9 hm9 hc9 hl9 hs9 hpay rfl (by rw [List.length_map]; exact hn) hl.1 (by show List.map (ac_v σ) (as.reverse ++ S) = _; rw [List.map_append, List.map_reverse]) (lv_room (by rw [ac_cats]; exact hs)) hd (by rw [hR.2.2.1]; exact h1) (by rw [hR.2.2.2]; exact h2)) kk (fun E h9 hq9 => absurd hq9 (hno E h9))
/-- THE BODY OF A METHOD: its walk gives its contract -/
theorem ac_enter {l : Launch} {d : Nat} {mi : ac_I} {a : List Value} {h : ac_H} {MC MS : Nat} {Φ : ac_R → ac_H → Prop} (hpl : plainName mi.1.cls = true) (hhh : mi.2.2.2.2 = []) (htr : l.stackTraces = false) (hsl : ∀ σ, (lg_sl (a.map (ac_v σ))).length ≤ mi.2.2.1) (kk : ac_G (l, d, mi, MC, MS, Φ, h.length, none) 0 (lv_args 0 a) [] h 0 0) : ac_Mt l d mi a h MC MS Φ := by
  intro D dA σ0 sz
  refine xq_ofW (cc := mi.2.1) (maxL := mi.2.2.1) (ret := mi.2.2.2.1) hpl rfl ?_
  intro p e s m args below meth c s₁ B hml htab hv
  obtain ⟨hargs, hsz, hok, hoka, hP, hK, hD0, hX⟩ := hv
  subst hsz
  have hx := B.exec
  have hb := B.bytes
  have hr := B.returns
  have hts : ∀ w ∈ ac_U, w.before args s = true := fun w hw => atoms_spec (ws := Cond.code mi.1 mi.2.1 mi.2.2.1 mi.2.2.2.1 :: ac_U) B.pre w (List.mem_cons_of_mem _ hw)
  have hown : s.vm.findClass mi.1.cls = some m.cls := findClass_of_methodNamed B.named
  have hnm : meth.name = mi.1.name := (name_of_methodNamed B.named B.method).1
  have hlocks := B.notSynchronized
  have hD := hD0.self (sz := s.heap.size)
  have htb : c.exceptionTable.toList = tableOf mi.2.2.2.2 := by
    rw [hhh]
    exact htab
  have hA : ∀ q : Nat, s.heap.size ≤ q → va_A (ac_w σ0 dA h) s.heap.size q := fun q hq => Or.inr hq
  have hl := lv_entry (a.map (ac_v σ0)) (n := mi.2.2.1) (hsl σ0)
  rw [ac_args_map] at hl
  rw [hargs, lg_entry_eq]
  rw [← hargs]
  refine kk p e (ac_rm d MC MS) s m args below meth c D dA (va_A (ac_w σ0 dA h) s.heap.size) σ0 _ ⟨⟨hx, hb, hml, hown, hnm, hts, htb⟩, ⟨hK, hX, hA, Nat.le_refl _, Nat.le_refl _, rfl, rfl⟩, ⟨?_, ?_, ?_⟩, fun L xs hq => nomatch hq⟩ σ0 s.heap [] _ ⟨hok, Nat.le_refl _, ac_ag_rf, hP, hD, va_S.rf⟩ (ac_args_ok 0 a hoka) (fun _ hq => nomatch hq) hl
  · intro σ h' H locs k z r pc ls hW hp h1 h2 hokr hb9
    obtain ⟨w1, w2, w3, hP1, hD1, hSS⟩ := hW
    refine W.widen h1 h2 (xq_ret (Qc := ac_Qc D dA σ0 h s.heap.size Φ) (fun _ _ q9 => q9) ?_)
    rcases hb9 with ⟨v, e1, e2, ty, e3, e4⟩ | ⟨a9, n9, e1, e2, e3⟩ | ⟨a9, t9, e1, e2, e3⟩ | ⟨e1, e2, e3⟩
    · subst e1
      exact W.zret hx hb (hr.trans e3) e4 (fun t ht hw => ⟨_, rfl, some (.int v), h', σ, rfl, hp, hokr, w1, w2, w3, by rw [ht]; exact hP1, hD1, hSS.F ht⟩) hSS.2.2 e2 hlocks
    · subst e1
      exact W.aret hx hb (hr.trans e3) (Or.inl ⟨n9, rfl⟩) (Or.inr ⟨_, rfl⟩) (fun t ht hw => ⟨_, rfl, some (.ref a9), h', σ, rfl, hp, hokr, w1, w2, w3, by rw [ht]; exact hP1, hD1, hSS.F ht⟩) hSS.2.2 e2 hlocks
    · subst e1
      exact W.aret hx hb (hr.trans e3) (Or.inr ⟨t9, rfl⟩) (Or.inr ⟨_, rfl⟩) (fun t ht hw => ⟨_, rfl, some (.ref a9), h', σ, rfl, hp, hokr, w1, w2, w3, by rw [ht]; exact hP1, hD1, hSS.F ht⟩) hSS.2.2 e2 hlocks
    · subst e1
      exact W.vret hx hb (hr.trans e3) (fun t ht hw => ⟨_, rfl, none, h', σ, rfl, hp, hokr, w1, w2, w3, by rw [ht]; exact hP1, hD1, hSS.F ht⟩) hSS.2.2 e2 hlocks
  · intro σ h' H locs k z E ce q pc ls rest hW hp h1 h2 hce hcv hcl _
    obtain ⟨w1, w2, w3, hP1, hD1, hSS⟩ := hW
    exact xq_out (fun x hx9 => by rw [htab] at hx9; cases hx9) hlocks hce hcv hcl (fun t ht hal => ⟨h', σ, hp, w1, w2, w3, by rw [ht]; exact hP1, hD1, hSS.F ht⟩) hSS.2.2 h1 h2
  · intro σ h' H locs k z E pc ls rest hW hp h1 h2 hls hcs _ hth
    obtain ⟨w1, w2, w3, hP1, hD1, hSS⟩ := hW
    obtain ⟨names, ik, is, ic, text, t1, t2, t3, t4, t5, t6, d0, d3, d4, d6, d9, t8, t9⟩ := hth
    obtain ⟨sa, hsa⟩ := hX.2.2.2.1 _ t5
    have t9' : 13 * (names.length + 1) + 51 ≤ 35 * d := t9
    refine xq_throw (A := va_A (ac_w σ0 dA h) s.heap.size) hx hb htr hown t1 t2 ⟨rfl, hts _ t3⟩ ⟨rfl, hts _ t4⟩ hsa (fun w hw => ?_) hSS (hls.trans hml.symm) d0 d3 d4 d6 d9 htab t8 (by show _ ≤ 35 * d; omega) h1 h2 hlocks (fun t hal hsz hke => ⟨h', σ, hp, w1, w2, w3, hP1.kept (fun i q hi => hke _ (hP1 i q hi).lt), hD1, Nat.le_trans hSS.1 hsz, fun q h9 h8 => (hke q (Nat.lt_of_lt_of_le h9 hSS.1)).trans (hSS.2.1 q h9 h8)⟩) hSS.2.2 h1 h2
    rcases t6 w hw with q | q | q
    · exact Or.inl ⟨q.2, hts _ q.1⟩
    · exact Or.inl ⟨ac_ow_tab w q, va_Nw.use (ac_ow_tab w q) (hX.2.1 _ q)⟩
    · exact Or.inr (hX.1 w q)
/-- .. of a method with handlers -/
theorem ac_enterW {l : Launch} {d : Nat} {mi : ac_I} {a : List Value} {h : ac_H} {MC MS : Nat} {Φ : ac_R → ac_H → Prop} (hpl : plainName mi.1.cls = true) (hno : ∀ E h', ¬ Φ (.inr E) h') (hsl : ∀ σ, (lg_sl (a.map (ac_v σ))).length ≤ mi.2.2.1) (kk : ac_G (l, d, mi, MC, MS, Φ, h.length, none) 0 (lv_args 0 a) [] h 0 0) : ac_MtW l d mi a h MC MS Φ := by
  intro D dA σ0 sz
  refine xq_ofWH (cc := mi.2.1) (maxL := mi.2.2.1) (ret := mi.2.2.2.1) (hh := mi.2.2.2.2) hpl rfl ?_
  intro p e s m args below meth c s₁ B hml htb hv
  obtain ⟨hargs, hsz, hok, hoka, hP, hK, hD0, hX⟩ := hv
  subst hsz
  have hx := B.exec
  have hb := B.bytes
  have hr := B.returns
  have hall := atoms_spec (ws := Cond.codeWith mi.1 mi.2.1 mi.2.2.1 mi.2.2.2.1 mi.2.2.2.2 :: ac_U) B.pre
  have hts : ∀ w ∈ ac_U, w.before args s = true := fun w hw => hall w (List.mem_cons_of_mem _ hw)
  have hown : s.vm.findClass mi.1.cls = some m.cls := findClass_of_methodNamed B.named
  have hnm : meth.name = mi.1.name := (name_of_methodNamed B.named B.method).1
  have hlocks := B.notSynchronized
  have hD := hD0.self (sz := s.heap.size)
  have hA : ∀ q : Nat, s.heap.size ≤ q → va_A (ac_w σ0 dA h) s.heap.size q := fun q hq => Or.inr hq
  have hl := lv_entry (a.map (ac_v σ0)) (n := mi.2.2.1) (hsl σ0)
  rw [ac_args_map] at hl
  rw [hargs, lg_entry_eq]
  rw [← hargs]
  refine kk p e (ac_rm d MC MS) s m args below meth c D dA (va_A (ac_w σ0 dA h) s.heap.size) σ0 _ ⟨⟨hx, hb, hml, hown, hnm, hts, htb⟩, ⟨hK, hX, hA, Nat.le_refl _, Nat.le_refl _, rfl, rfl⟩, ⟨?_, ?_, ?_⟩, fun L xs hq => nomatch hq⟩ σ0 s.heap [] _ ⟨hok, Nat.le_refl _, ac_ag_rf, hP, hD, va_S.rf⟩ (ac_args_ok 0 a hoka) (fun _ hq => nomatch hq) hl
  · intro σ h' H locs k z r pc ls hW hp h1 h2 hokr hb9
    obtain ⟨w1, w2, w3, hP1, hD1, hSS⟩ := hW
    refine W.widen h1 h2 (xq_ret (Qc := ac_Qc D dA σ0 h s.heap.size Φ) (fun _ _ q9 => q9) ?_)
    rcases hb9 with ⟨v, e1, e2, ty, e3, e4⟩ | ⟨a9, n9, e1, e2, e3⟩ | ⟨a9, t9, e1, e2, e3⟩ | ⟨e1, e2, e3⟩
    · subst e1
      exact W.zret hx hb (hr.trans e3) e4 (fun t ht hw => ⟨_, rfl, some (.int v), h', σ, rfl, hp, hokr, w1, w2, w3, by rw [ht]; exact hP1, hD1, hSS.F ht⟩) hSS.2.2 e2 hlocks
    · subst e1
      exact W.aret hx hb (hr.trans e3) (Or.inl ⟨n9, rfl⟩) (Or.inr ⟨_, rfl⟩) (fun t ht hw => ⟨_, rfl, some (.ref a9), h', σ, rfl, hp, hokr, w1, w2, w3, by rw [ht]; exact hP1, hD1, hSS.F ht⟩) hSS.2.2 e2 hlocks
    · subst e1
      exact W.aret hx hb (hr.trans e3) (Or.inr ⟨t9, rfl⟩) (Or.inr ⟨_, rfl⟩) (fun t ht hw => ⟨_, rfl, some (.ref a9), h', σ, rfl, hp, hokr, w1, w2, w3, by rw [ht]; exact hP1, hD1, hSS.F ht⟩) hSS.2.2 e2 hlocks
    · subst e1
      exact W.vret hx hb (hr.trans e3) (fun t ht hw => ⟨_, rfl, none, h', σ, rfl, hp, hokr, w1, w2, w3, by rw [ht]; exact hP1, hD1, hSS.F ht⟩) hSS.2.2 e2 hlocks
  · intro σ h' H locs k z E ce q pc ls rest hW hp
    exact absurd hp (hno E h')
  · intro σ h' H locs k z E pc ls rest hW hp
    exact absurd hp (hno E h')
/-- what a contract says may be weakened -/
theorem ac_Mt.mono {l : Launch} {d : Nat} {mi : ac_I} {a : List Value} {h : ac_H} {MC MS : Nat} {Φ Ψ : ac_R → ac_H → Prop} (hM : ac_Mt l d mi a h MC MS Φ) (hΦ : ∀ r h', Φ r h' → Ψ r h') : ac_Mt l d mi a h MC MS Ψ := by
  intro D dA σ0 sz p e h1 h2 h3 s m args below h4 h5 h6 h7
  obtain ⟨n, o, a1, a2, a3, L, a4, a5, a6, a7⟩ := hM D dA σ0 sz p e h1 h2 h3 s m args below h4 h5 h6 h7
  refine ⟨n, o, a1, a2, a3, L, a4, a5, a6, ?_⟩
  rcases a7 with ⟨v, b0, r, h', σ', b1, b2, b3⟩ | ⟨q, E, ce, c1, ⟨h', σ', b1, b2⟩, b3⟩
  · exact Or.inl ⟨v, b0, r, h', σ', b1, hΦ _ _ b2, b3⟩
  · exact Or.inr ⟨q, E, ce, c1, ⟨h', σ', hΦ _ _ b1, b2⟩, b3⟩
end
