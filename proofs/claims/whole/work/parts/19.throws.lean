/-! THROWS of the component -/
abbrev x_I : String := "java/lang/IndexOutOfBoundsException"
abbrev x_A : String := "java/lang/IllegalArgumentException"
abbrev x_S : String := "java/lang/IllegalStateException"
def x_ns : List String := ["java/lang/RuntimeException", "java/lang/Exception"]
def x_in (ic : Nat) (E : String) : Prop := ∀ w ∈ Bundle.ownAtoms "PairedGates" ic E x_ns, (w ∈ ac_U ∧ w.onTables = true) ∨ w ∈ ac_ow ∨ w ∈ xq_sw
theorem x_I_in : x_in 159 x_I := by unfold x_in; decide +kernel
theorem x_A_in : x_in 57 x_A := by unfold x_in; decide +kernel
theorem x_S_in : x_in 102 x_S := by unfold x_in; decide +kernel
theorem x_ns_fit : ∀ n ∈ x_ns, Bundle.fit n = true := by decide +kernel
/-- a throw at pc of a method of the component -/
theorem x_thr {g : ac_P} {pc ik is ic : Nat} {E text : String} (hc : (ac_y g).cls = "PairedGates") (hE : Bundle.fit E = true) (hl : Cond.classLink "PairedGates" ik E ∈ ac_U) (hi : Cond.initialized E ∈ ac_U) (hs : ("PairedGates", is, text) ∈ ac_str) (hx : x_in ic E) (d0 : decode (ac_cc g) pc = .ok (.new ik, 3)) (d3 : decode (ac_cc g) (pc + 3) = .ok (.dup, 1)) (d4 : decode (ac_cc g) (pc + 4) = .ok (.ldc is, 2)) (d6 : decode (ac_cc g) (pc + 6) = .ok (.invokespecial ic, 3)) (d9 : decode (ac_cc g) (pc + 9) = .ok (.athrow, 1)) (hd : 6 ≤ ac_d g) : ac_thr g pc E := by
  have e2 : x_ns.length = 2 := rfl
  exact ⟨x_ns, ik, is, ic, text, hE, x_ns_fit, by rw [hc]; exact hl, hi, by rw [hc]; exact hs, by rw [hc]; exact hx, d0, d3, d4, d6, d9, by rw [e2]; omega, by rw [e2]; omega⟩
