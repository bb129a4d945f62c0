/-! THE LAW'S LOOP: its cases -/
abbrev lawP (l : Launch) (Φ : ac_R → ac_H → Prop) (L : Nat) (xs : Nat → Int32) : ac_P := (l, 11, m_La_law, 601024, 7293034, Φ, 0, some (L, xs))
abbrev lawL (c : Nat) : List (Nat × Value) := [(4, .int (nI (4 * c))), (3, .ref 83), (2, .ref 57), (1, .ref 0), (0, .retAddr 0)]
def lawN (l : Launch) (Φ : ac_R → ac_H → Prop) (L : Nat) (xs : Nat → Int32) (c : Nat) : Prop := ∀ (h : ac_H) (s : sp_S) (f : Nat) (fo : Nat → Int64) (k z : Nat), PGs h s → MDs h s f → h[83]? = some (.inl (.inr (.inl (1, fo)))) → Inv s (c + 1) → k ≤ 84 + 3 * (c + 1) → z ≤ 3780 + 18 * (c + 1) → ac_G (lawP l Φ L xs) 1067 (lawL c) [] h k z
theorem cmp_0 (x : Int64) : lg_cmp x x = 0 := by
  unfold lg_cmp
  rw [if_neg (by rw [gt_iff_lt, Int64.lt_iff_toInt_lt]; omega), if_pos rfl]
theorem MDs.t {h : ac_H} {s : sp_S} {f : Nat} (H : MDs h s f) {l : Launch} (htr : l.stackTraces = false) {d : Nat} : ac_Mt l d m_Mo_thrown [.ref 57] h 0 0 (fun r h' => r = .inl (some (.int (nI f))) ∧ h = h') := by
  obtain ⟨F, V, M, H1, H2⟩ := H
  exact c_Mo_thrown htr M ⟨by rw [H2], rfl⟩
theorem law_0 {l : Launch} (htr : l.stackTraces = false) {Φ : ac_R → ac_H → Prop} {L c : Nat} {xs : Nat → Int32} (hc : 4 * c + 4 ≤ L) (hL : L ≤ 2048) (nx : lawN l Φ L xs c) {h : ac_H} {s : sp_S} {f : Nat} {fo : Nat → Int64} {k z : Nat} (H : PGs h s) (HM : MDs h s f) (ho : h[83]? = some (.inl (.inr (.inl (1, fo))))) (hI : Inv s c) (hk : k ≤ 84 + 3 * c) (hz : z ≤ 3780 + 18 * c) : ac_G (lawP l Φ L xs) 124 (lawL c) [] h k z := by
  have hc5 : c < 512 := by omega
  refine r_aload_n d_La_law_124 rfl ?_
  refine r_aload_nS d_La_law_125 rfl ?_
  refine r_iload d_La_law_126 rfl ?_
  refine r_iconst 1 d_La_law_128 (by decide) ?_
  refine r_ri nI1 ?_
  refine r_iadd d_La_law_129 ?_
  refine r_ri (nI_add _ _) ?_
  refine r_sload d_La_law_130 rfl (vp_in_nI (show 4 * c + 1 < L by omega) (by omega)) ?_
  refine r_aload_nS d_La_law_131 rfl ?_
  refine r_iload d_La_law_132 rfl ?_
  refine r_iconst 2 d_La_law_134 (by decide) ?_
  refine r_ri nI2 ?_
  refine r_iadd d_La_law_135 ?_
  refine r_ri (nI_add _ _) ?_
  refine r_sload d_La_law_136 rfl (vp_in_nI (show 4 * c + 2 < L by omega) (by omega)) ?_
  refine r_callSW [.ref 0, .int (xs (nI (4 * c + 1)).toNatClampNeg), .int (xs (nI (4 * c + 2)).toNatClampNeg)] 10 3 18 (Ψ := okV h (q_beams s (xs (nI (4 * c + 1)).toNatClampNeg) (xs (nI (4 * c + 2)).toNatClampNeg))) d_La_law_137 q_La_62 rfl (c_La_beams htr (by omega) H ho ) (fun E h9 w => nomatch w.1) (Nat.le_of_ble_eq_true rfl) (by show k + 3 ≤ 601024; omega) (by show z + 18 ≤ 7293034; omega) (Nat.le_of_ble_eq_true rfl) (fun r h2 hp _ => ?_)
  obtain ⟨e1, H2, hk2, fo2, ho2⟩ := hp
  cases e1
  have HM2 : MDs h2 s f := HM.pt hk2
  obtain ⟨F2, V2, M2, -, -⟩ := id HM2
  refine r_pc 140 rfl ?_
  refine r_istore d_La_law_140 (Nat.le_of_ble_eq_true rfl) ?_
  refine r_aload_n d_La_law_142 rfl ?_
  refine r_aload_nS d_La_law_143 rfl ?_
  refine r_iload d_La_law_144 rfl ?_
  refine r_iconst 1 d_La_law_146 (by decide) ?_
  refine r_ri nI1 ?_
  refine r_iadd d_La_law_147 ?_
  refine r_ri (nI_add _ _) ?_
  refine r_sload d_La_law_148 rfl (vp_in_nI (show 4 * c + 1 < L by omega) (by omega)) ?_
  refine r_aload_nS d_La_law_149 rfl ?_
  refine r_iload d_La_law_150 rfl ?_
  refine r_iconst 2 d_La_law_152 (by decide) ?_
  refine r_ri nI2 ?_
  refine r_iadd d_La_law_153 ?_
  refine r_ri (nI_add _ _) ?_
  refine r_sload d_La_law_154 rfl (vp_in_nI (show 4 * c + 2 < L by omega) (by omega)) ?_
  refine r_callV [.int (xs (nI (4 * c + 1)).toNatClampNeg), .int (xs (nI (4 * c + 2)).toNatClampNeg)] 57 10 0 0 (Ψ := fun r h' => r = .inl none ∧ frP h2 h' mod9 ∧ MDs h' (q_beams s (xs (nI (4 * c + 1)).toNatClampNeg) (xs (nI (4 * c + 2)).toNatClampNeg)).2.2 (q_beams s (xs (nI (4 * c + 1)).toNatClampNeg) (xs (nI (4 * c + 2)).toNatClampNeg)).1) d_La_law_155 q_La_67 M2.1 rfl rfl (k_Mo_beams htr (by omega) HM2) (Nat.le_of_ble_eq_true rfl) (by show k + 3 + 0 ≤ 601024; omega) (by show z + 18 + 0 ≤ 7293034; omega) (Nat.le_of_ble_eq_true rfl) (fun r h3 hp _ => ?_) (fun E h3 hp _ => nomatch hp.1)
  obtain ⟨e2, f3, HM3⟩ := hp
  cases e2
  have H3 : PGs h3 (q_beams s (xs (nI (4 * c + 1)).toNatClampNeg) (xs (nI (4 * c + 2)).toNatClampNeg)).2.2 := H2.pt (fun x hx => f3.2 x (by show ¬ (57 ≤ x ∧ x < 83); omega))
  have ho3 : h3[83]? = some (.inl (.inr (.inl (1, fo2)))) := (f3.2 83 (by show ¬ (57 ≤ 83 ∧ 83 < 83); omega)).trans ho2
  have hI3 : Inv (q_beams s (xs (nI (4 * c + 1)).toNatClampNeg) (xs (nI (4 * c + 2)).toNatClampNeg)).2.2 (c + 1) := inv_beams hI
  have qle : (q_beams s (xs (nI (4 * c + 1)).toNatClampNeg) (xs (nI (4 * c + 2)).toNatClampNeg)).1 ≤ 3 := Nat.le_trans qle_beams (by omega)
  generalize (q_beams s (xs (nI (4 * c + 1)).toNatClampNeg) (xs (nI (4 * c + 2)).toNatClampNeg)) = Q at *
  refine r_pc 158 rfl ?_
  refine r_aload_n d_La_law_158 rfl ?_
  obtain ⟨F3, V3, M3, S3, v3⟩ := id HM3
  refine r_cVi [] 57 10 0 0 (nI Q.1) (fun h' => h3 = h') d_La_law_159 q_La_68 M3.1 rfl rfl (HM3.t htr) (Nat.le_of_ble_eq_true rfl) (by show k + 3 + 0 + 0 ≤ 601024; omega) (by show z + 18 + 0 + 0 ≤ 7293034; omega) (Nat.le_of_ble_eq_true rfl) (fun h4 e4 => ?_)
  subst e4
  refine r_iload d_La_law_162 rfl ?_
  refine r_icmp_eq 169 d_La_law_164 (by decide) (fun _ => ?_) (fun w => absurd rfl w)
  refine r_goto 1067 d_La_law_169 (by decide) ?_
  exact r_loc _ (fun q hq => by simp at hq; rcases hq with q | q | q | q | q <;> subst q <;> rfl) (nx _ _ _ _ _ _ H3 HM3 ho3 hI3 (by omega) (by omega))
theorem law_1 {l : Launch} (htr : l.stackTraces = false) {Φ : ac_R → ac_H → Prop} {L c : Nat} {xs : Nat → Int32} (hc : 4 * c + 4 ≤ L) (hL : L ≤ 2048) (nx : lawN l Φ L xs c) {h : ac_H} {s : sp_S} {f : Nat} {fo : Nat → Int64} {k z : Nat} (H : PGs h s) (HM : MDs h s f) (ho : h[83]? = some (.inl (.inr (.inl (1, fo))))) (hI : Inv s c) (hk : k ≤ 84 + 3 * c) (hz : z ≤ 3780 + 18 * c) : ac_G (lawP l Φ L xs) 172 (lawL c) [] h k z := by
  have hc5 : c < 512 := by omega
  refine r_aload_n d_La_law_172 rfl ?_
  refine r_aload_nS d_La_law_173 rfl ?_
  refine r_iload d_La_law_174 rfl ?_
  refine r_iconst 1 d_La_law_176 (by decide) ?_
  refine r_ri nI1 ?_
  refine r_iadd d_La_law_177 ?_
  refine r_ri (nI_add _ _) ?_
  refine r_sload d_La_law_178 rfl (vp_in_nI (show 4 * c + 1 < L by omega) (by omega)) ?_
  refine r_aload_n d_La_law_179 rfl ?_
  refine r_callSW [.ref 0, .int (xs (nI (4 * c + 1)).toNatClampNeg), .ref 83] 10 3 18 (Ψ := okL h (q_ticks s (xs (nI (4 * c + 1)).toNatClampNeg))) d_La_law_180 q_La_72 rfl (c_La_ticks htr (by omega) H ho (hI.capt hc5)) (fun E h9 w => nomatch w.1) (Nat.le_of_ble_eq_true rfl) (by show k + 3 ≤ 601024; omega) (by show z + 18 ≤ 7293034; omega) (Nat.le_of_ble_eq_true rfl) (fun r h2 hp _ => ?_)
  obtain ⟨e1, H2, hk2, fo2, ho2, hv2⟩ := hp
  cases e1
  have HM2 : MDs h2 s f := HM.pt hk2
  obtain ⟨F2, V2, M2, -, -⟩ := id HM2
  refine r_pc 183 rfl ?_
  refine r_istore d_La_law_183 (Nat.le_of_ble_eq_true rfl) ?_
  refine r_aload_n d_La_law_185 rfl ?_
  refine r_aload_nS d_La_law_186 rfl ?_
  refine r_iload d_La_law_187 rfl ?_
  refine r_iconst 1 d_La_law_189 (by decide) ?_
  refine r_ri nI1 ?_
  refine r_iadd d_La_law_190 ?_
  refine r_ri (nI_add _ _) ?_
  refine r_sload d_La_law_191 rfl (vp_in_nI (show 4 * c + 1 < L by omega) (by omega)) ?_
  refine r_callV [.int (xs (nI (4 * c + 1)).toNatClampNeg)] 57 10 0 0 (Ψ := okM h2 (q_ticks s (xs (nI (4 * c + 1)).toNatClampNeg))) d_La_law_192 q_La_75 M2.1 rfl rfl (k_Mo_ticks htr (by omega) HM2 (hI.capt hc5)) (Nat.le_of_ble_eq_true rfl) (by show k + 3 + 0 ≤ 601024; omega) (by show z + 18 + 0 ≤ 7293034; omega) (Nat.le_of_ble_eq_true rfl) (fun r h3 hp _ => ?_) (fun E h3 hp _ => nomatch hp.1)
  obtain ⟨e2, f3, HM3⟩ := hp
  cases e2
  have H3 : PGs h3 (q_ticks s (xs (nI (4 * c + 1)).toNatClampNeg)).2.2 := H2.pt (fun x hx => f3.2 x (by show ¬ (57 ≤ x ∧ x < 83); omega))
  have ho3 : h3[83]? = some (.inl (.inr (.inl (1, fo2)))) := (f3.2 83 (by show ¬ (57 ≤ 83 ∧ 83 < 83); omega)).trans ho2
  have hI3 : Inv (q_ticks s (xs (nI (4 * c + 1)).toNatClampNeg)).2.2 (c + 1) := inv_ticks hI
  have q0v : (q_ticks s (xs (nI (4 * c + 1)).toNatClampNeg)).1 = 0 → fo2 0 = (q_ticks s (xs (nI (4 * c + 1)).toNatClampNeg)).2.1.toInt64 := hv2
  have qle : (q_ticks s (xs (nI (4 * c + 1)).toNatClampNeg)).1 ≤ 3 := Nat.le_trans qle_ticks (by omega)
  generalize (q_ticks s (xs (nI (4 * c + 1)).toNatClampNeg)) = Q at *
  refine r_pc 195 rfl ?_
  refine r_istore d_La_law_195 (Nat.le_of_ble_eq_true rfl) ?_
  refine r_aload_n d_La_law_197 rfl ?_
  obtain ⟨F3, V3, M3, S3, v3⟩ := id HM3
  refine r_cVi [] 57 10 0 0 (nI Q.1) (fun h' => h3 = h') d_La_law_198 q_La_68 M3.1 rfl rfl (HM3.t htr) (Nat.le_of_ble_eq_true rfl) (by show k + 3 + 0 + 0 ≤ 601024; omega) (by show z + 18 + 0 + 0 ≤ 7293034; omega) (Nat.le_of_ble_eq_true rfl) (fun h4 e4 => ?_)
  subst e4
  refine r_iload d_La_law_201 rfl ?_
  refine r_icmp_eq 208 d_La_law_203 (by decide) (fun _ => ?_) (fun w => absurd rfl w)
  refine r_iload d_La_law_208 rfl ?_
  refine r_if_ne 225 d_La_law_210 (by decide) (fun w => ?_) (fun w => ?_)
  · refine r_goto 1067 d_La_law_225 (by decide) ?_
    exact r_loc _ (fun q hq => by simp at hq; rcases hq with q | q | q | q | q <;> subst q <;> rfl) (nx _ _ _ _ _ _ H3 HM3 ho3 hI3 (by omega) (by omega))
  · have q0 : Q.1 = 0 := (nI_eq (by omega) (by omega)).mp (w.trans nI_0.symm)
    refine r_aload_n d_La_law_213 rfl ?_
    refine r_iconst 0 d_La_law_214 (by decide) ?_
    refine r_laload d_La_law_215 ho3 (by unfold vp_in; decide) ?_
    refine r_iload d_La_law_216 rfl ?_
    refine r_i2l d_La_law_218 ?_
    refine r_lcmp d_La_law_219 ?_
    refine r_ri (y := 0) (by
      rw [if_pos q0]
      have e9 : fo2 (0 : Int32).toNatClampNeg = Q.2.1.toInt64 := q0v q0
      rw [e9]; exact cmp_0 _) ?_
    refine r_if_eq 225 d_La_law_220 (by decide) (fun _ => ?_) (fun w => absurd rfl w)
    refine r_goto 1067 d_La_law_225 (by decide) ?_
    exact r_loc _ (fun q hq => by simp at hq; rcases hq with q | q | q | q | q <;> subst q <;> rfl) (nx _ _ _ _ _ _ H3 HM3 ho3 hI3 (by omega) (by omega))
theorem law_2 {l : Launch} (htr : l.stackTraces = false) {Φ : ac_R → ac_H → Prop} {L c : Nat} {xs : Nat → Int32} (hc : 4 * c + 4 ≤ L) (hL : L ≤ 2048) (nx : lawN l Φ L xs c) {h : ac_H} {s : sp_S} {f : Nat} {fo : Nat → Int64} {k z : Nat} (H : PGs h s) (HM : MDs h s f) (ho : h[83]? = some (.inl (.inr (.inl (1, fo))))) (hI : Inv s c) (hk : k ≤ 84 + 3 * c) (hz : z ≤ 3780 + 18 * c) : ac_G (lawP l Φ L xs) 228 (lawL c) [] h k z := by
  have hc5 : c < 512 := by omega
  refine r_aload_n d_La_law_228 rfl ?_
  refine r_aload_nS d_La_law_229 rfl ?_
  refine r_iload d_La_law_230 rfl ?_
  refine r_iconst 1 d_La_law_232 (by decide) ?_
  refine r_ri nI1 ?_
  refine r_iadd d_La_law_233 ?_
  refine r_ri (nI_add _ _) ?_
  refine r_sload d_La_law_234 rfl (vp_in_nI (show 4 * c + 1 < L by omega) (by omega)) ?_
  refine r_aload_nS d_La_law_235 rfl ?_
  refine r_iload d_La_law_236 rfl ?_
  refine r_iconst 2 d_La_law_238 (by decide) ?_
  refine r_ri nI2 ?_
  refine r_iadd d_La_law_239 ?_
  refine r_ri (nI_add _ _) ?_
  refine r_sload d_La_law_240 rfl (vp_in_nI (show 4 * c + 2 < L by omega) (by omega)) ?_
  refine r_pc 241 rfl ?_
  refine r_aload_nS d_La_law_241 rfl ?_
  refine r_iload d_La_law_242 rfl ?_
  refine r_iconst 3 d_La_law_244 (by decide) ?_
  refine r_ri nI3 ?_
  refine r_iadd d_La_law_245 ?_
  refine r_ri (nI_add _ _) ?_
  refine r_sload d_La_law_246 rfl (vp_in_nI (show 4 * c + 3 < L by omega) (by omega)) ?_
  refine r_aload_n d_La_law_247 rfl ?_
  refine r_callSW [.ref 0, .int (xs (nI (4 * c + 1)).toNatClampNeg), .int (xs (nI (4 * c + 2)).toNatClampNeg), .int (xs (nI (4 * c + 3)).toNatClampNeg), .ref 83] 10 3 18 (Ψ := okL h (q_token s (xs (nI (4 * c + 1)).toNatClampNeg) (xs (nI (4 * c + 2)).toNatClampNeg) (xs (nI (4 * c + 3)).toNatClampNeg))) d_La_law_248 q_La_76 rfl (c_La_token htr (by omega) H ho (hI.capa hc5)) (fun E h9 w => nomatch w.1) (Nat.le_of_ble_eq_true rfl) (by show k + 3 ≤ 601024; omega) (by show z + 18 ≤ 7293034; omega) (Nat.le_of_ble_eq_true rfl) (fun r h2 hp _ => ?_)
  obtain ⟨e1, H2, hk2, fo2, ho2, hv2⟩ := hp
  cases e1
  have HM2 : MDs h2 s f := HM.pt hk2
  obtain ⟨F2, V2, M2, -, -⟩ := id HM2
  refine r_pc 251 rfl ?_
  refine r_istore d_La_law_251 (Nat.le_of_ble_eq_true rfl) ?_
  refine r_aload_n d_La_law_253 rfl ?_
  refine r_aload_nS d_La_law_254 rfl ?_
  refine r_iload d_La_law_255 rfl ?_
  refine r_iconst 1 d_La_law_257 (by decide) ?_
  refine r_ri nI1 ?_
  refine r_iadd d_La_law_258 ?_
  refine r_ri (nI_add _ _) ?_
  refine r_sload d_La_law_259 rfl (vp_in_nI (show 4 * c + 1 < L by omega) (by omega)) ?_
  refine r_aload_nS d_La_law_260 rfl ?_
  refine r_iload d_La_law_261 rfl ?_
  refine r_iconst 2 d_La_law_263 (by decide) ?_
  refine r_ri nI2 ?_
  refine r_iadd d_La_law_264 ?_
  refine r_ri (nI_add _ _) ?_
  refine r_sload d_La_law_265 rfl (vp_in_nI (show 4 * c + 2 < L by omega) (by omega)) ?_
  refine r_pc 266 rfl ?_
  refine r_aload_nS d_La_law_266 rfl ?_
  refine r_iload d_La_law_267 rfl ?_
  refine r_iconst 3 d_La_law_269 (by decide) ?_
  refine r_ri nI3 ?_
  refine r_iadd d_La_law_270 ?_
  refine r_ri (nI_add _ _) ?_
  refine r_sload d_La_law_271 rfl (vp_in_nI (show 4 * c + 3 < L by omega) (by omega)) ?_
  refine r_callV [.int (xs (nI (4 * c + 1)).toNatClampNeg), .int (xs (nI (4 * c + 2)).toNatClampNeg), .int (xs (nI (4 * c + 3)).toNatClampNeg)] 57 10 0 0 (Ψ := okM h2 (q_token s (xs (nI (4 * c + 1)).toNatClampNeg) (xs (nI (4 * c + 2)).toNatClampNeg) (xs (nI (4 * c + 3)).toNatClampNeg))) d_La_law_272 q_La_79 M2.1 rfl rfl (k_Mo_token htr (by omega) HM2 (hI.capa hc5) hI.2.2.1 (hI.now hc5)) (Nat.le_of_ble_eq_true rfl) (by show k + 3 + 0 ≤ 601024; omega) (by show z + 18 + 0 ≤ 7293034; omega) (Nat.le_of_ble_eq_true rfl) (fun r h3 hp _ => ?_) (fun E h3 hp _ => nomatch hp.1)
  obtain ⟨e2, f3, HM3⟩ := hp
  cases e2
  have H3 : PGs h3 (q_token s (xs (nI (4 * c + 1)).toNatClampNeg) (xs (nI (4 * c + 2)).toNatClampNeg) (xs (nI (4 * c + 3)).toNatClampNeg)).2.2 := H2.pt (fun x hx => f3.2 x (by show ¬ (57 ≤ x ∧ x < 83); omega))
  have ho3 : h3[83]? = some (.inl (.inr (.inl (1, fo2)))) := (f3.2 83 (by show ¬ (57 ≤ 83 ∧ 83 < 83); omega)).trans ho2
  have hI3 : Inv (q_token s (xs (nI (4 * c + 1)).toNatClampNeg) (xs (nI (4 * c + 2)).toNatClampNeg) (xs (nI (4 * c + 3)).toNatClampNeg)).2.2 (c + 1) := inv_token hI
  have q0v : (q_token s (xs (nI (4 * c + 1)).toNatClampNeg) (xs (nI (4 * c + 2)).toNatClampNeg) (xs (nI (4 * c + 3)).toNatClampNeg)).1 = 0 → fo2 0 = (q_token s (xs (nI (4 * c + 1)).toNatClampNeg) (xs (nI (4 * c + 2)).toNatClampNeg) (xs (nI (4 * c + 3)).toNatClampNeg)).2.1.toInt64 := hv2
  have qle : (q_token s (xs (nI (4 * c + 1)).toNatClampNeg) (xs (nI (4 * c + 2)).toNatClampNeg) (xs (nI (4 * c + 3)).toNatClampNeg)).1 ≤ 3 := Nat.le_trans qle_token (by omega)
  generalize (q_token s (xs (nI (4 * c + 1)).toNatClampNeg) (xs (nI (4 * c + 2)).toNatClampNeg) (xs (nI (4 * c + 3)).toNatClampNeg)) = Q at *
  refine r_pc 275 rfl ?_
  refine r_istore d_La_law_275 (Nat.le_of_ble_eq_true rfl) ?_
  refine r_aload_n d_La_law_277 rfl ?_
  obtain ⟨F3, V3, M3, S3, v3⟩ := id HM3
  refine r_cVi [] 57 10 0 0 (nI Q.1) (fun h' => h3 = h') d_La_law_278 q_La_68 M3.1 rfl rfl (HM3.t htr) (Nat.le_of_ble_eq_true rfl) (by show k + 3 + 0 + 0 ≤ 601024; omega) (by show z + 18 + 0 + 0 ≤ 7293034; omega) (Nat.le_of_ble_eq_true rfl) (fun h4 e4 => ?_)
  subst e4
  refine r_iload d_La_law_281 rfl ?_
  refine r_icmp_eq 288 d_La_law_283 (by decide) (fun _ => ?_) (fun w => absurd rfl w)
  refine r_iload d_La_law_288 rfl ?_
  refine r_if_ne 305 d_La_law_290 (by decide) (fun w => ?_) (fun w => ?_)
  · refine r_goto 1067 d_La_law_305 (by decide) ?_
    exact r_loc _ (fun q hq => by simp at hq; rcases hq with q | q | q | q | q <;> subst q <;> rfl) (nx _ _ _ _ _ _ H3 HM3 ho3 hI3 (by omega) (by omega))
  · have q0 : Q.1 = 0 := (nI_eq (by omega) (by omega)).mp (w.trans nI_0.symm)
    refine r_aload_n d_La_law_293 rfl ?_
    refine r_iconst 0 d_La_law_294 (by decide) ?_
    refine r_laload d_La_law_295 ho3 (by unfold vp_in; decide) ?_
    refine r_iload d_La_law_296 rfl ?_
    refine r_i2l d_La_law_298 ?_
    refine r_lcmp d_La_law_299 ?_
    refine r_ri (y := 0) (by
      rw [if_pos q0]
      have e9 : fo2 (0 : Int32).toNatClampNeg = Q.2.1.toInt64 := q0v q0
      rw [e9]; exact cmp_0 _) ?_
    refine r_if_eq 305 d_La_law_300 (by decide) (fun _ => ?_) (fun w => absurd rfl w)
    refine r_goto 1067 d_La_law_305 (by decide) ?_
    exact r_loc _ (fun q hq => by simp at hq; rcases hq with q | q | q | q | q <;> subst q <;> rfl) (nx _ _ _ _ _ _ H3 HM3 ho3 hI3 (by omega) (by omega))
theorem law_3 {l : Launch} (htr : l.stackTraces = false) {Φ : ac_R → ac_H → Prop} {L c : Nat} {xs : Nat → Int32} (hc : 4 * c + 4 ≤ L) (hL : L ≤ 2048) (nx : lawN l Φ L xs c) {h : ac_H} {s : sp_S} {f : Nat} {fo : Nat → Int64} {k z : Nat} (H : PGs h s) (HM : MDs h s f) (ho : h[83]? = some (.inl (.inr (.inl (1, fo))))) (hI : Inv s c) (hk : k ≤ 84 + 3 * c) (hz : z ≤ 3780 + 18 * c) : ac_G (lawP l Φ L xs) 308 (lawL c) [] h k z := by
  have hc5 : c < 512 := by omega
  refine r_aload_n d_La_law_308 rfl ?_
  refine r_aload_nS d_La_law_309 rfl ?_
  refine r_iload d_La_law_310 rfl ?_
  refine r_iconst 1 d_La_law_312 (by decide) ?_
  refine r_ri nI1 ?_
  refine r_iadd d_La_law_313 ?_
  refine r_ri (nI_add _ _) ?_
  refine r_sload d_La_law_314 rfl (vp_in_nI (show 4 * c + 1 < L by omega) (by omega)) ?_
  refine r_aload_nS d_La_law_315 rfl ?_
  refine r_iload d_La_law_316 rfl ?_
  refine r_iconst 2 d_La_law_318 (by decide) ?_
  refine r_ri nI2 ?_
  refine r_iadd d_La_law_319 ?_
  refine r_ri (nI_add _ _) ?_
  refine r_sload d_La_law_320 rfl (vp_in_nI (show 4 * c + 2 < L by omega) (by omega)) ?_
  refine r_pc 321 rfl ?_
  refine r_aload_n d_La_law_321 rfl ?_
  refine r_callSW [.ref 0, .int (xs (nI (4 * c + 1)).toNatClampNeg), .int (xs (nI (4 * c + 2)).toNatClampNeg), .ref 83] 10 3 18 (Ψ := okL h (q_cancel s (xs (nI (4 * c + 1)).toNatClampNeg) (xs (nI (4 * c + 2)).toNatClampNeg))) d_La_law_322 q_La_80 rfl (c_La_cancel htr (by omega) H ho (hI.capc hc5)) (fun E h9 w => nomatch w.1) (Nat.le_of_ble_eq_true rfl) (by show k + 3 ≤ 601024; omega) (by show z + 18 ≤ 7293034; omega) (Nat.le_of_ble_eq_true rfl) (fun r h2 hp _ => ?_)
  obtain ⟨e1, H2, hk2, fo2, ho2, hv2⟩ := hp
  cases e1
  have HM2 : MDs h2 s f := HM.pt hk2
  obtain ⟨F2, V2, M2, -, -⟩ := id HM2
  refine r_pc 325 rfl ?_
  refine r_istore d_La_law_325 (Nat.le_of_ble_eq_true rfl) ?_
  refine r_aload_n d_La_law_327 rfl ?_
  refine r_aload_nS d_La_law_328 rfl ?_
  refine r_iload d_La_law_329 rfl ?_
  refine r_iconst 1 d_La_law_331 (by decide) ?_
  refine r_ri nI1 ?_
  refine r_iadd d_La_law_332 ?_
  refine r_ri (nI_add _ _) ?_
  refine r_sload d_La_law_333 rfl (vp_in_nI (show 4 * c + 1 < L by omega) (by omega)) ?_
  refine r_aload_nS d_La_law_334 rfl ?_
  refine r_iload d_La_law_335 rfl ?_
  refine r_iconst 2 d_La_law_337 (by decide) ?_
  refine r_ri nI2 ?_
  refine r_iadd d_La_law_338 ?_
  refine r_ri (nI_add _ _) ?_
  refine r_sload d_La_law_339 rfl (vp_in_nI (show 4 * c + 2 < L by omega) (by omega)) ?_
  refine r_callV [.int (xs (nI (4 * c + 1)).toNatClampNeg), .int (xs (nI (4 * c + 2)).toNatClampNeg)] 57 10 0 0 (Ψ := okM h2 (q_cancel s (xs (nI (4 * c + 1)).toNatClampNeg) (xs (nI (4 * c + 2)).toNatClampNeg))) d_La_law_340 q_La_83 M2.1 rfl rfl (k_Mo_cancel htr (by omega) HM2 (hI.capc hc5)) (Nat.le_of_ble_eq_true rfl) (by show k + 3 + 0 ≤ 601024; omega) (by show z + 18 + 0 ≤ 7293034; omega) (Nat.le_of_ble_eq_true rfl) (fun r h3 hp _ => ?_) (fun E h3 hp _ => nomatch hp.1)
  obtain ⟨e2, f3, HM3⟩ := hp
  cases e2
  have H3 : PGs h3 (q_cancel s (xs (nI (4 * c + 1)).toNatClampNeg) (xs (nI (4 * c + 2)).toNatClampNeg)).2.2 := H2.pt (fun x hx => f3.2 x (by show ¬ (57 ≤ x ∧ x < 83); omega))
  have ho3 : h3[83]? = some (.inl (.inr (.inl (1, fo2)))) := (f3.2 83 (by show ¬ (57 ≤ 83 ∧ 83 < 83); omega)).trans ho2
  have hI3 : Inv (q_cancel s (xs (nI (4 * c + 1)).toNatClampNeg) (xs (nI (4 * c + 2)).toNatClampNeg)).2.2 (c + 1) := inv_cancel hI
  have q0v : (q_cancel s (xs (nI (4 * c + 1)).toNatClampNeg) (xs (nI (4 * c + 2)).toNatClampNeg)).1 = 0 → fo2 0 = (q_cancel s (xs (nI (4 * c + 1)).toNatClampNeg) (xs (nI (4 * c + 2)).toNatClampNeg)).2.1.toInt64 := hv2
  have qle : (q_cancel s (xs (nI (4 * c + 1)).toNatClampNeg) (xs (nI (4 * c + 2)).toNatClampNeg)).1 ≤ 3 := Nat.le_trans qle_cancel (by omega)
  generalize (q_cancel s (xs (nI (4 * c + 1)).toNatClampNeg) (xs (nI (4 * c + 2)).toNatClampNeg)) = Q at *
  refine r_pc 343 rfl ?_
  refine r_istore d_La_law_343 (Nat.le_of_ble_eq_true rfl) ?_
  refine r_aload_n d_La_law_345 rfl ?_
  obtain ⟨F3, V3, M3, S3, v3⟩ := id HM3
  refine r_cVi [] 57 10 0 0 (nI Q.1) (fun h' => h3 = h') d_La_law_346 q_La_68 M3.1 rfl rfl (HM3.t htr) (Nat.le_of_ble_eq_true rfl) (by show k + 3 + 0 + 0 ≤ 601024; omega) (by show z + 18 + 0 + 0 ≤ 7293034; omega) (Nat.le_of_ble_eq_true rfl) (fun h4 e4 => ?_)
  subst e4
  refine r_iload d_La_law_349 rfl ?_
  refine r_icmp_eq 356 d_La_law_351 (by decide) (fun _ => ?_) (fun w => absurd rfl w)
  refine r_iload d_La_law_356 rfl ?_
  refine r_if_ne 373 d_La_law_358 (by decide) (fun w => ?_) (fun w => ?_)
  · refine r_goto 1067 d_La_law_373 (by decide) ?_
    exact r_loc _ (fun q hq => by simp at hq; rcases hq with q | q | q | q | q <;> subst q <;> rfl) (nx _ _ _ _ _ _ H3 HM3 ho3 hI3 (by omega) (by omega))
  · have q0 : Q.1 = 0 := (nI_eq (by omega) (by omega)).mp (w.trans nI_0.symm)
    refine r_aload_n d_La_law_361 rfl ?_
    refine r_iconst 0 d_La_law_362 (by decide) ?_
    refine r_laload d_La_law_363 ho3 (by unfold vp_in; decide) ?_
    refine r_iload d_La_law_364 rfl ?_
    refine r_i2l d_La_law_366 ?_
    refine r_lcmp d_La_law_367 ?_
    refine r_ri (y := 0) (by
      rw [if_pos q0]
      have e9 : fo2 (0 : Int32).toNatClampNeg = Q.2.1.toInt64 := q0v q0
      rw [e9]; exact cmp_0 _) ?_
    refine r_if_eq 373 d_La_law_368 (by decide) (fun _ => ?_) (fun w => absurd rfl w)
    refine r_goto 1067 d_La_law_373 (by decide) ?_
    exact r_loc _ (fun q hq => by simp at hq; rcases hq with q | q | q | q | q <;> subst q <;> rfl) (nx _ _ _ _ _ _ H3 HM3 ho3 hI3 (by omega) (by omega))
theorem law_4 {l : Launch} (htr : l.stackTraces = false) {Φ : ac_R → ac_H → Prop} {L c : Nat} {xs : Nat → Int32} (hc : 4 * c + 4 ≤ L) (hL : L ≤ 2048) (nx : lawN l Φ L xs c) {h : ac_H} {s : sp_S} {f : Nat} {fo : Nat → Int64} {k z : Nat} (H : PGs h s) (HM : MDs h s f) (ho : h[83]? = some (.inl (.inr (.inl (1, fo))))) (hI : Inv s c) (hk : k ≤ 84 + 3 * c) (hz : z ≤ 3780 + 18 * c) : ac_G (lawP l Φ L xs) 376 (lawL c) [] h k z := by
  have hc5 : c < 512 := by omega
  refine r_aload_n d_La_law_376 rfl ?_
  refine r_aload_nS d_La_law_377 rfl ?_
  refine r_iload d_La_law_378 rfl ?_
  refine r_iconst 1 d_La_law_380 (by decide) ?_
  refine r_ri nI1 ?_
  refine r_iadd d_La_law_381 ?_
  refine r_ri (nI_add _ _) ?_
  refine r_sload d_La_law_382 rfl (vp_in_nI (show 4 * c + 1 < L by omega) (by omega)) ?_
  refine r_aload_nS d_La_law_383 rfl ?_
  refine r_iload d_La_law_384 rfl ?_
  refine r_iconst 2 d_La_law_386 (by decide) ?_
  refine r_ri nI2 ?_
  refine r_iadd d_La_law_387 ?_
  refine r_ri (nI_add _ _) ?_
  refine r_sload d_La_law_388 rfl (vp_in_nI (show 4 * c + 2 < L by omega) (by omega)) ?_
  refine r_pc 389 rfl ?_
  refine r_aload_n d_La_law_389 rfl ?_
  refine r_callSW [.ref 0, .int (xs (nI (4 * c + 1)).toNatClampNeg), .int (xs (nI (4 * c + 2)).toNatClampNeg), .ref 83] 10 3 18 (Ψ := okL h (q_mode s (xs (nI (4 * c + 1)).toNatClampNeg) (xs (nI (4 * c + 2)).toNatClampNeg))) d_La_law_390 q_La_84 rfl (c_La_mode htr (by omega) H ho (hI.capm hc5)) (fun E h9 w => nomatch w.1) (Nat.le_of_ble_eq_true rfl) (by show k + 3 ≤ 601024; omega) (by show z + 18 ≤ 7293034; omega) (Nat.le_of_ble_eq_true rfl) (fun r h2 hp _ => ?_)
  obtain ⟨e1, H2, hk2, fo2, ho2, hv2⟩ := hp
  cases e1
  have HM2 : MDs h2 s f := HM.pt hk2
  obtain ⟨F2, V2, M2, -, -⟩ := id HM2
  refine r_pc 393 rfl ?_
  refine r_istore d_La_law_393 (Nat.le_of_ble_eq_true rfl) ?_
  refine r_aload_n d_La_law_395 rfl ?_
  refine r_aload_nS d_La_law_396 rfl ?_
  refine r_iload d_La_law_397 rfl ?_
  refine r_iconst 1 d_La_law_399 (by decide) ?_
  refine r_ri nI1 ?_
  refine r_iadd d_La_law_400 ?_
  refine r_ri (nI_add _ _) ?_
  refine r_sload d_La_law_401 rfl (vp_in_nI (show 4 * c + 1 < L by omega) (by omega)) ?_
  refine r_aload_nS d_La_law_402 rfl ?_
  refine r_iload d_La_law_403 rfl ?_
  refine r_iconst 2 d_La_law_405 (by decide) ?_
  refine r_ri nI2 ?_
  refine r_iadd d_La_law_406 ?_
  refine r_ri (nI_add _ _) ?_
  refine r_sload d_La_law_407 rfl (vp_in_nI (show 4 * c + 2 < L by omega) (by omega)) ?_
  refine r_callV [.int (xs (nI (4 * c + 1)).toNatClampNeg), .int (xs (nI (4 * c + 2)).toNatClampNeg)] 57 10 0 0 (Ψ := okM h2 (q_mode s (xs (nI (4 * c + 1)).toNatClampNeg) (xs (nI (4 * c + 2)).toNatClampNeg))) d_La_law_408 q_La_86 M2.1 rfl rfl (k_Mo_mode htr (by omega) HM2 (hI.capm hc5)) (Nat.le_of_ble_eq_true rfl) (by show k + 3 + 0 ≤ 601024; omega) (by show z + 18 + 0 ≤ 7293034; omega) (Nat.le_of_ble_eq_true rfl) (fun r h3 hp _ => ?_) (fun E h3 hp _ => nomatch hp.1)
  obtain ⟨e2, f3, HM3⟩ := hp
  cases e2
  have H3 : PGs h3 (q_mode s (xs (nI (4 * c + 1)).toNatClampNeg) (xs (nI (4 * c + 2)).toNatClampNeg)).2.2 := H2.pt (fun x hx => f3.2 x (by show ¬ (57 ≤ x ∧ x < 83); omega))
  have ho3 : h3[83]? = some (.inl (.inr (.inl (1, fo2)))) := (f3.2 83 (by show ¬ (57 ≤ 83 ∧ 83 < 83); omega)).trans ho2
  have hI3 : Inv (q_mode s (xs (nI (4 * c + 1)).toNatClampNeg) (xs (nI (4 * c + 2)).toNatClampNeg)).2.2 (c + 1) := inv_mode hI
  have q0v : (q_mode s (xs (nI (4 * c + 1)).toNatClampNeg) (xs (nI (4 * c + 2)).toNatClampNeg)).1 = 0 → fo2 0 = (q_mode s (xs (nI (4 * c + 1)).toNatClampNeg) (xs (nI (4 * c + 2)).toNatClampNeg)).2.1.toInt64 := hv2
  have qle : (q_mode s (xs (nI (4 * c + 1)).toNatClampNeg) (xs (nI (4 * c + 2)).toNatClampNeg)).1 ≤ 3 := Nat.le_trans qle_mode (by omega)
  generalize (q_mode s (xs (nI (4 * c + 1)).toNatClampNeg) (xs (nI (4 * c + 2)).toNatClampNeg)) = Q at *
  refine r_pc 411 rfl ?_
  refine r_istore d_La_law_411 (Nat.le_of_ble_eq_true rfl) ?_
  refine r_aload_n d_La_law_413 rfl ?_
  obtain ⟨F3, V3, M3, S3, v3⟩ := id HM3
  refine r_cVi [] 57 10 0 0 (nI Q.1) (fun h' => h3 = h') d_La_law_414 q_La_68 M3.1 rfl rfl (HM3.t htr) (Nat.le_of_ble_eq_true rfl) (by show k + 3 + 0 + 0 ≤ 601024; omega) (by show z + 18 + 0 + 0 ≤ 7293034; omega) (Nat.le_of_ble_eq_true rfl) (fun h4 e4 => ?_)
  subst e4
  refine r_iload d_La_law_417 rfl ?_
  refine r_icmp_eq 424 d_La_law_419 (by decide) (fun _ => ?_) (fun w => absurd rfl w)
  refine r_iload d_La_law_424 rfl ?_
  refine r_if_ne 441 d_La_law_426 (by decide) (fun w => ?_) (fun w => ?_)
  · refine r_goto 1067 d_La_law_441 (by decide) ?_
    exact r_loc _ (fun q hq => by simp at hq; rcases hq with q | q | q | q | q <;> subst q <;> rfl) (nx _ _ _ _ _ _ H3 HM3 ho3 hI3 (by omega) (by omega))
  · have q0 : Q.1 = 0 := (nI_eq (by omega) (by omega)).mp (w.trans nI_0.symm)
    refine r_aload_n d_La_law_429 rfl ?_
    refine r_iconst 0 d_La_law_430 (by decide) ?_
    refine r_laload d_La_law_431 ho3 (by unfold vp_in; decide) ?_
    refine r_iload d_La_law_432 rfl ?_
    refine r_i2l d_La_law_434 ?_
    refine r_lcmp d_La_law_435 ?_
    refine r_ri (y := 0) (by
      rw [if_pos q0]
      have e9 : fo2 (0 : Int32).toNatClampNeg = Q.2.1.toInt64 := q0v q0
      rw [e9]; exact cmp_0 _) ?_
    refine r_if_eq 441 d_La_law_436 (by decide) (fun _ => ?_) (fun w => absurd rfl w)
    refine r_goto 1067 d_La_law_441 (by decide) ?_
    exact r_loc _ (fun q hq => by simp at hq; rcases hq with q | q | q | q | q <;> subst q <;> rfl) (nx _ _ _ _ _ _ H3 HM3 ho3 hI3 (by omega) (by omega))
theorem law_7 {l : Launch} (htr : l.stackTraces = false) {Φ : ac_R → ac_H → Prop} {L c : Nat} {xs : Nat → Int32} (hc : 4 * c + 4 ≤ L) (hL : L ≤ 2048) (nx : lawN l Φ L xs c) {h : ac_H} {s : sp_S} {f : Nat} {fo : Nat → Int64} {k z : Nat} (H : PGs h s) (HM : MDs h s f) (ho : h[83]? = some (.inl (.inr (.inl (1, fo))))) (hI : Inv s c) (hk : k ≤ 84 + 3 * c) (hz : z ≤ 3780 + 18 * c) : ac_G (lawP l Φ L xs) 496 (lawL c) [] h k z := by
  have hc5 : c < 512 := by omega
  refine r_aload_n d_La_law_496 rfl ?_
  refine r_aload_nS d_La_law_497 rfl ?_
  refine r_iload d_La_law_498 rfl ?_
  refine r_iconst 1 d_La_law_500 (by decide) ?_
  refine r_ri nI1 ?_
  refine r_iadd d_La_law_501 ?_
  refine r_ri (nI_add _ _) ?_
  refine r_sload d_La_law_502 rfl (vp_in_nI (show 4 * c + 1 < L by omega) (by omega)) ?_
  refine r_aload_n d_La_law_503 rfl ?_
  refine r_callSW [.ref 0, .int (xs (nI (4 * c + 1)).toNatClampNeg), .ref 83] 10 3 18 (Ψ := okL h (q_look s (xs (nI (4 * c + 1)).toNatClampNeg) (fun L => nI L.2.2.2.2.2.length))) d_La_law_504 q_La_96 rfl (c_La_bodies htr (by omega) H ho ) (fun E h9 w => nomatch w.1) (Nat.le_of_ble_eq_true rfl) (by show k + 3 ≤ 601024; omega) (by show z + 18 ≤ 7293034; omega) (Nat.le_of_ble_eq_true rfl) (fun r h2 hp _ => ?_)
  obtain ⟨e1, H2, hk2, fo2, ho2, hv2⟩ := hp
  cases e1
  have HM2 : MDs h2 s f := HM.pt hk2
  obtain ⟨F2, V2, M2, -, -⟩ := id HM2
  refine r_pc 507 rfl ?_
  refine r_istore d_La_law_507 (Nat.le_of_ble_eq_true rfl) ?_
  refine r_aload_n d_La_law_509 rfl ?_
  refine r_aload_nS d_La_law_510 rfl ?_
  refine r_iload d_La_law_511 rfl ?_
  refine r_iconst 1 d_La_law_513 (by decide) ?_
  refine r_ri nI1 ?_
  refine r_iadd d_La_law_514 ?_
  refine r_ri (nI_add _ _) ?_
  refine r_sload d_La_law_515 rfl (vp_in_nI (show 4 * c + 1 < L by omega) (by omega)) ?_
  refine r_callV [.int (xs (nI (4 * c + 1)).toNatClampNeg)] 57 10 0 0 (Ψ := okM h2 (q_look s (xs (nI (4 * c + 1)).toNatClampNeg) (fun L => nI L.2.2.2.2.2.length))) d_La_law_516 q_La_98 M2.1 rfl rfl (k_Mo_bodies htr (by omega) HM2 ) (Nat.le_of_ble_eq_true rfl) (by show k + 3 + 0 ≤ 601024; omega) (by show z + 18 + 0 ≤ 7293034; omega) (Nat.le_of_ble_eq_true rfl) (fun r h3 hp _ => ?_) (fun E h3 hp _ => nomatch hp.1)
  obtain ⟨e2, f3, HM3⟩ := hp
  cases e2
  have H3 : PGs h3 (q_look s (xs (nI (4 * c + 1)).toNatClampNeg) (fun L => nI L.2.2.2.2.2.length)).2.2 := H2.pt (fun x hx => f3.2 x (by show ¬ (57 ≤ x ∧ x < 83); omega))
  have ho3 : h3[83]? = some (.inl (.inr (.inl (1, fo2)))) := (f3.2 83 (by show ¬ (57 ≤ 83 ∧ 83 < 83); omega)).trans ho2
  have hI3 : Inv (q_look s (xs (nI (4 * c + 1)).toNatClampNeg) (fun L => nI L.2.2.2.2.2.length)).2.2 (c + 1) := inv_look hI
  have q0v : (q_look s (xs (nI (4 * c + 1)).toNatClampNeg) (fun L => nI L.2.2.2.2.2.length)).1 = 0 → fo2 0 = (q_look s (xs (nI (4 * c + 1)).toNatClampNeg) (fun L => nI L.2.2.2.2.2.length)).2.1.toInt64 := hv2
  have qle : (q_look s (xs (nI (4 * c + 1)).toNatClampNeg) (fun L => nI L.2.2.2.2.2.length)).1 ≤ 3 := Nat.le_trans qle_look (by omega)
  generalize (q_look s (xs (nI (4 * c + 1)).toNatClampNeg) (fun L => nI L.2.2.2.2.2.length)) = Q at *
  refine r_pc 519 rfl ?_
  refine r_istore d_La_law_519 (Nat.le_of_ble_eq_true rfl) ?_
  refine r_aload_n d_La_law_521 rfl ?_
  obtain ⟨F3, V3, M3, S3, v3⟩ := id HM3
  refine r_cVi [] 57 10 0 0 (nI Q.1) (fun h' => h3 = h') d_La_law_522 q_La_68 M3.1 rfl rfl (HM3.t htr) (Nat.le_of_ble_eq_true rfl) (by show k + 3 + 0 + 0 ≤ 601024; omega) (by show z + 18 + 0 + 0 ≤ 7293034; omega) (Nat.le_of_ble_eq_true rfl) (fun h4 e4 => ?_)
  subst e4
  refine r_iload d_La_law_525 rfl ?_
  refine r_icmp_eq 532 d_La_law_527 (by decide) (fun _ => ?_) (fun w => absurd rfl w)
  refine r_iload d_La_law_532 rfl ?_
  refine r_if_ne 549 d_La_law_534 (by decide) (fun w => ?_) (fun w => ?_)
  · refine r_goto 1067 d_La_law_549 (by decide) ?_
    exact r_loc _ (fun q hq => by simp at hq; rcases hq with q | q | q | q | q <;> subst q <;> rfl) (nx _ _ _ _ _ _ H3 HM3 ho3 hI3 (by omega) (by omega))
  · have q0 : Q.1 = 0 := (nI_eq (by omega) (by omega)).mp (w.trans nI_0.symm)
    refine r_aload_n d_La_law_537 rfl ?_
    refine r_iconst 0 d_La_law_538 (by decide) ?_
    refine r_laload d_La_law_539 ho3 (by unfold vp_in; decide) ?_
    refine r_iload d_La_law_540 rfl ?_
    refine r_i2l d_La_law_542 ?_
    refine r_lcmp d_La_law_543 ?_
    refine r_ri (y := 0) (by
      rw [if_pos q0]
      have e9 : fo2 (0 : Int32).toNatClampNeg = Q.2.1.toInt64 := q0v q0
      rw [e9]; exact cmp_0 _) ?_
    refine r_if_eq 549 d_La_law_544 (by decide) (fun _ => ?_) (fun w => absurd rfl w)
    refine r_goto 1067 d_La_law_549 (by decide) ?_
    exact r_loc _ (fun q hq => by simp at hq; rcases hq with q | q | q | q | q <;> subst q <;> rfl) (nx _ _ _ _ _ _ H3 HM3 ho3 hI3 (by omega) (by omega))
theorem law_8 {l : Launch} (htr : l.stackTraces = false) {Φ : ac_R → ac_H → Prop} {L c : Nat} {xs : Nat → Int32} (hc : 4 * c + 4 ≤ L) (hL : L ≤ 2048) (nx : lawN l Φ L xs c) {h : ac_H} {s : sp_S} {f : Nat} {fo : Nat → Int64} {k z : Nat} (H : PGs h s) (HM : MDs h s f) (ho : h[83]? = some (.inl (.inr (.inl (1, fo))))) (hI : Inv s c) (hk : k ≤ 84 + 3 * c) (hz : z ≤ 3780 + 18 * c) : ac_G (lawP l Φ L xs) 552 (lawL c) [] h k z := by
  have hc5 : c < 512 := by omega
  refine r_aload_n d_La_law_552 rfl ?_
  refine r_aload_nS d_La_law_553 rfl ?_
  refine r_iload d_La_law_554 rfl ?_
  refine r_iconst 1 d_La_law_556 (by decide) ?_
  refine r_ri nI1 ?_
  refine r_iadd d_La_law_557 ?_
  refine r_ri (nI_add _ _) ?_
  refine r_sload d_La_law_558 rfl (vp_in_nI (show 4 * c + 1 < L by omega) (by omega)) ?_
  refine r_aload_nS d_La_law_559 rfl ?_
  refine r_iload d_La_law_560 rfl ?_
  refine r_iconst 2 d_La_law_562 (by decide) ?_
  refine r_ri nI2 ?_
  refine r_iadd d_La_law_563 ?_
  refine r_ri (nI_add _ _) ?_
  refine r_sload d_La_law_564 rfl (vp_in_nI (show 4 * c + 2 < L by omega) (by omega)) ?_
  refine r_pc 565 rfl ?_
  refine r_aload_nS d_La_law_565 rfl ?_
  refine r_iload d_La_law_566 rfl ?_
  refine r_iconst 3 d_La_law_568 (by decide) ?_
  refine r_ri nI3 ?_
  refine r_iadd d_La_law_569 ?_
  refine r_ri (nI_add _ _) ?_
  refine r_sload d_La_law_570 rfl (vp_in_nI (show 4 * c + 3 < L by omega) (by omega)) ?_
  refine r_aload_n d_La_law_571 rfl ?_
  refine r_callSW [.ref 0, .int (xs (nI (4 * c + 1)).toNatClampNeg), .int (xs (nI (4 * c + 2)).toNatClampNeg), .int (xs (nI (4 * c + 3)).toNatClampNeg), .ref 83] 10 3 18 (Ψ := okL h (q_body s (xs (nI (4 * c + 1)).toNatClampNeg) (xs (nI (4 * c + 2)).toNatClampNeg) (xs (nI (4 * c + 3)).toNatClampNeg))) d_La_law_572 q_La_99 rfl (c_La_body htr (by omega) H ho ) (fun E h9 w => nomatch w.1) (Nat.le_of_ble_eq_true rfl) (by show k + 3 ≤ 601024; omega) (by show z + 18 ≤ 7293034; omega) (Nat.le_of_ble_eq_true rfl) (fun r h2 hp _ => ?_)
  obtain ⟨e1, H2, hk2, fo2, ho2, hv2⟩ := hp
  cases e1
  have HM2 : MDs h2 s f := HM.pt hk2
  obtain ⟨F2, V2, M2, -, -⟩ := id HM2
  refine r_pc 575 rfl ?_
  refine r_istore d_La_law_575 (Nat.le_of_ble_eq_true rfl) ?_
  refine r_aload_n d_La_law_577 rfl ?_
  refine r_aload_nS d_La_law_578 rfl ?_
  refine r_iload d_La_law_579 rfl ?_
  refine r_iconst 1 d_La_law_581 (by decide) ?_
  refine r_ri nI1 ?_
  refine r_iadd d_La_law_582 ?_
  refine r_ri (nI_add _ _) ?_
  refine r_sload d_La_law_583 rfl (vp_in_nI (show 4 * c + 1 < L by omega) (by omega)) ?_
  refine r_aload_nS d_La_law_584 rfl ?_
  refine r_iload d_La_law_585 rfl ?_
  refine r_iconst 2 d_La_law_587 (by decide) ?_
  refine r_ri nI2 ?_
  refine r_iadd d_La_law_588 ?_
  refine r_ri (nI_add _ _) ?_
  refine r_sload d_La_law_589 rfl (vp_in_nI (show 4 * c + 2 < L by omega) (by omega)) ?_
  refine r_pc 590 rfl ?_
  refine r_aload_nS d_La_law_590 rfl ?_
  refine r_iload d_La_law_591 rfl ?_
  refine r_iconst 3 d_La_law_593 (by decide) ?_
  refine r_ri nI3 ?_
  refine r_iadd d_La_law_594 ?_
  refine r_ri (nI_add _ _) ?_
  refine r_sload d_La_law_595 rfl (vp_in_nI (show 4 * c + 3 < L by omega) (by omega)) ?_
  refine r_callV [.int (xs (nI (4 * c + 1)).toNatClampNeg), .int (xs (nI (4 * c + 2)).toNatClampNeg), .int (xs (nI (4 * c + 3)).toNatClampNeg)] 57 10 0 0 (Ψ := okM h2 (q_body s (xs (nI (4 * c + 1)).toNatClampNeg) (xs (nI (4 * c + 2)).toNatClampNeg) (xs (nI (4 * c + 3)).toNatClampNeg))) d_La_law_596 q_La_101 M2.1 rfl rfl (k_Mo_body htr (by omega) H.l4 HM2 ) (Nat.le_of_ble_eq_true rfl) (by show k + 3 + 0 ≤ 601024; omega) (by show z + 18 + 0 ≤ 7293034; omega) (Nat.le_of_ble_eq_true rfl) (fun r h3 hp _ => ?_) (fun E h3 hp _ => nomatch hp.1)
  obtain ⟨e2, f3, HM3⟩ := hp
  cases e2
  have H3 : PGs h3 (q_body s (xs (nI (4 * c + 1)).toNatClampNeg) (xs (nI (4 * c + 2)).toNatClampNeg) (xs (nI (4 * c + 3)).toNatClampNeg)).2.2 := H2.pt (fun x hx => f3.2 x (by show ¬ (57 ≤ x ∧ x < 83); omega))
  have ho3 : h3[83]? = some (.inl (.inr (.inl (1, fo2)))) := (f3.2 83 (by show ¬ (57 ≤ 83 ∧ 83 < 83); omega)).trans ho2
  have hI3 : Inv (q_body s (xs (nI (4 * c + 1)).toNatClampNeg) (xs (nI (4 * c + 2)).toNatClampNeg) (xs (nI (4 * c + 3)).toNatClampNeg)).2.2 (c + 1) := inv_body hI
  have q0v : (q_body s (xs (nI (4 * c + 1)).toNatClampNeg) (xs (nI (4 * c + 2)).toNatClampNeg) (xs (nI (4 * c + 3)).toNatClampNeg)).1 = 0 → fo2 0 = (q_body s (xs (nI (4 * c + 1)).toNatClampNeg) (xs (nI (4 * c + 2)).toNatClampNeg) (xs (nI (4 * c + 3)).toNatClampNeg)).2.1.toInt64 := hv2
  have qle : (q_body s (xs (nI (4 * c + 1)).toNatClampNeg) (xs (nI (4 * c + 2)).toNatClampNeg) (xs (nI (4 * c + 3)).toNatClampNeg)).1 ≤ 3 := Nat.le_trans qle_body (by omega)
  generalize (q_body s (xs (nI (4 * c + 1)).toNatClampNeg) (xs (nI (4 * c + 2)).toNatClampNeg) (xs (nI (4 * c + 3)).toNatClampNeg)) = Q at *
  refine r_pc 599 rfl ?_
  refine r_istore d_La_law_599 (Nat.le_of_ble_eq_true rfl) ?_
  refine r_aload_n d_La_law_601 rfl ?_
  obtain ⟨F3, V3, M3, S3, v3⟩ := id HM3
  refine r_cVi [] 57 10 0 0 (nI Q.1) (fun h' => h3 = h') d_La_law_602 q_La_68 M3.1 rfl rfl (HM3.t htr) (Nat.le_of_ble_eq_true rfl) (by show k + 3 + 0 + 0 ≤ 601024; omega) (by show z + 18 + 0 + 0 ≤ 7293034; omega) (Nat.le_of_ble_eq_true rfl) (fun h4 e4 => ?_)
  subst e4
  refine r_iload d_La_law_605 rfl ?_
  refine r_icmp_eq 612 d_La_law_607 (by decide) (fun _ => ?_) (fun w => absurd rfl w)
  refine r_iload d_La_law_612 rfl ?_
  refine r_if_ne 629 d_La_law_614 (by decide) (fun w => ?_) (fun w => ?_)
  · refine r_goto 1067 d_La_law_629 (by decide) ?_
    exact r_loc _ (fun q hq => by simp at hq; rcases hq with q | q | q | q | q <;> subst q <;> rfl) (nx _ _ _ _ _ _ H3 HM3 ho3 hI3 (by omega) (by omega))
  · have q0 : Q.1 = 0 := (nI_eq (by omega) (by omega)).mp (w.trans nI_0.symm)
    refine r_aload_n d_La_law_617 rfl ?_
    refine r_iconst 0 d_La_law_618 (by decide) ?_
    refine r_laload d_La_law_619 ho3 (by unfold vp_in; decide) ?_
    refine r_iload d_La_law_620 rfl ?_
    refine r_i2l d_La_law_622 ?_
    refine r_lcmp d_La_law_623 ?_
    refine r_ri (y := 0) (by
      rw [if_pos q0]
      have e9 : fo2 (0 : Int32).toNatClampNeg = Q.2.1.toInt64 := q0v q0
      rw [e9]; exact cmp_0 _) ?_
    refine r_if_eq 629 d_La_law_624 (by decide) (fun _ => ?_) (fun w => absurd rfl w)
    refine r_goto 1067 d_La_law_629 (by decide) ?_
    exact r_loc _ (fun q hq => by simp at hq; rcases hq with q | q | q | q | q <;> subst q <;> rfl) (nx _ _ _ _ _ _ H3 HM3 ho3 hI3 (by omega) (by omega))
theorem law_9 {l : Launch} (htr : l.stackTraces = false) {Φ : ac_R → ac_H → Prop} {L c : Nat} {xs : Nat → Int32} (hc : 4 * c + 4 ≤ L) (hL : L ≤ 2048) (nx : lawN l Φ L xs c) {h : ac_H} {s : sp_S} {f : Nat} {fo : Nat → Int64} {k z : Nat} (H : PGs h s) (HM : MDs h s f) (ho : h[83]? = some (.inl (.inr (.inl (1, fo))))) (hI : Inv s c) (hk : k ≤ 84 + 3 * c) (hz : z ≤ 3780 + 18 * c) : ac_G (lawP l Φ L xs) 632 (lawL c) [] h k z := by
  have hc5 : c < 512 := by omega
  refine r_aload_n d_La_law_632 rfl ?_
  refine r_aload_nS d_La_law_633 rfl ?_
  refine r_iload d_La_law_634 rfl ?_
  refine r_iconst 1 d_La_law_636 (by decide) ?_
  refine r_ri nI1 ?_
  refine r_iadd d_La_law_637 ?_
  refine r_ri (nI_add _ _) ?_
  refine r_sload d_La_law_638 rfl (vp_in_nI (show 4 * c + 1 < L by omega) (by omega)) ?_
  refine r_aload_nS d_La_law_639 rfl ?_
  refine r_iload d_La_law_640 rfl ?_
  refine r_iconst 2 d_La_law_642 (by decide) ?_
  refine r_ri nI2 ?_
  refine r_iadd d_La_law_643 ?_
  refine r_ri (nI_add _ _) ?_
  refine r_sload d_La_law_644 rfl (vp_in_nI (show 4 * c + 2 < L by omega) (by omega)) ?_
  refine r_pc 645 rfl ?_
  refine r_aload_n d_La_law_645 rfl ?_
  refine r_callSW [.ref 0, .int (xs (nI (4 * c + 1)).toNatClampNeg), .int (xs (nI (4 * c + 2)).toNatClampNeg), .ref 83] 10 3 18 (Ψ := okL h (q_waiting s (xs (nI (4 * c + 1)).toNatClampNeg) (xs (nI (4 * c + 2)).toNatClampNeg))) d_La_law_646 q_La_102 rfl (c_La_waiting htr (by omega) H ho ) (fun E h9 w => nomatch w.1) (Nat.le_of_ble_eq_true rfl) (by show k + 3 ≤ 601024; omega) (by show z + 18 ≤ 7293034; omega) (Nat.le_of_ble_eq_true rfl) (fun r h2 hp _ => ?_)
  obtain ⟨e1, H2, hk2, fo2, ho2, hv2⟩ := hp
  cases e1
  have HM2 : MDs h2 s f := HM.pt hk2
  obtain ⟨F2, V2, M2, -, -⟩ := id HM2
  refine r_pc 649 rfl ?_
  refine r_istore d_La_law_649 (Nat.le_of_ble_eq_true rfl) ?_
  refine r_aload_n d_La_law_651 rfl ?_
  refine r_aload_nS d_La_law_652 rfl ?_
  refine r_iload d_La_law_653 rfl ?_
  refine r_iconst 1 d_La_law_655 (by decide) ?_
  refine r_ri nI1 ?_
  refine r_iadd d_La_law_656 ?_
  refine r_ri (nI_add _ _) ?_
  refine r_sload d_La_law_657 rfl (vp_in_nI (show 4 * c + 1 < L by omega) (by omega)) ?_
  refine r_aload_nS d_La_law_658 rfl ?_
  refine r_iload d_La_law_659 rfl ?_
  refine r_iconst 2 d_La_law_661 (by decide) ?_
  refine r_ri nI2 ?_
  refine r_iadd d_La_law_662 ?_
  refine r_ri (nI_add _ _) ?_
  refine r_sload d_La_law_663 rfl (vp_in_nI (show 4 * c + 2 < L by omega) (by omega)) ?_
  refine r_callV [.int (xs (nI (4 * c + 1)).toNatClampNeg), .int (xs (nI (4 * c + 2)).toNatClampNeg)] 57 10 0 0 (Ψ := okM h2 (q_waiting s (xs (nI (4 * c + 1)).toNatClampNeg) (xs (nI (4 * c + 2)).toNatClampNeg))) d_La_law_664 q_La_104 M2.1 rfl rfl (k_Mo_waiting htr (by omega) HM2 ) (Nat.le_of_ble_eq_true rfl) (by show k + 3 + 0 ≤ 601024; omega) (by show z + 18 + 0 ≤ 7293034; omega) (Nat.le_of_ble_eq_true rfl) (fun r h3 hp _ => ?_) (fun E h3 hp _ => nomatch hp.1)
  obtain ⟨e2, f3, HM3⟩ := hp
  cases e2
  have H3 : PGs h3 (q_waiting s (xs (nI (4 * c + 1)).toNatClampNeg) (xs (nI (4 * c + 2)).toNatClampNeg)).2.2 := H2.pt (fun x hx => f3.2 x (by show ¬ (57 ≤ x ∧ x < 83); omega))
  have ho3 : h3[83]? = some (.inl (.inr (.inl (1, fo2)))) := (f3.2 83 (by show ¬ (57 ≤ 83 ∧ 83 < 83); omega)).trans ho2
  have hI3 : Inv (q_waiting s (xs (nI (4 * c + 1)).toNatClampNeg) (xs (nI (4 * c + 2)).toNatClampNeg)).2.2 (c + 1) := inv_waiting hI
  have q0v : (q_waiting s (xs (nI (4 * c + 1)).toNatClampNeg) (xs (nI (4 * c + 2)).toNatClampNeg)).1 = 0 → fo2 0 = (q_waiting s (xs (nI (4 * c + 1)).toNatClampNeg) (xs (nI (4 * c + 2)).toNatClampNeg)).2.1.toInt64 := hv2
  have qle : (q_waiting s (xs (nI (4 * c + 1)).toNatClampNeg) (xs (nI (4 * c + 2)).toNatClampNeg)).1 ≤ 3 := Nat.le_trans qle_waiting (by omega)
  generalize (q_waiting s (xs (nI (4 * c + 1)).toNatClampNeg) (xs (nI (4 * c + 2)).toNatClampNeg)) = Q at *
  refine r_pc 667 rfl ?_
  refine r_istore d_La_law_667 (Nat.le_of_ble_eq_true rfl) ?_
  refine r_aload_n d_La_law_669 rfl ?_
  obtain ⟨F3, V3, M3, S3, v3⟩ := id HM3
  refine r_cVi [] 57 10 0 0 (nI Q.1) (fun h' => h3 = h') d_La_law_670 q_La_68 M3.1 rfl rfl (HM3.t htr) (Nat.le_of_ble_eq_true rfl) (by show k + 3 + 0 + 0 ≤ 601024; omega) (by show z + 18 + 0 + 0 ≤ 7293034; omega) (Nat.le_of_ble_eq_true rfl) (fun h4 e4 => ?_)
  subst e4
  refine r_iload d_La_law_673 rfl ?_
  refine r_icmp_eq 680 d_La_law_675 (by decide) (fun _ => ?_) (fun w => absurd rfl w)
  refine r_iload d_La_law_680 rfl ?_
  refine r_if_ne 697 d_La_law_682 (by decide) (fun w => ?_) (fun w => ?_)
  · refine r_goto 1067 d_La_law_697 (by decide) ?_
    exact r_loc _ (fun q hq => by simp at hq; rcases hq with q | q | q | q | q <;> subst q <;> rfl) (nx _ _ _ _ _ _ H3 HM3 ho3 hI3 (by omega) (by omega))
  · have q0 : Q.1 = 0 := (nI_eq (by omega) (by omega)).mp (w.trans nI_0.symm)
    refine r_aload_n d_La_law_685 rfl ?_
    refine r_iconst 0 d_La_law_686 (by decide) ?_
    refine r_laload d_La_law_687 ho3 (by unfold vp_in; decide) ?_
    refine r_iload d_La_law_688 rfl ?_
    refine r_i2l d_La_law_690 ?_
    refine r_lcmp d_La_law_691 ?_
    refine r_ri (y := 0) (by
      rw [if_pos q0]
      have e9 : fo2 (0 : Int32).toNatClampNeg = Q.2.1.toInt64 := q0v q0
      rw [e9]; exact cmp_0 _) ?_
    refine r_if_eq 697 d_La_law_692 (by decide) (fun _ => ?_) (fun w => absurd rfl w)
    refine r_goto 1067 d_La_law_697 (by decide) ?_
    exact r_loc _ (fun q hq => by simp at hq; rcases hq with q | q | q | q | q <;> subst q <;> rfl) (nx _ _ _ _ _ _ H3 HM3 ho3 hI3 (by omega) (by omega))
theorem law_10 {l : Launch} (htr : l.stackTraces = false) {Φ : ac_R → ac_H → Prop} {L c : Nat} {xs : Nat → Int32} (hc : 4 * c + 4 ≤ L) (hL : L ≤ 2048) (nx : lawN l Φ L xs c) {h : ac_H} {s : sp_S} {f : Nat} {fo : Nat → Int64} {k z : Nat} (H : PGs h s) (HM : MDs h s f) (ho : h[83]? = some (.inl (.inr (.inl (1, fo))))) (hI : Inv s c) (hk : k ≤ 84 + 3 * c) (hz : z ≤ 3780 + 18 * c) : ac_G (lawP l Φ L xs) 700 (lawL c) [] h k z := by
  have hc5 : c < 512 := by omega
  refine r_aload_n d_La_law_700 rfl ?_
  refine r_aload_nS d_La_law_701 rfl ?_
  refine r_iload d_La_law_702 rfl ?_
  refine r_iconst 1 d_La_law_704 (by decide) ?_
  refine r_ri nI1 ?_
  refine r_iadd d_La_law_705 ?_
  refine r_ri (nI_add _ _) ?_
  refine r_sload d_La_law_706 rfl (vp_in_nI (show 4 * c + 1 < L by omega) (by omega)) ?_
  refine r_aload_nS d_La_law_707 rfl ?_
  refine r_iload d_La_law_708 rfl ?_
  refine r_iconst 2 d_La_law_710 (by decide) ?_
  refine r_ri nI2 ?_
  refine r_iadd d_La_law_711 ?_
  refine r_ri (nI_add _ _) ?_
  refine r_sload d_La_law_712 rfl (vp_in_nI (show 4 * c + 2 < L by omega) (by omega)) ?_
  refine r_pc 713 rfl ?_
  refine r_aload_nS d_La_law_713 rfl ?_
  refine r_iload d_La_law_714 rfl ?_
  refine r_iconst 3 d_La_law_716 (by decide) ?_
  refine r_ri nI3 ?_
  refine r_iadd d_La_law_717 ?_
  refine r_ri (nI_add _ _) ?_
  refine r_sload d_La_law_718 rfl (vp_in_nI (show 4 * c + 3 < L by omega) (by omega)) ?_
  refine r_aload_n d_La_law_719 rfl ?_
  refine r_callSW [.ref 0, .int (xs (nI (4 * c + 1)).toNatClampNeg), .int (xs (nI (4 * c + 2)).toNatClampNeg), .int (xs (nI (4 * c + 3)).toNatClampNeg), .ref 83] 10 3 18 (Ψ := okL h (q_waits s (xs (nI (4 * c + 1)).toNatClampNeg) (xs (nI (4 * c + 2)).toNatClampNeg) (xs (nI (4 * c + 3)).toNatClampNeg))) d_La_law_720 q_La_105 rfl (c_La_waits htr (by omega) H ho ) (fun E h9 w => nomatch w.1) (Nat.le_of_ble_eq_true rfl) (by show k + 3 ≤ 601024; omega) (by show z + 18 ≤ 7293034; omega) (Nat.le_of_ble_eq_true rfl) (fun r h2 hp _ => ?_)
  obtain ⟨e1, H2, hk2, fo2, ho2, hv2⟩ := hp
  cases e1
  have HM2 : MDs h2 s f := HM.pt hk2
  obtain ⟨F2, V2, M2, -, -⟩ := id HM2
  refine r_pc 723 rfl ?_
  refine r_istore d_La_law_723 (Nat.le_of_ble_eq_true rfl) ?_
  refine r_aload_n d_La_law_725 rfl ?_
  refine r_aload_nS d_La_law_726 rfl ?_
  refine r_iload d_La_law_727 rfl ?_
  refine r_iconst 1 d_La_law_729 (by decide) ?_
  refine r_ri nI1 ?_
  refine r_iadd d_La_law_730 ?_
  refine r_ri (nI_add _ _) ?_
  refine r_sload d_La_law_731 rfl (vp_in_nI (show 4 * c + 1 < L by omega) (by omega)) ?_
  refine r_aload_nS d_La_law_732 rfl ?_
  refine r_iload d_La_law_733 rfl ?_
  refine r_iconst 2 d_La_law_735 (by decide) ?_
  refine r_ri nI2 ?_
  refine r_iadd d_La_law_736 ?_
  refine r_ri (nI_add _ _) ?_
  refine r_sload d_La_law_737 rfl (vp_in_nI (show 4 * c + 2 < L by omega) (by omega)) ?_
  refine r_pc 738 rfl ?_
  refine r_aload_nS d_La_law_738 rfl ?_
  refine r_iload d_La_law_739 rfl ?_
  refine r_iconst 3 d_La_law_741 (by decide) ?_
  refine r_ri nI3 ?_
  refine r_iadd d_La_law_742 ?_
  refine r_ri (nI_add _ _) ?_
  refine r_sload d_La_law_743 rfl (vp_in_nI (show 4 * c + 3 < L by omega) (by omega)) ?_
  refine r_callV [.int (xs (nI (4 * c + 1)).toNatClampNeg), .int (xs (nI (4 * c + 2)).toNatClampNeg), .int (xs (nI (4 * c + 3)).toNatClampNeg)] 57 10 0 0 (Ψ := okM h2 (q_waits s (xs (nI (4 * c + 1)).toNatClampNeg) (xs (nI (4 * c + 2)).toNatClampNeg) (xs (nI (4 * c + 3)).toNatClampNeg))) d_La_law_744 q_La_107 M2.1 rfl rfl (k_Mo_waits htr (by omega) HM2 ) (Nat.le_of_ble_eq_true rfl) (by show k + 3 + 0 ≤ 601024; omega) (by show z + 18 + 0 ≤ 7293034; omega) (Nat.le_of_ble_eq_true rfl) (fun r h3 hp _ => ?_) (fun E h3 hp _ => nomatch hp.1)
  obtain ⟨e2, f3, HM3⟩ := hp
  cases e2
  have H3 : PGs h3 (q_waits s (xs (nI (4 * c + 1)).toNatClampNeg) (xs (nI (4 * c + 2)).toNatClampNeg) (xs (nI (4 * c + 3)).toNatClampNeg)).2.2 := H2.pt (fun x hx => f3.2 x (by show ¬ (57 ≤ x ∧ x < 83); omega))
  have ho3 : h3[83]? = some (.inl (.inr (.inl (1, fo2)))) := (f3.2 83 (by show ¬ (57 ≤ 83 ∧ 83 < 83); omega)).trans ho2
  have hI3 : Inv (q_waits s (xs (nI (4 * c + 1)).toNatClampNeg) (xs (nI (4 * c + 2)).toNatClampNeg) (xs (nI (4 * c + 3)).toNatClampNeg)).2.2 (c + 1) := inv_waits hI
  have q0v : (q_waits s (xs (nI (4 * c + 1)).toNatClampNeg) (xs (nI (4 * c + 2)).toNatClampNeg) (xs (nI (4 * c + 3)).toNatClampNeg)).1 = 0 → fo2 0 = (q_waits s (xs (nI (4 * c + 1)).toNatClampNeg) (xs (nI (4 * c + 2)).toNatClampNeg) (xs (nI (4 * c + 3)).toNatClampNeg)).2.1.toInt64 := hv2
  have qle : (q_waits s (xs (nI (4 * c + 1)).toNatClampNeg) (xs (nI (4 * c + 2)).toNatClampNeg) (xs (nI (4 * c + 3)).toNatClampNeg)).1 ≤ 3 := Nat.le_trans qle_waits (by omega)
  generalize (q_waits s (xs (nI (4 * c + 1)).toNatClampNeg) (xs (nI (4 * c + 2)).toNatClampNeg) (xs (nI (4 * c + 3)).toNatClampNeg)) = Q at *
  refine r_pc 747 rfl ?_
  refine r_istore d_La_law_747 (Nat.le_of_ble_eq_true rfl) ?_
  refine r_aload_n d_La_law_749 rfl ?_
  obtain ⟨F3, V3, M3, S3, v3⟩ := id HM3
  refine r_cVi [] 57 10 0 0 (nI Q.1) (fun h' => h3 = h') d_La_law_750 q_La_68 M3.1 rfl rfl (HM3.t htr) (Nat.le_of_ble_eq_true rfl) (by show k + 3 + 0 + 0 ≤ 601024; omega) (by show z + 18 + 0 + 0 ≤ 7293034; omega) (Nat.le_of_ble_eq_true rfl) (fun h4 e4 => ?_)
  subst e4
  refine r_iload d_La_law_753 rfl ?_
  refine r_icmp_eq 760 d_La_law_755 (by decide) (fun _ => ?_) (fun w => absurd rfl w)
  refine r_iload d_La_law_760 rfl ?_
  refine r_if_ne 777 d_La_law_762 (by decide) (fun w => ?_) (fun w => ?_)
  · refine r_goto 1067 d_La_law_777 (by decide) ?_
    exact r_loc _ (fun q hq => by simp at hq; rcases hq with q | q | q | q | q <;> subst q <;> rfl) (nx _ _ _ _ _ _ H3 HM3 ho3 hI3 (by omega) (by omega))
  · have q0 : Q.1 = 0 := (nI_eq (by omega) (by omega)).mp (w.trans nI_0.symm)
    refine r_aload_n d_La_law_765 rfl ?_
    refine r_iconst 0 d_La_law_766 (by decide) ?_
    refine r_laload d_La_law_767 ho3 (by unfold vp_in; decide) ?_
    refine r_iload d_La_law_768 rfl ?_
    refine r_i2l d_La_law_770 ?_
    refine r_lcmp d_La_law_771 ?_
    refine r_ri (y := 0) (by
      rw [if_pos q0]
      have e9 : fo2 (0 : Int32).toNatClampNeg = Q.2.1.toInt64 := q0v q0
      rw [e9]; exact cmp_0 _) ?_
    refine r_if_eq 777 d_La_law_772 (by decide) (fun _ => ?_) (fun w => absurd rfl w)
    refine r_goto 1067 d_La_law_777 (by decide) ?_
    exact r_loc _ (fun q hq => by simp at hq; rcases hq with q | q | q | q | q <;> subst q <;> rfl) (nx _ _ _ _ _ _ H3 HM3 ho3 hI3 (by omega) (by omega))
theorem law_11 {l : Launch} (htr : l.stackTraces = false) {Φ : ac_R → ac_H → Prop} {L c : Nat} {xs : Nat → Int32} (hc : 4 * c + 4 ≤ L) (hL : L ≤ 2048) (nx : lawN l Φ L xs c) {h : ac_H} {s : sp_S} {f : Nat} {fo : Nat → Int64} {k z : Nat} (H : PGs h s) (HM : MDs h s f) (ho : h[83]? = some (.inl (.inr (.inl (1, fo))))) (hI : Inv s c) (hk : k ≤ 84 + 3 * c) (hz : z ≤ 3780 + 18 * c) : ac_G (lawP l Φ L xs) 780 (lawL c) [] h k z := by
  have hc5 : c < 512 := by omega
  refine r_aload_n d_La_law_780 rfl ?_
  refine r_aload_nS d_La_law_781 rfl ?_
  refine r_iload d_La_law_782 rfl ?_
  refine r_iconst 1 d_La_law_784 (by decide) ?_
  refine r_ri nI1 ?_
  refine r_iadd d_La_law_785 ?_
  refine r_ri (nI_add _ _) ?_
  refine r_sload d_La_law_786 rfl (vp_in_nI (show 4 * c + 1 < L by omega) (by omega)) ?_
  refine r_aload_nS d_La_law_787 rfl ?_
  refine r_iload d_La_law_788 rfl ?_
  refine r_iconst 2 d_La_law_790 (by decide) ?_
  refine r_ri nI2 ?_
  refine r_iadd d_La_law_791 ?_
  refine r_ri (nI_add _ _) ?_
  refine r_sload d_La_law_792 rfl (vp_in_nI (show 4 * c + 2 < L by omega) (by omega)) ?_
  refine r_pc 793 rfl ?_
  refine r_aload_n d_La_law_793 rfl ?_
  refine r_callSW [.ref 0, .int (xs (nI (4 * c + 1)).toNatClampNeg), .int (xs (nI (4 * c + 2)).toNatClampNeg), .ref 83] 10 3 18 (Ψ := okL h (q_count s (xs (nI (4 * c + 1)).toNatClampNeg) (xs (nI (4 * c + 2)).toNatClampNeg))) d_La_law_794 q_La_108 rfl (c_La_count htr (by omega) H ho ) (fun E h9 w => nomatch w.1) (Nat.le_of_ble_eq_true rfl) (by show k + 3 ≤ 601024; omega) (by show z + 18 ≤ 7293034; omega) (Nat.le_of_ble_eq_true rfl) (fun r h2 hp _ => ?_)
  obtain ⟨e1, H2, hk2, fo2, ho2, hv2⟩ := hp
  cases e1
  have HM2 : MDs h2 s f := HM.pt hk2
  obtain ⟨F2, V2, M2, -, -⟩ := id HM2
  refine r_pc 797 rfl ?_
  refine r_istore d_La_law_797 (Nat.le_of_ble_eq_true rfl) ?_
  refine r_aload_n d_La_law_799 rfl ?_
  refine r_aload_nS d_La_law_800 rfl ?_
  refine r_iload d_La_law_801 rfl ?_
  refine r_iconst 1 d_La_law_803 (by decide) ?_
  refine r_ri nI1 ?_
  refine r_iadd d_La_law_804 ?_
  refine r_ri (nI_add _ _) ?_
  refine r_sload d_La_law_805 rfl (vp_in_nI (show 4 * c + 1 < L by omega) (by omega)) ?_
  refine r_aload_nS d_La_law_806 rfl ?_
  refine r_iload d_La_law_807 rfl ?_
  refine r_iconst 2 d_La_law_809 (by decide) ?_
  refine r_ri nI2 ?_
  refine r_iadd d_La_law_810 ?_
  refine r_ri (nI_add _ _) ?_
  refine r_sload d_La_law_811 rfl (vp_in_nI (show 4 * c + 2 < L by omega) (by omega)) ?_
  refine r_callV [.int (xs (nI (4 * c + 1)).toNatClampNeg), .int (xs (nI (4 * c + 2)).toNatClampNeg)] 57 10 0 0 (Ψ := okM h2 (q_count s (xs (nI (4 * c + 1)).toNatClampNeg) (xs (nI (4 * c + 2)).toNatClampNeg))) d_La_law_812 q_La_110 M2.1 rfl rfl (k_Mo_count htr (by omega) HM2 ) (Nat.le_of_ble_eq_true rfl) (by show k + 3 + 0 ≤ 601024; omega) (by show z + 18 + 0 ≤ 7293034; omega) (Nat.le_of_ble_eq_true rfl) (fun r h3 hp _ => ?_) (fun E h3 hp _ => nomatch hp.1)
  obtain ⟨e2, f3, HM3⟩ := hp
  cases e2
  have H3 : PGs h3 (q_count s (xs (nI (4 * c + 1)).toNatClampNeg) (xs (nI (4 * c + 2)).toNatClampNeg)).2.2 := H2.pt (fun x hx => f3.2 x (by show ¬ (57 ≤ x ∧ x < 83); omega))
  have ho3 : h3[83]? = some (.inl (.inr (.inl (1, fo2)))) := (f3.2 83 (by show ¬ (57 ≤ 83 ∧ 83 < 83); omega)).trans ho2
  have hI3 : Inv (q_count s (xs (nI (4 * c + 1)).toNatClampNeg) (xs (nI (4 * c + 2)).toNatClampNeg)).2.2 (c + 1) := inv_count hI
  have q0v : (q_count s (xs (nI (4 * c + 1)).toNatClampNeg) (xs (nI (4 * c + 2)).toNatClampNeg)).1 = 0 → fo2 0 = (q_count s (xs (nI (4 * c + 1)).toNatClampNeg) (xs (nI (4 * c + 2)).toNatClampNeg)).2.1.toInt64 := hv2
  have qle : (q_count s (xs (nI (4 * c + 1)).toNatClampNeg) (xs (nI (4 * c + 2)).toNatClampNeg)).1 ≤ 3 := Nat.le_trans qle_count (by omega)
  generalize (q_count s (xs (nI (4 * c + 1)).toNatClampNeg) (xs (nI (4 * c + 2)).toNatClampNeg)) = Q at *
  refine r_pc 815 rfl ?_
  refine r_istore d_La_law_815 (Nat.le_of_ble_eq_true rfl) ?_
  refine r_aload_n d_La_law_817 rfl ?_
  obtain ⟨F3, V3, M3, S3, v3⟩ := id HM3
  refine r_cVi [] 57 10 0 0 (nI Q.1) (fun h' => h3 = h') d_La_law_818 q_La_68 M3.1 rfl rfl (HM3.t htr) (Nat.le_of_ble_eq_true rfl) (by show k + 3 + 0 + 0 ≤ 601024; omega) (by show z + 18 + 0 + 0 ≤ 7293034; omega) (Nat.le_of_ble_eq_true rfl) (fun h4 e4 => ?_)
  subst e4
  refine r_iload d_La_law_821 rfl ?_
  refine r_icmp_eq 828 d_La_law_823 (by decide) (fun _ => ?_) (fun w => absurd rfl w)
  refine r_iload d_La_law_828 rfl ?_
  refine r_if_ne 845 d_La_law_830 (by decide) (fun w => ?_) (fun w => ?_)
  · refine r_goto 1067 d_La_law_845 (by decide) ?_
    exact r_loc _ (fun q hq => by simp at hq; rcases hq with q | q | q | q | q <;> subst q <;> rfl) (nx _ _ _ _ _ _ H3 HM3 ho3 hI3 (by omega) (by omega))
  · have q0 : Q.1 = 0 := (nI_eq (by omega) (by omega)).mp (w.trans nI_0.symm)
    refine r_aload_n d_La_law_833 rfl ?_
    refine r_iconst 0 d_La_law_834 (by decide) ?_
    refine r_laload d_La_law_835 ho3 (by unfold vp_in; decide) ?_
    refine r_iload d_La_law_836 rfl ?_
    refine r_i2l d_La_law_838 ?_
    refine r_lcmp d_La_law_839 ?_
    refine r_ri (y := 0) (by
      rw [if_pos q0]
      have e9 : fo2 (0 : Int32).toNatClampNeg = Q.2.1.toInt64 := q0v q0
      rw [e9]; exact cmp_0 _) ?_
    refine r_if_eq 845 d_La_law_840 (by decide) (fun _ => ?_) (fun w => absurd rfl w)
    refine r_goto 1067 d_La_law_845 (by decide) ?_
    exact r_loc _ (fun q hq => by simp at hq; rcases hq with q | q | q | q | q <;> subst q <;> rfl) (nx _ _ _ _ _ _ H3 HM3 ho3 hI3 (by omega) (by omega))
theorem law_12 {l : Launch} (htr : l.stackTraces = false) {Φ : ac_R → ac_H → Prop} {L c : Nat} {xs : Nat → Int32} (hc : 4 * c + 4 ≤ L) (hL : L ≤ 2048) (nx : lawN l Φ L xs c) {h : ac_H} {s : sp_S} {f : Nat} {fo : Nat → Int64} {k z : Nat} (H : PGs h s) (HM : MDs h s f) (ho : h[83]? = some (.inl (.inr (.inl (1, fo))))) (hI : Inv s c) (hk : k ≤ 84 + 3 * c) (hz : z ≤ 3780 + 18 * c) : ac_G (lawP l Φ L xs) 848 (lawL c) [] h k z := by
  have hc5 : c < 512 := by omega
  refine r_aload_n d_La_law_848 rfl ?_
  refine r_aload_nS d_La_law_849 rfl ?_
  refine r_iload d_La_law_850 rfl ?_
  refine r_iconst 1 d_La_law_852 (by decide) ?_
  refine r_ri nI1 ?_
  refine r_iadd d_La_law_853 ?_
  refine r_ri (nI_add _ _) ?_
  refine r_sload d_La_law_854 rfl (vp_in_nI (show 4 * c + 1 < L by omega) (by omega)) ?_
  refine r_aload_n d_La_law_855 rfl ?_
  refine r_callSW [.ref 0, .int (xs (nI (4 * c + 1)).toNatClampNeg), .ref 83] 10 3 18 (Ψ := okL h (q_look s (xs (nI (4 * c + 1)).toNatClampNeg) (fun L => L.2.1.1))) d_La_law_856 q_La_111 rfl (c_La_angle htr (by omega) H ho ) (fun E h9 w => nomatch w.1) (Nat.le_of_ble_eq_true rfl) (by show k + 3 ≤ 601024; omega) (by show z + 18 ≤ 7293034; omega) (Nat.le_of_ble_eq_true rfl) (fun r h2 hp _ => ?_)
  obtain ⟨e1, H2, hk2, fo2, ho2, hv2⟩ := hp
  cases e1
  have HM2 : MDs h2 s f := HM.pt hk2
  obtain ⟨F2, V2, M2, -, -⟩ := id HM2
  refine r_pc 859 rfl ?_
  refine r_istore d_La_law_859 (Nat.le_of_ble_eq_true rfl) ?_
  refine r_aload_n d_La_law_861 rfl ?_
  refine r_aload_nS d_La_law_862 rfl ?_
  refine r_iload d_La_law_863 rfl ?_
  refine r_iconst 1 d_La_law_865 (by decide) ?_
  refine r_ri nI1 ?_
  refine r_iadd d_La_law_866 ?_
  refine r_ri (nI_add _ _) ?_
  refine r_sload d_La_law_867 rfl (vp_in_nI (show 4 * c + 1 < L by omega) (by omega)) ?_
  refine r_callV [.int (xs (nI (4 * c + 1)).toNatClampNeg)] 57 10 0 0 (Ψ := okM h2 (q_look s (xs (nI (4 * c + 1)).toNatClampNeg) (fun L => L.2.1.1))) d_La_law_868 q_La_113 M2.1 rfl rfl (k_Mo_angle htr (by omega) HM2 ) (Nat.le_of_ble_eq_true rfl) (by show k + 3 + 0 ≤ 601024; omega) (by show z + 18 + 0 ≤ 7293034; omega) (Nat.le_of_ble_eq_true rfl) (fun r h3 hp _ => ?_) (fun E h3 hp _ => nomatch hp.1)
  obtain ⟨e2, f3, HM3⟩ := hp
  cases e2
  have H3 : PGs h3 (q_look s (xs (nI (4 * c + 1)).toNatClampNeg) (fun L => L.2.1.1)).2.2 := H2.pt (fun x hx => f3.2 x (by show ¬ (57 ≤ x ∧ x < 83); omega))
  have ho3 : h3[83]? = some (.inl (.inr (.inl (1, fo2)))) := (f3.2 83 (by show ¬ (57 ≤ 83 ∧ 83 < 83); omega)).trans ho2
  have hI3 : Inv (q_look s (xs (nI (4 * c + 1)).toNatClampNeg) (fun L => L.2.1.1)).2.2 (c + 1) := inv_look hI
  have q0v : (q_look s (xs (nI (4 * c + 1)).toNatClampNeg) (fun L => L.2.1.1)).1 = 0 → fo2 0 = (q_look s (xs (nI (4 * c + 1)).toNatClampNeg) (fun L => L.2.1.1)).2.1.toInt64 := hv2
  have qle : (q_look s (xs (nI (4 * c + 1)).toNatClampNeg) (fun L => L.2.1.1)).1 ≤ 3 := Nat.le_trans qle_look (by omega)
  generalize (q_look s (xs (nI (4 * c + 1)).toNatClampNeg) (fun L => L.2.1.1)) = Q at *
  refine r_pc 871 rfl ?_
  refine r_istore d_La_law_871 (Nat.le_of_ble_eq_true rfl) ?_
  refine r_aload_n d_La_law_873 rfl ?_
  obtain ⟨F3, V3, M3, S3, v3⟩ := id HM3
  refine r_cVi [] 57 10 0 0 (nI Q.1) (fun h' => h3 = h') d_La_law_874 q_La_68 M3.1 rfl rfl (HM3.t htr) (Nat.le_of_ble_eq_true rfl) (by show k + 3 + 0 + 0 ≤ 601024; omega) (by show z + 18 + 0 + 0 ≤ 7293034; omega) (Nat.le_of_ble_eq_true rfl) (fun h4 e4 => ?_)
  subst e4
  refine r_iload d_La_law_877 rfl ?_
  refine r_icmp_eq 884 d_La_law_879 (by decide) (fun _ => ?_) (fun w => absurd rfl w)
  refine r_iload d_La_law_884 rfl ?_
  refine r_if_ne 901 d_La_law_886 (by decide) (fun w => ?_) (fun w => ?_)
  · refine r_goto 1067 d_La_law_901 (by decide) ?_
    exact r_loc _ (fun q hq => by simp at hq; rcases hq with q | q | q | q | q <;> subst q <;> rfl) (nx _ _ _ _ _ _ H3 HM3 ho3 hI3 (by omega) (by omega))
  · have q0 : Q.1 = 0 := (nI_eq (by omega) (by omega)).mp (w.trans nI_0.symm)
    refine r_aload_n d_La_law_889 rfl ?_
    refine r_iconst 0 d_La_law_890 (by decide) ?_
    refine r_laload d_La_law_891 ho3 (by unfold vp_in; decide) ?_
    refine r_iload d_La_law_892 rfl ?_
    refine r_i2l d_La_law_894 ?_
    refine r_lcmp d_La_law_895 ?_
    refine r_ri (y := 0) (by
      rw [if_pos q0]
      have e9 : fo2 (0 : Int32).toNatClampNeg = Q.2.1.toInt64 := q0v q0
      rw [e9]; exact cmp_0 _) ?_
    refine r_if_eq 901 d_La_law_896 (by decide) (fun _ => ?_) (fun w => absurd rfl w)
    refine r_goto 1067 d_La_law_901 (by decide) ?_
    exact r_loc _ (fun q hq => by simp at hq; rcases hq with q | q | q | q | q <;> subst q <;> rfl) (nx _ _ _ _ _ _ H3 HM3 ho3 hI3 (by omega) (by omega))
theorem law_13 {l : Launch} (htr : l.stackTraces = false) {Φ : ac_R → ac_H → Prop} {L c : Nat} {xs : Nat → Int32} (hc : 4 * c + 4 ≤ L) (hL : L ≤ 2048) (nx : lawN l Φ L xs c) {h : ac_H} {s : sp_S} {f : Nat} {fo : Nat → Int64} {k z : Nat} (H : PGs h s) (HM : MDs h s f) (ho : h[83]? = some (.inl (.inr (.inl (1, fo))))) (hI : Inv s c) (hk : k ≤ 84 + 3 * c) (hz : z ≤ 3780 + 18 * c) : ac_G (lawP l Φ L xs) 904 (lawL c) [] h k z := by
  have hc5 : c < 512 := by omega
  refine r_aload_n d_La_law_904 rfl ?_
  refine r_aload_nS d_La_law_905 rfl ?_
  refine r_iload d_La_law_906 rfl ?_
  refine r_iconst 1 d_La_law_908 (by decide) ?_
  refine r_ri nI1 ?_
  refine r_iadd d_La_law_909 ?_
  refine r_ri (nI_add _ _) ?_
  refine r_sload d_La_law_910 rfl (vp_in_nI (show 4 * c + 1 < L by omega) (by omega)) ?_
  refine r_aload_n d_La_law_911 rfl ?_
  refine r_callSW [.ref 0, .int (xs (nI (4 * c + 1)).toNatClampNeg), .ref 83] 10 3 18 (Ψ := okL h (q_look s (xs (nI (4 * c + 1)).toNatClampNeg) (fun L => L.2.1.2))) d_La_law_912 q_La_114 rfl (c_La_order htr (by omega) H ho ) (fun E h9 w => nomatch w.1) (Nat.le_of_ble_eq_true rfl) (by show k + 3 ≤ 601024; omega) (by show z + 18 ≤ 7293034; omega) (Nat.le_of_ble_eq_true rfl) (fun r h2 hp _ => ?_)
  obtain ⟨e1, H2, hk2, fo2, ho2, hv2⟩ := hp
  cases e1
  have HM2 : MDs h2 s f := HM.pt hk2
  obtain ⟨F2, V2, M2, -, -⟩ := id HM2
  refine r_pc 915 rfl ?_
  refine r_istore d_La_law_915 (Nat.le_of_ble_eq_true rfl) ?_
  refine r_aload_n d_La_law_917 rfl ?_
  refine r_aload_nS d_La_law_918 rfl ?_
  refine r_iload d_La_law_919 rfl ?_
  refine r_iconst 1 d_La_law_921 (by decide) ?_
  refine r_ri nI1 ?_
  refine r_iadd d_La_law_922 ?_
  refine r_ri (nI_add _ _) ?_
  refine r_sload d_La_law_923 rfl (vp_in_nI (show 4 * c + 1 < L by omega) (by omega)) ?_
  refine r_callV [.int (xs (nI (4 * c + 1)).toNatClampNeg)] 57 10 0 0 (Ψ := okM h2 (q_look s (xs (nI (4 * c + 1)).toNatClampNeg) (fun L => L.2.1.2))) d_La_law_924 q_La_116 M2.1 rfl rfl (k_Mo_order htr (by omega) HM2 ) (Nat.le_of_ble_eq_true rfl) (by show k + 3 + 0 ≤ 601024; omega) (by show z + 18 + 0 ≤ 7293034; omega) (Nat.le_of_ble_eq_true rfl) (fun r h3 hp _ => ?_) (fun E h3 hp _ => nomatch hp.1)
  obtain ⟨e2, f3, HM3⟩ := hp
  cases e2
  have H3 : PGs h3 (q_look s (xs (nI (4 * c + 1)).toNatClampNeg) (fun L => L.2.1.2)).2.2 := H2.pt (fun x hx => f3.2 x (by show ¬ (57 ≤ x ∧ x < 83); omega))
  have ho3 : h3[83]? = some (.inl (.inr (.inl (1, fo2)))) := (f3.2 83 (by show ¬ (57 ≤ 83 ∧ 83 < 83); omega)).trans ho2
  have hI3 : Inv (q_look s (xs (nI (4 * c + 1)).toNatClampNeg) (fun L => L.2.1.2)).2.2 (c + 1) := inv_look hI
  have q0v : (q_look s (xs (nI (4 * c + 1)).toNatClampNeg) (fun L => L.2.1.2)).1 = 0 → fo2 0 = (q_look s (xs (nI (4 * c + 1)).toNatClampNeg) (fun L => L.2.1.2)).2.1.toInt64 := hv2
  have qle : (q_look s (xs (nI (4 * c + 1)).toNatClampNeg) (fun L => L.2.1.2)).1 ≤ 3 := Nat.le_trans qle_look (by omega)
  generalize (q_look s (xs (nI (4 * c + 1)).toNatClampNeg) (fun L => L.2.1.2)) = Q at *
  refine r_pc 927 rfl ?_
  refine r_istore d_La_law_927 (Nat.le_of_ble_eq_true rfl) ?_
  refine r_aload_n d_La_law_929 rfl ?_
  obtain ⟨F3, V3, M3, S3, v3⟩ := id HM3
  refine r_cVi [] 57 10 0 0 (nI Q.1) (fun h' => h3 = h') d_La_law_930 q_La_68 M3.1 rfl rfl (HM3.t htr) (Nat.le_of_ble_eq_true rfl) (by show k + 3 + 0 + 0 ≤ 601024; omega) (by show z + 18 + 0 + 0 ≤ 7293034; omega) (Nat.le_of_ble_eq_true rfl) (fun h4 e4 => ?_)
  subst e4
  refine r_iload d_La_law_933 rfl ?_
  refine r_icmp_eq 940 d_La_law_935 (by decide) (fun _ => ?_) (fun w => absurd rfl w)
  refine r_iload d_La_law_940 rfl ?_
  refine r_if_ne 957 d_La_law_942 (by decide) (fun w => ?_) (fun w => ?_)
  · refine r_goto 1067 d_La_law_957 (by decide) ?_
    exact r_loc _ (fun q hq => by simp at hq; rcases hq with q | q | q | q | q <;> subst q <;> rfl) (nx _ _ _ _ _ _ H3 HM3 ho3 hI3 (by omega) (by omega))
  · have q0 : Q.1 = 0 := (nI_eq (by omega) (by omega)).mp (w.trans nI_0.symm)
    refine r_aload_n d_La_law_945 rfl ?_
    refine r_iconst 0 d_La_law_946 (by decide) ?_
    refine r_laload d_La_law_947 ho3 (by unfold vp_in; decide) ?_
    refine r_iload d_La_law_948 rfl ?_
    refine r_i2l d_La_law_950 ?_
    refine r_lcmp d_La_law_951 ?_
    refine r_ri (y := 0) (by
      rw [if_pos q0]
      have e9 : fo2 (0 : Int32).toNatClampNeg = Q.2.1.toInt64 := q0v q0
      rw [e9]; exact cmp_0 _) ?_
    refine r_if_eq 957 d_La_law_952 (by decide) (fun _ => ?_) (fun w => absurd rfl w)
    refine r_goto 1067 d_La_law_957 (by decide) ?_
    exact r_loc _ (fun q hq => by simp at hq; rcases hq with q | q | q | q | q <;> subst q <;> rfl) (nx _ _ _ _ _ _ H3 HM3 ho3 hI3 (by omega) (by omega))
theorem law_14 {l : Launch} (htr : l.stackTraces = false) {Φ : ac_R → ac_H → Prop} {L c : Nat} {xs : Nat → Int32} (hc : 4 * c + 4 ≤ L) (hL : L ≤ 2048) (nx : lawN l Φ L xs c) {h : ac_H} {s : sp_S} {f : Nat} {fo : Nat → Int64} {k z : Nat} (H : PGs h s) (HM : MDs h s f) (ho : h[83]? = some (.inl (.inr (.inl (1, fo))))) (hI : Inv s c) (hk : k ≤ 84 + 3 * c) (hz : z ≤ 3780 + 18 * c) : ac_G (lawP l Φ L xs) 960 (lawL c) [] h k z := by
  have hc5 : c < 512 := by omega
  refine r_aload_n d_La_law_960 rfl ?_
  refine r_aload_nS d_La_law_961 rfl ?_
  refine r_iload d_La_law_962 rfl ?_
  refine r_iconst 1 d_La_law_964 (by decide) ?_
  refine r_ri nI1 ?_
  refine r_iadd d_La_law_965 ?_
  refine r_ri (nI_add _ _) ?_
  refine r_sload d_La_law_966 rfl (vp_in_nI (show 4 * c + 1 < L by omega) (by omega)) ?_
  refine r_aload_n d_La_law_967 rfl ?_
  refine r_callSW [.ref 0, .int (xs (nI (4 * c + 1)).toNatClampNeg), .ref 83] 10 3 18 (Ψ := okL h (q_look s (xs (nI (4 * c + 1)).toNatClampNeg) (fun L => L.1.2.2.2))) d_La_law_968 q_La_117 rfl (c_La_seen htr (by omega) H ho ) (fun E h9 w => nomatch w.1) (Nat.le_of_ble_eq_true rfl) (by show k + 3 ≤ 601024; omega) (by show z + 18 ≤ 7293034; omega) (Nat.le_of_ble_eq_true rfl) (fun r h2 hp _ => ?_)
  obtain ⟨e1, H2, hk2, fo2, ho2, hv2⟩ := hp
  cases e1
  have HM2 : MDs h2 s f := HM.pt hk2
  obtain ⟨F2, V2, M2, -, -⟩ := id HM2
  refine r_pc 971 rfl ?_
  refine r_istore d_La_law_971 (Nat.le_of_ble_eq_true rfl) ?_
  refine r_aload_n d_La_law_973 rfl ?_
  refine r_aload_nS d_La_law_974 rfl ?_
  refine r_iload d_La_law_975 rfl ?_
  refine r_iconst 1 d_La_law_977 (by decide) ?_
  refine r_ri nI1 ?_
  refine r_iadd d_La_law_978 ?_
  refine r_ri (nI_add _ _) ?_
  refine r_sload d_La_law_979 rfl (vp_in_nI (show 4 * c + 1 < L by omega) (by omega)) ?_
  refine r_callV [.int (xs (nI (4 * c + 1)).toNatClampNeg)] 57 10 0 0 (Ψ := okM h2 (q_look s (xs (nI (4 * c + 1)).toNatClampNeg) (fun L => L.1.2.2.2))) d_La_law_980 q_La_119 M2.1 rfl rfl (k_Mo_seen htr (by omega) HM2 ) (Nat.le_of_ble_eq_true rfl) (by show k + 3 + 0 ≤ 601024; omega) (by show z + 18 + 0 ≤ 7293034; omega) (Nat.le_of_ble_eq_true rfl) (fun r h3 hp _ => ?_) (fun E h3 hp _ => nomatch hp.1)
  obtain ⟨e2, f3, HM3⟩ := hp
  cases e2
  have H3 : PGs h3 (q_look s (xs (nI (4 * c + 1)).toNatClampNeg) (fun L => L.1.2.2.2)).2.2 := H2.pt (fun x hx => f3.2 x (by show ¬ (57 ≤ x ∧ x < 83); omega))
  have ho3 : h3[83]? = some (.inl (.inr (.inl (1, fo2)))) := (f3.2 83 (by show ¬ (57 ≤ 83 ∧ 83 < 83); omega)).trans ho2
  have hI3 : Inv (q_look s (xs (nI (4 * c + 1)).toNatClampNeg) (fun L => L.1.2.2.2)).2.2 (c + 1) := inv_look hI
  have q0v : (q_look s (xs (nI (4 * c + 1)).toNatClampNeg) (fun L => L.1.2.2.2)).1 = 0 → fo2 0 = (q_look s (xs (nI (4 * c + 1)).toNatClampNeg) (fun L => L.1.2.2.2)).2.1.toInt64 := hv2
  have qle : (q_look s (xs (nI (4 * c + 1)).toNatClampNeg) (fun L => L.1.2.2.2)).1 ≤ 3 := Nat.le_trans qle_look (by omega)
  generalize (q_look s (xs (nI (4 * c + 1)).toNatClampNeg) (fun L => L.1.2.2.2)) = Q at *
  refine r_pc 983 rfl ?_
  refine r_istore d_La_law_983 (Nat.le_of_ble_eq_true rfl) ?_
  refine r_aload_n d_La_law_985 rfl ?_
  obtain ⟨F3, V3, M3, S3, v3⟩ := id HM3
  refine r_cVi [] 57 10 0 0 (nI Q.1) (fun h' => h3 = h') d_La_law_986 q_La_68 M3.1 rfl rfl (HM3.t htr) (Nat.le_of_ble_eq_true rfl) (by show k + 3 + 0 + 0 ≤ 601024; omega) (by show z + 18 + 0 + 0 ≤ 7293034; omega) (Nat.le_of_ble_eq_true rfl) (fun h4 e4 => ?_)
  subst e4
  refine r_iload d_La_law_989 rfl ?_
  refine r_icmp_eq 996 d_La_law_991 (by decide) (fun _ => ?_) (fun w => absurd rfl w)
  refine r_iload d_La_law_996 rfl ?_
  refine r_if_ne 1013 d_La_law_998 (by decide) (fun w => ?_) (fun w => ?_)
  · refine r_goto 1067 d_La_law_1013 (by decide) ?_
    exact r_loc _ (fun q hq => by simp at hq; rcases hq with q | q | q | q | q <;> subst q <;> rfl) (nx _ _ _ _ _ _ H3 HM3 ho3 hI3 (by omega) (by omega))
  · have q0 : Q.1 = 0 := (nI_eq (by omega) (by omega)).mp (w.trans nI_0.symm)
    refine r_aload_n d_La_law_1001 rfl ?_
    refine r_iconst 0 d_La_law_1002 (by decide) ?_
    refine r_laload d_La_law_1003 ho3 (by unfold vp_in; decide) ?_
    refine r_iload d_La_law_1004 rfl ?_
    refine r_i2l d_La_law_1006 ?_
    refine r_lcmp d_La_law_1007 ?_
    refine r_ri (y := 0) (by
      rw [if_pos q0]
      have e9 : fo2 (0 : Int32).toNatClampNeg = Q.2.1.toInt64 := q0v q0
      rw [e9]; exact cmp_0 _) ?_
    refine r_if_eq 1013 d_La_law_1008 (by decide) (fun _ => ?_) (fun w => absurd rfl w)
    refine r_goto 1067 d_La_law_1013 (by decide) ?_
    exact r_loc _ (fun q hq => by simp at hq; rcases hq with q | q | q | q | q <;> subst q <;> rfl) (nx _ _ _ _ _ _ H3 HM3 ho3 hI3 (by omega) (by omega))
theorem law_5 {l : Launch} (htr : l.stackTraces = false) {Φ : ac_R → ac_H → Prop} {L c : Nat} {xs : Nat → Int32} (hc : 4 * c + 4 ≤ L) (hL : L ≤ 2048) (nx : lawN l Φ L xs c) {h : ac_H} {s : sp_S} {f : Nat} {fo : Nat → Int64} {k z : Nat} (H : PGs h s) (HM : MDs h s f) (ho : h[83]? = some (.inl (.inr (.inl (1, fo))))) (hI : Inv s c) (hk : k ≤ 84 + 3 * c) (hz : z ≤ 3780 + 18 * c) : ac_G (lawP l Φ L xs) 444 (lawL c) [] h k z := by
  refine r_aload_n d_La_law_444 rfl ?_
  refine r_aload_nS d_La_law_445 rfl ?_
  refine r_iload d_La_law_446 rfl ?_
  refine r_iconst 1 d_La_law_448 (by decide) ?_
  refine r_ri nI1 ?_
  refine r_iadd d_La_law_449 ?_
  refine r_ri (nI_add _ _) ?_
  refine r_sload d_La_law_450 rfl (vp_in_nI (show 4 * c + 1 < L by omega) (by omega)) ?_
  have key : ∀ al : Int32, (al = 0 ∨ al = 1) → (¬ xs (nI (4 * c + 1)).toNatClampNeg = 0 ↔ al = 1) → ac_G (lawP l Φ L xs) 459 (lawL c) [.int al, .ref 0] h k z := by
    intro al h01 hal
    refine r_callV [.int al] 0 10 0 0 (Ψ := fun r h' => r = .inl none ∧ frP h h' cmp9 ∧ PGs h' (s.1, s.2.1, s.2.2.1, al, s.2.2.2.2)) d_La_law_459 q_La_87 H.2.1 rfl rfl (c_PG_alarm htr h01 H (fun h' f' G => ⟨rfl, f', G⟩)) (Nat.le_of_ble_eq_true rfl) (by show k + 0 ≤ 601024; omega) (by show z + 0 ≤ 7293034; omega) (Nat.le_of_ble_eq_true rfl) (fun r h2 hp _ => ?_) (fun E h2 hp _ => nomatch hp.1)
    obtain ⟨e1, f2, H2⟩ := hp
    cases e1
    have HM2 : MDs h2 s f := HM.pt (fun x h1 _ => f2.2 x (by show ¬ x < 57; omega))
    have ho2 : h2[83]? = some (.inl (.inr (.inl (1, fo)))) := (f2.2 83 (by show ¬ 83 < 57; omega)).trans ho
    have key2 : ac_G (lawP l Φ L xs) 477 (lawL c) [.int al, .ref 57] h2 (k + 0) (z + 0) := by
      obtain ⟨F2, V2, M2, -, -⟩ := id HM2
      refine r_callV [.int al] 57 10 0 0 (Ψ := fun r h' => r = .inl none ∧ frP h2 h' mod9 ∧ MDs h' (s.1, s.2.1, s.2.2.1, al, s.2.2.2.2) 0) d_La_law_477 q_La_91 M2.1 rfl rfl (c_Mo_alarm htr h01 HM2 (fun h' f' G => ⟨rfl, f', G⟩)) (Nat.le_of_ble_eq_true rfl) (by show k + 0 + 0 ≤ 601024; omega) (by show z + 0 + 0 ≤ 7293034; omega) (Nat.le_of_ble_eq_true rfl) (fun r h3 hp _ => ?_) (fun E h3 hp _ => nomatch hp.1)
      obtain ⟨e2, f3, HM3⟩ := hp
      cases e2
      have H3 := H2.pt (h' := h3) (fun x hx => f3.2 x (by show ¬ (57 ≤ x ∧ x < 83); omega))
      have ho3 : h3[83]? = some (.inl (.inr (.inl (1, fo)))) := (f3.2 83 (by show ¬ (57 ≤ 83 ∧ 83 < 83); omega)).trans ho2
      refine r_goto 1067 d_La_law_480 (by decide) ?_
      exact r_loc _ (fun q hq => by simp at hq; rcases hq with q | q | q | q | q <;> subst q <;> rfl) (nx _ _ _ _ _ _ H3 HM3 ho3 hI.mo (by omega) (by omega))
    refine r_aload_n d_La_law_462 rfl ?_
    refine r_aload_nS d_La_law_463 rfl ?_
    refine r_iload d_La_law_464 rfl ?_
    refine r_iconst 1 d_La_law_466 (by decide) ?_
    refine r_ri nI1 ?_
    refine r_iadd d_La_law_467 ?_
    refine r_ri (nI_add _ _) ?_
    refine r_sload d_La_law_468 rfl (vp_in_nI (show 4 * c + 1 < L by omega) (by omega)) ?_
    refine r_if_eq 476 d_La_law_469 (by decide) (fun c1 => ?_) (fun c1 => ?_)
    · have : al = 0 := by
        rcases h01 with e | e
        · exact e
        · exact absurd c1 (hal.mpr e)
      rw [this] at key2
      refine r_iconst 0 d_La_law_476 (by decide) ?_
      exact key2
    · have : al = 1 := hal.mp c1
      rw [this] at key2
      refine r_iconst 1 d_La_law_472 (by decide) ?_
      refine r_goto 477 d_La_law_473 (by decide) ?_
      exact key2
  refine r_if_eq 458 d_La_law_451 (by decide) (fun c1 => ?_) (fun c1 => ?_)
  · refine r_iconst 0 d_La_law_458 (by decide) ?_
    exact key 0 (Or.inl rfl) ⟨fun w => absurd c1 w, fun w => absurd w (by decide)⟩
  · refine r_iconst 1 d_La_law_454 (by decide) ?_
    refine r_goto 459 d_La_law_455 (by decide) ?_
    exact key 1 (Or.inr rfl) ⟨fun _ => rfl, fun _ => c1⟩
theorem law_6 {l : Launch} (htr : l.stackTraces = false) {Φ : ac_R → ac_H → Prop} {L c : Nat} {xs : Nat → Int32} (hc : 4 * c + 4 ≤ L) (hL : L ≤ 2048) (nx : lawN l Φ L xs c) {h : ac_H} {s : sp_S} {f : Nat} {fo : Nat → Int64} {k z : Nat} (H : PGs h s) (HM : MDs h s f) (ho : h[83]? = some (.inl (.inr (.inl (1, fo))))) (hI : Inv s c) (hk : k ≤ 84 + 3 * c) (hz : z ≤ 3780 + 18 * c) : ac_G (lawP l Φ L xs) 483 (lawL c) [] h k z := by
  refine r_aload_n d_La_law_483 rfl ?_
  refine r_cVi [] 0 10 0 0 (nI s.2.2.2.2) (fun h' => h = h') d_La_law_484 q_La_92 H.2.1 rfl rfl (c_PG_time htr H ⟨rfl, rfl⟩) (Nat.le_of_ble_eq_true rfl) (by show k + 0 ≤ 601024; omega) (by show z + 0 ≤ 7293034; omega) (Nat.le_of_ble_eq_true rfl) (fun h2 e2 => ?_)
  subst e2
  refine r_aload_n d_La_law_487 rfl ?_
  obtain ⟨F2, V2, M2, -, -⟩ := id HM
  refine r_cVi [] 57 10 0 0 (nI s.2.2.2.2) (fun h' => frP h h' mod9 ∧ MDs h' s 0) d_La_law_488 q_La_95 M2.1 rfl rfl (c_Mo_time htr HM (fun h' f' G => ⟨rfl, f', G⟩)) (Nat.le_of_ble_eq_true rfl) (by show k + 0 + 0 ≤ 601024; omega) (by show z + 0 + 0 ≤ 7293034; omega) (Nat.le_of_ble_eq_true rfl) (fun h3 e3 => ?_)
  obtain ⟨f3, HM3⟩ := e3
  have H3 := H.pt (h' := h3) (fun x hx => f3.2 x (by show ¬ (57 ≤ x ∧ x < 83); omega))
  have ho3 : h3[83]? = some (.inl (.inr (.inl (1, fo)))) := (f3.2 83 (by show ¬ (57 ≤ 83 ∧ 83 < 83); omega)).trans ho
  refine r_icmp_eq 1067 d_La_law_491 (by decide) (fun _ => ?_) (fun w => absurd rfl w)
  exact nx _ _ _ _ _ _ H3 HM3 ho3 hI.mo (by omega) (by omega)
theorem law_15 {l : Launch} (htr : l.stackTraces = false) {Φ : ac_R → ac_H → Prop} {L c : Nat} {xs : Nat → Int32} (hc : 4 * c + 4 ≤ L) (hL : L ≤ 2048) (nx : lawN l Φ L xs c) {h : ac_H} {s : sp_S} {f : Nat} {fo : Nat → Int64} {k z : Nat} (H : PGs h s) (HM : MDs h s f) (ho : h[83]? = some (.inl (.inr (.inl (1, fo))))) (hI : Inv s c) (hk : k ≤ 84 + 3 * c) (hz : z ≤ 3780 + 18 * c) : ac_G (lawP l Φ L xs) 1016 (lawL c) [] h k z := by
  refine r_aload_n d_La_law_1016 rfl ?_
  refine r_cVi [] 0 10 0 0 (nI s.2.1.length) (fun h' => h = h') d_La_law_1017 q_La_120 H.2.1 rfl rfl (c_PG_accepted htr H ⟨rfl, rfl⟩) (Nat.le_of_ble_eq_true rfl) (by show k + 0 ≤ 601024; omega) (by show z + 0 ≤ 7293034; omega) (Nat.le_of_ble_eq_true rfl) (fun h2 e2 => ?_)
  subst e2
  refine r_aload_n d_La_law_1020 rfl ?_
  obtain ⟨F2, V2, M2, -, -⟩ := id HM
  refine r_cVi [] 57 10 0 0 (nI s.2.1.length) (fun h' => frP h h' mod9 ∧ MDs h' s 0) d_La_law_1021 q_La_123 M2.1 rfl rfl (c_Mo_accepted htr HM (fun h' f' G => ⟨rfl, f', G⟩)) (Nat.le_of_ble_eq_true rfl) (by show k + 0 + 0 ≤ 601024; omega) (by show z + 0 + 0 ≤ 7293034; omega) (Nat.le_of_ble_eq_true rfl) (fun h3 e3 => ?_)
  obtain ⟨f3, HM3⟩ := e3
  have H3 := H.pt (h' := h3) (fun x hx => f3.2 x (by show ¬ (57 ≤ x ∧ x < 83); omega))
  have ho3 : h3[83]? = some (.inl (.inr (.inl (1, fo)))) := (f3.2 83 (by show ¬ (57 ≤ 83 ∧ 83 < 83); omega)).trans ho
  refine r_icmp_eq 1067 d_La_law_1024 (by decide) (fun _ => ?_) (fun w => absurd rfl w)
  exact nx _ _ _ _ _ _ H3 HM3 ho3 hI.mo (by omega) (by omega)
theorem law_16 {l : Launch} (htr : l.stackTraces = false) {Φ : ac_R → ac_H → Prop} {L c : Nat} {xs : Nat → Int32} (hc : 4 * c + 4 ≤ L) (hL : L ≤ 2048) (nx : lawN l Φ L xs c) {h : ac_H} {s : sp_S} {f : Nat} {fo : Nat → Int64} {k z : Nat} (H : PGs h s) (HM : MDs h s f) (ho : h[83]? = some (.inl (.inr (.inl (1, fo))))) (hI : Inv s c) (hk : k ≤ 84 + 3 * c) (hz : z ≤ 3780 + 18 * c) : ac_G (lawP l Φ L xs) 1029 (lawL c) [] h k z := by
  refine r_aload_n d_La_law_1029 rfl ?_
  refine r_cVi [] 0 10 0 0 (nI s.2.2.1.length) (fun h' => h = h') d_La_law_1030 q_La_124 H.2.1 rfl rfl (c_PG_refunds htr H ⟨rfl, rfl⟩) (Nat.le_of_ble_eq_true rfl) (by show k + 0 ≤ 601024; omega) (by show z + 0 ≤ 7293034; omega) (Nat.le_of_ble_eq_true rfl) (fun h2 e2 => ?_)
  subst e2
  refine r_aload_n d_La_law_1033 rfl ?_
  obtain ⟨F2, V2, M2, -, -⟩ := id HM
  refine r_cVi [] 57 10 0 0 (nI s.2.2.1.length) (fun h' => frP h h' mod9 ∧ MDs h' s 0) d_La_law_1034 q_La_127 M2.1 rfl rfl (c_Mo_refunds htr HM (fun h' f' G => ⟨rfl, f', G⟩)) (Nat.le_of_ble_eq_true rfl) (by show k + 0 + 0 ≤ 601024; omega) (by show z + 0 + 0 ≤ 7293034; omega) (Nat.le_of_ble_eq_true rfl) (fun h3 e3 => ?_)
  obtain ⟨f3, HM3⟩ := e3
  have H3 := H.pt (h' := h3) (fun x hx => f3.2 x (by show ¬ (57 ≤ x ∧ x < 83); omega))
  have ho3 : h3[83]? = some (.inl (.inr (.inl (1, fo)))) := (f3.2 83 (by show ¬ (57 ≤ 83 ∧ 83 < 83); omega)).trans ho
  refine r_icmp_eq 1067 d_La_law_1037 (by decide) (fun _ => ?_) (fun w => absurd rfl w)
  exact nx _ _ _ _ _ _ H3 HM3 ho3 hI.mo (by omega) (by omega)
theorem law_17 {l : Launch} (htr : l.stackTraces = false) {Φ : ac_R → ac_H → Prop} {L c : Nat} {xs : Nat → Int32} (hc : 4 * c + 4 ≤ L) (hL : L ≤ 2048) (nx : lawN l Φ L xs c) {h : ac_H} {s : sp_S} {f : Nat} {fo : Nat → Int64} {k z : Nat} (H : PGs h s) (HM : MDs h s f) (ho : h[83]? = some (.inl (.inr (.inl (1, fo))))) (hI : Inv s c) (hk : k ≤ 84 + 3 * c) (hz : z ≤ 3780 + 18 * c) : ac_G (lawP l Φ L xs) 1042 (lawL c) [] h k z := by
  refine r_aload_n d_La_law_1042 rfl ?_
  refine r_aload_nS d_La_law_1043 rfl ?_
  refine r_iload d_La_law_1044 rfl ?_
  refine r_iconst 1 d_La_law_1046 (by decide) ?_
  refine r_ri nI1 ?_
  refine r_iadd d_La_law_1047 ?_
  refine r_ri (nI_add _ _) ?_
  refine r_sload d_La_law_1048 rfl (vp_in_nI (show 4 * c + 1 < L by omega) (by omega)) ?_
  refine r_cVi [.int (xs (nI (4 * c + 1)).toNatClampNeg)] 0 10 0 0 ((if 0 ≤ (xs (nI (4 * c + 1)).toNatClampNeg).toInt then (s.2.2.1[(xs (nI (4 * c + 1)).toNatClampNeg).toInt.toNat]?).getD (-1) else -1)) (fun h' => h = h') d_La_law_1049 q_La_128 H.2.1 rfl rfl (c_PG_refund htr (by omega) H ⟨rfl, rfl⟩) (Nat.le_of_ble_eq_true rfl) (by show k + 0 ≤ 601024; omega) (by show z + 0 ≤ 7293034; omega) (Nat.le_of_ble_eq_true rfl) (fun h2 e2 => ?_)
  subst e2
  refine r_aload_n d_La_law_1052 rfl ?_
  refine r_aload_nS d_La_law_1053 rfl ?_
  refine r_iload d_La_law_1054 rfl ?_
  refine r_iconst 1 d_La_law_1056 (by decide) ?_
  refine r_ri nI1 ?_
  refine r_iadd d_La_law_1057 ?_
  refine r_ri (nI_add _ _) ?_
  refine r_sload d_La_law_1058 rfl (vp_in_nI (show 4 * c + 1 < L by omega) (by omega)) ?_
  obtain ⟨F2, V2, M2, -, -⟩ := id HM
  refine r_cVi [.int (xs (nI (4 * c + 1)).toNatClampNeg)] 57 10 0 0 ((if 0 ≤ (xs (nI (4 * c + 1)).toNatClampNeg).toInt then (s.2.2.1[(xs (nI (4 * c + 1)).toNatClampNeg).toInt.toNat]?).getD (-1) else -1)) (fun h' => frP h h' mod9 ∧ MDs h' s 0) d_La_law_1059 q_La_131 M2.1 rfl rfl (c_Mo_refund htr HM (fun h' f' G => ⟨rfl, f', G⟩)) (Nat.le_of_ble_eq_true rfl) (by show k + 0 + 0 ≤ 601024; omega) (by show z + 0 + 0 ≤ 7293034; omega) (Nat.le_of_ble_eq_true rfl) (fun h3 e3 => ?_)
  obtain ⟨f3, HM3⟩ := e3
  have H3 := H.pt (h' := h3) (fun x hx => f3.2 x (by show ¬ (57 ≤ x ∧ x < 83); omega))
  have ho3 : h3[83]? = some (.inl (.inr (.inl (1, fo)))) := (f3.2 83 (by show ¬ (57 ≤ 83 ∧ 83 < 83); omega)).trans ho
  refine r_icmp_eq 1067 d_La_law_1062 (by decide) (fun _ => ?_) (fun w => absurd rfl w)
  exact nx _ _ _ _ _ _ H3 HM3 ho3 hI.mo (by omega) (by omega)
