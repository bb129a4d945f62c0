/-! THE REFERENCE: somebody comes -/
def mtW (w : sp_W) (x : Nat × Nat) : Bool := match w.2.2 with
  | some o => decide (o.1 ≤ x.2 + 1) && decide (x.1 ≤ o.2 + 1)
  | none => false
def sideW (x : Nat × Nat) : List sp_W → Option Nat
  | [] => none
  | w :: r => if mtW w x = true then some w.1.2.2.1 else sideW x r
def plW (k : Nat) : List sp_W → Nat
  | [] => 0
  | w :: r => if k < w.2.1 then 0 else plW k r + 1
theorem plW_le (k : Nat) : ∀ W : List sp_W, plW k W ≤ W.length
  | [] => Nat.le_refl 0
  | w :: r => by
    have := plW_le k r
    rw [plW, List.length_cons]
    split <;> omega
def newW (W : List sp_W) (k : Nat) (x : Nat × Nat) : sp_W := ((x.1, x.2, (sideW x W).getD (if x.1 + x.2 < 9 then 0 else 1), -1, x.2 - x.1 + 1), k, none)
def insW (W : List sp_W) (k : Nat) (x : Nat × Nat) : List sp_W := W.take (plW k W) ++ newW W k x :: W.drop (plW k W)
def okW (w : sp_W) : Prop := okB w.1 ∧ w.2.1 < 4 ∧ ∀ o, w.2.2 = some o → o.1 ≤ o.2 ∧ o.2 ≤ 9
theorem side_ok {x : Nat × Nat} : ∀ {W : List sp_W}, (∀ w ∈ W, okW w) → ∀ s, sideW x W = some s → s ≤ 1
  | [], _, s, hs => by cases hs
  | w :: r, h, s, hs => by
    rw [sideW] at hs
    by_cases c : mtW w x = true
    · rw [if_pos c] at hs; cases hs; exact (h w List.mem_cons_self).1.2.2.1
    · rw [if_neg c] at hs; exact side_ok (fun w hw => h w (List.mem_cons_of_mem _ hw)) s hs
def Dsh (ln j i : Nat) : Prop := (j = 8 ∧ i = ln) ∨ Dbo ln j i
theorem lt_of_nle2 {a b : Nat} (hb : b < 2 ^ 31) (c : ¬ nI b ≤ nI a) (ha : a < 2 ^ 31) : a < b := lt_of_nle hb c ha
theorem c_Mo_begin {l : Launch} (htr : l.stackTraces = false) {d : Nat} {h : ac_H} {Φ : ac_R → ac_H → Prop} {ln k : Nat} {W : List sp_W} {B : List (Nat × Nat)} {x : Nat × Nat} {F : Nat → Nat → Int32} {V : Nat → Int32} (hd : 1 ≤ d) (hl : ln < 2) (M : MD h F V) (HW : MW F ln W) (hok : ∀ w ∈ W, okW w) (HB : MBl F V B) (hB : okBl B) (hk : k < 4) (hx : B[k]? = some x) (h3 : W.length < 4)
    (hΦ : ∀ h' F', frP h h' mod9 → MD h' F' V → ch (Dsh ln) F F' → MW F' ln (insW W k x) → Φ (.inl none) h') : ac_Mt l d m_Mo_begin [.ref 57, .int (nI ln), .int (nI k)] h 0 0 Φ := by
  obtain ⟨w0, w4, wc⟩ := id HW
  obtain ⟨x1, x2⟩ := hB x (List.mem_of_getElem? hx)
  obtain ⟨f1, f2⟩ := HB.2 k x hx
  have hpl := plW_le k W
  have hsd := fun s => side_ok (x := x) hok s
  refine ac_enter (by decide) rfl htr (fun _ => Nat.le_of_ble_eq_true rfl) ?_
  -- all but the new one
  have fin : ∀ (sd : Nat) (h2 : ac_H) (F2 : Nat → Nat → Int32), sd ≤ 1 → (sideW x W).getD (if x.1 + x.2 < 9 then 0 else 1) = sd → frP h h2 mod9 → ∀ (F9 : Nat → Nat → Int32), ch (Dbo ln) F F9 → F9 8 ln = nI W.length → (∀ (t : Nat) (w : sp_W), t < plW k W → W[t]? = some w → cellW F9 (5 * ln + t) w) → (∀ (t : Nat) (w : sp_W), plW k W ≤ t → W[t]? = some w → cellW F9 (5 * ln + t + 1) w) → F2 = up2 (up2 F9 9 (5 * ln + plW k W) (nI x.1)) 10 (5 * ln + plW k W) (nI x.2) → MD h2 F2 V → ac_G (l, d, m_Mo_begin, 0, 0, Φ, h.length, none) 213 [(5, .int (nI (5 * ln + plW k W))), (4, .int (nI (plW k W))), (3, .int (gI (sideW x W))), (0, .ref 57), (1, .int (nI ln)), (2, .int (nI k))] [.int (nI sd), .int (nI (5 * ln + plW k W)), .ref 69] h2 0 0 := by
    intro sd h2 F2 hs1 hs2 Fr2 F9 C9 w09 wl wr eF M2
    subst eF
    refine r_mst 11 d_Mo_begin_213 (by omega) (show 5 * ln + plW k W < 10 by omega) M2 (fun h213_ fr213 M213 => ?_)
    refine r_aload_n d_Mo_begin_214 rfl ?_
    refine r_getfield d_Mo_begin_215 f_Mo_46 M213.1 rfl ?_
    refine r_iload d_Mo_begin_218 rfl ?_
    refine r_iconst (-1) d_Mo_begin_220 (by decide) ?_
    refine r_mst 12 d_Mo_begin_221 (by omega) (show 5*ln+plW k W < 10 by omega) M213 (fun h221_ fr221 M221 => ?_)
    have g10 : up2 (up2 (up2 (up2 F9 9 (5 * ln + plW k W) (nI x.1)) 10 (5 * ln + plW k W) (nI x.2)) 11 (5 * ln + plW k W) (nI sd)) 12 (5 * ln + plW k W) (-1) 10 (5 * ln + plW k W) = nI x.2 := by simp [up2]
    have g9 : up2 (up2 (up2 (up2 F9 9 (5 * ln + plW k W) (nI x.1)) 10 (5 * ln + plW k W) (nI x.2)) 11 (5 * ln + plW k W) (nI sd)) 12 (5 * ln + plW k W) (-1) 9 (5 * ln + plW k W) = nI x.1 := by simp [up2]
    refine r_aload_n d_Mo_begin_222 rfl ?_
    refine r_getfield d_Mo_begin_223 f_Mo_49 M221.1 rfl ?_
    refine r_iload d_Mo_begin_226 rfl ?_
    refine r_aload_n d_Mo_begin_228 rfl ?_
    refine r_getfield d_Mo_begin_229 f_Mo_40 M221.1 rfl ?_
    refine r_iload d_Mo_begin_232 rfl ?_
    refine r_ialoadN d_Mo_begin_234 (md_last M221) (show 5*ln+plW k W < 10 by omega) (by omega) ?_
    refine r_ri g10 ?_
    refine r_aload_n d_Mo_begin_235 rfl ?_
    refine r_getfield d_Mo_begin_236 f_Mo_37 M221.1 rfl ?_
    refine r_iload d_Mo_begin_239 rfl ?_
    refine r_pc 241 rfl ?_
    refine r_ialoadN d_Mo_begin_241 (md_first M221) (show 5*ln+plW k W < 10 by omega) (by omega) ?_
    refine r_ri g9 ?_
    refine r_isub d_Mo_begin_242 ?_
    refine r_ri (y := nI ((x.2-x.1))) (pk_sub (by omega)) ?_
    refine r_iconst 1 d_Mo_begin_243 (by decide) ?_
    refine r_ri (show (1 : Int32) = nI 1 by decide) ?_
    refine r_iadd d_Mo_begin_244 ?_
    refine r_ri (nI_add _ _) ?_
    refine r_mst 13 d_Mo_begin_245 (by omega) (show 5*ln+plW k W < 10 by omega) M221 (fun h245_ fr245 M245 => ?_)
    refine r_aload_n d_Mo_begin_246 rfl ?_
    refine r_getfield d_Mo_begin_247 f_Mo_52 M245.1 rfl ?_
    refine r_iload d_Mo_begin_250 rfl ?_
    refine r_iload_n d_Mo_begin_252 rfl ?_
    refine r_mst 14 d_Mo_begin_253 (by omega) (show 5*ln+plW k W < 10 by omega) M245 (fun h253_ fr253 M253 => ?_)
    refine r_aload_n d_Mo_begin_254 rfl ?_
    refine r_getfield d_Mo_begin_255 f_Mo_55 M253.1 rfl ?_
    refine r_iload d_Mo_begin_258 rfl ?_
    refine r_bipush (-5) d_Mo_begin_260 (by decide) ?_
    refine r_mst 15 d_Mo_begin_262 (by omega) (show 5*ln+plW k W < 10 by omega) M253 (fun h262_ fr262 M262 => ?_)
    refine r_pc 263 rfl ?_
    refine r_aload_n d_Mo_begin_263 rfl ?_
    refine r_getfield d_Mo_begin_264 f_Mo_58 M262.1 rfl ?_
    refine r_iload d_Mo_begin_267 rfl ?_
    refine r_bipush (-5) d_Mo_begin_269 (by decide) ?_
    refine r_mst 16 d_Mo_begin_271 (by omega) (show 5*ln+plW k W < 10 by omega) M262 (fun h271_ fr271 M271 => ?_)
    refine r_aload_n d_Mo_begin_272 rfl ?_
    refine r_getfield d_Mo_begin_273 f_Mo_34 M271.1 rfl ?_
    refine r_iload_n d_Mo_begin_276 rfl ?_
    have e8 : up2 (up2 (up2 (up2 (up2 (up2 (up2 (up2 F9 9 (5 * ln + plW k W) (nI x.1)) 10 (5 * ln + plW k W) (nI x.2)) 11 (5 * ln + plW k W) (nI sd)) 12 (5 * ln + plW k W) (-1)) 13 (5 * ln + plW k W) (nI (x.2 - x.1 + 1))) 14 (5 * ln + plW k W) (nI k)) 15 (5 * ln + plW k W) (-5)) 16 (5 * ln + plW k W) (-5) 8 ln = nI W.length := by
      rw [up2_ne (by omega), up2_ne (by omega), up2_ne (by omega), up2_ne (by omega), up2_ne (by omega), up2_ne (by omega), up2_ne (by omega), up2_ne (by omega)]; exact w09
    have cN : cellW (up2 (up2 (up2 (up2 (up2 (up2 (up2 (up2 F9 9 (5 * ln + plW k W) (nI x.1)) 10 (5 * ln + plW k W) (nI x.2)) 11 (5 * ln + plW k W) (nI sd)) 12 (5 * ln + plW k W) (-1)) 13 (5 * ln + plW k W) (nI (x.2 - x.1 + 1))) 14 (5 * ln + plW k W) (nI k)) 15 (5 * ln + plW k W) (-5)) 16 (5 * ln + plW k W) (-5)) (5 * ln + plW k W) (newW W k x) := by
      refine ⟨⟨?_, ?_, ?_, ?_, ?_⟩, ?_, ?_, ?_⟩
      · simp [up2, newW]
      · simp [up2, newW]
      · simp [up2, newW, hs2]
      · simp [up2, newW]
      · simp [up2, newW]
      · simp [up2, newW]
      · simp [up2, newW, oF]
      · simp [up2, newW, oL]
    have CN : ch (fun j i => 9 ≤ j ∧ j ≤ 16 ∧ i = 5 * ln + plW k W) F9 (up2 (up2 (up2 (up2 (up2 (up2 (up2 (up2 F9 9 (5 * ln + plW k W) (nI x.1)) 10 (5 * ln + plW k W) (nI x.2)) 11 (5 * ln + plW k W) (nI sd)) 12 (5 * ln + plW k W) (-1)) 13 (5 * ln + plW k W) (nI (x.2 - x.1 + 1))) 14 (5 * ln + plW k W) (nI k)) 15 (5 * ln + plW k W) (-5)) 16 (5 * ln + plW k W) (-5)) :=
      ch_tr (ch_tr (ch_tr (ch_tr (ch_tr (ch_tr (ch_tr (ch_up ⟨by omega, by omega, rfl⟩) (ch_up ⟨by omega, by omega, rfl⟩)) (ch_up ⟨by omega, by omega, rfl⟩)) (ch_up ⟨by omega, by omega, rfl⟩)) (ch_up ⟨by omega, by omega, rfl⟩)) (ch_up ⟨by omega, by omega, rfl⟩)) (ch_up ⟨by omega, by omega, rfl⟩)) (ch_up ⟨by omega, by omega, rfl⟩)
    generalize up2 (up2 (up2 (up2 (up2 (up2 (up2 (up2 F9 9 (5 * ln + plW k W) (nI x.1)) 10 (5 * ln + plW k W) (nI x.2)) 11 (5 * ln + plW k W) (nI sd)) 12 (5 * ln + plW k W) (-1)) 13 (5 * ln + plW k W) (nI (x.2 - x.1 + 1))) 14 (5 * ln + plW k W) (nI k)) 15 (5 * ln + plW k W) (-5)) 16 (5 * ln + plW k W) (-5) = FN at *
    refine r_dup2 d_Mo_begin_277 rfl rfl ?_
    refine r_ialoadN d_Mo_begin_278 (md_bodies M271) hl (by omega) ?_
    refine r_ri e8 ?_
    refine r_iconst 1 d_Mo_begin_279 (by decide) ?_
    refine r_iadd d_Mo_begin_280 ?_
    refine r_ri (nI_1 _) ?_
    refine r_mst 8 d_Mo_begin_281 (by omega) hl M271 (fun h8 Fr8 M8 => ?_)
    have C8 : ch (fun j i => j = 8 ∧ i = ln) FN (up2 FN 8 ln (nI (W.length + 1))) := ch_up ⟨rfl, rfl⟩
    have lt : (W.take (plW k W)).length = plW k W := by rw [List.length_take]; omega
    refine r_vret d_Mo_begin_282 rfl (hΦ h8 _ (frP_tr (frP_tr (frP_tr (frP_tr (frP_tr (frP_tr (frP_tr (frP_tr Fr2 fr213) fr221) fr245) fr253) fr262) fr271) Fr8) frP_rf) M8 (ch_tr (ch_tr (ch_mo C9 (fun j i z => Or.inr z)) (ch_mo CN (fun j i z => Or.inr (by unfold Dbo; omega)))) (ch_mo C8 (fun j i z => Or.inl z))) ⟨?_, ?_, ?_⟩) (Nat.le_refl _) (Nat.le_refl _)
    · unfold insW
      have : (List.take (plW k W) W ++ newW W k x :: List.drop (plW k W) W).length = W.length + 1 := by
        rw [List.length_append, List.length_cons, lt, List.length_drop]; omega
      rw [this]; exact up2_eq
    · unfold insW
      rw [List.length_append, List.length_cons, lt, List.length_drop]; omega
    · intro t w hw
      refine cellW.ch ?_ C8 (fun j h1 h2 z => by omega)
      unfold insW at hw
      by_cases c1 : t < plW k W
      · rw [List.getElem?_append_left (by omega), List.getElem?_take_of_lt c1] at hw
        exact (wl t w c1 hw).ch CN (fun j h1 h2 z => by omega)
      · rw [List.getElem?_append_right (by omega), lt] at hw
        by_cases c2 : t = plW k W
        · subst c2
          rw [Nat.sub_self] at hw
          cases hw
          exact cN
        · obtain ⟨u, hu⟩ : ∃ u, t - plW k W = u + 1 := ⟨t - plW k W - 1, by omega⟩
          rw [hu, List.getElem?_cons_succ, List.getElem?_drop] at hw
          have := (wr (plW k W + u) w (by omega) hw).ch CN (fun j h1 h2 z => by omega)
          have e9 : 5 * ln + (plW k W + u) + 1 = 5 * ln + t := by omega
          rw [e9] at this; exact this
  -- the others make room
  have shift : ∀ (m : Nat) (h2 : ac_H) (F2 : Nat → Nat → Int32), plW k W + m ≤ W.length → frP h h2 mod9 → MD h2 F2 V → ch (Dbo ln) F F2 → F2 8 ln = nI W.length → (∀ (t : Nat) (w : sp_W), t < plW k W + m → W[t]? = some w → cellW F2 (5 * ln + t) w) → (∀ (t : Nat) (w : sp_W), plW k W + m ≤ t → W[t]? = some w → cellW F2 (5 * ln + t + 1) w) → ac_G (l, d, m_Mo_begin, 0, 0, Φ, h.length, none) 111 [(5, .int (nI (plW k W + m))), (4, .int (nI (plW k W))), (3, .int (gI (sideW x W))), (0, .ref 57), (1, .int (nI ln)), (2, .int (nI k))] [] h2 0 0 := by
    intro m
    induction m with
    | zero =>
      intro h2 F2 hm Fr2 M2 C2 w02 wl wr
      have g1 : F2 17 k = nI x.1 := (C2 17 k (by unfold Dbo; omega)).trans f1
      have g2 : F2 18 k = nI x.2 := (C2 18 k (by unfold Dbo; omega)).trans f2
      refine r_iload d_Mo_begin_111 rfl ?_
      refine r_iload d_Mo_begin_113 rfl ?_
      refine r_icmp_le 142 d_Mo_begin_115 (by decide) (fun c1 => ?_) (fun c1 => absurd (nI_le (by omega) (by omega)) c1)
      refine r_iconst 5 d_Mo_begin_142 (by decide) ?_
      refine r_iload_n d_Mo_begin_143 rfl ?_
      refine r_ri2 (show (5 : Int32) = nI 5 by decide) ?_
      refine r_imul d_Mo_begin_144 ?_
      refine r_ri (pk_mul _ _) ?_
      refine r_iload d_Mo_begin_145 rfl ?_
      refine r_iadd d_Mo_begin_147 ?_
      refine r_ri (nI_add _ _) ?_
      refine r_istore d_Mo_begin_148 (Nat.le_of_ble_eq_true rfl) ?_
      refine r_aload_n d_Mo_begin_150 rfl ?_
      refine r_getfield d_Mo_begin_151 f_Mo_37 M2.1 rfl ?_
      refine r_iload d_Mo_begin_154 rfl ?_
      refine r_aload_n d_Mo_begin_156 rfl ?_
      refine r_pc 157 rfl ?_
      refine r_getfield d_Mo_begin_157 f_Mo_61 M2.1 rfl ?_
      refine r_iload_n d_Mo_begin_160 rfl ?_
      refine r_ialoadN d_Mo_begin_161 (md_blobFirst M2) (show k < 5 by omega) (by omega) ?_
      refine r_ri g1 ?_
      refine r_mst 9 d_Mo_begin_162 (by omega) (show 5 * ln + (plW k W) < 10 by omega) M2 (fun h162_ fr162 M162 => ?_)
      refine r_aload_n d_Mo_begin_163 rfl ?_
      refine r_getfield d_Mo_begin_164 f_Mo_40 M162.1 rfl ?_
      refine r_iload d_Mo_begin_167 rfl ?_
      refine r_aload_n d_Mo_begin_169 rfl ?_
      refine r_getfield d_Mo_begin_170 f_Mo_64 M162.1 rfl ?_
      refine r_iload_n d_Mo_begin_173 rfl ?_
      refine r_ialoadN d_Mo_begin_174 (md_blobLast M162) (show k < 5 by omega) (by omega) ?_
      refine r_ri ((up2_ne (by omega)).trans g2) ?_
      refine r_mst 10 d_Mo_begin_175 (by omega) (show 5*ln+plW k W < 10 by omega) M162 (fun h175_ fr175 M175 => ?_)
      refine r_aload_n d_Mo_begin_176 rfl ?_
      refine r_getfield d_Mo_begin_177 f_Mo_43 M175.1 rfl ?_
      refine r_iload d_Mo_begin_180 rfl ?_
      refine r_iload_n d_Mo_begin_182 rfl ?_
      have go : ∀ sd : Nat, sd ≤ 1 → (sideW x W).getD (if x.1 + x.2 < 9 then 0 else 1) = sd → ac_G (l, d, m_Mo_begin, 0, 0, Φ, h.length, none) 213 [(5, .int (nI (5 * ln + plW k W))), (4, .int (nI (plW k W))), (3, .int (gI (sideW x W))), (0, .ref 57), (1, .int (nI ln)), (2, .int (nI k))] [.int (nI sd), .int (nI (5 * ln + plW k W)), .ref 69] h175_ 0 0 := fun sd s1 s2 => fin sd h175_ _ s1 s2 (frP_tr (frP_tr Fr2 fr162) fr175) F2 C2 w02 (fun t w ht hw => wl t w (by omega) hw) (fun t w ht hw => wr t w (by omega) hw) rfl M175
      cases hsw : sideW x W with
      | none =>
        rw [hsw] at go
        refine r_if_lt 190 d_Mo_begin_183 (by decide) (fun c2 => ?_) (fun c2 => absurd (by decide) c2)
        have g1' : up2 (up2 F2 9 (5 * ln + plW k W) (nI x.1)) 10 (5 * ln + plW k W) (nI x.2) 17 k = nI x.1 := (up2_ne (by omega)).trans ((up2_ne (by omega)).trans g1)
        have g2' : up2 (up2 F2 9 (5 * ln + plW k W) (nI x.1)) 10 (5 * ln + plW k W) (nI x.2) 18 k = nI x.2 := (up2_ne (by omega)).trans ((up2_ne (by omega)).trans g2)
        refine r_aload_n d_Mo_begin_190 rfl ?_
        refine r_getfield d_Mo_begin_191 f_Mo_61 M175.1 rfl ?_
        refine r_iload_n d_Mo_begin_194 rfl ?_
        refine r_ialoadN d_Mo_begin_195 (md_blobFirst M175) (show k < 5 by omega) (by omega) ?_
        refine r_ri g1' ?_
        refine r_aload_n d_Mo_begin_196 rfl ?_
        refine r_getfield d_Mo_begin_197 f_Mo_64 M175.1 rfl ?_
        refine r_iload_n d_Mo_begin_200 rfl ?_
        refine r_ialoadN d_Mo_begin_201 (md_blobLast M175) (show k < 5 by omega) (by omega) ?_
        refine r_ri g2' ?_
        refine r_iadd d_Mo_begin_202 ?_
        refine r_ri (nI_add _ _) ?_
        refine r_bipush 9 d_Mo_begin_203 (by decide) ?_
        refine r_ri (show (9 : Int32) = nI 9 by decide) ?_
        refine r_icmp_ge 212 d_Mo_begin_205 (by decide) (fun c3 => ?_) (fun c3 => ?_)
        · have := (nI_leI (by omega) (by omega)).mp c3
          refine r_iconst 1 d_Mo_begin_212 (by decide) ?_
          refine r_ri nI1 ?_
          exact r_loc _ (fun q hq => by simp at hq; rcases hq with q | q | q | q | q | q <;> subst q <;> rfl) (go 1 (by omega) (if_neg (by omega)))
        · have : x.1 + x.2 < 9 := lt_of_nle (by omega) c3 (by omega)
          refine r_iconst 0 d_Mo_begin_208 (by decide) ?_
          refine r_ri nI_0.symm ?_
          refine r_goto 213 d_Mo_begin_209 (by decide) ?_
          exact r_loc _ (fun q hq => by simp at hq; rcases hq with q | q | q | q | q | q <;> subst q <;> rfl) (go 0 (by omega) (if_pos this))
      | some s =>
        have s1 := hsd s hsw
        rw [hsw] at go
        refine r_if_lt 190 d_Mo_begin_183 (by decide) (fun c2 => absurd c2 (nI_pos (by omega))) (fun c2 => ?_)
        refine r_iload_n d_Mo_begin_186 rfl ?_
        refine r_goto 213 d_Mo_begin_187 (by decide) ?_
        exact r_loc _ (fun q hq => by simp at hq; rcases hq with q | q | q | q | q | q <;> subst q <;> rfl) (go s s1 rfl)
    | succ m ih =>
      intro h2 F2 hm Fr2 M2 C2 w02 wl wr
      refine r_iload d_Mo_begin_111 rfl ?_
      refine r_iload d_Mo_begin_113 rfl ?_
      refine r_icmp_le 142 d_Mo_begin_115 (by decide) (fun c1 => absurd ((nI_leI (by omega) (by omega)).mp c1) (by omega)) (fun c1 => ?_)
      refine r_aload_n d_Mo_begin_118 rfl ?_
      refine r_iconst 5 d_Mo_begin_119 (by decide) ?_
      refine r_iload_n d_Mo_begin_120 rfl ?_
      refine r_ri2 (show (5 : Int32) = nI 5 by decide) ?_
      refine r_imul d_Mo_begin_121 ?_
      refine r_ri (pk_mul _ _) ?_
      refine r_iload d_Mo_begin_122 rfl ?_
      refine r_iadd d_Mo_begin_124 ?_
      refine r_ri (nI_add _ _) ?_
      refine r_iconst 5 d_Mo_begin_125 (by decide) ?_
      refine r_iload_n d_Mo_begin_126 rfl ?_
      refine r_ri2 (show (5 : Int32) = nI 5 by decide) ?_
      refine r_imul d_Mo_begin_127 ?_
      refine r_ri (pk_mul _ _) ?_
      refine r_iload d_Mo_begin_128 rfl ?_
      refine r_pc 130 rfl ?_
      refine r_iadd d_Mo_begin_130 ?_
      refine r_ri (nI_add _ _) ?_
      refine r_iconst 1 d_Mo_begin_131 (by decide) ?_
      refine r_isub d_Mo_begin_132 ?_
      refine r_ri (y := nI ((5*ln+(plW k W+m)))) (nI_pred _) ?_
      refine r_cVv [.int (nI (5 * ln + (plW k W + m + 1))), .int (nI (5 * ln + (plW k W + m)))] 57 (d - 1) 0 0 (fun h' => frP h2 h' mod9 ∧ MD h' (cpy9 F2 (5 * ln + (plW k W + m + 1)) (5 * ln + (plW k W + m))) V) d_Mo_begin_133 q_Mo_107 M2.1 rfl rfl (c_Mo_copy htr (by omega) (by omega) M2 (fun h' f' G1 => ⟨rfl, f', G1⟩)) (by show d - 1 + 1 ≤ d; omega) (Nat.le_refl _) (Nat.le_refl _) (Nat.le_of_ble_eq_true rfl) (fun h3 e3 => ?_)
      obtain ⟨Fr3, M3⟩ := e3
      have C3 := ch_cpy (F := F2) (t := 5 * ln + (plW k W + m + 1)) (p := 5 * ln + (plW k W + m))
      refine r_iincM d_Mo_begin_136 rfl (Nat.le_of_ble_eq_true rfl) ?_
      refine r_goto 111 d_Mo_begin_139 (by decide) ?_
      refine r_loc _ (fun q hq => by simp at hq; rcases hq with q | q | q | q | q | q <;> subst q <;> first | rfl | exact congrArg (fun v => some (Value.int v)) (nI_pred _)) (ih h3 _ (by omega) (frP_tr Fr2 Fr3) M3 (ch_tr C2 (ch_mo C3 (fun j i z => by unfold Dbo; omega))) ((C3 8 ln (by omega)).trans w02) (fun t w ht hw => (wl t w (by omega) hw).ch C3 (fun j h1 h2 z => by omega)) (fun t w ht hw => ?_))
      by_cases e : t = plW k W + m
      · subst e
        exact (wl _ w (by omega) hw).cpy
      · exact (wr t w (by omega) hw).ch C3 (fun j h1 h2 z => by omega)
  -- the search
  have look : ∀ (m : Nat), m ≤ W.length → ac_G (l, d, m_Mo_begin, 0, 0, Φ, h.length, none) 20 [(5, .int (nI m - 1)), (4, .int (nI (m + plW k (W.drop m)))), (3, .int (gI (sideW x (W.drop m)))), (0, .ref 57), (1, .int (nI ln)), (2, .int (nI k))] [] h 0 0 := by
    intro m
    induction m with
    | zero =>
      intro _
      rw [List.drop_zero, Nat.zero_add]
      refine r_iload d_Mo_begin_20 rfl ?_
      refine r_if_lt 103 d_Mo_begin_22 (by decide) (fun c1 => ?_) (fun c1 => absurd (by decide) c1)
      refine r_aload_n d_Mo_begin_103 rfl ?_
      refine r_getfield d_Mo_begin_104 f_Mo_34 M.1 rfl ?_
      refine r_iload_n d_Mo_begin_107 rfl ?_
      refine r_ialoadN d_Mo_begin_108 (md_bodies M) (show ln < 2 by omega) (by omega) ?_
      refine r_ri w0 ?_
      refine r_istore d_Mo_begin_109 (Nat.le_of_ble_eq_true rfl) ?_
      obtain ⟨mm, hmm⟩ : ∃ mm, W.length = plW k W + mm := ⟨W.length - plW k W, by omega⟩
      have := shift mm h F (by omega) frP_rf M ch_rf w0 (fun t w _ hw => wc t w hw) (fun t w ht hw => absurd (List.getElem?_eq_some_iff.mp hw).1 (by omega))
      rw [← hmm] at this
      exact r_loc _ (fun q hq => by simp at hq; rcases hq with q | q | q | q | q | q <;> subst q <;> rfl) this
    | succ m ih =>
      intro hm
      rw [nI_pred]
      have hwm := List.getElem?_eq_getElem (show m < W.length by omega)
      have hdr : W.drop m = W[m] :: W.drop (m + 1) := List.drop_eq_getElem_cons (by omega)
      generalize W[m] = w at hwm hdr
      obtain ⟨ok1, ok2, ok3⟩ := hok w (List.mem_of_getElem? hwm)
      obtain ⟨⟨c1, c2, c3, c4, c5⟩, c6, c7, c8⟩ := wc m w hwm
      have os3 := ok1.2.2.1
      rw [hdr] at ih
      refine r_iload d_Mo_begin_20 rfl ?_
      refine r_if_lt 103 d_Mo_begin_22 (by decide) (fun z => absurd z (nI_pos (by omega))) (fun _ => ?_)
      refine r_iconst 5 d_Mo_begin_25 (by decide) ?_
      refine r_iload_n d_Mo_begin_26 rfl ?_
      refine r_ri2 (show (5 : Int32) = nI 5 by decide) ?_
      refine r_imul d_Mo_begin_27 ?_
      refine r_ri (pk_mul _ _) ?_
      refine r_iload d_Mo_begin_28 rfl ?_
      refine r_iadd d_Mo_begin_30 ?_
      refine r_ri (nI_add _ _) ?_
      refine r_istore d_Mo_begin_31 (Nat.le_of_ble_eq_true rfl) ?_
      -- the place
      have place : ∀ o : Option Nat, o = sideW x (w :: W.drop (m + 1)) → ac_G (l, d, m_Mo_begin, 0, 0, Φ, h.length, none) 76 [(6, .int (nI (5 * ln + m))), (5, .int (nI m)), (4, .int (nI (m + 1 + plW k (W.drop (m + 1))))), (3, .int (gI (sideW x (W.drop (m + 1))))), (0, .ref 57), (1, .int (nI ln)), (2, .int (nI k))] [.int (gI o)] h 0 0 := by
        intro o ho
        subst ho
        refine r_istore_n d_Mo_begin_76 (Nat.le_of_ble_eq_true rfl) ?_
        refine r_aload_n d_Mo_begin_77 rfl ?_
        refine r_getfield d_Mo_begin_78 f_Mo_52 M.1 rfl ?_
        refine r_iload d_Mo_begin_81 rfl ?_
        refine r_ialoadN d_Mo_begin_83 (md_blobOf M) (show 5*ln+m < 10 by omega) (by omega) ?_
        refine r_ri c6 ?_
        refine r_iload_n d_Mo_begin_84 rfl ?_
        refine r_icmp_le 93 d_Mo_begin_85 (by decide) (fun z => ?_) (fun z => ?_)
        · have hz := (nI_leI (by omega) (by omega)).mp z
          refine r_iload d_Mo_begin_93 rfl ?_
          refine r_istore d_Mo_begin_95 (Nat.le_of_ble_eq_true rfl) ?_
          refine r_iincM d_Mo_begin_97 rfl (Nat.le_of_ble_eq_true rfl) ?_
          refine r_goto 20 d_Mo_begin_100 (by decide) ?_
          have ep : m + plW k (w :: W.drop (m + 1)) = m + 1 + plW k (W.drop (m + 1)) := by rw [plW, if_neg (by omega)]; omega
          have := ih (by omega)
          rw [ep] at this
          exact r_loc _ (fun q hq => by simp at hq; rcases hq with q | q | q | q | q | q <;> subst q <;> rfl) this
        · have hz : k < w.2.1 := lt_of_nle2 (by omega) z (by omega)
          refine r_iload d_Mo_begin_88 rfl ?_
          refine r_goto 95 d_Mo_begin_90 (by decide) ?_
          refine r_istore d_Mo_begin_95 (Nat.le_of_ble_eq_true rfl) ?_
          refine r_iincM d_Mo_begin_97 rfl (Nat.le_of_ble_eq_true rfl) ?_
          refine r_goto 20 d_Mo_begin_100 (by decide) ?_
          have ep : m + plW k (w :: W.drop (m + 1)) = m := by rw [plW, if_pos hz]; omega
          have := ih (by omega)
          rw [ep] at this
          exact r_loc _ (fun q hq => by simp at hq; rcases hq with q | q | q | q | q | q <;> subst q <;> rfl) this
      have skip : mtW w x = false → ac_G (l, d, m_Mo_begin, 0, 0, Φ, h.length, none) 75 [(6, .int (nI (5 * ln + m))), (5, .int (nI m)), (4, .int (nI (m + 1 + plW k (W.drop (m + 1))))), (3, .int (gI (sideW x (W.drop (m + 1))))), (0, .ref 57), (1, .int (nI ln)), (2, .int (nI k))] [] h 0 0 := by
        intro hz
        refine r_iload_n d_Mo_begin_75 rfl ?_
        exact place _ (by rw [sideW, if_neg (by rw [hz]; simp)])
      refine r_loc [(6, .int (nI (5 * ln + m))), (5, .int (nI m)), (4, .int (nI (m + 1 + plW k (W.drop (m + 1))))), (3, .int (gI (sideW x (W.drop (m + 1))))), (0, .ref 57), (1, .int (nI ln)), (2, .int (nI k))] (fun q hq => by simp at hq; rcases hq with q | q | q | q | q | q | q <;> subst q <;> rfl) ?_
      cases ho : w.2.2 with
      | none =>
        rw [ho] at c7
        refine r_aload_n d_Mo_begin_33 rfl ?_
        refine r_getfield d_Mo_begin_34 f_Mo_55 M.1 rfl ?_
        refine r_iload d_Mo_begin_37 rfl ?_
        refine r_ialoadN d_Mo_begin_39 (md_oldFirst M) (show 5*ln+m < 10 by omega) (by omega) ?_
        refine r_ri c7 ?_
        refine r_if_lt 75 d_Mo_begin_40 (by decide) (fun _ => skip (by unfold mtW; rw [ho])) (fun z => absurd (by decide) z)
      | some o =>
        rw [ho] at c7 c8
        obtain ⟨q1, q2⟩ := ok3 o ho
        refine r_aload_n d_Mo_begin_33 rfl ?_
        refine r_getfield d_Mo_begin_34 f_Mo_55 M.1 rfl ?_
        refine r_iload d_Mo_begin_37 rfl ?_
        refine r_ialoadN d_Mo_begin_39 (md_oldFirst M) (show 5*ln+m < 10 by omega) (by omega) ?_
        refine r_ri c7 ?_
        refine r_if_lt 75 d_Mo_begin_40 (by decide) (fun z => absurd z (nI_pos (by omega))) (fun _ => ?_)
        refine r_aload_n d_Mo_begin_43 rfl ?_
        refine r_aload_n d_Mo_begin_44 rfl ?_
        refine r_getfield d_Mo_begin_45 f_Mo_55 M.1 rfl ?_
        refine r_iload d_Mo_begin_48 rfl ?_
        refine r_ialoadN d_Mo_begin_50 (md_oldFirst M) (show 5*ln+m < 10 by omega) (by omega) ?_
        refine r_ri c7 ?_
        refine r_aload_n d_Mo_begin_51 rfl ?_
        refine r_getfield d_Mo_begin_52 f_Mo_58 M.1 rfl ?_
        refine r_iload d_Mo_begin_55 rfl ?_
        refine r_ialoadN d_Mo_begin_57 (md_oldLast M) (show 5*ln+m < 10 by omega) (by omega) ?_
        refine r_ri c8 ?_
        refine r_iload_n d_Mo_begin_58 rfl ?_
        refine r_cVi [.int (nI o.1), .int (nI o.2), .int (nI k)] 57 (d - 1) 0 0 (b01 (o.1 ≤ x.2 + 1 ∧ x.1 ≤ o.2 + 1)) (fun h' => h = h') d_Mo_begin_59 q_Mo_99 M.1 rfl rfl (c_Mo_meets htr M HB hB (by omega) hx (by omega) (by omega) ⟨rfl, rfl⟩) (by show d - 1 + 1 ≤ d; omega) (Nat.le_refl _) (Nat.le_refl _) (Nat.le_of_ble_eq_true rfl) (fun h' e9 => ?_)
        subst e9
        refine r_if_eq 75 d_Mo_begin_62 (by decide) (fun z => skip ?_) (fun z => ?_)
        · have := b01_0.mp z
          unfold mtW; rw [ho]; simp; omega
        · have hm9 : o.1 ≤ x.2 + 1 ∧ x.1 ≤ o.2 + 1 := Classical.byContradiction fun y => z (b01_f y)
          refine r_aload_n d_Mo_begin_65 rfl ?_
          refine r_getfield d_Mo_begin_66 f_Mo_43 M.1 rfl ?_
          refine r_iload d_Mo_begin_69 rfl ?_
          refine r_ialoadN d_Mo_begin_71 (md_side M) (show 5*ln+m < 10 by omega) (by omega) ?_
          refine r_ri c3 ?_
          refine r_goto 76 d_Mo_begin_72 (by decide) ?_
          exact place (some w.1.2.2.1) (by rw [sideW, if_pos (by unfold mtW; rw [ho]; simp; omega)])
  refine r_iconst (-1) d_Mo_begin_0 (by decide) ?_
  refine r_istore_n d_Mo_begin_1 (Nat.le_of_ble_eq_true rfl) ?_
  refine r_aload_n d_Mo_begin_2 rfl ?_
  refine r_getfield d_Mo_begin_3 f_Mo_34 M.1 rfl ?_
  refine r_iload_n d_Mo_begin_6 rfl ?_
  refine r_ialoadN d_Mo_begin_7 (md_bodies M) (show ln < 2 by omega) (by omega) ?_
  refine r_ri w0 ?_
  refine r_istore d_Mo_begin_8 (Nat.le_of_ble_eq_true rfl) ?_
  refine r_aload_n d_Mo_begin_10 rfl ?_
  refine r_getfield d_Mo_begin_11 f_Mo_34 M.1 rfl ?_
  refine r_iload_n d_Mo_begin_14 rfl ?_
  refine r_ialoadN d_Mo_begin_15 (md_bodies M) (show ln < 2 by omega) (by omega) ?_
  refine r_ri w0 ?_
  refine r_iconst 1 d_Mo_begin_16 (by decide) ?_
  refine r_pc 17 rfl ?_
  refine r_isub d_Mo_begin_17 ?_
  refine r_istore d_Mo_begin_18 (Nat.le_of_ble_eq_true rfl) ?_
  have := look W.length (Nat.le_refl _)
  rw [List.drop_length] at this
  exact r_loc _ (fun q hq => by simp at hq; rcases hq with q | q | q | q | q | q <;> subst q <;> rfl) this
