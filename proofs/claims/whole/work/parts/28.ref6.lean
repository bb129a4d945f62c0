/-! THE REFERENCE: a blob is shared -/
def cnW (k : Nat) (W : List sp_W) : Nat := W.countP (fun w => decide (w.2.1 = k))
theorem cnW_a (k : Nat) (a b : List sp_W) : cnW k (a ++ b) = cnW k a + cnW k b := List.countP_append
theorem cnW_c (k : Nat) (w : sp_W) (r : List sp_W) : cnW k (w :: r) = cnW k r + (if w.2.1 = k then 1 else 0) := by
  unfold cnW
  rw [List.countP_cons]
  by_cases c : w.2.1 = k <;> simp [c]
theorem cnW_le (k : Nat) (W : List sp_W) : cnW k W ≤ W.length := List.countP_le_length
def shW (x : Nat × Nat) (c k : Nat) : Nat → List sp_W → List sp_W
  | _, [] => []
  | j, w :: r => if w.2.1 = k then (sp_sh x c j w.1, w.2) :: shW x c k (j + 1) r else w :: shW x c k j r
theorem shW_a (x : Nat × Nat) (c k : Nat) : ∀ (j : Nat) (a : List sp_W) (w : sp_W), shW x c k j (a ++ [w]) = shW x c k j a ++ [if w.2.1 = k then (sp_sh x c (j + cnW k a) w.1, w.2) else w]
  | j, [], w => by
    show shW x c k j [w] = [_]
    rw [shW]
    by_cases e : w.2.1 = k
    · rw [if_pos e, if_pos e]; rfl
    · rw [if_neg e, if_neg e]; rfl
  | j, v :: a, w => by
    rw [List.cons_append, shW, shW, cnW_c]
    by_cases e : v.2.1 = k
    · rw [if_pos e, if_pos e, if_pos e, shW_a x c k (j + 1) a w]
      have : j + 1 + cnW k a = j + (cnW k a + 1) := by omega
      rw [this]; rfl
    · rw [if_neg e, if_neg e, if_neg e, shW_a x c k j a w]; rfl
theorem shW_len (x : Nat × Nat) (c k : Nat) : ∀ (j : Nat) (a : List sp_W), (shW x c k j a).length = a.length
  | _, [] => rfl
  | j, v :: a => by
    rw [shW]
    by_cases e : v.2.1 = k
    · rw [if_pos e, List.length_cons, List.length_cons, shW_len]
    · rw [if_neg e, List.length_cons, List.length_cons, shW_len]
def shareW (W : List sp_W) (k : Nat) (x : Nat × Nat) : List sp_W := if cnW k W = 0 then (if W.length < 4 then insW W k x else W) else shW x (cnW k W) k 0 W
theorem mx_a {f p : Nat} (hf : f < 2 ^ 30) (hp : p < 2 ^ 30) (h : nI f ≤ nI p - 1) : nI p - 1 = nI (max f (p - 1)) := by
  cases p with
  | zero =>
    exfalso
    have e : nI 0 - 1 = -1 := by decide
    rw [e, Int32.le_iff_toInt_le, nI_toInt (by omega)] at h
    have : (-1 : Int32).toInt = -1 := by decide
    omega
  | succ p =>
    rw [nI_pred] at h ⊢
    have := (nI_leI (by omega) (by omega)).mp h
    rw [Nat.max_eq_right (by omega)]; rfl
theorem mx_b {f p : Nat} (hf : f < 2 ^ 30) (hp : p < 2 ^ 30) (h : ¬ nI f ≤ nI p - 1) : nI f = nI (max f (p - 1)) := by
  cases p with
  | zero => rw [Nat.max_eq_left (by omega)]
  | succ p =>
    rw [nI_pred] at h
    have := lt_of_nle (by omega) h (by omega)
    rw [Nat.max_eq_left (by omega)]
theorem c_Mo_share {l : Launch} (htr : l.stackTraces = false) {d : Nat} {h : ac_H} {Φ : ac_R → ac_H → Prop} {ln k : Nat} {W : List sp_W} {B : List (Nat × Nat)} {x : Nat × Nat} {F : Nat → Nat → Int32} {V : Nat → Int32} (hd : 2 ≤ d) (hl : ln < 2) (M : MD h F V) (HW : MW F ln W) (hok : ∀ w ∈ W, okW w) (HB : MBl F V B) (hB : okBl B) (hk : k < 4) (hx : B[k]? = some x)
    (hΦ : ∀ h' F', frP h h' mod9 → MD h' F' V → ch (Dsh ln) F F' → MW F' ln (shareW W k x) → Φ (.inl none) h') : ac_Mt l d m_Mo_share [.ref 57, .int (nI ln), .int (nI k)] h 0 0 Φ := by
  obtain ⟨w0, w4, wc⟩ := id HW
  obtain ⟨x1, x2⟩ := hB x (List.mem_of_getElem? hx)
  obtain ⟨f1, f2⟩ := HB.2 k x hx
  have hcl := cnW_le k W
  refine ac_enter (by decide) rfl htr (fun _ => Nat.le_of_ble_eq_true rfl) ?_
  -- at the end
  have fin : ∀ (h2 : ac_H) (F2 : Nat → Nat → Int32), frP h h2 mod9 → MD h2 F2 V → ch (Dbo ln) F F2 → MW F2 ln (shW x (cnW k W) k 0 W) → (cnW k W = 0 → F2 = F) → ac_G (l, d, m_Mo_share, 0, 0, Φ, h.length, none) 225 [(3, .int (nI (cnW k W))), (0, .ref 57), (1, .int (nI ln)), (2, .int (nI k))] [] h2 0 0 := by
    intro h2 F2 Fr2 M2 C2 HW2 e2
    refine r_iload_n d_Mo_share_225 rfl ?_
    refine r_if_ne 245 d_Mo_share_226 (by decide) (fun c1 => ?_) (fun c1 => ?_)
    · have hc0 : ¬ cnW k W = 0 := fun z => c1 (by rw [z]; exact nI_0)
      refine r_vret d_Mo_share_245 rfl (hΦ h2 F2 Fr2 M2 (ch_mo C2 (fun j i z => Or.inr z)) ?_) (Nat.le_refl _) (Nat.le_refl _)
      unfold shareW; rw [if_neg hc0]; exact HW2
    · have hc0 : cnW k W = 0 := (nI_eq (by omega) (by omega)).mp (c1.trans nI_0.symm)
      have e2 := e2 hc0
      subst e2
      refine r_aload_n d_Mo_share_229 rfl ?_
      refine r_getfield d_Mo_share_230 f_Mo_34 M2.1 rfl ?_
      refine r_iload_n d_Mo_share_233 rfl ?_
      refine r_ialoadN d_Mo_share_234 (md_bodies M2) (show ln < 2 by omega) (by omega) ?_
      refine r_ri w0 ?_
      refine r_iconst 4 d_Mo_share_235 (by decide) ?_
      refine r_ri (show (4 : Int32) = nI 4 by decide) ?_
      refine r_icmp_ge 245 d_Mo_share_236 (by decide) (fun c2 => ?_) (fun c2 => ?_)
      · have h4 := (nI_leI (by omega) (by omega)).mp c2
        refine r_vret d_Mo_share_245 rfl (hΦ h2 F2 Fr2 M2 ch_rf ?_) (Nat.le_refl _) (Nat.le_refl _)
        unfold shareW; rw [if_pos hc0, if_neg (by omega)]; exact HW
      · have h4 : W.length < 4 := lt_of_nle (by omega) c2 (by omega)
        refine r_aload_n d_Mo_share_239 rfl ?_
        refine r_iload_n d_Mo_share_240 rfl ?_
        refine r_iload_n d_Mo_share_241 rfl ?_
        refine r_cVv [.int (nI ln), .int (nI k)] 57 (d - 1) 0 0 (fun h' => ∃ F', frP h2 h' mod9 ∧ MD h' F' V ∧ ch (Dsh ln) F2 F' ∧ MW F' ln (insW W k x)) d_Mo_share_242 q_Mo_110 M2.1 rfl rfl (c_Mo_begin htr (by omega) hl M2 HW hok HB hB hk hx h4 (fun h' F' f' G1 G2 G3 => ⟨rfl, F', f', G1, G2, G3⟩)) (by show d - 1 + 1 ≤ d; omega) (Nat.le_refl _) (Nat.le_refl _) (Nat.le_of_ble_eq_true rfl) (fun h3 e3 => ?_)
        obtain ⟨F3, Fr3, M3, C3, HW3⟩ := e3
        refine r_vret d_Mo_share_245 rfl (hΦ h3 F3 (frP_tr Fr2 Fr3) M3 C3 ?_) (Nat.le_refl _) (Nat.le_refl _)
        unfold shareW; rw [if_pos hc0, if_pos h4]; exact HW3
  -- the shares
  have two : ∀ (rest pre : List sp_W) (h2 : ac_H) (F2 : Nat → Nat → Int32), W = pre ++ rest → frP h h2 mod9 → MD h2 F2 V → ch (Dbo ln) F F2 → (cnW k W = 0 → F2 = F) → (∀ (t : Nat) (w : sp_W), (shW x (cnW k W) k 0 pre)[t]? = some w → cellW F2 (5 * ln + t) w) → (∀ (t : Nat) (w : sp_W), rest[t]? = some w → cellW F2 (5 * ln + (pre.length + t)) w) → ac_G (l, d, m_Mo_share, 0, 0, Φ, h.length, none) 72 [(7, .int (nI pre.length)), (6, .int (nI (cnW k pre))), (5, .int (nI (x.2 - x.1 + 1))), (4, .int (nI x.1)), (3, .int (nI (cnW k W))), (0, .ref 57), (1, .int (nI ln)), (2, .int (nI k))] [] h2 0 0 := by
    intro rest
    induction rest with
    | nil =>
      intro pre h2 F2 e Fr2 M2 C2 e2 cs cr
      rw [List.append_nil] at e
      subst e
      have w02 : F2 8 ln = nI W.length := (C2 8 ln (by unfold Dbo; omega)).trans w0
      refine r_iload d_Mo_share_72 rfl ?_
      refine r_aload_n d_Mo_share_74 rfl ?_
      refine r_getfield d_Mo_share_75 f_Mo_34 M2.1 rfl ?_
      refine r_iload_n d_Mo_share_78 rfl ?_
      refine r_ialoadN d_Mo_share_79 (md_bodies M2) (show ln < 2 by omega) (by omega) ?_
      refine r_ri w02 ?_
      refine r_icmp_ge 225 d_Mo_share_80 (by decide) (fun c1 => ?_) (fun c1 => absurd (nI_le (Nat.le_refl _) (by omega)) c1)
      exact r_loc _ (fun q hq => by simp at hq; rcases hq with q | q | q | q <;> subst q <;> rfl) (fin h2 F2 Fr2 M2 C2 ⟨by rw [shW_len]; exact w02, by rw [shW_len]; exact w4, cs⟩ e2)
    | cons w rest ih =>
      intro pre h2 F2 e Fr2 M2 C2 e2 cs cr
      have hlen : W.length = pre.length + (rest.length + 1) := by rw [e, List.length_append, List.length_cons]
      have w02 : F2 8 ln = nI W.length := (C2 8 ln (by unfold Dbo; omega)).trans w0
      have cw := cr 0 w rfl
      rw [Nat.add_zero] at cw
      obtain ⟨⟨b1, b2, b3, b4, b5⟩, b6, b7, b8⟩ := id cw
      obtain ⟨ok1, ok2, ok3⟩ := hok w (by rw [e]; simp)
      obtain ⟨o1, o2, o3, o4, o5⟩ := ok1
      have lenp : (pre ++ [w]).length = pre.length + 1 := by rw [List.length_append]; rfl
      have ep : W = (pre ++ [w]) ++ rest := by rw [e]; simp
      have hsl := shW_len x (cnW k W) k 0 pre
      have hcp := cnW_le k pre
      refine r_iload d_Mo_share_72 rfl ?_
      refine r_aload_n d_Mo_share_74 rfl ?_
      refine r_getfield d_Mo_share_75 f_Mo_34 M2.1 rfl ?_
      refine r_iload_n d_Mo_share_78 rfl ?_
      refine r_ialoadN d_Mo_share_79 (md_bodies M2) (show ln < 2 by omega) (by omega) ?_
      refine r_ri w02 ?_
      refine r_icmp_ge 225 d_Mo_share_80 (by decide) (fun c1 => absurd ((nI_leI (by omega) (by omega)).mp c1) (by omega)) (fun c1 => ?_)
      refine r_iconst 5 d_Mo_share_83 (by decide) ?_
      refine r_iload_n d_Mo_share_84 rfl ?_
      refine r_ri2 (show (5 : Int32) = nI 5 by decide) ?_
      refine r_imul d_Mo_share_85 ?_
      refine r_ri (pk_mul _ _) ?_
      refine r_iload d_Mo_share_86 rfl ?_
      refine r_iadd d_Mo_share_88 ?_
      refine r_ri (nI_add _ _) ?_
      refine r_istore d_Mo_share_89 (Nat.le_of_ble_eq_true rfl) ?_
      refine r_aload_n d_Mo_share_91 rfl ?_
      refine r_getfield d_Mo_share_92 f_Mo_52 M2.1 rfl ?_
      refine r_iload d_Mo_share_95 rfl ?_
      refine r_ialoadN d_Mo_share_97 (md_blobOf M2) (show 5 * ln + pre.length < 10 by omega) (by omega) ?_
      refine r_ri b6 ?_
      refine r_pc 98 rfl ?_
      refine r_iload_n d_Mo_share_98 rfl ?_
      refine r_icmp_ne 219 d_Mo_share_99 (by decide) (fun c2 => ?_) (fun c2 => ?_)
      · have hne : ¬ w.2.1 = k := fun z => c2 (by rw [z])
        refine r_iincP d_Mo_share_219 rfl (Nat.le_of_ble_eq_true rfl) ?_
        refine r_goto 72 d_Mo_share_222 (by decide) ?_
        rw [nI_1]
        have := ih (pre ++ [w]) h2 F2 ep Fr2 M2 C2 e2 (fun t v hv => by
          rw [shW_a, if_neg hne] at hv
          by_cases ht : t < pre.length
          · rw [List.getElem?_append_left (by omega)] at hv
            exact cs t v hv
          · rw [List.getElem?_append_right (by omega)] at hv
            have h1 : t - (shW x (cnW k W) k 0 pre).length < 1 := (List.getElem?_eq_some_iff.mp hv).1
            have e9 : t = pre.length := by omega
            subst e9
            rw [hsl, Nat.sub_self] at hv
            cases hv
            exact cw) (fun t v hv => by
          have := cr (t + 1) v (by rw [List.getElem?_cons_succ]; exact hv)
          have e9 : pre.length + (t + 1) = pre.length + 1 + t := by omega
          rw [lenp, ← e9]; exact this)
        have ec : cnW k (pre ++ [w]) = cnW k pre := by rw [cnW_a, cnW_c, if_neg hne]; rfl
        rw [lenp, ec] at this
        exact r_loc _ (fun q hq => by simp at hq; rcases hq with q | q | q | q | q | q | q | q <;> subst q <;> rfl) this
      · have hwk : w.2.1 = k := (nI_eq (by omega) (by omega)).mp c2
        have ec : cnW k (pre ++ [w]) = cnW k pre + 1 := by rw [cnW_a, cnW_c, if_pos hwk]; rfl
        have hcW : cnW k W = cnW k pre + 1 + cnW k rest := by rw [ep, cnW_a, ec]
        have hcr := cnW_le k rest
        generalize hj : cnW k pre = j at *
        generalize hc : cnW k W = c at *
        have j4 : j < c := by omega
        have c4 : c ≤ 4 := by omega
        have m1 : j * (x.2 - x.1 + 1) ≤ 4 * 10 := Nat.mul_le_mul (by omega) (by omega)
        have m2 : (j + 1) * (x.2 - x.1 + 1) ≤ 4 * 10 := Nat.mul_le_mul (by omega) (by omega)
        obtain ⟨s1, s2⟩ := sh_in (x := x) x1 j4
        have d1 : j * (x.2 - x.1 + 1) / c ≤ 40 := Nat.le_trans (Nat.div_le_self _ _) (by omega)
        have d2 : (j + 1) * (x.2 - x.1 + 1) / c ≤ 40 := Nat.le_trans (Nat.div_le_self _ _) (by omega)
        refine r_aload_n d_Mo_share_102 rfl ?_
        refine r_getfield d_Mo_share_103 f_Mo_37 M2.1 rfl ?_
        refine r_iload d_Mo_share_106 rfl ?_
        refine r_iload d_Mo_share_108 rfl ?_
        refine r_iload d_Mo_share_110 rfl ?_
        refine r_iload d_Mo_share_112 rfl ?_
        refine r_imul d_Mo_share_114 ?_
        refine r_ri (pk_mul _ _) ?_
        refine r_iload_n d_Mo_share_115 rfl ?_
        refine r_idiv d_Mo_share_116 (nI_ne0 (by omega) (by omega)) ?_
        refine r_ri (pk_div (by omega) (by omega) (by omega)) ?_
        refine r_iadd d_Mo_share_117 ?_
        refine r_ri (nI_add _ _) ?_
        refine r_pc 118 rfl ?_
        refine r_mst 9 d_Mo_share_118 (by omega) (show 5*ln+pre.length < 10 by omega) M2 (fun h118_ fr118 M118 => ?_)
        refine r_iload d_Mo_share_119 rfl ?_
        refine r_iload d_Mo_share_121 rfl ?_
        refine r_iconst 1 d_Mo_share_123 (by decide) ?_
        refine r_ri (show (1 : Int32) = nI 1 by decide) ?_
        refine r_iadd d_Mo_share_124 ?_
        refine r_ri (nI_add _ _) ?_
        refine r_iload d_Mo_share_125 rfl ?_
        refine r_imul d_Mo_share_127 ?_
        refine r_ri (pk_mul _ _) ?_
        refine r_iload_n d_Mo_share_128 rfl ?_
        refine r_idiv d_Mo_share_129 (nI_ne0 (by omega) (by omega)) ?_
        refine r_ri (pk_div (by omega) (by omega) (by omega)) ?_
        refine r_iadd d_Mo_share_130 ?_
        refine r_ri (nI_add _ _) ?_
        generalize hf : x.1 + j * (x.2 - x.1 + 1) / c = f at *
        generalize hp : x.1 + (j + 1) * (x.2 - x.1 + 1) / c = p at *
        have esh : sp_sh x c j w.1 = (f, max f (p - 1), w.1.2.2.1, w.1.2.2.2.1, max w.1.2.2.2.2 (max f (p - 1) - f + 1)) := by unfold sp_sh; rw [hf, hp]
        have mx9 : max f (p - 1) ≤ 9 := Nat.max_le.mpr ⟨by omega, by omega⟩
        have mxf : f ≤ max f (p - 1) := Nat.le_max_left _ _
        generalize hm : max f (p - 1) = mx at *
        refine r_iconst 1 d_Mo_share_131 (by decide) ?_
        refine r_isub d_Mo_share_132 ?_
        refine r_istore d_Mo_share_133 (Nat.le_of_ble_eq_true rfl) ?_
        refine r_aload_n d_Mo_share_135 rfl ?_
        refine r_getfield d_Mo_share_136 f_Mo_40 M118.1 rfl ?_
        refine r_iload d_Mo_share_139 rfl ?_
        refine r_iload d_Mo_share_141 rfl ?_
        have q9 : up2 F2 9 (5 * ln + pre.length) (nI f) 9 (5 * ln + pre.length) = nI f := up2_eq
        refine r_aload_n d_Mo_share_143 rfl ?_
        refine r_getfield d_Mo_share_144 f_Mo_37 M118.1 rfl ?_
        refine r_iload d_Mo_share_147 rfl ?_
        refine r_ialoadN d_Mo_share_149 (md_first M118) (show 5*ln+pre.length < 10 by omega) (by omega) ?_
        refine r_ri q9 ?_
        -- its last beam is known
        have nxt : ac_G (l, d, m_Mo_share, 0, 0, Φ, h.length, none) 165 [(8, .int (nI (5 * ln + pre.length))), (7, .int (nI pre.length)), (6, .int (nI j)), (5, .int (nI (x.2 - x.1 + 1))), (4, .int (nI x.1)), (3, .int (nI c)), (0, .ref 57), (1, .int (nI ln)), (2, .int (nI k))] [.int (nI mx), .int (nI (5 * ln + pre.length)), .ref 68] h118_ 0 0 := by
          refine r_mst 10 d_Mo_share_165 (by omega) (show 5 * ln + pre.length < 10 by omega) M118 (fun h165_ fr165 M165 => ?_)
          have q10 : up2 (up2 F2 9 (5 * ln + pre.length) (nI f)) 10 (5 * ln + pre.length) (nI mx) 10 (5 * ln + pre.length) = nI mx := up2_eq
          have q9 : up2 (up2 F2 9 (5 * ln + pre.length) (nI f)) 10 (5 * ln + pre.length) (nI mx) 9 (5 * ln + pre.length) = nI f := (up2_ne (by omega)).trans up2_eq
          have q13 : up2 (up2 F2 9 (5 * ln + pre.length) (nI f)) 10 (5 * ln + pre.length) (nI mx) 13 (5 * ln + pre.length) = nI w.1.2.2.2.2 := (up2_ne (by omega)).trans ((up2_ne (by omega)).trans b5)
          refine r_aload_n d_Mo_share_166 rfl ?_
          refine r_getfield d_Mo_share_167 f_Mo_40 M165.1 rfl ?_
          refine r_iload d_Mo_share_170 rfl ?_
          refine r_ialoadN d_Mo_share_172 (md_last M165) (show 5*ln+pre.length < 10 by omega) (by omega) ?_
          refine r_ri q10 ?_
          refine r_aload_n d_Mo_share_173 rfl ?_
          refine r_getfield d_Mo_share_174 f_Mo_37 M165.1 rfl ?_
          refine r_iload d_Mo_share_177 rfl ?_
          refine r_ialoadN d_Mo_share_179 (md_first M165) (show 5*ln+pre.length < 10 by omega) (by omega) ?_
          refine r_ri q9 ?_
          refine r_isub d_Mo_share_180 ?_
          refine r_ri (y := nI ((mx-f))) (pk_sub (by omega)) ?_
          refine r_iconst 1 d_Mo_share_181 (by decide) ?_
          refine r_pc 182 rfl ?_
          refine r_ri (show (1 : Int32) = nI 1 by decide) ?_
          refine r_iadd d_Mo_share_182 ?_
          refine r_ri (nI_add _ _) ?_
          refine r_istore d_Mo_share_183 (Nat.le_of_ble_eq_true rfl) ?_
          refine r_aload_n d_Mo_share_185 rfl ?_
          refine r_getfield d_Mo_share_186 f_Mo_49 M165.1 rfl ?_
          refine r_iload d_Mo_share_189 rfl ?_
          refine r_iload d_Mo_share_191 rfl ?_
          refine r_aload_n d_Mo_share_193 rfl ?_
          refine r_getfield d_Mo_share_194 f_Mo_49 M165.1 rfl ?_
          refine r_iload d_Mo_share_197 rfl ?_
          refine r_ialoadN d_Mo_share_199 (md_length M165) (show 5*ln+pre.length < 10 by omega) (by omega) ?_
          refine r_ri q13 ?_
          have nxt2 : ∀ v : Nat, v = max w.1.2.2.2.2 (mx - f + 1) → ac_G (l, d, m_Mo_share, 0, 0, Φ, h.length, none) 215 [(8, .int (nI (5 * ln + pre.length))), (7, .int (nI pre.length)), (6, .int (nI j)), (5, .int (nI (x.2 - x.1 + 1))), (4, .int (nI x.1)), (3, .int (nI c)), (0, .ref 57), (1, .int (nI ln)), (2, .int (nI k))] [.int (nI v), .int (nI (5 * ln + pre.length)), .ref 71] h165_ 0 0 := by
            intro v hv
            refine r_mst 13 d_Mo_share_215 (by omega) (show 5 * ln + pre.length < 10 by omega) M165 (fun h215_ fr215 M215 => ?_)
            have cN : cellW (up2 (up2 (up2 F2 9 (5 * ln + pre.length) (nI f)) 10 (5 * ln + pre.length) (nI mx)) 13 (5 * ln + pre.length) (nI v)) (5 * ln + pre.length) (sp_sh x c j w.1, w.2) := by
              rw [esh]
              refine ⟨⟨?_, ?_, ?_, ?_, ?_⟩, ?_, ?_, ?_⟩
              · simp [up2]
              · simp [up2]
              · simp [up2, b3]
              · simp [up2, b4]
              · simp [up2, hv]
              · simp [up2, b6]
              · simp [up2, b7]
              · simp [up2, b8]
            have CN : ch (fun j i => 9 ≤ j ∧ j ≤ 16 ∧ i = 5 * ln + pre.length) F2 (up2 (up2 (up2 F2 9 (5 * ln + pre.length) (nI f)) 10 (5 * ln + pre.length) (nI mx)) 13 (5 * ln + pre.length) (nI v)) := ch_tr (ch_tr (ch_up ⟨by omega, by omega, rfl⟩) (ch_up ⟨by omega, by omega, rfl⟩)) (ch_up ⟨by omega, by omega, rfl⟩)
            refine r_iincP d_Mo_share_216 rfl (Nat.le_of_ble_eq_true rfl) ?_
            refine r_iincP d_Mo_share_219 rfl (Nat.le_of_ble_eq_true rfl) ?_
            refine r_goto 72 d_Mo_share_222 (by decide) ?_
            rw [nI_1, nI_1]
            have := ih (pre ++ [w]) h215_ _ ep (frP_tr (frP_tr (frP_tr Fr2 fr118) fr165) fr215) M215 (ch_tr C2 (ch_mo CN (fun j i z => by unfold Dbo; omega))) (fun z => by omega) (fun t u hu => by
              rw [shW_a, if_pos hwk, hj, Nat.zero_add] at hu
              by_cases ht : t < pre.length
              · rw [List.getElem?_append_left (by omega)] at hu
                exact (cs t u hu).ch CN (fun j h1 h2 z => by omega)
              · rw [List.getElem?_append_right (by omega)] at hu
                have h1 : t - (shW x c k 0 pre).length < 1 := (List.getElem?_eq_some_iff.mp hu).1
                have e9 : t = pre.length := by omega
                subst e9
                rw [hsl, Nat.sub_self] at hu
                cases hu
                exact cN) (fun t u hu => by
              have := (cr (t + 1) u (by rw [List.getElem?_cons_succ]; exact hu)).ch CN (fun j h1 h2 z => by omega)
              have e9 : pre.length + (t + 1) = pre.length + 1 + t := by omega
              rw [lenp, ← e9]; exact this)
            rw [lenp, ec] at this
            exact r_loc _ (fun q hq => by simp at hq; rcases hq with q | q | q | q | q | q | q | q <;> subst q <;> rfl) this
          refine r_icmp_le 208 d_Mo_share_200 (by decide) (fun c3 => ?_) (fun c3 => ?_)
          · have := (nI_leI (by omega) (by omega)).mp c3
            refine r_aload_n d_Mo_share_208 rfl ?_
            refine r_getfield d_Mo_share_209 f_Mo_49 M165.1 rfl ?_
            refine r_iload d_Mo_share_212 rfl ?_
            refine r_ialoadN d_Mo_share_214 (md_length M165) (show 5 * ln + pre.length < 10 by omega) (by omega) ?_
            refine r_ri q13 ?_
            exact r_loc _ (fun q hq => by simp at hq; rcases hq with q | q | q | q | q | q | q | q | q <;> subst q <;> rfl) (nxt2 w.1.2.2.2.2 (by rw [Nat.max_eq_left (by omega)]))
          · have : w.1.2.2.2.2 < mx - f + 1 := by
              rcases Nat.lt_or_ge w.1.2.2.2.2 (mx - f + 1) with z | z
              · exact z
              · exact absurd ((nI_leI (by omega) (by omega)).mpr z) c3
            refine r_iload d_Mo_share_203 rfl ?_
            refine r_goto 215 d_Mo_share_205 (by decide) ?_
            exact r_loc _ (fun q hq => by simp at hq; rcases hq with q | q | q | q | q | q | q | q | q <;> subst q <;> rfl) (nxt2 (mx - f + 1) (by rw [Nat.max_eq_right (by omega)]))
        refine r_icmp_ge 163 d_Mo_share_150 (by decide) (fun c3 => ?_) (fun c3 => ?_)
        · refine r_iload d_Mo_share_163 rfl ?_
          refine r_ri ((mx_a (by omega) (by omega) c3).trans (by rw [hm])) ?_
          exact r_loc _ (fun q hq => by simp at hq; rcases hq with q | q | q | q | q | q | q | q | q <;> subst q <;> rfl) nxt
        · refine r_aload_n d_Mo_share_153 rfl ?_
          refine r_getfield d_Mo_share_154 f_Mo_37 M118.1 rfl ?_
          refine r_iload d_Mo_share_157 rfl ?_
          refine r_ialoadN d_Mo_share_159 (md_first M118) (show 5 * ln + pre.length < 10 by omega) (by omega) ?_
          refine r_ri (q9.trans ((mx_b (by omega) (by omega) c3).trans (by rw [hm]))) ?_
          refine r_goto 165 d_Mo_share_160 (by decide) ?_
          exact r_loc _ (fun q hq => by simp at hq; rcases hq with q | q | q | q | q | q | q | q | q <;> subst q <;> rfl) nxt
  -- how many there are
  have one : ∀ (rest pre : List sp_W), W = pre ++ rest → ac_G (l, d, m_Mo_share, 0, 0, Φ, h.length, none) 5 [(4, .int (nI pre.length)), (3, .int (nI (cnW k pre))), (0, .ref 57), (1, .int (nI ln)), (2, .int (nI k))] [] h 0 0 := by
    intro rest
    induction rest with
    | nil =>
      intro pre e
      rw [List.append_nil] at e
      subst e
      refine r_iload d_Mo_share_5 rfl ?_
      refine r_aload_n d_Mo_share_7 rfl ?_
      refine r_getfield d_Mo_share_8 f_Mo_34 M.1 rfl ?_
      refine r_iload_n d_Mo_share_11 rfl ?_
      refine r_ialoadN d_Mo_share_12 (md_bodies M) (show ln < 2 by omega) (by omega) ?_
      refine r_ri w0 ?_
      refine r_icmp_ge 45 d_Mo_share_13 (by decide) (fun c1 => ?_) (fun c1 => absurd (nI_le (Nat.le_refl _) (by omega)) c1)
      refine r_aload_n d_Mo_share_45 rfl ?_
      refine r_getfield d_Mo_share_46 f_Mo_61 M.1 rfl ?_
      refine r_iload_n d_Mo_share_49 rfl ?_
      refine r_ialoadN d_Mo_share_50 (md_blobFirst M) (show k < 5 by omega) (by omega) ?_
      refine r_ri f1 ?_
      refine r_istore d_Mo_share_51 (Nat.le_of_ble_eq_true rfl) ?_
      refine r_aload_n d_Mo_share_53 rfl ?_
      refine r_getfield d_Mo_share_54 f_Mo_64 M.1 rfl ?_
      refine r_iload_n d_Mo_share_57 rfl ?_
      refine r_ialoadN d_Mo_share_58 (md_blobLast M) (show k < 5 by omega) (by omega) ?_
      refine r_ri f2 ?_
      refine r_iload d_Mo_share_59 rfl ?_
      refine r_pc 61 rfl ?_
      refine r_isub d_Mo_share_61 ?_
      refine r_ri (y := nI ((x.2-x.1))) (pk_sub (by omega)) ?_
      refine r_iconst 1 d_Mo_share_62 (by decide) ?_
      refine r_ri (show (1 : Int32) = nI 1 by decide) ?_
      refine r_iadd d_Mo_share_63 ?_
      refine r_ri (nI_add _ _) ?_
      refine r_istore d_Mo_share_64 (Nat.le_of_ble_eq_true rfl) ?_
      refine r_iconst 0 d_Mo_share_66 (by decide) ?_
      refine r_ri (show (0 : Int32) = nI 0 by decide) ?_
      refine r_istore d_Mo_share_67 (Nat.le_of_ble_eq_true rfl) ?_
      refine r_iconst 0 d_Mo_share_69 (by decide) ?_
      refine r_ri (show (0 : Int32) = nI 0 by decide) ?_
      refine r_istore d_Mo_share_70 (Nat.le_of_ble_eq_true rfl) ?_
      exact r_loc _ (fun q hq => by simp at hq; rcases hq with q | q | q | q | q | q | q | q <;> subst q <;> rfl) (two W [] h F rfl frP_rf M ch_rf (fun _ => rfl) (fun t w hw => by cases hw) (fun t w hw => by have := wc t w hw; simpa using this))
    | cons w rest ih =>
      intro pre e
      have hlen : W.length = pre.length + (rest.length + 1) := by rw [e, List.length_append, List.length_cons]
      have hw : W[pre.length]? = some w := by rw [e, List.getElem?_append_right (Nat.le_refl _), Nat.sub_self]; rfl
      obtain ⟨ok1, ok2, ok3⟩ := hok w (List.mem_of_getElem? hw)
      have b6 := (wc _ w hw).2.1
      have lenp : (pre ++ [w]).length = pre.length + 1 := by rw [List.length_append]; rfl
      have := ih (pre ++ [w]) (by rw [e]; simp)
      rw [lenp, cnW_a, cnW_c] at this
      have e0 : cnW k ([] : List sp_W) = 0 := rfl
      rw [e0, Nat.zero_add] at this
      refine r_iload d_Mo_share_5 rfl ?_
      refine r_aload_n d_Mo_share_7 rfl ?_
      refine r_getfield d_Mo_share_8 f_Mo_34 M.1 rfl ?_
      refine r_iload_n d_Mo_share_11 rfl ?_
      refine r_ialoadN d_Mo_share_12 (md_bodies M) (show ln < 2 by omega) (by omega) ?_
      refine r_ri w0 ?_
      refine r_icmp_ge 45 d_Mo_share_13 (by decide) (fun c1 => absurd ((nI_leI (by omega) (by omega)).mp c1) (by omega)) (fun c1 => ?_)
      refine r_aload_n d_Mo_share_16 rfl ?_
      refine r_getfield d_Mo_share_17 f_Mo_52 M.1 rfl ?_
      refine r_iconst 5 d_Mo_share_20 (by decide) ?_
      refine r_iload_n d_Mo_share_21 rfl ?_
      refine r_ri2 (show (5 : Int32) = nI 5 by decide) ?_
      refine r_imul d_Mo_share_22 ?_
      refine r_ri (pk_mul _ _) ?_
      refine r_iload d_Mo_share_23 rfl ?_
      refine r_iadd d_Mo_share_25 ?_
      refine r_ri (nI_add _ _) ?_
      refine r_ialoadN d_Mo_share_26 (md_blobOf M) (show 5 * ln + pre.length < 10 by omega) (by omega) ?_
      refine r_ri b6 ?_
      refine r_iload_n d_Mo_share_27 rfl ?_
      refine r_icmp_ne 37 d_Mo_share_28 (by decide) (fun c2 => ?_) (fun c2 => ?_)
      · rw [if_neg (fun z => c2 (by rw [z]))] at this
        refine r_iload_n d_Mo_share_37 rfl ?_
        refine r_istore_n d_Mo_share_38 (Nat.le_of_ble_eq_true rfl) ?_
        refine r_iincP d_Mo_share_39 rfl (Nat.le_of_ble_eq_true rfl) ?_
        refine r_goto 5 d_Mo_share_42 (by decide) ?_
        rw [nI_1]
        exact r_loc _ (fun q hq => by simp at hq; rcases hq with q | q | q | q | q <;> subst q <;> rfl) this
      · rw [if_pos ((nI_eq (by omega) (by omega)).mp c2)] at this
        refine r_iload_n d_Mo_share_31 rfl ?_
        refine r_iconst 1 d_Mo_share_32 (by decide) ?_
        refine r_iadd d_Mo_share_33 ?_
        refine r_goto 38 d_Mo_share_34 (by decide) ?_
        refine r_istore_n d_Mo_share_38 (Nat.le_of_ble_eq_true rfl) ?_
        refine r_iincP d_Mo_share_39 rfl (Nat.le_of_ble_eq_true rfl) ?_
        refine r_goto 5 d_Mo_share_42 (by decide) ?_
        rw [nI_1, nI_1]
        exact r_loc _ (fun q hq => by simp at hq; rcases hq with q | q | q | q | q <;> subst q <;> rfl) this
  refine r_iconst 0 d_Mo_share_0 (by decide) ?_
  refine r_ri (show (0 : Int32) = nI 0 by decide) ?_
  refine r_istore_n d_Mo_share_1 (Nat.le_of_ble_eq_true rfl) ?_
  refine r_iconst 0 d_Mo_share_2 (by decide) ?_
  refine r_ri (show (0 : Int32) = nI 0 by decide) ?_
  refine r_istore d_Mo_share_3 (Nat.le_of_ble_eq_true rfl) ?_
  exact r_loc _ (fun q hq => by simp at hq; rcases hq with q | q | q | q | q <;> subst q <;> rfl) (one W [] rfl)
