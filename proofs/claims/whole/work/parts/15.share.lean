/-! THE NEW ROW -/
def sel (B : List (Nat × Nat)) (k : Nat) (row : List sp_B) : List sp_B := row.filter (fun b => sp_goal B b == some k)
def sp_sh (x : Nat × Nat) (c j : Nat) (b : sp_B) : sp_B := (x.1 + j * (x.2 - x.1 + 1) / c, max (x.1 + j * (x.2 - x.1 + 1) / c) (x.1 + (j + 1) * (x.2 - x.1 + 1) / c - 1), b.2.2.1, b.2.2.2.1, max b.2.2.2.2 (max (x.1 + j * (x.2 - x.1 + 1) / c) (x.1 + (j + 1) * (x.2 - x.1 + 1) / c - 1) - (x.1 + j * (x.2 - x.1 + 1) / c) + 1))
def sp_shs (x : Nat × Nat) (c : Nat) (S : List sp_B) : List sp_B := S.mapIdx (fun j b => sp_sh x c j b)
def isOut (O : List sp_B) (NR : Nat → sp_B) : Prop := ∀ (i : Nat) (y : sp_B), O[i]? = some y → NR i = y
theorem sh_in {x : Nat × Nat} {c j : Nat} (hx : x.1 ≤ x.2) (hj : j < c) : x.1 + j * (x.2 - x.1 + 1) / c ≤ x.2 ∧ x.1 + (j + 1) * (x.2 - x.1 + 1) / c - 1 ≤ x.2 := by
  have hc : 0 < c := by omega
  have h1 : j * (x.2 - x.1 + 1) / c < x.2 - x.1 + 1 := Nat.div_lt_of_lt_mul (by
    have := (Nat.mul_lt_mul_right (show 0 < x.2 - x.1 + 1 by omega)).mpr hj
    exact this)
  have h2 : (j + 1) * (x.2 - x.1 + 1) / c ≤ x.2 - x.1 + 1 := Nat.div_le_of_le_mul (Nat.mul_le_mul_right _ hj)
  omega
theorem sp_sh_ok {x : Nat × Nat} {c j : Nat} {b : sp_B} (hx : x.1 ≤ x.2) (hx9 : x.2 ≤ 9) (hj : j < c) (ok : okB b) : okB (sp_sh x c j b) := by
  obtain ⟨s1, s2⟩ := sh_in hx hj
  obtain ⟨o1, o2, o3, o4, o5⟩ := ok
  refine ⟨Nat.le_max_left _ _, Nat.max_le.mpr ⟨by omega, by omega⟩, o3, ?_, o5⟩
  show max b.2.2.2.2 (max _ _ - _ + 1) ≤ 10
  have : max (x.1 + j * (x.2 - x.1 + 1) / c) (x.1 + (j + 1) * (x.2 - x.1 + 1) / c - 1) ≤ 9 := Nat.max_le.mpr ⟨by omega, by omega⟩
  exact Nat.max_le.mpr ⟨o4, Nat.succ_le_succ (Nat.le_trans (Nat.sub_le _ _) this)⟩
theorem nI_maxp {f p : Nat} (hf : f < 2 ^ 30) (hp : p < 2 ^ 30) : (if nI f < nI p - 1 then nI p - 1 else nI f) = nI (max f (p - 1)) := by
  cases p with
  | zero =>
    rw [if_neg (by
      have e : nI 0 - 1 = -1 := by decide
      rw [e, Int32.lt_iff_toInt_lt, nI_toInt (by omega)]
      have : (-1 : Int32).toInt = -1 := by decide
      omega)]
    rw [Nat.max_eq_left (by omega)]
  | succ p => rw [nI_pred]; exact nI_max (by omega) (by omega)
theorem isOut_put {O : List sp_B} {NR : Nat → sp_B} {y : sp_B} (h : isOut O NR) : isOut (O ++ [y]) (fun i => if i = O.length then y else NR i) := by
  intro i w hw
  by_cases hi : i < O.length
  · rw [List.getElem?_append_left hi] at hw
    show (if i = O.length then y else NR i) = w
    rw [if_neg (by omega)]; exact h i w hw
  · rw [List.getElem?_append_right (by omega)] at hw
    have h1 : i - O.length < 1 := (List.getElem?_eq_some_iff.mp hw).1
    have e : i = O.length := by omega
    subst e
    rw [Nat.sub_self] at hw
    cases hw
    show (if O.length = O.length then y else NR O.length) = y
    rw [if_pos rfl]
theorem Rws_put {h h' : ac_H} {r j : Nat} {NR : Nat → sp_B} {y : sp_B} (H : Rws h r NR) (hj : j < 4) (F : fr h h' [r + 1 + j]) (hy : h'[r + 1 + j]? = some (bo y)) : Rws h' r (fun i => if i = j then y else NR i) := by
  obtain ⟨⟨gr, g1, g2⟩, g3⟩ := H
  refine ⟨⟨gr, fr_at F (by simp; omega) g1, g2⟩, fun i hi => ?_⟩
  by_cases e : i = j
  · subst e; show _ = some (bo (if i = i then y else NR i)); rw [if_pos rfl]; exact hy
  · show _ = some (bo (if i = j then y else NR i)); rw [if_neg e]; exact fr_at F (by simp; omega) (g3 i hi)
theorem sel_snoc {B : List (Nat × Nat)} {k : Nat} {pre : List sp_B} {y : sp_B} : sel B k (pre ++ [y]) = sel B k pre ++ (if sp_goal B y = some k then [y] else []) := by
  unfold sel
  rw [List.filter_append]
  congr 1
  by_cases hg : sp_goal B y = some k
  · rw [if_pos hg, List.filter_cons_of_pos (by simp [hg])]; rfl
  · rw [if_neg hg, List.filter_cons_of_neg (by simp [hg])]; rfl
theorem sel_app {B : List (Nat × Nat)} {k : Nat} {p q : List sp_B} : sel B k (p ++ q) = sel B k p ++ sel B k q := List.filter_append ..
theorem c_Lane_shareBlob {l : Launch} (htr : l.stackTraces = false) {d : Nat} {h : ac_H} {Φ : ac_R → ac_H → Prop} {b r r' m k : Nat} {row : List sp_B} {RW NR : Nat → sp_B} {B : List (Nat × Nat)} {gl : Nat → Int32} {x : Nat × Nat} {O : List sp_B} (hd : 2 ≤ d) (hb : h[b]? = some (lnO b r r' m row.length)) (HW : Rws h r RW) (hrow : isRow row RW) (HN : Rws h r' NR) (hO : isOut O NR) (HB : Bls h (b + 2) B) (hg : h[b + 14]? = some (.inl (.inl (4, gl)))) (hG : isG (row.map (sp_goal B)) gl) (hx : B[k]? = some x) (hr : (r = b + 15 ∧ r' = b + 20) ∨ (r = b + 20 ∧ r' = b + 15)) (hS : 0 < (sel B k row).length) (hcap : O.length + (sel B k row).length ≤ 4)
    (hΦ : ∀ h' NR', fr h h' [r' + 1, r' + 2, r' + 3, r' + 4] → Rws h' r' NR' → isOut (O ++ sp_shs x (sel B k row).length (sel B k row)) NR' → Φ (.inl (some (.int (nI (O.length + (sel B k row).length))))) h') : ac_Mt l d m_Lane_shareBlob [.ref b, .int (nI k), .int (nI (sel B k row).length), .int (nI O.length)] h 0 0 Φ := by
  obtain ⟨⟨gr, g1, g2⟩, g3⟩ := id HW
  obtain ⟨⟨gn, n1, n2⟩, n3⟩ := id HN
  obtain ⟨r1, r2⟩ := hrow
  obtain ⟨a1, a2, a3, f, g, a4, a5, a6⟩ := id HB
  have hk : k < B.length := (List.getElem?_eq_some_iff.mp hx).1
  obtain ⟨x1, x2⟩ := a3 x (List.mem_of_getElem? hx)
  obtain ⟨e1, e2⟩ := a6 k x hx
  generalize hc : (sel B k row).length = c at hS hcap hΦ ⊢
  refine ac_enter (by decide) rfl htr (fun _ => Nat.le_of_ble_eq_true rfl) ?_
  have key : ∀ (rest pre : List sp_B) (h2 : ac_H) (NR2 : Nat → sp_B), row = pre ++ rest → fr h h2 [r' + 1, r' + 2, r' + 3, r' + 4] → Rws h2 r' NR2 → isOut (O ++ sp_shs x c (sel B k pre)) NR2 → ac_G (l, d, m_Lane_shareBlob, 0, 0, Φ, h.length, none) 36 [(8, .int (nI pre.length)), (7, .int (nI (O.length + (sel B k pre).length))), (6, .int (nI (sel B k pre).length)), (5, .int (nI (x.2 - x.1 + 1))), (4, .int (nI x.1)), (0, .ref b), (1, .int (nI k)), (2, .int (nI c)), (3, .int (nI O.length))] [] h2 0 0 := by
    intro rest
    induction rest with
    | nil =>
      intro pre h2 NR2 e F HN2 hO2
      rw [List.append_nil] at e
      subst e
      have hb2 := fr_at F (b := b) (by simp only [List.mem_cons, List.not_mem_nil, or_false, not_or]; omega) hb
      refine r_iload d_Lane_shareBlob_36 rfl ?_
      refine r_aload_n d_Lane_shareBlob_38 rfl ?_
      refine r_getfield d_Lane_shareBlob_39 f_Lane_52 hb2 rfl ?_
      refine r_icmp_ge 136 d_Lane_shareBlob_42 (by decide) (fun c1 => ?_) (fun c1 => absurd (nI_le (Nat.le_refl _) (by omega)) c1)
      refine r_iload d_Lane_shareBlob_136 rfl ?_
      rw [hc]
      exact r_iret d_Lane_shareBlob_138 rfl (hΦ _ _ F HN2 hO2) (Nat.le_refl _) (Nat.le_refl _)
    | cons y rest ih =>
      intro pre h2 NR2 e F HN2 hO2
      have hl : pre.length < row.length := by rw [e]; simp
      have hy : row[pre.length]? = some y := by rw [e, List.getElem?_append_right (Nat.le_refl _), Nat.sub_self]; rfl
      have oky := (r2 _ _ hy).2
      have hb2 := fr_at F (b := b) (by simp only [List.mem_cons, List.not_mem_nil, or_false, not_or]; omega) hb
      have hsum : (sel B k pre).length + (sel B k (y :: rest)).length = c := by rw [← hc, e, sel_app, List.length_append]
      have ep : row = (pre ++ [y]) ++ rest := by rw [e]; simp
      have lenp : (pre ++ [y]).length = pre.length + 1 := by rw [List.length_append]; rfl
      obtain ⟨⟨gn2, m1, m2⟩, m3⟩ := id HN2
      have hg2 := fr_at F (b := b + 14) (by simp only [List.mem_cons, List.not_mem_nil, or_false, not_or]; omega) hg
      have hgo : gl pre.length = gI (sp_goal B y) ∧ ∀ j, sp_goal B y = some j → j < 4 := hG pre.length _ (by rw [List.getElem?_map, hy]; rfl)
      refine r_iload d_Lane_shareBlob_36 rfl ?_
      refine r_aload_n d_Lane_shareBlob_38 rfl ?_
      refine r_getfield d_Lane_shareBlob_39 f_Lane_52 hb2 rfl ?_
      refine r_icmp_ge 136 d_Lane_shareBlob_42 (by decide) (fun c1 => absurd ((nI_leI (by omega) (by omega)).mp c1) (by omega)) (fun c1 => ?_)
      refine r_iload d_Lane_shareBlob_45 rfl ?_
      refine r_aload_n d_Lane_shareBlob_47 rfl ?_
      refine r_getfield d_Lane_shareBlob_48 f_Lane_63 hb2 rfl ?_
      refine r_alenR d_Lane_shareBlob_51 m1 rfl ?_
      refine r_icmp_ge 136 d_Lane_shareBlob_52 (by decide) (fun c2 => ?_) (fun c2 => ?_)
      · have h4 := (nI_leI (by omega) (by omega)).mp c2
        have hrest : sel B k (y :: rest) = [] := List.length_eq_zero_iff.mp (by omega)
        have hall : sel B k pre = sel B k row := by rw [e, sel_app, hrest, List.append_nil]
        refine r_iload d_Lane_shareBlob_136 rfl ?_
        rw [hall] at hO2 ⊢
        rw [hc]
        exact r_iret d_Lane_shareBlob_138 rfl (hΦ _ _ F HN2 hO2) (Nat.le_refl _) (Nat.le_refl _)
      · have h4 := lt_of_nle (by omega) c2 (by omega)
        refine r_iload_n d_Lane_shareBlob_55 rfl ?_
        refine r_if_le 136 d_Lane_shareBlob_56 (by decide) (fun c3 => absurd c3 (nI_nle hS (by omega))) (fun c3 => ?_)
        refine r_aload_n d_Lane_shareBlob_59 rfl ?_
        refine r_getfield d_Lane_shareBlob_60 f_Lane_45 hb2 rfl ?_
        refine r_iload d_Lane_shareBlob_63 rfl ?_
        refine r_ialoadN d_Lane_shareBlob_65 hg2 (by omega) (by omega) ?_
        refine r_iload_n d_Lane_shareBlob_66 rfl ?_
        rw [hgo.1]
        refine r_icmp_ne 130 d_Lane_shareBlob_67 (by decide) (fun c4 => ?_) (fun c4 => ?_)
        · have hne : ¬ sp_goal B y = some k := fun z => c4 ((gI_eq hgo.2 (by omega)).mpr z)
          have es : sel B k (pre ++ [y]) = sel B k pre := by rw [sel_snoc, if_neg hne, List.append_nil]
          refine r_iincP d_Lane_shareBlob_130 rfl (Nat.le_of_ble_eq_true rfl) ?_
          refine r_goto 36 d_Lane_shareBlob_133 (by decide) ?_
          rw [nI_1]
          have := ih (pre ++ [y]) h2 NR2 ep F HN2 (by rw [es]; exact hO2)
          rw [es, lenp] at this
          exact this
        · have he : sp_goal B y = some k := (gI_eq hgo.2 (by omega)).mp c4
          have es : sel B k (pre ++ [y]) = sel B k pre ++ [y] := by rw [sel_snoc, if_pos he]
          have hj : (sel B k pre).length < c := by
            have : 0 < (sel B k (y :: rest)).length := by
              unfold sel; rw [List.filter_cons_of_pos (by simp [he])]; simp
            omega
          generalize hjj : (sel B k pre).length = j at *
          generalize hnn : x.2 - x.1 + 1 = n at *
          have hn10 : n ≤ 10 := by omega
          have hj4 : j < 4 := by omega
          obtain ⟨s1, s2⟩ := sh_in (c := c) (j := j) x1 hj
          rw [hnn] at s1 s2
          have hjn : j * n ≤ 40 := Nat.le_trans (Nat.mul_le_mul (show j ≤ 4 by omega) hn10) (by omega)
          have hjn2 : (j + 1) * n ≤ 40 := Nat.le_trans (Nat.mul_le_mul (show j + 1 ≤ 4 by omega) hn10) (by omega)
          have hq2 : (j + 1) * n / c ≤ 40 := Nat.le_trans (Nat.div_le_self _ _) hjn2
          have hc0 : ¬ nI c = 0 := nI_ne0 hS (by omega)
          refine r_iload d_Lane_shareBlob_70 rfl ?_
          refine r_iload d_Lane_shareBlob_72 rfl ?_
          refine r_iload d_Lane_shareBlob_74 rfl ?_
          refine r_imul d_Lane_shareBlob_76 ?_
          refine r_ri (pk_mul _ _) ?_
          refine r_iload_n d_Lane_shareBlob_77 rfl ?_
          refine r_idiv d_Lane_shareBlob_78 hc0 ?_
          refine r_ri (pk_div (by omega) hS (by omega)) ?_
          refine r_iadd d_Lane_shareBlob_79 ?_
          refine r_ri (nI_add _ _) ?_
          refine r_istore d_Lane_shareBlob_80 (Nat.le_of_ble_eq_true rfl) ?_
          refine r_iload d_Lane_shareBlob_82 rfl ?_
          refine r_iload d_Lane_shareBlob_84 rfl ?_
          refine r_iconst 1 d_Lane_shareBlob_86 (by decide) ?_
          refine r_iadd d_Lane_shareBlob_87 ?_
          refine r_ri (nI_1 _) ?_
          refine r_iload d_Lane_shareBlob_88 rfl ?_
          refine r_imul d_Lane_shareBlob_90 ?_
          refine r_ri (pk_mul _ _) ?_
          refine r_iload_n d_Lane_shareBlob_91 rfl ?_
          refine r_idiv d_Lane_shareBlob_92 hc0 ?_
          refine r_ri (pk_div (by omega) hS (by omega)) ?_
          refine r_iadd d_Lane_shareBlob_93 ?_
          refine r_ri (nI_add _ _) ?_
          have hrow2 := fr_at F (b := r) (by simp only [List.mem_cons, List.not_mem_nil, or_false, not_or]; omega) g1
          have hy2 := fr_at F (b := r + 1 + pre.length) (by simp only [List.mem_cons, List.not_mem_nil, or_false, not_or]; omega) (g3 pre.length (by omega))
          rw [(r2 _ _ hy).1] at hy2
          have hd1 : 1 ≤ ac_d (l, d, m_Lane_shareBlob, 0, 0, Φ, h.length, none) := by show 1 ≤ d; omega
          refine r_iconst 1 d_Lane_shareBlob_94 (by decide) ?_
          refine r_isub d_Lane_shareBlob_95 ?_
          refine r_istore d_Lane_shareBlob_96 (Nat.le_of_ble_eq_true rfl) ?_
          refine r_aload_n d_Lane_shareBlob_98 rfl ?_
          refine r_getfield d_Lane_shareBlob_99 f_Lane_63 hb2 rfl ?_
          refine r_iload d_Lane_shareBlob_102 rfl ?_
          refine r_aaloadN d_Lane_shareBlob_104 m1 rfl h4 (by omega) (m2 _ h4) ?_
          refine r_aload_n d_Lane_shareBlob_105 rfl ?_
          refine r_getfield d_Lane_shareBlob_106 f_Lane_59 hb2 rfl ?_
          refine r_iload d_Lane_shareBlob_109 rfl ?_
          refine r_aaloadN d_Lane_shareBlob_111 hrow2 rfl (by omega) (by omega) (g2 _ (by omega)) ?_
          refine r_iload d_Lane_shareBlob_112 rfl ?_
          refine r_iload d_Lane_shareBlob_114 rfl ?_
          refine r_iload d_Lane_shareBlob_116 rfl ?_
          refine r_max d_Lane_shareBlob_118 mx_Lane_154 mx_1 mx_2 mx_3 (by omega) (Nat.le_of_ble_eq_true rfl) (Nat.le_of_ble_eq_true rfl) (Nat.le_of_ble_eq_true rfl) ?_
          refine r_ri (nI_maxp (by omega) (by omega)) ?_
          refine r_cVv [.ref (r + 1 + pre.length), .int (nI (x.1 + j * n / c)), .int (nI (max (x.1 + j * n / c) (x.1 + (j + 1) * n / c - 1)))] (r' + 1 + (O.length + j)) (d - 1) 0 0 (fun h' => fr h2 h' [r' + 1 + (O.length + j)] ∧ h'[r' + 1 + (O.length + j)]? = some (bo (sp_sh x c j y))) d_Lane_shareBlob_121 q_Lane_160 (m3 _ h4) rfl rfl (c_Body_follow htr (by omega) (m3 _ h4) hy2 (by omega) oky (Nat.le_max_left _ _) (Nat.max_le.mpr ⟨by omega, by omega⟩) (fun h' f' H' => ⟨rfl, f', by unfold sp_sh; rw [hnn]; exact H'⟩)) (by show d - 1 + 1 ≤ d; omega) (Nat.le_refl _) (Nat.le_refl _) (Nat.le_of_ble_eq_true rfl) (fun h4_ e4 => ?_)
          refine r_iincP d_Lane_shareBlob_124 rfl (Nat.le_of_ble_eq_true rfl) ?_
          refine r_iincP d_Lane_shareBlob_127 rfl (Nat.le_of_ble_eq_true rfl) ?_
          refine r_iincP d_Lane_shareBlob_130 rfl (Nat.le_of_ble_eq_true rfl) ?_
          refine r_goto 36 d_Lane_shareBlob_133 (by decide) ?_
          rw [nI_1, nI_1, nI_1]
          have F4 : fr h h4_ [r' + 1, r' + 2, r' + 3, r' + 4] := fr_tr F e4.1 (fun _ q => q) (fun q hq => by simp at hq ⊢; omega)
          have := ih (pre ++ [y]) h4_ _ ep F4 (Rws_put HN2 h4 e4.1 e4.2) (by
            have e5 : O ++ sp_shs x c (sel B k (pre ++ [y])) = (O ++ sp_shs x c (sel B k pre)) ++ [sp_sh x c j y] := by
              rw [es]; unfold sp_shs; rw [List.mapIdx_append, ← List.append_assoc]; simp [hjj]
            have e6 : (O ++ sp_shs x c (sel B k pre)).length = O.length + j := by rw [List.length_append]; unfold sp_shs; rw [List.length_mapIdx, hjj]
            rw [e5]
            have := isOut_put (y := sp_sh x c j y) hO2
            rw [e6] at this
            exact this)
          rw [es, lenp, List.length_append, hjj] at this
          exact r_loc _ (fun q hq => by simp at hq; rcases hq with q | q | q | q | q | q | q | q | q <;> subst q <;> rfl) this
  refine r_aload_n d_Lane_shareBlob_0 rfl ?_
  refine r_getfield d_Lane_shareBlob_1 f_Lane_21 hb rfl ?_
  refine r_getfield d_Lane_shareBlob_4 f_Lane_141 a1 rfl ?_
  refine r_iload_n d_Lane_shareBlob_7 rfl ?_
  refine r_ialoadN d_Lane_shareBlob_8 a4 (by omega) (by omega) ?_
  rw [e1]
  refine r_istore d_Lane_shareBlob_9 (Nat.le_of_ble_eq_true rfl) ?_
  refine r_aload_n d_Lane_shareBlob_11 rfl ?_
  refine r_getfield d_Lane_shareBlob_12 f_Lane_21 hb rfl ?_
  refine r_getfield d_Lane_shareBlob_15 f_Lane_144 a1 rfl ?_
  refine r_iload_n d_Lane_shareBlob_18 rfl ?_
  refine r_ialoadN d_Lane_shareBlob_19 a5 (by omega) (by omega) ?_
  rw [e2]
  refine r_iload d_Lane_shareBlob_20 rfl ?_
  refine r_isub d_Lane_shareBlob_22 ?_
  refine r_iconst 1 d_Lane_shareBlob_23 (by decide) ?_
  refine r_iadd d_Lane_shareBlob_24 ?_
  refine r_ri (nI_len x1) ?_
  refine r_istore d_Lane_shareBlob_25 (Nat.le_of_ble_eq_true rfl) ?_
  refine r_iconst 0 d_Lane_shareBlob_27 (by decide) ?_
  refine r_ri nI_0.symm ?_
  refine r_istore d_Lane_shareBlob_28 (Nat.le_of_ble_eq_true rfl) ?_
  refine r_iload_n d_Lane_shareBlob_30 rfl ?_
  refine r_istore d_Lane_shareBlob_31 (Nat.le_of_ble_eq_true rfl) ?_
  refine r_iconst 0 d_Lane_shareBlob_33 (by decide) ?_
  refine r_ri nI_0.symm ?_
  refine r_istore d_Lane_shareBlob_34 (Nat.le_of_ble_eq_true rfl) ?_
  exact r_loc _ (fun q hq => by simp at hq; rcases hq with q | q | q | q | q | q | q | q | q <;> subst q <;> rfl) (key row [] h NR rfl fr_rf HN (by simpa [sp_shs, sel] using hO))
/-- a body that comes with the blob x -/
def sp_ent (row : List sp_B) (x : Nat × Nat) : sp_B := (x.1, x.2, sp_side row x, -1, x.2 - x.1 + 1)
/-- one blob's part of the new row; how many may still come -/
def sp_one (B : List (Nat × Nat)) (row : List sp_B) (k : Nat) (x : Nat × Nat) (st : List sp_B × Nat) : List sp_B × Nat :=
  if 0 < (sel B k row).length then (st.1 ++ sp_shs x (sel B k row).length (sel B k row), st.2) else if 0 < st.2 then (st.1 ++ [sp_ent row x], st.2 - 1) else st
def sp_renew (B : List (Nat × Nat)) (row : List sp_B) : Nat → List sp_B × Nat
  | 0 => ([], 4 - (row.length - (sp_gone B row).length))
  | n + 1 => match B[n]? with
    | some x => sp_one B row n x (sp_renew B row n)
    | none => sp_renew B row n
/-- those that go to blob n or a later one -/
def sp_kept (B : List (Nat × Nat)) (row : List sp_B) (n : Nat) : List sp_B := row.filter (fun b => match sp_goal B b with | some k => decide (n ≤ k) | none => false)
theorem kept_0 (B : List (Nat × Nat)) : ∀ row : List sp_B, (sp_kept B row 0).length + (sp_gone B row).length = row.length
  | [] => rfl
  | b :: row => by
    have ih := kept_0 B row
    unfold sp_kept sp_gone at *
    cases hg : sp_goal B b with
    | none =>
      rw [List.filter_cons_of_neg (by simp [hg]), List.filter_cons_of_pos (by simp [hg]), List.length_cons, List.length_cons]; omega
    | some k =>
      rw [List.filter_cons_of_pos (by simp [hg]), List.filter_cons_of_neg (by simp [hg]), List.length_cons, List.length_cons]; omega
theorem kept_s (B : List (Nat × Nat)) (n : Nat) : ∀ row : List sp_B, (sp_kept B row n).length = (sel B n row).length + (sp_kept B row (n + 1)).length
  | [] => rfl
  | b :: row => by
    have ih := kept_s B n row
    unfold sp_kept sel at *
    cases hg : sp_goal B b with
    | none =>
      rw [List.filter_cons_of_neg (by simp [hg]), List.filter_cons_of_neg (by simp [hg]), List.filter_cons_of_neg (by simp [hg])]; exact ih
    | some k =>
      rcases Nat.lt_trichotomy n k with q | q | q
      · rw [List.filter_cons_of_pos (by simp [hg]; omega), List.filter_cons_of_neg (by simp [hg]; omega), List.filter_cons_of_pos (by simp [hg]; omega), List.length_cons, List.length_cons]; omega
      · rw [List.filter_cons_of_pos (by simp [hg]; omega), List.filter_cons_of_pos (by simp [hg]; omega), List.filter_cons_of_neg (by simp [hg]; omega), List.length_cons, List.length_cons]; omega
      · rw [List.filter_cons_of_neg (by simp [hg]; omega), List.filter_cons_of_neg (by simp [hg]; omega), List.filter_cons_of_neg (by simp [hg]; omega)]; exact ih
theorem renew_cap {B : List (Nat × Nat)} {row : List sp_B} (h4 : row.length ≤ 4) : ∀ n, n ≤ B.length → (sp_renew B row n).1.length + (sp_kept B row n).length + (sp_renew B row n).2 = 4
  | 0, _ => by
    have h0 := kept_0 B row
    show 0 + (sp_kept B row 0).length + (4 - (row.length - (sp_gone B row).length)) = 4
    omega
  | n + 1, hn => by
    have ih := renew_cap (B := B) h4 n (by omega)
    have hk := kept_s B n row
    have hst : sp_renew B row (n + 1) = sp_one B row n B[n] (sp_renew B row n) := by rw [sp_renew, List.getElem?_eq_getElem (show n < B.length by omega)]
    rw [hst]
    unfold sp_one
    by_cases c1 : 0 < (sel B n row).length
    · rw [if_pos c1]
      show ((sp_renew B row n).1 ++ sp_shs _ _ _).length + _ + (sp_renew B row n).2 = 4
      rw [List.length_append]; unfold sp_shs; rw [List.length_mapIdx]; omega
    · rw [if_neg c1]
      by_cases c2 : 0 < (sp_renew B row n).2
      · rw [if_pos c2]
        show ((sp_renew B row n).1 ++ [_]).length + _ + ((sp_renew B row n).2 - 1) = 4
        rw [List.length_append, List.length_singleton]; omega
      · rw [if_neg c2]; omega
theorem side_le {row : List sp_B} {x : Nat × Nat} (h : ∀ b ∈ row, okB b) : sp_side row x ≤ 1 := by
  unfold sp_side
  cases hf : row.find? (fun b => mt b x) with
  | none => show (if x.1 + x.2 < 9 then 0 else 1) ≤ 1; split <;> omega
  | some b => exact (h b (List.mem_of_find?_eq_some hf)).2.2.1
theorem renew_ok {B : List (Nat × Nat)} {row : List sp_B} (hB : okBl B) (h : ∀ b ∈ row, okB b) : ∀ n, ∀ b ∈ (sp_renew B row n).1, okB b
  | 0, b, hb => by cases hb
  | n + 1, b, hb => by
    have ih := renew_ok hB h n
    rw [sp_renew] at hb
    cases hx : B[n]? with
    | none => rw [hx] at hb; exact ih b hb
    | some x =>
      rw [hx] at hb
      obtain ⟨x1, x2⟩ := hB x (List.mem_of_getElem? hx)
      have hb : b ∈ (sp_one B row n x (sp_renew B row n)).1 := hb
      unfold sp_one at hb
      by_cases c1 : 0 < (sel B n row).length
      · rw [if_pos c1] at hb
        rcases List.mem_append.mp hb with q | q
        · exact ih b q
        · unfold sp_shs at q
          obtain ⟨i, hi, rfl⟩ := List.mem_mapIdx.mp q
          exact sp_sh_ok x1 x2 hi (h _ (List.mem_filter.mp (List.getElem_mem hi)).1)
      · rw [if_neg c1] at hb
        by_cases c2 : 0 < (sp_renew B row n).2
        · rw [if_pos c2] at hb
          rcases List.mem_append.mp hb with q | q
          · exact ih b q
          · simp at q; subst q
            exact ⟨x1, x2, side_le h, by show x.2 - x.1 + 1 ≤ 10; omega, Or.inl rfl⟩
        · rw [if_neg c2] at hb; exact ih b hb
theorem sel_count {B : List (Nat × Nat)} {k : Nat} : ∀ row : List sp_B, (row.map (sp_goal B)).count (some k) = (sel B k row).length
  | [] => rfl
  | b :: row => by
    have ih := sel_count (B := B) (k := k) row
    unfold sel at *
    rw [List.map_cons, List.count_cons, ih]
    by_cases hg : sp_goal B b = some k
    · rw [List.filter_cons_of_pos (by simp [hg]), List.length_cons]; simp [hg]
    · rw [List.filter_cons_of_neg (by simp [hg])]; simp [hg]
theorem c_Lane_renewRow {l : Launch} (htr : l.stackTraces = false) {d : Nat} {h : ac_H} {Φ : ac_R → ac_H → Prop} {b r r' m : Nat} {row : List sp_B} {RW NR : Nat → sp_B} {B : List (Nat × Nat)} {gl : Nat → Int32} (hd : 3 ≤ d) (hb : h[b]? = some (lnO b r r' m row.length)) (HW : Rws h r RW) (hrow : isRow row RW) (HN : Rws h r' NR) (HB : Bls h (b + 2) B) (hg : h[b + 14]? = some (.inl (.inl (4, gl)))) (hG : isG (row.map (sp_goal B)) gl) (hr : (r = b + 15 ∧ r' = b + 20) ∨ (r = b + 20 ∧ r' = b + 15))
    (hΦ : ∀ h' NR', fr h h' [b, r' + 1, r' + 2, r' + 3, r' + 4] → h'[b]? = some (lnO b r' r m (sp_renew B row B.length).1.length) → Rws h' r' NR' → isRow (sp_renew B row B.length).1 NR' → Φ (.inl none) h') : ac_Mt l d m_Lane_renewRow [.ref b, .int (nI (row.length - (sp_gone B row).length))] h 0 0 Φ := by
  obtain ⟨r1, r2⟩ := id hrow
  obtain ⟨a1, a2, a3, f, g, a4, a5, a6⟩ := id HB
  have hok : ∀ x ∈ row, okB x := fun x hx => by obtain ⟨i, hi⟩ := List.getElem?_of_mem hx; exact (r2 i x hi).2
  have hlg : (sp_gone B row).length ≤ row.length := List.length_filter_le _ _
  refine ac_enter (by decide) rfl htr (fun _ => Nat.le_of_ble_eq_true rfl) ?_
  have key : ∀ (n k : Nat) (h2 : ac_H) (NR2 : Nat → sp_B), k + n = B.length → fr h h2 [r' + 1, r' + 2, r' + 3, r' + 4] → Rws h2 r' NR2 → isOut (sp_renew B row k).1 NR2 → ac_G (l, d, m_Lane_renewRow, 0, 0, Φ, h.length, none) 9 [(4, .int (nI k)), (3, .int (nI (sp_renew B row k).1.length)), (2, .int (nI (sp_renew B row k).2)), (0, .ref b), (1, .int (nI (row.length - (sp_gone B row).length)))] [] h2 0 0 := by
    intro n
    induction n with
    | zero =>
      intro k h2 NR2 hk F HN2 hO2
      have e : k = B.length := by omega
      subst e
      have hcap := renew_cap (B := B) r1 B.length (Nat.le_refl _)
      have hb2 := fr_at F (b := b) (by simp only [List.mem_cons, List.not_mem_nil, or_false, not_or]; omega) hb
      have hB2 := fr_at F (b := b + 2) (by simp only [List.mem_cons, List.not_mem_nil, or_false, not_or]; omega) a1
      refine r_iload d_Lane_renewRow_9 rfl ?_
      refine r_aload_n d_Lane_renewRow_11 rfl ?_
      refine r_getfield d_Lane_renewRow_12 f_Lane_21 hb2 rfl ?_
      refine r_getfield d_Lane_renewRow_15 f_Lane_132 hB2 rfl ?_
      refine r_icmp_ge 107 d_Lane_renewRow_18 (by decide) (fun c1 => ?_) (fun c1 => absurd (nI_le (Nat.le_refl _) (by omega)) c1)
      refine r_aload_n d_Lane_renewRow_107 rfl ?_
      refine r_getfield d_Lane_renewRow_108 f_Lane_59 hb2 rfl ?_
      refine r_astore d_Lane_renewRow_111 (Nat.le_of_ble_eq_true rfl) ?_
      refine r_aload_n d_Lane_renewRow_113 rfl ?_
      refine r_aload_n d_Lane_renewRow_114 rfl ?_
      refine r_getfield d_Lane_renewRow_115 f_Lane_63 hb2 rfl ?_
      refine r_putfieldN d_Lane_renewRow_118 f_Lane_59 hb2 (Nat.le_of_ble_eq_true rfl) (fun _ => rfl) (fun _ => rfl) (fun h118_ fr118 g118 => ?_)
      refine r_aload_n d_Lane_renewRow_121 rfl ?_
      refine r_aload d_Lane_renewRow_122 rfl ?_
      refine r_putfieldN d_Lane_renewRow_124 f_Lane_63 g118 (Nat.le_of_ble_eq_true rfl) (fun _ => rfl) (fun _ => rfl) (fun h124_ fr124 g124 => ?_)
      refine r_aload_n d_Lane_renewRow_127 rfl ?_
      refine r_iload_n d_Lane_renewRow_128 rfl ?_
      refine r_putfieldN d_Lane_renewRow_129 f_Lane_52 g124 (Nat.le_of_ble_eq_true rfl) (fun _ => rfl) (fun _ => rfl) (fun h129_ fr129 g129 => ?_)
      refine r_vret d_Lane_renewRow_132 rfl (hΦ _ NR2 (fr_tr (fr_tr (fr_tr F fr118 (cs := [b, r' + 1, r' + 2, r' + 3, r' + 4]) (fun q hq => List.mem_cons_of_mem _ hq) (by simp)) fr124 (cs := [b, r' + 1, r' + 2, r' + 3, r' + 4]) (fun _ q => q) (by simp)) fr129 (fun _ q => q) (by simp)) g129 (((HN2.fr fr118 ?_).fr fr124 ?_).fr fr129 ?_) ⟨by omega, fun i x hx => ⟨hO2 i x hx, renew_ok a3 hok _ x (List.mem_of_getElem? hx)⟩⟩) (Nat.le_refl _) (Nat.le_refl _)
      · intro j hj; simp; omega
      · intro j hj; simp; omega
      · intro j hj; simp; omega
    | succ n ih =>
      intro k h2 NR2 hk F HN2 hO2
      have hcap := renew_cap (B := B) r1 k (by omega)
      have hks := kept_s B k row
      have hx := List.getElem?_eq_getElem (show k < B.length by omega)
      generalize B[k] = x at hx
      obtain ⟨x1, x2⟩ := a3 x (List.mem_of_getElem? hx)
      obtain ⟨e1, e2⟩ := a6 k x hx
      have hst : sp_renew B row (k + 1) = sp_one B row k x (sp_renew B row k) := by rw [sp_renew, hx]
      have hb2 := fr_at F (b := b) (by simp only [List.mem_cons, List.not_mem_nil, or_false, not_or]; omega) hb
      have HB2 : Bls h2 (b + 2) B := HB.fr F (by simp only [List.mem_cons, List.not_mem_nil, or_false, not_or]; omega) (by simp only [List.mem_cons, List.not_mem_nil, or_false, not_or]; omega) (by simp only [List.mem_cons, List.not_mem_nil, or_false, not_or]; omega)
      have hB2 := HB2.1
      have hg2 := fr_at F (b := b + 14) (by simp only [List.mem_cons, List.not_mem_nil, or_false, not_or]; omega) hg
      have HW2 : Rws h2 r RW := HW.fr F (fun j hj => by simp; omega)
      have hm9 : (row.map (sp_goal B)).length = row.length := List.length_map _
      refine r_iload d_Lane_renewRow_9 rfl ?_
      refine r_aload_n d_Lane_renewRow_11 rfl ?_
      refine r_getfield d_Lane_renewRow_12 f_Lane_21 hb2 rfl ?_
      refine r_getfield d_Lane_renewRow_15 f_Lane_132 hB2 rfl ?_
      refine r_icmp_ge 107 d_Lane_renewRow_18 (by decide) (fun c1 => absurd ((nI_leI (by omega) (by omega)).mp c1) (by omega)) (fun c1 => ?_)
      refine r_aload_n d_Lane_renewRow_21 rfl ?_
      refine r_iload d_Lane_renewRow_22 rfl ?_
      refine r_cVi [.int (nI k)] b (d - 1) 0 0 (nI (sel B k row).length) (fun h' => h2 = h') d_Lane_renewRow_24 q_Lane_133 hb2 rfl rfl (c_Lane_sharersOf (n := 0) htr (G := row.map (sp_goal B)) (by rw [hm9]; exact hb2) hg2 hG (by omega) (by omega) ⟨by rw [sel_count], rfl⟩) (by show d - 1 + 1 ≤ d; omega) (Nat.le_refl _) (Nat.le_refl _) (Nat.le_of_ble_eq_true rfl) (fun h' e9 => ?_)
      subst e9
      refine r_istore d_Lane_renewRow_27 (Nat.le_of_ble_eq_true rfl) ?_
      refine r_iload d_Lane_renewRow_29 rfl ?_
      refine r_if_le 47 d_Lane_renewRow_31 (by decide) (fun c2 => ?_) (fun c2 => ?_)
      · have hS : ¬ 0 < (sel B k row).length := fun z => nI_nle z (by omega) c2
        refine r_iload_n d_Lane_renewRow_47 rfl ?_
        refine r_if_le 101 d_Lane_renewRow_48 (by decide) (fun c3 => ?_) (fun c3 => ?_)
        · have hfr : ¬ 0 < (sp_renew B row k).2 := fun z => nI_nle z (by omega) c3
          have est : sp_renew B row (k + 1) = sp_renew B row k := by rw [hst]; unfold sp_one; rw [if_neg hS, if_neg hfr]
          refine r_iincP d_Lane_renewRow_101 rfl (Nat.le_of_ble_eq_true rfl) ?_
          refine r_goto 9 d_Lane_renewRow_104 (by decide) ?_
          rw [nI_1]
          have := ih (k + 1) h2 NR2 (by omega) F HN2 (by rw [est]; exact hO2)
          rw [est] at this
          exact r_loc _ (fun q hq => by simp at hq; rcases hq with q | q | q | q | q <;> subst q <;> rfl) this
        · have hfr : 0 < (sp_renew B row k).2 := by
            rcases Nat.eq_zero_or_pos (sp_renew B row k).2 with z | z
            · exact absurd (by rw [z]; decide) c3
            · exact z
          have est : sp_renew B row (k + 1) = ((sp_renew B row k).1 ++ [sp_ent row x], (sp_renew B row k).2 - 1) := by rw [hst]; unfold sp_one; rw [if_neg hS, if_pos hfr]
          have h4 : (sp_renew B row k).1.length < 4 := by omega
          obtain ⟨⟨gn2, m1, m2⟩, m3⟩ := id HN2
          obtain ⟨-, -, -, f2, g2, p4, p5, p6⟩ := id HB2
          obtain ⟨q1, q2⟩ := p6 k x hx
          refine r_iload_n d_Lane_renewRow_51 rfl ?_
          refine r_aload_n d_Lane_renewRow_52 rfl ?_
          refine r_getfield d_Lane_renewRow_53 f_Lane_63 hb2 rfl ?_
          refine r_alenR d_Lane_renewRow_56 m1 rfl ?_
          refine r_icmp_ge 101 d_Lane_renewRow_57 (by decide) (fun c4 => absurd ((nI_leI (by omega) (by omega)).mp c4) (by omega)) (fun c4 => ?_)
          refine r_aload_n d_Lane_renewRow_60 rfl ?_
          refine r_getfield d_Lane_renewRow_61 f_Lane_63 hb2 rfl ?_
          refine r_iload_n d_Lane_renewRow_64 rfl ?_
          refine r_aaloadN d_Lane_renewRow_65 m1 rfl h4 (by omega) (m2 _ h4) ?_
          refine r_aload_n d_Lane_renewRow_66 rfl ?_
          refine r_getfield d_Lane_renewRow_67 f_Lane_21 hb2 rfl ?_
          refine r_getfield d_Lane_renewRow_70 f_Lane_141 hB2 rfl ?_
          refine r_iload d_Lane_renewRow_73 rfl ?_
          refine r_ialoadN d_Lane_renewRow_75 p4 (by omega) (by omega) ?_
          rw [q1]
          refine r_aload_n d_Lane_renewRow_76 rfl ?_
          refine r_getfield d_Lane_renewRow_77 f_Lane_21 hb2 rfl ?_
          refine r_getfield d_Lane_renewRow_80 f_Lane_144 hB2 rfl ?_
          refine r_iload d_Lane_renewRow_83 rfl ?_
          refine r_ialoadN d_Lane_renewRow_85 p5 (by omega) (by omega) ?_
          rw [q2]
          refine r_aload_n d_Lane_renewRow_86 rfl ?_
          refine r_iload d_Lane_renewRow_87 rfl ?_
          refine r_cVi [.int (nI k)] b (d - 1) 0 0 (nI (sp_side row x)) (fun h' => h2 = h') d_Lane_renewRow_89 q_Lane_147 hb2 rfl rfl (c_Lane_sideFor htr (by omega) hb2 HW2 hrow HB2 hx ⟨rfl, rfl⟩) (by show d - 1 + 1 ≤ d; omega) (Nat.le_refl _) (Nat.le_refl _) (Nat.le_of_ble_eq_true rfl) (fun h' e9 => ?_)
          subst e9
          refine r_cVv [.int (nI x.1), .int (nI x.2), .int (nI (sp_side row x))] (r' + 1 + (sp_renew B row k).1.length) (d - 1) 0 0 (fun h' => fr h2 h' [r' + 1 + (sp_renew B row k).1.length] ∧ h'[r' + 1 + (sp_renew B row k).1.length]? = some (bo (sp_ent row x))) d_Lane_renewRow_92 q_Lane_150 (m3 _ h4) rfl rfl (c_Body_enter htr (m3 _ h4) x1 (fun h' f' H' => ⟨rfl, f', H'⟩)) (by show d - 1 + 1 ≤ d; omega) (Nat.le_refl _) (Nat.le_refl _) (Nat.le_of_ble_eq_true rfl) (fun h4_ e4 => ?_)
          have F4 : fr h h4_ [r' + 1, r' + 2, r' + 3, r' + 4] := fr_tr F e4.1 (fun _ q => q) (fun q hq => by simp at hq ⊢; omega)
          refine r_iincP d_Lane_renewRow_95 rfl (Nat.le_of_ble_eq_true rfl) ?_
          refine r_iincM d_Lane_renewRow_98 rfl (Nat.le_of_ble_eq_true rfl) ?_
          refine r_iincP d_Lane_renewRow_101 rfl (Nat.le_of_ble_eq_true rfl) ?_
          refine r_goto 9 d_Lane_renewRow_104 (by decide) ?_
          rw [nI_1, nI_1]
          have e5 : nI (sp_renew B row k).2 - 1 = nI ((sp_renew B row k).2 - 1) := by rw [nI1, pk_sub (by omega)]
          rw [e5]
          have := ih (k + 1) h4_ _ (by omega) F4 (Rws_put HN2 h4 e4.1 e4.2) (by rw [est]; exact isOut_put hO2)
          rw [est] at this
          rw [List.length_append, List.length_singleton] at this
          exact r_loc _ (fun q hq => by simp at hq; rcases hq with q | q | q | q | q <;> subst q <;> rfl) this
      · have hS : 0 < (sel B k row).length := by
          rcases Nat.eq_zero_or_pos (sel B k row).length with z | z
          · exact absurd (by rw [z]; decide) c2
          · exact z
        have est : sp_renew B row (k + 1) = ((sp_renew B row k).1 ++ sp_shs x (sel B k row).length (sel B k row), (sp_renew B row k).2) := by rw [hst]; unfold sp_one; rw [if_pos hS]
        refine r_aload_n d_Lane_renewRow_34 rfl ?_
        refine r_iload d_Lane_renewRow_35 rfl ?_
        refine r_iload d_Lane_renewRow_37 rfl ?_
        refine r_iload_n d_Lane_renewRow_39 rfl ?_
        refine r_cVi [.int (nI k), .int (nI (sel B k row).length), .int (nI (sp_renew B row k).1.length)] b (d - 1) 0 0 (nI ((sp_renew B row k).1.length + (sel B k row).length)) (fun h' => ∃ NR', fr h2 h' [r' + 1, r' + 2, r' + 3, r' + 4] ∧ Rws h' r' NR' ∧ isOut ((sp_renew B row k).1 ++ sp_shs x (sel B k row).length (sel B k row)) NR') d_Lane_renewRow_40 q_Lane_137 hb2 rfl rfl (c_Lane_shareBlob htr (by omega) hb2 HW2 hrow HN2 hO2 HB2 hg2 hG hx hr hS (by omega) (fun h' NR' f' H1 H2 => ⟨rfl, NR', f', H1, H2⟩)) (by show d - 1 + 1 ≤ d; omega) (Nat.le_refl _) (Nat.le_refl _) (Nat.le_of_ble_eq_true rfl) (fun h4_ e4 => ?_)
        obtain ⟨NR4, f4, H41, H42⟩ := e4
        refine r_istore_n d_Lane_renewRow_43 (Nat.le_of_ble_eq_true rfl) ?_
        refine r_goto 101 d_Lane_renewRow_44 (by decide) ?_
        refine r_iincP d_Lane_renewRow_101 rfl (Nat.le_of_ble_eq_true rfl) ?_
        refine r_goto 9 d_Lane_renewRow_104 (by decide) ?_
        rw [nI_1]
        have := ih (k + 1) h4_ NR4 (by omega) (fr_tr F f4 (fun _ q => q) (fun _ q => q)) H41 (by rw [est]; exact H42)
        rw [est] at this
        have e6 : ((sp_renew B row k).1 ++ sp_shs x (sel B k row).length (sel B k row)).length = (sp_renew B row k).1.length + (sel B k row).length := by rw [List.length_append]; unfold sp_shs; rw [List.length_mapIdx]
        rw [e6] at this
        exact r_loc _ (fun q hq => by simp at hq; rcases hq with q | q | q | q | q <;> subst q <;> rfl) this
  refine r_iconst 4 d_Lane_renewRow_0 (by decide) ?_
  refine r_ri nI4 ?_
  refine r_iload_n d_Lane_renewRow_1 rfl ?_
  refine r_isub d_Lane_renewRow_2 ?_
  refine r_ri (pk_sub (by omega)) ?_
  refine r_istore_n d_Lane_renewRow_3 (Nat.le_of_ble_eq_true rfl) ?_
  refine r_iconst 0 d_Lane_renewRow_4 (by decide) ?_
  refine r_ri nI_0.symm ?_
  refine r_istore_n d_Lane_renewRow_5 (Nat.le_of_ble_eq_true rfl) ?_
  refine r_iconst 0 d_Lane_renewRow_6 (by decide) ?_
  refine r_ri nI_0.symm ?_
  refine r_istore d_Lane_renewRow_7 (Nat.le_of_ble_eq_true rfl) ?_
  exact r_loc _ (fun q hq => by simp at hq; rcases hq with q | q | q | q | q <;> subst q <;> rfl) (key B.length 0 h NR (by omega) fr_rf HN (fun i y hy => by cases hy))
