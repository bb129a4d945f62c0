/-! THE ROWS of the reference after all shares are those of the component -/
def shsW (B : List (Nat × Nat)) (W : List sp_W) : Nat → List sp_W
  | 0 => W
  | n + 1 => match B[n]? with
    | some x => shareW (shsW B W n) n x
    | none => shsW B W n
def olds (W : List sp_W) : List ((Nat × Nat) × Nat) := W.filterMap (fun w => w.2.2.map (fun o => (o, w.1.2.2.1)))
theorem olds_a (a b : List sp_W) : olds (a ++ b) = olds a ++ olds b := List.filterMap_append
def sideO (x : Nat × Nat) : List ((Nat × Nat) × Nat) → Option Nat
  | [] => none
  | w :: r => if w.1.1 ≤ x.2 + 1 ∧ x.1 ≤ w.1.2 + 1 then some w.2 else sideO x r
theorem side_olds (x : Nat × Nat) : ∀ W : List sp_W, sideW x W = sideO x (olds W)
  | [] => rfl
  | w :: r => by
    have ih := side_olds x r
    rw [sideW]
    cases ho : w.2.2 with
    | none =>
      have e : olds (w :: r) = olds r := by unfold olds; rw [List.filterMap_cons_none (by rw [ho]; rfl)]
      have m : mtW w x = false := by unfold mtW; rw [ho]
      rw [e, m, if_neg (by simp), ih]
    | some o =>
      have e : olds (w :: r) = (o, w.1.2.2.1) :: olds r := by unfold olds; rw [List.filterMap_cons_some (b := (o, w.1.2.2.1)) (by rw [ho]; rfl)]
      rw [e, sideO]
      by_cases c : o.1 ≤ x.2 + 1 ∧ x.1 ≤ o.2 + 1
      · have m : mtW w x = true := by unfold mtW; rw [ho]; simp [c]
        rw [m, if_pos rfl, if_pos c]
      · have m : mtW w x = false := by unfold mtW; rw [ho]; simp; omega
        rw [m, if_neg (by simp), if_neg c, ih]
theorem side_row {B : List (Nat × Nat)} {x : Nat × Nat} (hx : x ∈ B) : ∀ row : List sp_B, sideO x (olds (keptW B row)) = (row.find? (fun b => mt b x)).map (fun b => b.2.2.1)
  | [] => rfl
  | b :: row => by
    have ih := side_row hx row
    cases hg : sp_goal B b with
    | none =>
      have e : keptW B (b :: row) = keptW B row := by unfold keptW; rw [List.filterMap_cons_none (by unfold tagK; rw [hg]; rfl)]
      have m : mt b x = false := by
        have := List.findIdx?_eq_none_iff.mp hg x hx
        simpa using this
      rw [e, List.find?_cons_of_neg (by simp [m]), ih]
    | some k =>
      have e : keptW B (b :: row) = (b, k, some (b.1, b.2.1)) :: keptW B row := by unfold keptW; rw [List.filterMap_cons_some (b := (b, k, some (b.1, b.2.1))) (by unfold tagK; rw [hg]; rfl)]
      have e2 : olds ((b, k, some (b.1, b.2.1)) :: keptW B row) = ((b.1, b.2.1), b.2.2.1) :: olds (keptW B row) := rfl
      rw [e, e2, sideO]
      by_cases c : b.1 ≤ x.2 + 1 ∧ x.1 ≤ b.2.1 + 1
      · have m : mt b x = true := mt_iff.mpr c
        rw [if_pos c, List.find?_cons, m]; rfl
      · have m : mt b x = false := by
          cases hm : mt b x with
          | false => rfl
          | true => exact absurd (mt_iff.mp hm) c
        rw [if_neg c, List.find?_cons_of_neg (by simp [m]), ih]
theorem cn_0 {k : Nat} : ∀ {W : List sp_W}, (∀ w ∈ W, ¬ w.2.1 = k) → cnW k W = 0
  | [], _ => rfl
  | w :: r, h => by
    rw [cnW_c, cn_0 (fun v hv => h v (List.mem_cons_of_mem _ hv)), if_neg (h w List.mem_cons_self)]
theorem cn_all {k : Nat} : ∀ {W : List sp_W}, (∀ w ∈ W, w.2.1 = k) → cnW k W = W.length
  | [], _ => rfl
  | w :: r, h => by
    rw [cnW_c, cn_all (fun v hv => h v (List.mem_cons_of_mem _ hv)), if_pos (h w List.mem_cons_self)]; rfl
theorem sh_0 {x : Nat × Nat} {c k : Nat} : ∀ {W : List sp_W} {j : Nat}, (∀ w ∈ W, ¬ w.2.1 = k) → shW x c k j W = W
  | [], _, _ => rfl
  | w :: r, j, h => by
    rw [shW, if_neg (h w List.mem_cons_self), sh_0 (fun v hv => h v (List.mem_cons_of_mem _ hv))]
theorem sh_app {x : Nat × Nat} {c k : Nat} : ∀ {a : List sp_W} {b : List sp_W} {j : Nat}, shW x c k j (a ++ b) = shW x c k j a ++ shW x c k (j + cnW k a) b
  | [], b, j => by
    have : cnW k [] = 0 := rfl
    rw [this]; rfl
  | w :: a, b, j => by
    rw [List.cons_append, shW, shW, cnW_c]
    by_cases e : w.2.1 = k
    · rw [if_pos e, if_pos e, if_pos e, sh_app]
      have : j + 1 + cnW k a = j + (cnW k a + 1) := by omega
      rw [this]; rfl
    · rw [if_neg e, if_neg e, if_neg e, sh_app]; rfl
theorem sh_map {x : Nat × Nat} {c k : Nat} : ∀ {W : List sp_W} {j : Nat}, (∀ w ∈ W, w.2.1 = k) → (shW x c k j W).map (·.1) = (W.map (·.1)).mapIdx (fun i b => sp_sh x c (j + i) b)
  | [], _, _ => rfl
  | w :: r, j, h => by
    rw [shW, if_pos (h w List.mem_cons_self), List.map_cons, List.map_cons, List.mapIdx_cons, sh_map (fun v hv => h v (List.mem_cons_of_mem _ hv))]
    congr 1
    congr 1
    funext i b
    have : j + 1 + i = j + (i + 1) := by omega
    rw [this]
theorem sh_olds {x : Nat × Nat} {c k : Nat} : ∀ {W : List sp_W} {j : Nat}, olds (shW x c k j W) = olds W
  | [], _ => rfl
  | w :: r, j => by
    rw [shW]
    have st : ∀ (u : sp_W) (R R' : List sp_W), olds R = olds R' → (u.2.2 = w.2.2 ∧ u.1.2.2.1 = w.1.2.2.1) → olds (u :: R) = olds (w :: R') := fun u R R' h1 h2 => by
      unfold olds at *
      rw [List.filterMap_cons, List.filterMap_cons, h2.1, h2.2, h1]
    by_cases e : w.2.1 = k
    · rw [if_pos e]; exact st _ _ _ sh_olds ⟨rfl, rfl⟩
    · rw [if_neg e]; exact st _ _ _ sh_olds ⟨rfl, rfl⟩
theorem sh_tag {x : Nat × Nat} {c k : Nat} : ∀ {W : List sp_W} {j : Nat}, (shW x c k j W).map (fun w => w.2) = W.map (fun w => w.2)
  | [], _ => rfl
  | w :: r, j => by
    rw [shW]
    by_cases e : w.2.1 = k
    · rw [if_pos e, List.map_cons, List.map_cons, sh_tag]
    · rw [if_neg e, List.map_cons, List.map_cons, sh_tag]
theorem pl_app {k : Nat} : ∀ {a b : List sp_W}, (∀ w ∈ a, w.2.1 < k) → (∀ w ∈ b, k < w.2.1) → plW k (a ++ b) = a.length
  | [], [], _, _ => rfl
  | [], w :: b, _, h => by
    show plW k (w :: b) = 0
    rw [plW, if_pos (h w List.mem_cons_self)]
  | v :: a, b, h1, h2 => by
    rw [List.cons_append, plW, if_neg (by have := h1 v List.mem_cons_self; omega), pl_app (fun w hw => h1 w (List.mem_cons_of_mem _ hw)) h2]; rfl
theorem keptW_mem {B : List (Nat × Nat)} {row : List sp_B} {w : sp_W} (h : w ∈ keptW B row) : ∃ b ∈ row, sp_goal B b = some w.2.1 ∧ w = (b, w.2.1, some (b.1, b.2.1)) := by
  unfold keptW at h
  obtain ⟨b, hb, he⟩ := List.mem_filterMap.mp h
  unfold tagK at he
  cases hg : sp_goal B b with
  | none => rw [hg] at he; cases he
  | some k => rw [hg] at he; cases he; exact ⟨b, hb, hg, rfl⟩
theorem keptW_map {B : List (Nat × Nat)} : ∀ {row : List sp_B}, (∀ b ∈ row, ¬ sp_goal B b = none) → (keptW B row).map (·.1) = row
  | [], _ => rfl
  | b :: row, h => by
    cases hg : sp_goal B b with
    | none => exact absurd hg (h b List.mem_cons_self)
    | some k =>
      have e : keptW B (b :: row) = (b, k, some (b.1, b.2.1)) :: keptW B row := by unfold keptW; rw [List.filterMap_cons_some (b := (b, k, some (b.1, b.2.1))) (by unfold tagK; rw [hg]; rfl)]
      rw [e, List.map_cons, keptW_map (fun a ha => h a (List.mem_cons_of_mem _ ha))]
theorem keptW_a (B : List (Nat × Nat)) (a b : List sp_B) : keptW B (a ++ b) = keptW B a ++ keptW B b := List.filterMap_append
theorem kept_goal {B : List (Nat × Nat)} {row : List sp_B} {n : Nat} {b : sp_B} (h : b ∈ sp_kept B row n) : ∃ k, sp_goal B b = some k ∧ n ≤ k := by
  unfold sp_kept at h
  have := (List.mem_filter.mp h).2
  cases hg : sp_goal B b with
  | none => rw [hg] at this; cases this
  | some k => rw [hg] at this; exact ⟨k, rfl, by simpa using this⟩
theorem sel_goal {B : List (Nat × Nat)} {row : List sp_B} {n : Nat} {b : sp_B} (h : b ∈ sel B n row) : sp_goal B b = some n := by
  unfold sel at h
  simpa using (List.mem_filter.mp h).2
theorem keptW_0 {B : List (Nat × Nat)} : ∀ {row : List sp_B}, keptW B (sp_kept B row 0) = keptW B row
  | [] => rfl
  | b :: row => by
    have ih := keptW_0 (B := B) (row := row)
    unfold sp_kept keptW at *
    cases hg : sp_goal B b with
    | none => rw [List.filter_cons_of_neg (by simp [hg]), List.filterMap_cons_none (by unfold tagK; rw [hg]; rfl)]; exact ih
    | some k =>
      rw [List.filter_cons_of_pos (by simp [hg]), List.filterMap_cons_some (b := (b, k, some (b.1, b.2.1))) (by unfold tagK; rw [hg]; rfl), List.filterMap_cons_some (b := (b, k, some (b.1, b.2.1))) (by unfold tagK; rw [hg]; rfl), ih]
theorem rows_eq {B : List (Nat × Nat)} {row : List sp_B} (hg : gmon B row) (h4 : row.length ≤ 4) : ∀ n, n ≤ B.length → ∃ T : List sp_W, shsW B (keptW B row) n = T ++ keptW B (sp_kept B row n) ∧ T.map (·.1) = (sp_renew B row n).1 ∧ (∀ w ∈ T, w.2.1 < n) ∧ olds (T ++ keptW B (sp_kept B row n)) = olds (keptW B row)
  | 0, _ => ⟨[], by rw [keptW_0]; rfl, rfl, fun w hw => by (cases hw), by rw [keptW_0]; rfl⟩
  | n + 1, hn => by
    obtain ⟨T, e1, e2, e3, e4⟩ := rows_eq hg h4 n (by omega)
    have hx := List.getElem?_eq_getElem (show n < B.length by omega)
    generalize B[n] = x at hx
    have hxm := List.mem_of_getElem? hx
    have hst : sp_renew B row (n + 1) = sp_one B row n x (sp_renew B row n) := by rw [sp_renew, hx]
    have hsh : shsW B (keptW B row) (n + 1) = shareW (T ++ keptW B (sp_kept B row n)) n x := by rw [shsW, hx, e1]
    have hcap := renew_cap (B := B) h4 n (by omega)
    have hks := kept_s B n row
    have hkk := kept_split n hg
    rw [hkk, keptW_a] at hsh e4
    have tS : ∀ w ∈ keptW B (sel B n row), w.2.1 = n := fun w hw => by
      obtain ⟨b, hb, hgb, _⟩ := keptW_mem hw
      have := sel_goal hb
      rw [hgb] at this
      exact Option.some.inj this
    have tK : ∀ w ∈ keptW B (sp_kept B row (n + 1)), n < w.2.1 := fun w hw => by
      obtain ⟨b, hb, hgb, _⟩ := keptW_mem hw
      obtain ⟨k, hk, hle⟩ := kept_goal hb
      rw [hgb] at hk
      have := Option.some.inj hk
      omega
    have mS : (keptW B (sel B n row)).map (·.1) = sel B n row := keptW_map (fun b hb => by rw [sel_goal hb]; simp)
    have lS : (keptW B (sel B n row)).length = (sel B n row).length := by
      have := congrArg List.length mS
      rw [List.length_map] at this; exact this
    have mK : (keptW B (sp_kept B row (n + 1))).map (·.1) = sp_kept B row (n + 1) := keptW_map (fun b hb => by obtain ⟨k, hk, _⟩ := kept_goal hb; rw [hk]; simp)
    have lK : (keptW B (sp_kept B row (n + 1))).length = (sp_kept B row (n + 1)).length := by
      have := congrArg List.length mK
      rw [List.length_map] at this; exact this
    have lT : T.length = (sp_renew B row n).1.length := by
      have := congrArg List.length e2
      rw [List.length_map] at this; exact this
    have cT : cnW n T = 0 := cn_0 (fun w hw => by have := e3 w hw; omega)
    have cS : cnW n (keptW B (sel B n row)) = (sel B n row).length := by rw [cn_all tS, lS]
    have cK : cnW n (keptW B (sp_kept B row (n + 1))) = 0 := cn_0 (fun w hw => by have := tK w hw; omega)
    have cA : cnW n (T ++ (keptW B (sel B n row) ++ keptW B (sp_kept B row (n + 1)))) = (sel B n row).length := by rw [cnW_a, cnW_a, cT, cS, cK]; omega
    rw [hst, hsh]
    unfold shareW sp_one
    rw [cA]
    by_cases c1 : 0 < (sel B n row).length
    · rw [if_neg (by omega), if_pos c1]
      refine ⟨T ++ shW x (sel B n row).length n 0 (keptW B (sel B n row)), ?_, ?_, ?_, ?_⟩
      · rw [sh_app, sh_app, sh_0 (fun w hw => by have := e3 w hw; omega), sh_0 (W := keptW B (sp_kept B row (n + 1))) (fun w hw => by have := tK w hw; omega), cT, List.append_assoc]
      · rw [List.map_append, e2, sh_map tS, mS]
        show (sp_renew B row n).1 ++ _ = (sp_renew B row n).1 ++ sp_shs x (sel B n row).length (sel B n row)
        unfold sp_shs
        congr 2
        funext i b
        rw [Nat.zero_add]
      · intro w hw
        rcases List.mem_append.mp hw with q | q
        · have := e3 w q; omega
        · have : w.2 ∈ (keptW B (sel B n row)).map (fun w => w.2) := by rw [← sh_tag (x := x) (c := (sel B n row).length) (k := n) (j := 0)]; exact List.mem_map_of_mem q
          obtain ⟨v, hv, hv2⟩ := List.mem_map.mp this
          have := tS v hv
          rw [← hv2]; omega
      · rw [olds_a, olds_a, sh_olds, ← olds_a, ← olds_a, List.append_assoc]; exact e4
    · rw [if_pos (by omega), if_neg c1]
      have s0 : sel B n row = [] := List.length_eq_zero_iff.mp (by omega)
      have k0 : keptW B (sel B n row) = [] := by rw [s0]; rfl
      rw [k0, List.nil_append] at e4 ⊢
      have hlen : (T ++ keptW B (sp_kept B row (n + 1))).length = (sp_renew B row n).1.length + (sp_kept B row n).length := by rw [List.length_append, lT, lK]; omega
      by_cases c2 : 0 < (sp_renew B row n).2
      · rw [if_pos (by omega), if_pos c2]
        have epl : plW n (T ++ keptW B (sp_kept B row (n + 1))) = T.length := pl_app e3 tK
        have esd : (sideW x (T ++ keptW B (sp_kept B row (n + 1)))).getD (if x.1 + x.2 < 9 then 0 else 1) = sp_side row x := by
          rw [side_olds, e4, side_row hxm]; rfl
        refine ⟨T ++ [newW (T ++ keptW B (sp_kept B row (n + 1))) n x], ?_, ?_, ?_, ?_⟩
        · unfold insW
          rw [epl, List.take_left, List.drop_left, List.append_assoc]; rfl
        · rw [List.map_append, e2]
          show (sp_renew B row n).1 ++ [(newW (T ++ keptW B (sp_kept B row (n + 1))) n x).1] = (sp_renew B row n).1 ++ [sp_ent row x]
          unfold newW sp_ent
          rw [esd]
        · intro w hw
          rcases List.mem_append.mp hw with q | q
          · have := e3 w q; omega
          · simp at q; subst q; show n < n + 1; omega
        · rw [olds_a, olds_a] at *
          have : olds [newW (T ++ keptW B (sp_kept B row (n + 1))) n x] = [] := rfl
          rw [this, List.append_nil]; exact e4
      · rw [if_neg (by omega), if_neg c2]
        exact ⟨T, rfl, e2, fun w hw => by have := e3 w hw; omega, e4⟩
theorem kept_end {B : List (Nat × Nat)} {row : List sp_B} : sp_kept B row B.length = [] := by
  unfold sp_kept
  rw [List.filter_eq_nil_iff]
  intro b _ hz
  cases hg : sp_goal B b with
  | none => rw [hg] at hz; cases hz
  | some k =>
    rw [hg] at hz
    have := goal_lt hg
    have hz : B.length ≤ k := by simpa using hz
    omega
theorem rows_end {B : List (Nat × Nat)} {row : List sp_B} (hg : gmon B row) (h4 : row.length ≤ 4) : (shsW B (keptW B row) B.length).map (·.1) = (sp_renew B row B.length).1 := by
  obtain ⟨T, e1, e2, -, -⟩ := rows_eq hg h4 B.length (Nat.le_refl _)
  rw [e1, kept_end]
  have : keptW B [] = [] := rfl
  rw [this, List.append_nil]; exact e2
theorem sh_okW {x : Nat × Nat} {c k : Nat} (x1 : x.1 ≤ x.2) (x2 : x.2 ≤ 9) : ∀ {W : List sp_W} {j : Nat}, j + cnW k W ≤ c → (∀ w ∈ W, okW w) → ∀ w ∈ shW x c k j W, okW w
  | [], _, _, _, w, hw => by cases hw
  | v :: r, j, hj, h, w, hw => by
    rw [cnW_c] at hj
    rw [shW] at hw
    obtain ⟨o1, o2, o3⟩ := h v List.mem_cons_self
    by_cases e : v.2.1 = k
    · rw [if_pos e] at hw hj
      rcases List.mem_cons.mp hw with q | q
      · subst q; exact ⟨sp_sh_ok x1 x2 (by omega) o1, o2, o3⟩
      · exact sh_okW x1 x2 (by omega) (fun u hu => h u (List.mem_cons_of_mem _ hu)) w q
    · rw [if_neg e] at hw hj
      rcases List.mem_cons.mp hw with q | q
      · subst q; exact ⟨o1, o2, o3⟩
      · exact sh_okW x1 x2 (by omega) (fun u hu => h u (List.mem_cons_of_mem _ hu)) w q
theorem share_ok {W : List sp_W} {k : Nat} {x : Nat × Nat} (x1 : x.1 ≤ x.2) (x2 : x.2 ≤ 9) (hk : k < 4) (h : ∀ w ∈ W, okW w) : ∀ w ∈ shareW W k x, okW w := by
  unfold shareW
  by_cases c1 : cnW k W = 0
  · rw [if_pos c1]
    by_cases c2 : W.length < 4
    · rw [if_pos c2]
      intro w hw
      unfold insW at hw
      rcases List.mem_append.mp hw with q | q
      · exact h w (List.mem_of_mem_take q)
      · rcases List.mem_cons.mp q with q | q
        · subst q
          refine ⟨⟨x1, x2, ?_, by show x.2 - x.1 + 1 ≤ 10; omega, Or.inl rfl⟩, hk, fun o ho => by cases ho⟩
          show (sideW x W).getD _ ≤ 1
          cases hs : sideW x W with
          | none => show (if x.1 + x.2 < 9 then 0 else 1) ≤ 1; split <;> omega
          | some s => exact side_ok h s hs
        · exact h w (List.mem_of_mem_drop q)
    · rw [if_neg c2]; exact h
  · rw [if_neg c1]; exact sh_okW x1 x2 (by omega) h
/-! the new row is in order -/
theorem sh_srt {x : Nat × Nat} {c : Nat} (x1 : x.1 ≤ x.2) : ∀ (S : List sp_B) (j : Nat), j + S.length ≤ c → srt (S.mapIdx (fun i b => sp_sh x c (j + i) b)) ∧ ∀ b ∈ S.mapIdx (fun i b => sp_sh x c (j + i) b), x.1 + j * (x.2 - x.1 + 1) / c ≤ b.1 ∧ max (x.1 + j * (x.2 - x.1 + 1) / c) (x.1 + (j + 1) * (x.2 - x.1 + 1) / c - 1) ≤ b.2.1 ∧ b.2.1 ≤ x.2
  | [], _, _ => ⟨List.Pairwise.nil, fun b hb => by cases hb⟩
  | a :: S, j, hj => by
    rw [List.length_cons] at hj
    have ih := sh_srt (c := c) x1 S (j + 1) (by omega)
    have ef : (fun (i : Nat) (b : sp_B) => sp_sh x c (j + (i + 1)) b) = (fun i b => sp_sh x c (j + 1 + i) b) := by
      funext i b
      have : j + (i + 1) = j + 1 + i := by omega
      rw [this]
    rw [List.mapIdx_cons]
    show srt (sp_sh x c (j + 0) a :: S.mapIdx (fun i b => sp_sh x c (j + (i + 1)) b)) ∧ ∀ b ∈ sp_sh x c (j + 0) a :: S.mapIdx (fun i b => sp_sh x c (j + (i + 1)) b), _
    rw [ef, Nat.add_zero]
    have m1 : j * (x.2 - x.1 + 1) / c ≤ (j + 1) * (x.2 - x.1 + 1) / c := Nat.div_le_div_right (Nat.mul_le_mul_right _ (by omega))
    have m2 : (j + 1) * (x.2 - x.1 + 1) / c ≤ (j + 1 + 1) * (x.2 - x.1 + 1) / c := Nat.div_le_div_right (Nat.mul_le_mul_right _ (by omega))
    obtain ⟨s1, s2⟩ := sh_in (x := x) (c := c) (j := j) x1 (by omega)
    have mono : ∀ b ∈ S.mapIdx (fun i b => sp_sh x c (j + 1 + i) b), x.1 + j * (x.2 - x.1 + 1) / c ≤ b.1 ∧ max (x.1 + j * (x.2 - x.1 + 1) / c) (x.1 + (j + 1) * (x.2 - x.1 + 1) / c - 1) ≤ b.2.1 ∧ b.2.1 ≤ x.2 := fun b hb => by
      obtain ⟨h1, h2, h3⟩ := ih.2 b hb
      have h2' := Nat.max_le.mp h2
      exact ⟨by omega, Nat.max_le.mpr ⟨by omega, by omega⟩, h3⟩
    refine ⟨List.pairwise_cons.mpr ⟨fun b hb => ?_, ih.1⟩, fun b hb => ?_⟩
    · obtain ⟨h1, h2, h3⟩ := mono b hb
      exact ⟨h1, h2⟩
    · rcases List.mem_cons.mp hb with q | q
      · subst q; exact ⟨Nat.le_refl _, Nat.le_refl _, Nat.max_le.mpr ⟨s1, s2⟩⟩
      · exact mono b q
theorem renew_srt {B : List (Nat × Nat)} {row : List sp_B} (hB : okBl B) (hs : srtB B) : ∀ n, n ≤ B.length → srt (sp_renew B row n).1 ∧ ∀ b ∈ (sp_renew B row n).1, b.1 ≤ b.2.1 ∧ ∃ m x, m < n ∧ B[m]? = some x ∧ b.2.1 ≤ x.2
  | 0, _ => ⟨List.Pairwise.nil, fun b hb => by (cases hb)⟩
  | n + 1, hn => by
    have ih := renew_srt (row := row) hB hs n (by omega)
    have hx := List.getElem?_eq_getElem (show n < B.length by omega)
    generalize B[n] = x at hx
    obtain ⟨x1, x2⟩ := hB x (List.mem_of_getElem? hx)
    have hst : sp_renew B row (n + 1) = sp_one B row n x (sp_renew B row n) := by rw [sp_renew, hx]
    rw [hst]
    have low : ∀ b ∈ (sp_renew B row n).1, b.1 ≤ b.2.1 ∧ b.2.1 < x.1 := fun b hb => by
      obtain ⟨h0, m, y, hm, hy, hle⟩ := ih.2 b hb
      have := srtB_at hs hy hx hm
      exact ⟨h0, by omega⟩
    have keep : ∀ b ∈ (sp_renew B row n).1, b.1 ≤ b.2.1 ∧ ∃ m x, m < n + 1 ∧ B[m]? = some x ∧ b.2.1 ≤ x.2 := fun b hb => by
      obtain ⟨h0, m, y, hm, hy, hle⟩ := ih.2 b hb
      exact ⟨h0, m, y, by omega, hy, hle⟩
    have add : ∀ N : List sp_B, srt N → (∀ b ∈ N, x.1 ≤ b.1 ∧ b.1 ≤ b.2.1 ∧ b.2.1 ≤ x.2) → srt ((sp_renew B row n).1 ++ N) ∧ ∀ b ∈ (sp_renew B row n).1 ++ N, b.1 ≤ b.2.1 ∧ ∃ m x, m < n + 1 ∧ B[m]? = some x ∧ b.2.1 ≤ x.2 := fun N h1 h2 => by
      refine ⟨List.pairwise_append.mpr ⟨ih.1, h1, fun a ha b hb => ?_⟩, fun b hb => ?_⟩
      · have := low a ha
        have := h2 b hb
        omega
      · rcases List.mem_append.mp hb with q | q
        · exact keep b q
        · exact ⟨(h2 b q).2.1, n, x, by omega, hx, (h2 b q).2.2⟩
    unfold sp_one
    by_cases c1 : 0 < (sel B n row).length
    · rw [if_pos c1]
      have sh := sh_srt (x := x) (c := (sel B n row).length) x1 (sel B n row) 0 (by omega)
      have ef : (fun i b => sp_sh x (sel B n row).length (0 + i) b) = (fun j b => sp_sh x (sel B n row).length j b) := by funext i b; rw [Nat.zero_add]
      rw [ef] at sh
      refine add (sp_shs x (sel B n row).length (sel B n row)) sh.1 (fun b hb => ?_)
      obtain ⟨h1, h2, h3⟩ := sh.2 b hb
      unfold sp_shs at hb
      obtain ⟨i, hi, rfl⟩ := List.mem_mapIdx.mp hb
      exact ⟨Nat.le_trans (Nat.le_add_right _ _) h1, Nat.le_max_left _ _, h3⟩
    · rw [if_neg c1]
      by_cases c2 : 0 < (sp_renew B row n).2
      · rw [if_pos c2]
        exact add [sp_ent row x] (List.pairwise_singleton _ _) (fun b hb => by simp at hb; subst hb; exact ⟨Nat.le_refl _, x1, Nat.le_refl _⟩)
      · rw [if_neg c2]; exact ⟨ih.1, keep⟩
theorem pay1_iv (y : sp_B) (qs : sp_Q × sp_Q) : (sp_pay1 y qs).1.1 = y.1 ∧ (sp_pay1 y qs).1.2.1 = y.2.1 := by
  obtain ⟨q0, q1⟩ := qs
  unfold sp_pay1
  by_cases c : y.2.2.2.1 = -1 ∧ rched y
  · rw [if_pos c]
    by_cases c2 : y.2.2.1 = 0
    · rw [if_pos c2]
      cases q0 <;> exact ⟨rfl, rfl⟩
    · rw [if_neg c2]
      cases q1 <;> exact ⟨rfl, rfl⟩
  · rw [if_neg c]; exact ⟨rfl, rfl⟩
theorem pay_mem : ∀ {row : List sp_B} {qs : sp_Q × sp_Q} {b : sp_B}, b ∈ (sp_pay row qs).1 → ∃ a ∈ row, a.1 = b.1 ∧ a.2.1 = b.2.1
  | [], _, b, hb => by cases hb
  | y :: r, qs, b, hb => by
    rcases List.mem_cons.mp hb with q | q
    · subst q; exact ⟨y, List.mem_cons_self, (pay1_iv y qs).1.symm, (pay1_iv y qs).2.symm⟩
    · obtain ⟨a, ha, h1⟩ := pay_mem q
      exact ⟨a, List.mem_cons_of_mem _ ha, h1⟩
theorem pay_srt : ∀ {row : List sp_B} {qs : sp_Q × sp_Q}, srt row → srt (sp_pay row qs).1
  | [], _, h => h
  | y :: r, qs, h => by
    obtain ⟨h1, h2⟩ := List.pairwise_cons.mp h
    refine List.pairwise_cons.mpr ⟨fun b hb => ?_, pay_srt h2⟩
    obtain ⟨a, ha, e1, e2⟩ := pay_mem hb
    obtain ⟨i1, i2⟩ := pay1_iv y qs
    have := h1 a ha
    rw [i1, i2]; omega
