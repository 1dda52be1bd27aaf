/-! THE CLASS's memory: static cells by roles, dynamic ones behind -/
def kArr : List (Nat × Nat × Nat) := [(0, 12, 17), (8, 10, 5), (9, 9, 9), (10, 11, 3), (11, 105, 8), (12, 105, 6), (13, 100, 8), (14, 4, 2), (15, 100, 20), (16, 100, 24), (17, 102, 160), (18, 100, 160), (19, 100, 160), (20, 100, 4), (21, 100, 4), (22, 100, 8), (23, 100, 8), (24, 100, 8), (25, 100, 8), (26, 100, 200), (27, 100, 200), (30, 100, 4), (31, 100, 4), (32, 100, 4), (33, 100, 4), (34, 100, 4), (35, 100, 4), (36, 100, 4), (37, 100, 4), (40, 100, 200), (41, 100, 200), (42, 100, 200), (43, 100, 200), (44, 100, 200), (45, 100, 200)]
/-- what a static cell holds: τ the roles' addresses, κ the ints -/
def kV (τ : Nat → Nat) (κ : MS) (r : Nat) : Nat → Value := match r with
  | 0 => fun k => match k with
    | 0 => .int (κ.1 0)
    | k + 1 => .ref (τ (k + 1))
  | 8 => fun k => match k with
    | 0 => .ref (τ 17)
    | 1 => .int (κ.1 81)
    | 2 => .int (κ.1 82)
    | 3 => .ref (τ 18)
    | 4 => .int (κ.1 84)
    | _ => .null
  | 9 => fun k => match k with
    | 0 => .ref (τ 20)
    | 1 => .ref (τ 21)
    | 2 => .int (κ.1 92)
    | 3 => .ref (τ 22)
    | 4 => .ref (τ 23)
    | 5 => .int (κ.1 95)
    | 6 => .ref (τ 24)
    | 7 => .ref (τ 25)
    | 8 => .int (κ.1 98)
    | _ => .null
  | 10 => fun k => match k with
    | 0 => .ref (τ 26)
    | 1 => .ref (τ 27)
    | 2 => .int (κ.1 102)
    | _ => .null
  | 11 => fun i => .ref (τ (30 + i))
  | 12 => fun i => .ref (τ (40 + i))
  | 14 => fun k => match k with
    | 0 => .ref (τ 19)
    | 1 => .int (κ.1 141)
    | _ => .null
  | r => fun i => .int (κ.2 r i)
def cmA (τ : Nat → Nat) (κ : MS) (Md : Mem) : List (Nat × Nat × Nat) → Mem
  | [] => Md
  | (r, c, n) :: t => fun a => if a = τ r then some (c, n, kV τ κ r) else cmA τ κ Md t a
def cm (τ : Nat → Nat) (κ : MS) (Md : Mem) : Mem := cmA τ κ Md kArr
theorem kArr_lt : ∀ q ∈ kArr, q.1 < 100 := by decide
theorem cmA_get {τ : Nat → Nat} {κ : MS} {Md : Mem} (hi : adOK τ) : ∀ (l : List (Nat × Nat × Nat)), (∀ q ∈ l, q.1 < 100) → ∀ {k c n : Nat}, mFind l k = some (c, n) → cmA τ κ Md l (τ k) = some (c, n, kV τ κ k)
  | [], _, _, _, _, h => by cases h
  | (j, c0, n0) :: t, hl, k, c, n, h => by
    have hm := mFind_mem h
    have hk : k < 100 := hl _ hm
    have hj : j < 100 := hl (j, c0, n0) List.mem_cons_self
    unfold mFind at h
    cases e1 : Nat.beq j k with
    | true =>
      rw [e1] at h
      have e2 : j = k := Nat.eq_of_beq_eq_true e1
      subst e2
      cases h
      exact if_pos rfl
    | false =>
      rw [e1] at h
      have e2 : j ≠ k := Nat.ne_of_beq_eq_false e1
      show (if τ k = τ j then _ else _) = _
      rw [if_neg (fun z => e2 (hi j k hj hk z.symm))]
      exact cmA_get hi t (fun q hq => hl q (List.mem_cons_of_mem _ hq)) h
/-- a static cell -/
theorem kc {τ : Nat → Nat} {κ : MS} {Md : Mem} (hi : adOK τ) {k c n : Nat} (h : mFind kArr k = some (c, n)) : cm τ κ Md (τ k) = some (c, n, kV τ κ k) := cmA_get hi kArr kArr_lt h
theorem cmA_dyn {τ : Nat → Nat} {κ : MS} {Md : Mem} {a : Nat} {c : Cel} (h : Md a = some c) : ∀ (l : List (Nat × Nat × Nat)), (∀ q ∈ l, a ≠ τ q.1) → cmA τ κ Md l a = some c
  | [], _ => h
  | (j, c0, n0) :: t, hl => by
    show (if a = τ j then _ else _) = _
    rw [if_neg (hl (j, c0, n0) List.mem_cons_self)]
    exact cmA_dyn h t (fun q hq => hl q (List.mem_cons_of_mem _ hq))
/-- no dynamic cell lies at a static one's place -/
def Apt (τ : Nat → Nat) (Md : Mem) : Prop := ∀ q ∈ kArr, Md (τ q.1) = none
theorem kd {τ : Nat → Nat} {κ : MS} {Md : Mem} (hA : Apt τ Md) {a : Nat} {c : Cel} (h : Md a = some c) : cm τ κ Md a = some c :=
  cmA_dyn h kArr (fun q hq z => by have := hA q hq; rw [← z, h] at this; cases this)
theorem cmA_upd {τ : Nat → Nat} {κ κ' : MS} {Md : Mem} {k : Nat} (h2 : ∀ j, j ≠ k → kV τ κ' j = kV τ κ j) : ∀ (l : List (Nat × Nat × Nat)) (a : Nat), a ≠ τ k → cmA τ κ' Md l a = cmA τ κ Md l a
  | [], _, _ => rfl
  | (j, c0, n0) :: t, a, ha => by
    show (if a = τ j then some (c0, n0, kV τ κ' j) else cmA τ κ' Md t a) = (if a = τ j then some (c0, n0, kV τ κ j) else cmA τ κ Md t a)
    by_cases e : a = τ j
    · rw [if_pos e, if_pos e, h2 j (fun z => ha (by rw [e, z]))]
    · rw [if_neg e, if_neg e, cmA_upd h2 t a ha]
theorem cm_upd {τ : Nat → Nat} {κ κ' : MS} {Md : Mem} (hi : adOK τ) {k c n : Nat} {f : Nat → Value} (h : mFind kArr k = some (c, n)) (h1 : kV τ κ' k = f) (h2 : ∀ j, j ≠ k → kV τ κ' j = kV τ κ j) : mset (cm τ κ Md) (τ k) (c, n, f) = cm τ κ' Md := by
  funext a
  by_cases e : a = τ k
  · subst e; rw [mset_eq, kc hi h, h1]
  · rw [mset_ne e]; exact (cmA_upd h2 kArr a e).symm
/-- a row of ints -/
def kRow (r : Nat) : Bool := !(Nat.beq r 0 || Nat.beq r 8 || Nat.beq r 9 || Nat.beq r 10 || Nat.beq r 11 || Nat.beq r 12 || Nat.beq r 14)
theorem kV_row {τ : Nat → Nat} {κ : MS} {r : Nat} (h : kRow r = true) : kV τ κ r = fun i => .int (κ.2 r i) := by
  unfold kV
  split <;> first | rfl | (exact absurd h (by decide))
theorem kV_seta {τ : Nat → Nat} {κ : MS} {r i : Nat} {v : Int32} (h : kRow r = true) : kV τ (seta κ r i v) r = updV (fun j => .int (κ.2 r j)) i (.int v) := by
  rw [kV_row h]
  funext j
  rw [seta_eq]
  by_cases e : j = i
  · subst e; rw [updV_eq, updB_eq]
  · rw [updV_ne e, updB_ne e]
theorem kV_setan {τ : Nat → Nat} {κ : MS} {r i : Nat} {v : Int32} : ∀ j, j ≠ r → kV τ (seta κ r i v) j = kV τ κ j := by
  intro j hj
  have e := seta_ne (σ := κ) (i := i) (v := v) hj
  unfold kV
  split <;> first | rfl | (funext x; rw [e])
theorem cm_seta {τ : Nat → Nat} {κ : MS} {Md : Mem} (hi : adOK τ) {r c n i : Nat} {v : Int32} (h : mFind kArr r = some (c, n)) (hr : kRow r = true) : mset (cm τ κ Md) (τ r) (c, n, updV (fun j => .int (κ.2 r j)) i (.int v)) = cm τ (seta κ r i v) Md :=
  cm_upd hi h (kV_seta hr) kV_setan
theorem kf_0 : mFind kArr 0 = some (12, 17) := rfl
theorem kf_8 : mFind kArr 8 = some (10, 5) := rfl
theorem kf_9 : mFind kArr 9 = some (9, 9) := rfl
theorem kf_10 : mFind kArr 10 = some (11, 3) := rfl
theorem kf_11 : mFind kArr 11 = some (105, 8) := rfl
theorem kf_12 : mFind kArr 12 = some (105, 6) := rfl
theorem kf_13 : mFind kArr 13 = some (100, 8) := rfl
theorem kf_14 : mFind kArr 14 = some (4, 2) := rfl
theorem kf_15 : mFind kArr 15 = some (100, 20) := rfl
theorem kf_16 : mFind kArr 16 = some (100, 24) := rfl
theorem kf_17 : mFind kArr 17 = some (102, 160) := rfl
theorem kf_18 : mFind kArr 18 = some (100, 160) := rfl
theorem kf_19 : mFind kArr 19 = some (100, 160) := rfl
theorem kf_20 : mFind kArr 20 = some (100, 4) := rfl
theorem kf_21 : mFind kArr 21 = some (100, 4) := rfl
theorem kf_22 : mFind kArr 22 = some (100, 8) := rfl
theorem kf_23 : mFind kArr 23 = some (100, 8) := rfl
theorem kf_24 : mFind kArr 24 = some (100, 8) := rfl
theorem kf_25 : mFind kArr 25 = some (100, 8) := rfl
theorem kf_26 : mFind kArr 26 = some (100, 200) := rfl
theorem kf_27 : mFind kArr 27 = some (100, 200) := rfl
theorem kf_30 : mFind kArr 30 = some (100, 4) := rfl
theorem kf_31 : mFind kArr 31 = some (100, 4) := rfl
theorem kf_32 : mFind kArr 32 = some (100, 4) := rfl
theorem kf_33 : mFind kArr 33 = some (100, 4) := rfl
theorem kf_34 : mFind kArr 34 = some (100, 4) := rfl
theorem kf_35 : mFind kArr 35 = some (100, 4) := rfl
theorem kf_36 : mFind kArr 36 = some (100, 4) := rfl
theorem kf_37 : mFind kArr 37 = some (100, 4) := rfl
theorem kf_40 : mFind kArr 40 = some (100, 200) := rfl
theorem kf_41 : mFind kArr 41 = some (100, 200) := rfl
theorem kf_42 : mFind kArr 42 = some (100, 200) := rfl
theorem kf_43 : mFind kArr 43 = some (100, 200) := rfl
theorem kf_44 : mFind kArr 44 = some (100, 200) := rfl
theorem kf_45 : mFind kArr 45 = some (100, 200) := rfl
theorem kv_0_0 {τ : Nat → Nat} {κ : MS} : kV τ κ 0 0 = .int (κ.1 0) := rfl
theorem kp_0_0 {τ : Nat → Nat} {κ : MS} {Md : Mem} (hi : adOK τ) {v : Int32} : mset (cm τ κ Md) (τ 0) (12, 17, updV (kV τ κ 0) 0 (.int v)) = cm τ (seti κ 0 v) Md := by
  refine cm_upd hi kf_0 ?_ ?_
  · funext j
    by_cases e : j = 0
    · subst e; rw [updV_eq]; show Value.int (updB κ.1 0 v 0) = _; rw [updB_eq]
    · rw [updV_ne e]
      match j, e with
      | 0, e => first | rfl | exact absurd rfl e
      | 1, e => first | rfl | exact absurd rfl e
      | 2, e => first | rfl | exact absurd rfl e
      | 3, e => first | rfl | exact absurd rfl e
      | 4, e => first | rfl | exact absurd rfl e
      | 5, e => first | rfl | exact absurd rfl e
      | 6, e => first | rfl | exact absurd rfl e
      | 7, e => first | rfl | exact absurd rfl e
      | 8, e => first | rfl | exact absurd rfl e
      | n + 9, e => rfl
  · intro j hj
    have hn : ∀ s : Nat, s ≠ 0 → (seti κ 0 v).1 s = κ.1 s := fun s hs => seti_ne hs
    unfold kV
    split <;> first | rfl | (exact absurd rfl hj) | (funext s; split <;> first | rfl | (rw [hn _ (by decide)]))
theorem kv_0_1 {τ : Nat → Nat} {κ : MS} : kV τ κ 0 1 = .ref (τ 1) := rfl
theorem kv_0_2 {τ : Nat → Nat} {κ : MS} : kV τ κ 0 2 = .ref (τ 2) := rfl
theorem kv_0_3 {τ : Nat → Nat} {κ : MS} : kV τ κ 0 3 = .ref (τ 3) := rfl
theorem kv_0_4 {τ : Nat → Nat} {κ : MS} : kV τ κ 0 4 = .ref (τ 4) := rfl
theorem kv_0_5 {τ : Nat → Nat} {κ : MS} : kV τ κ 0 5 = .ref (τ 5) := rfl
theorem kv_0_6 {τ : Nat → Nat} {κ : MS} : kV τ κ 0 6 = .ref (τ 6) := rfl
theorem kv_0_7 {τ : Nat → Nat} {κ : MS} : kV τ κ 0 7 = .ref (τ 7) := rfl
theorem kv_0_8 {τ : Nat → Nat} {κ : MS} : kV τ κ 0 8 = .ref (τ 8) := rfl
theorem kv_0_9 {τ : Nat → Nat} {κ : MS} : kV τ κ 0 9 = .ref (τ 9) := rfl
theorem kv_0_10 {τ : Nat → Nat} {κ : MS} : kV τ κ 0 10 = .ref (τ 10) := rfl
theorem kv_0_11 {τ : Nat → Nat} {κ : MS} : kV τ κ 0 11 = .ref (τ 11) := rfl
theorem kv_0_12 {τ : Nat → Nat} {κ : MS} : kV τ κ 0 12 = .ref (τ 12) := rfl
theorem kv_0_13 {τ : Nat → Nat} {κ : MS} : kV τ κ 0 13 = .ref (τ 13) := rfl
theorem kv_0_14 {τ : Nat → Nat} {κ : MS} : kV τ κ 0 14 = .ref (τ 14) := rfl
theorem kv_0_15 {τ : Nat → Nat} {κ : MS} : kV τ κ 0 15 = .ref (τ 15) := rfl
theorem kv_0_16 {τ : Nat → Nat} {κ : MS} : kV τ κ 0 16 = .ref (τ 16) := rfl
theorem kv_8_0 {τ : Nat → Nat} {κ : MS} : kV τ κ 8 0 = .ref (τ 17) := rfl
theorem kv_8_1 {τ : Nat → Nat} {κ : MS} : kV τ κ 8 1 = .int (κ.1 81) := rfl
theorem kp_8_1 {τ : Nat → Nat} {κ : MS} {Md : Mem} (hi : adOK τ) {v : Int32} : mset (cm τ κ Md) (τ 8) (10, 5, updV (kV τ κ 8) 1 (.int v)) = cm τ (seti κ 81 v) Md := by
  refine cm_upd hi kf_8 ?_ ?_
  · funext j
    by_cases e : j = 1
    · subst e; rw [updV_eq]; show Value.int (updB κ.1 81 v 81) = _; rw [updB_eq]
    · rw [updV_ne e]
      match j, e with
      | 0, e => first | rfl | exact absurd rfl e
      | 1, e => first | rfl | exact absurd rfl e
      | 2, e => first | rfl | exact absurd rfl e
      | 3, e => first | rfl | exact absurd rfl e
      | 4, e => first | rfl | exact absurd rfl e
      | 5, e => first | rfl | exact absurd rfl e
      | 6, e => first | rfl | exact absurd rfl e
      | 7, e => first | rfl | exact absurd rfl e
      | 8, e => first | rfl | exact absurd rfl e
      | n + 9, e => rfl
  · intro j hj
    have hn : ∀ s : Nat, s ≠ 81 → (seti κ 81 v).1 s = κ.1 s := fun s hs => seti_ne hs
    unfold kV
    split <;> first | rfl | (exact absurd rfl hj) | (funext s; split <;> first | rfl | (rw [hn _ (by decide)]))
theorem kv_8_2 {τ : Nat → Nat} {κ : MS} : kV τ κ 8 2 = .int (κ.1 82) := rfl
theorem kp_8_2 {τ : Nat → Nat} {κ : MS} {Md : Mem} (hi : adOK τ) {v : Int32} : mset (cm τ κ Md) (τ 8) (10, 5, updV (kV τ κ 8) 2 (.int v)) = cm τ (seti κ 82 v) Md := by
  refine cm_upd hi kf_8 ?_ ?_
  · funext j
    by_cases e : j = 2
    · subst e; rw [updV_eq]; show Value.int (updB κ.1 82 v 82) = _; rw [updB_eq]
    · rw [updV_ne e]
      match j, e with
      | 0, e => first | rfl | exact absurd rfl e
      | 1, e => first | rfl | exact absurd rfl e
      | 2, e => first | rfl | exact absurd rfl e
      | 3, e => first | rfl | exact absurd rfl e
      | 4, e => first | rfl | exact absurd rfl e
      | 5, e => first | rfl | exact absurd rfl e
      | 6, e => first | rfl | exact absurd rfl e
      | 7, e => first | rfl | exact absurd rfl e
      | 8, e => first | rfl | exact absurd rfl e
      | n + 9, e => rfl
  · intro j hj
    have hn : ∀ s : Nat, s ≠ 82 → (seti κ 82 v).1 s = κ.1 s := fun s hs => seti_ne hs
    unfold kV
    split <;> first | rfl | (exact absurd rfl hj) | (funext s; split <;> first | rfl | (rw [hn _ (by decide)]))
theorem kv_8_3 {τ : Nat → Nat} {κ : MS} : kV τ κ 8 3 = .ref (τ 18) := rfl
theorem kv_8_4 {τ : Nat → Nat} {κ : MS} : kV τ κ 8 4 = .int (κ.1 84) := rfl
theorem kp_8_4 {τ : Nat → Nat} {κ : MS} {Md : Mem} (hi : adOK τ) {v : Int32} : mset (cm τ κ Md) (τ 8) (10, 5, updV (kV τ κ 8) 4 (.int v)) = cm τ (seti κ 84 v) Md := by
  refine cm_upd hi kf_8 ?_ ?_
  · funext j
    by_cases e : j = 4
    · subst e; rw [updV_eq]; show Value.int (updB κ.1 84 v 84) = _; rw [updB_eq]
    · rw [updV_ne e]
      match j, e with
      | 0, e => first | rfl | exact absurd rfl e
      | 1, e => first | rfl | exact absurd rfl e
      | 2, e => first | rfl | exact absurd rfl e
      | 3, e => first | rfl | exact absurd rfl e
      | 4, e => first | rfl | exact absurd rfl e
      | 5, e => first | rfl | exact absurd rfl e
      | 6, e => first | rfl | exact absurd rfl e
      | 7, e => first | rfl | exact absurd rfl e
      | 8, e => first | rfl | exact absurd rfl e
      | n + 9, e => rfl
  · intro j hj
    have hn : ∀ s : Nat, s ≠ 84 → (seti κ 84 v).1 s = κ.1 s := fun s hs => seti_ne hs
    unfold kV
    split <;> first | rfl | (exact absurd rfl hj) | (funext s; split <;> first | rfl | (rw [hn _ (by decide)]))
theorem kv_9_0 {τ : Nat → Nat} {κ : MS} : kV τ κ 9 0 = .ref (τ 20) := rfl
theorem kv_9_1 {τ : Nat → Nat} {κ : MS} : kV τ κ 9 1 = .ref (τ 21) := rfl
theorem kv_9_2 {τ : Nat → Nat} {κ : MS} : kV τ κ 9 2 = .int (κ.1 92) := rfl
theorem kp_9_2 {τ : Nat → Nat} {κ : MS} {Md : Mem} (hi : adOK τ) {v : Int32} : mset (cm τ κ Md) (τ 9) (9, 9, updV (kV τ κ 9) 2 (.int v)) = cm τ (seti κ 92 v) Md := by
  refine cm_upd hi kf_9 ?_ ?_
  · funext j
    by_cases e : j = 2
    · subst e; rw [updV_eq]; show Value.int (updB κ.1 92 v 92) = _; rw [updB_eq]
    · rw [updV_ne e]
      match j, e with
      | 0, e => first | rfl | exact absurd rfl e
      | 1, e => first | rfl | exact absurd rfl e
      | 2, e => first | rfl | exact absurd rfl e
      | 3, e => first | rfl | exact absurd rfl e
      | 4, e => first | rfl | exact absurd rfl e
      | 5, e => first | rfl | exact absurd rfl e
      | 6, e => first | rfl | exact absurd rfl e
      | 7, e => first | rfl | exact absurd rfl e
      | 8, e => first | rfl | exact absurd rfl e
      | n + 9, e => rfl
  · intro j hj
    have hn : ∀ s : Nat, s ≠ 92 → (seti κ 92 v).1 s = κ.1 s := fun s hs => seti_ne hs
    unfold kV
    split <;> first | rfl | (exact absurd rfl hj) | (funext s; split <;> first | rfl | (rw [hn _ (by decide)]))
theorem kv_9_3 {τ : Nat → Nat} {κ : MS} : kV τ κ 9 3 = .ref (τ 22) := rfl
theorem kv_9_4 {τ : Nat → Nat} {κ : MS} : kV τ κ 9 4 = .ref (τ 23) := rfl
theorem kv_9_5 {τ : Nat → Nat} {κ : MS} : kV τ κ 9 5 = .int (κ.1 95) := rfl
theorem kp_9_5 {τ : Nat → Nat} {κ : MS} {Md : Mem} (hi : adOK τ) {v : Int32} : mset (cm τ κ Md) (τ 9) (9, 9, updV (kV τ κ 9) 5 (.int v)) = cm τ (seti κ 95 v) Md := by
  refine cm_upd hi kf_9 ?_ ?_
  · funext j
    by_cases e : j = 5
    · subst e; rw [updV_eq]; show Value.int (updB κ.1 95 v 95) = _; rw [updB_eq]
    · rw [updV_ne e]
      match j, e with
      | 0, e => first | rfl | exact absurd rfl e
      | 1, e => first | rfl | exact absurd rfl e
      | 2, e => first | rfl | exact absurd rfl e
      | 3, e => first | rfl | exact absurd rfl e
      | 4, e => first | rfl | exact absurd rfl e
      | 5, e => first | rfl | exact absurd rfl e
      | 6, e => first | rfl | exact absurd rfl e
      | 7, e => first | rfl | exact absurd rfl e
      | 8, e => first | rfl | exact absurd rfl e
      | n + 9, e => rfl
  · intro j hj
    have hn : ∀ s : Nat, s ≠ 95 → (seti κ 95 v).1 s = κ.1 s := fun s hs => seti_ne hs
    unfold kV
    split <;> first | rfl | (exact absurd rfl hj) | (funext s; split <;> first | rfl | (rw [hn _ (by decide)]))
theorem kv_9_6 {τ : Nat → Nat} {κ : MS} : kV τ κ 9 6 = .ref (τ 24) := rfl
theorem kv_9_7 {τ : Nat → Nat} {κ : MS} : kV τ κ 9 7 = .ref (τ 25) := rfl
theorem kv_9_8 {τ : Nat → Nat} {κ : MS} : kV τ κ 9 8 = .int (κ.1 98) := rfl
theorem kp_9_8 {τ : Nat → Nat} {κ : MS} {Md : Mem} (hi : adOK τ) {v : Int32} : mset (cm τ κ Md) (τ 9) (9, 9, updV (kV τ κ 9) 8 (.int v)) = cm τ (seti κ 98 v) Md := by
  refine cm_upd hi kf_9 ?_ ?_
  · funext j
    by_cases e : j = 8
    · subst e; rw [updV_eq]; show Value.int (updB κ.1 98 v 98) = _; rw [updB_eq]
    · rw [updV_ne e]
      match j, e with
      | 0, e => first | rfl | exact absurd rfl e
      | 1, e => first | rfl | exact absurd rfl e
      | 2, e => first | rfl | exact absurd rfl e
      | 3, e => first | rfl | exact absurd rfl e
      | 4, e => first | rfl | exact absurd rfl e
      | 5, e => first | rfl | exact absurd rfl e
      | 6, e => first | rfl | exact absurd rfl e
      | 7, e => first | rfl | exact absurd rfl e
      | 8, e => first | rfl | exact absurd rfl e
      | n + 9, e => rfl
  · intro j hj
    have hn : ∀ s : Nat, s ≠ 98 → (seti κ 98 v).1 s = κ.1 s := fun s hs => seti_ne hs
    unfold kV
    split <;> first | rfl | (exact absurd rfl hj) | (funext s; split <;> first | rfl | (rw [hn _ (by decide)]))
theorem kv_10_0 {τ : Nat → Nat} {κ : MS} : kV τ κ 10 0 = .ref (τ 26) := rfl
theorem kv_10_1 {τ : Nat → Nat} {κ : MS} : kV τ κ 10 1 = .ref (τ 27) := rfl
theorem kv_10_2 {τ : Nat → Nat} {κ : MS} : kV τ κ 10 2 = .int (κ.1 102) := rfl
theorem kp_10_2 {τ : Nat → Nat} {κ : MS} {Md : Mem} (hi : adOK τ) {v : Int32} : mset (cm τ κ Md) (τ 10) (11, 3, updV (kV τ κ 10) 2 (.int v)) = cm τ (seti κ 102 v) Md := by
  refine cm_upd hi kf_10 ?_ ?_
  · funext j
    by_cases e : j = 2
    · subst e; rw [updV_eq]; show Value.int (updB κ.1 102 v 102) = _; rw [updB_eq]
    · rw [updV_ne e]
      match j, e with
      | 0, e => first | rfl | exact absurd rfl e
      | 1, e => first | rfl | exact absurd rfl e
      | 2, e => first | rfl | exact absurd rfl e
      | 3, e => first | rfl | exact absurd rfl e
      | 4, e => first | rfl | exact absurd rfl e
      | 5, e => first | rfl | exact absurd rfl e
      | 6, e => first | rfl | exact absurd rfl e
      | 7, e => first | rfl | exact absurd rfl e
      | 8, e => first | rfl | exact absurd rfl e
      | n + 9, e => rfl
  · intro j hj
    have hn : ∀ s : Nat, s ≠ 102 → (seti κ 102 v).1 s = κ.1 s := fun s hs => seti_ne hs
    unfold kV
    split <;> first | rfl | (exact absurd rfl hj) | (funext s; split <;> first | rfl | (rw [hn _ (by decide)]))
theorem kv_14_0 {τ : Nat → Nat} {κ : MS} : kV τ κ 14 0 = .ref (τ 19) := rfl
theorem kv_14_1 {τ : Nat → Nat} {κ : MS} : kV τ κ 14 1 = .int (κ.1 141) := rfl
theorem kp_14_1 {τ : Nat → Nat} {κ : MS} {Md : Mem} (hi : adOK τ) {v : Int32} : mset (cm τ κ Md) (τ 14) (4, 2, updV (kV τ κ 14) 1 (.int v)) = cm τ (seti κ 141 v) Md := by
  refine cm_upd hi kf_14 ?_ ?_
  · funext j
    by_cases e : j = 1
    · subst e; rw [updV_eq]; show Value.int (updB κ.1 141 v 141) = _; rw [updB_eq]
    · rw [updV_ne e]
      match j, e with
      | 0, e => first | rfl | exact absurd rfl e
      | 1, e => first | rfl | exact absurd rfl e
      | 2, e => first | rfl | exact absurd rfl e
      | 3, e => first | rfl | exact absurd rfl e
      | 4, e => first | rfl | exact absurd rfl e
      | 5, e => first | rfl | exact absurd rfl e
      | 6, e => first | rfl | exact absurd rfl e
      | 7, e => first | rfl | exact absurd rfl e
      | 8, e => first | rfl | exact absurd rfl e
      | n + 9, e => rfl
  · intro j hj
    have hn : ∀ s : Nat, s ≠ 141 → (seti κ 141 v).1 s = κ.1 s := fun s hs => seti_ne hs
    unfold kV
    split <;> first | rfl | (exact absurd rfl hj) | (funext s; split <;> first | rfl | (rw [hn _ (by decide)]))
section XKR
variable {G : Gam} {d : Nat} {k : Nat × Nat} {Y : MR} {τ : Nat → Nat} {κ : MS} {Md : Mem} {lv : Lv} {st : List Value} {pc : Nat} {Q : Option Value → Mem → Prop}
theorem xk_iald {n j : Nat} (r : Nat) {i : Int32} (hd : decode Y.2.1 pc = .ok (.iaload, 1)) (h : mFind kArr r = some (100, n)) (hr : kRow r = true) (hi : adOK τ) (hin : vp_in i n) (hj : i.toNatClampNeg = j) (kk : XJ G d k Y (cm τ κ Md) lv (.int (κ.2 r j) :: st) (pc + 1) Q) : XJ G d k Y (cm τ κ Md) lv (.int i :: .ref (τ r) :: st) pc Q := x_iaload hd (kc hi h) hin (by rw [kV_row hr, hj]) kk
theorem xk_cald {n j : Nat} (r : Nat) {i : Int32} (hd : decode Y.2.1 pc = .ok (.caload, 1)) (h : mFind kArr r = some (102, n)) (hr : kRow r = true) (hi : adOK τ) (hin : vp_in i n) (hj : i.toNatClampNeg = j) (kk : XJ G d k Y (cm τ κ Md) lv (.int (κ.2 r j) :: st) (pc + 1) Q) : XJ G d k Y (cm τ κ Md) lv (.int i :: .ref (τ r) :: st) pc Q := x_caload hd (kc hi h) hin (by rw [kV_row hr, hj]) kk
theorem xk_iast {n j : Nat} (r : Nat) {i v : Int32} (hd : decode Y.2.1 pc = .ok (.iastore, 1)) (h : mFind kArr r = some (100, n)) (hr : kRow r = true) (hi : adOK τ) (hin : vp_in i n) (hj : i.toNatClampNeg = j) (kk : XJ G d k Y (cm τ (seta κ r j v) Md) lv st (pc + 1) Q) : XJ G d k Y (cm τ κ Md) lv (.int v :: .int i :: .ref (τ r) :: st) pc Q := by
  refine x_iastore hd (kc hi h) hin ?_
  rw [kV_row hr, cm_seta hi h hr, hj]; exact kk
theorem xk_cast {n j : Nat} (r : Nat) {i v : Int32} (hd : decode Y.2.1 pc = .ok (.castore, 1)) (h : mFind kArr r = some (102, n)) (hr : kRow r = true) (hi : adOK τ) (hin : vp_in i n) (hj : i.toNatClampNeg = j) (kk : XJ G d k Y (cm τ (seta κ r j v.toUInt32.toUInt16.toUInt32.toInt32) Md) lv st (pc + 1) Q) : XJ G d k Y (cm τ κ Md) lv (.int v :: .int i :: .ref (τ r) :: st) pc Q := by
  refine x_castore hd (kc hi h) hin ?_
  rw [kV_row hr, cm_seta hi h hr, hj]; exact kk
theorem xk_puti {idx ci kf n r : Nat} {v : Int32} {κ' : MS} (hd : decode Y.2.1 pc = .ok (.putfield idx, 3)) (hlk : LkP Y.1.cls idx ci kf) (hM : cm τ κ Md (τ r) = some (ci, n, kV τ κ r)) (hn : narrow (vwTy ci kf) (.int v) = .int v) (hfit : fits (vwTy ci kf) (.int v) = true) (hp : mset (cm τ κ Md) (τ r) (ci, n, updV (kV τ κ r) kf (.int v)) = cm τ κ' Md) (kk : XJ G d k Y (cm τ κ' Md) lv st (pc + 3) Q) : XJ G d k Y (cm τ κ Md) lv (.int v :: .ref (τ r) :: st) pc Q := by
  refine x_putf hd hlk hM hn hfit ?_
  rw [hp]; exact kk
end XKR
/-! the dynamic part: lists, their objects -/
def fL (m : Int32) (e : Nat) (n : Int32) : Nat → Value := fun k => match k with
  | 0 => .int m
  | 1 => .ref e
  | _ => .int n
/-- the row of elements that all empty lists share -/
def OldE (G : Gam) (e : Nat) : Prop := OldT G (.object "java/lang/Object") e 0 (fun _ => .null) ∧ OldZ G "java/util/ArrayList" "DEFAULTCAPACITY_EMPTY_ELEMENTDATA" "[Ljava/lang/Object;" (.ref e)
/-- a list at l with n elements w, its row at e -/
def LstD (G : Gam) (M : Mem) (l e n : Nat) (w : Nat → Nat) : Prop := ∃ (m : Int32) (N : Nat) (g : Nat → Value), M l = some (0, 3, fL m e (nI n)) ∧ ((n = 0 ∧ OldE G e ∧ M e = none) ∨ (M e = some (106, N, g) ∧ n ≤ N ∧ 10 ≤ N ∧ N ≤ 400 ∧ ∀ i, i < n → g i = .ref (w i)))
/-- by list: the count's number, the objects' kind and size, what they hold -/
def cK (k : Nat) : Nat := match k with
  | 1 => 15
  | 2 => 16
  | 3 => 17
  | 4 => 25
  | 5 => 44
  | 6 => 49
  | _ => 65
def oK (k : Nat) : Nat × Nat := match k with
  | 1 => (5, 5)
  | 2 => (2, 7)
  | 3 => (8, 3)
  | 4 => (7, 3)
  | 5 => (1, 5)
  | 6 => (3, 4)
  | _ => (6, 2)
/-- the person that a line keeps -/
def pw (σ : MS) (i : Nat) : Nat := (σ.2 8 i).toNatClampNeg
theorem pw_lt {σ : MS} {i : Nat} (h : LinP σ) (hi : i < cn σ 16) : pw σ i < cn σ 15 := by
  obtain ⟨a, b⟩ := h i hi
  have h1 := Int32.le_iff_toInt_le.mp a
  have h2 := Int32.lt_iff_toInt_lt.mp b
  have e0 : (0 : Int32).toInt = 0 := rfl
  show (σ.2 8 i).toInt.toNat < (σ.1 15).toInt.toNat
  omega
theorem pw_nI {σ : MS} {i : Nat} (h : LinP σ) (hi : i < cn σ 16) : nI (pw σ i) = σ.2 8 i := by
  have h1 := Int32.le_iff_toInt_le.mp (h i hi).1
  have e0 : (0 : Int32).toInt = 0 := rfl
  have h2 := Int32.toInt_lt (σ.2 8 i)
  have e : pw σ i = (σ.2 8 i).toInt.toNat := rfl
  refine Int32.toInt_inj.mp ?_
  rw [nI_toInt (by omega), e]
  omega
theorem LinP_k {σ σ' : MS} (h15 : σ'.1 15 = σ.1 15) (h16 : σ'.1 16 = σ.1 16) (h8 : σ'.2 8 = σ.2 8) (h : LinP σ) : LinP σ' := fun l hl => by
  have h1 := h l (by unfold cn at hl ⊢; rw [h16] at hl; exact hl)
  rw [h8, h15]; exact h1
def oV (ω : Nat → Nat → Nat) (σ : MS) (k i : Nat) : Nat → Value := match k with
  | 1 => fun f => match f with
    | 0 => .int (nI i)
    | 1 => .int (σ.2 2 i)
    | 2 => .int (σ.2 3 i)
    | 3 => .int (σ.2 4 i)
    | _ => .int (strat (σ.2 3 i))
  | 2 => fun f => match f with
    | 0 => .ref (ω 1 (σ.2 8 i).toNatClampNeg)
    | 1 => .int (σ.2 9 i)
    | 2 => .int (σ.2 10 i)
    | 3 => .int (σ.2 11 i)
    | 4 => .int (σ.2 12 i)
    | 5 => .int (σ.2 13 i)
    | _ => .int (σ.2 14 i)
  | 3 => fun f => match f with
    | 0 => .int (σ.2 5 i)
    | 1 => .int (σ.2 6 i)
    | _ => .int (σ.2 7 i)
  | 4 => fun f => match f with
    | 0 => .int (σ.2 21 i)
    | 1 => .int (σ.2 22 i)
    | _ => .ref (ω 8 i)
  | 5 => fun f => match f with
    | 0 => .int (σ.2 38 i)
    | 1 => .int (σ.2 39 i)
    | 2 => .int (σ.2 40 i)
    | 3 => .int (σ.2 42 i)
    | _ => .int (σ.2 41 i)
  | 6 => fun f => match f with
    | 0 => .int (σ.2 45 i)
    | 1 => .int (σ.2 46 i)
    | 2 => .int (σ.2 47 i)
    | _ => .int (σ.2 48 i)
  | _ => fun f => match f with
    | 0 => .int (σ.2 62 i)
    | _ => .int (σ.2 63 i)
def isLi (k : Nat) : Prop := 1 ≤ k ∧ k ≤ 7
def Dyn (G : Gam) (τ : Nat → Nat) (ω : Nat → Nat → Nat) (ε : Nat → Nat) (σ : MS) (Md : Mem) : Prop :=
  Apt τ Md ∧ (∀ k, isLi k → LstD G Md (τ k) (ε k) (cn σ (cK k)) (ω k)) ∧ (∀ k i, isLi k → i < cn σ (cK k) → Md (ω k i) = some ((oK k).1, (oK k).2, oV ω σ k i)) ∧ (∀ j k, isLi j → isLi k → j ≠ k → Md (ε j) ≠ none → ε j ≠ ε k) ∧ (∀ r, r < cn σ 25 → Md (ω 8 r) = some (100, (codS σ r).length, fun j => .int ((codS σ r).getD j 0))) ∧ LinP σ
/-- what a cell holds -/
def celF (M : Mem) (a : Nat) : Nat → Value := match M a with
  | some c => c.2.2
  | none => fun _ => .null
theorem celF_of {M : Mem} {a : Nat} {c : Cel} (h : M a = some c) : celF M a = c.2.2 := by unfold celF; rw [h]
theorem Dyn.lc {G : Gam} {τ : Nat → Nat} {ω : Nat → Nat → Nat} {ε : Nat → Nat} {σ κ : MS} {Md : Mem} (h : Dyn G τ ω ε σ Md) (k : Nat) (hk : isLi k) : cm τ κ Md (τ k) = some (0, 3, celF Md (τ k)) := by
  obtain ⟨m, N, g, h1, -⟩ := h.2.1 k hk
  rw [celF_of h1]
  exact kd h.1 h1
theorem Dyn.ob {G : Gam} {τ : Nat → Nat} {ω : Nat → Nat → Nat} {ε : Nat → Nat} {σ κ : MS} {Md : Mem} (h : Dyn G τ ω ε σ Md) (k : Nat) {i : Nat} (hk : isLi k) (hi : i < cn σ (cK k)) : cm τ κ Md (ω k i) = some ((oK k).1, (oK k).2, oV ω σ k i) := kd h.1 (h.2.2.1 k i hk hi)
theorem li_1 : isLi 1 := ⟨by decide, by decide⟩
theorem ov_1_0 {ω : Nat → Nat → Nat} {σ : MS} {i : Nat} : oV ω σ 1 i 0 = .int (nI i) := rfl
theorem ov_1_1 {ω : Nat → Nat → Nat} {σ : MS} {i : Nat} : oV ω σ 1 i 1 = .int (σ.2 2 i) := rfl
theorem ov_1_2 {ω : Nat → Nat → Nat} {σ : MS} {i : Nat} : oV ω σ 1 i 2 = .int (σ.2 3 i) := rfl
theorem ov_1_3 {ω : Nat → Nat → Nat} {σ : MS} {i : Nat} : oV ω σ 1 i 3 = .int (σ.2 4 i) := rfl
theorem ov_1_4 {ω : Nat → Nat → Nat} {σ : MS} {i : Nat} : oV ω σ 1 i 4 = .int (strat (σ.2 3 i)) := rfl
theorem li_2 : isLi 2 := ⟨by decide, by decide⟩
theorem ov_2_0 {ω : Nat → Nat → Nat} {σ : MS} {i : Nat} : oV ω σ 2 i 0 = .ref (ω 1 (pw σ i)) := rfl
theorem ov_2_1 {ω : Nat → Nat → Nat} {σ : MS} {i : Nat} : oV ω σ 2 i 1 = .int (σ.2 9 i) := rfl
theorem ov_2_2 {ω : Nat → Nat → Nat} {σ : MS} {i : Nat} : oV ω σ 2 i 2 = .int (σ.2 10 i) := rfl
theorem ov_2_3 {ω : Nat → Nat → Nat} {σ : MS} {i : Nat} : oV ω σ 2 i 3 = .int (σ.2 11 i) := rfl
theorem ov_2_4 {ω : Nat → Nat → Nat} {σ : MS} {i : Nat} : oV ω σ 2 i 4 = .int (σ.2 12 i) := rfl
theorem ov_2_5 {ω : Nat → Nat → Nat} {σ : MS} {i : Nat} : oV ω σ 2 i 5 = .int (σ.2 13 i) := rfl
theorem ov_2_6 {ω : Nat → Nat → Nat} {σ : MS} {i : Nat} : oV ω σ 2 i 6 = .int (σ.2 14 i) := rfl
theorem li_3 : isLi 3 := ⟨by decide, by decide⟩
theorem ov_3_0 {ω : Nat → Nat → Nat} {σ : MS} {i : Nat} : oV ω σ 3 i 0 = .int (σ.2 5 i) := rfl
theorem ov_3_1 {ω : Nat → Nat → Nat} {σ : MS} {i : Nat} : oV ω σ 3 i 1 = .int (σ.2 6 i) := rfl
theorem ov_3_2 {ω : Nat → Nat → Nat} {σ : MS} {i : Nat} : oV ω σ 3 i 2 = .int (σ.2 7 i) := rfl
theorem li_4 : isLi 4 := ⟨by decide, by decide⟩
theorem ov_4_0 {ω : Nat → Nat → Nat} {σ : MS} {i : Nat} : oV ω σ 4 i 0 = .int (σ.2 21 i) := rfl
theorem ov_4_1 {ω : Nat → Nat → Nat} {σ : MS} {i : Nat} : oV ω σ 4 i 1 = .int (σ.2 22 i) := rfl
theorem ov_4_2 {ω : Nat → Nat → Nat} {σ : MS} {i : Nat} : oV ω σ 4 i 2 = .ref (ω 8 i) := rfl
theorem li_5 : isLi 5 := ⟨by decide, by decide⟩
theorem ov_5_0 {ω : Nat → Nat → Nat} {σ : MS} {i : Nat} : oV ω σ 5 i 0 = .int (σ.2 38 i) := rfl
theorem ov_5_1 {ω : Nat → Nat → Nat} {σ : MS} {i : Nat} : oV ω σ 5 i 1 = .int (σ.2 39 i) := rfl
theorem ov_5_2 {ω : Nat → Nat → Nat} {σ : MS} {i : Nat} : oV ω σ 5 i 2 = .int (σ.2 40 i) := rfl
theorem ov_5_3 {ω : Nat → Nat → Nat} {σ : MS} {i : Nat} : oV ω σ 5 i 3 = .int (σ.2 42 i) := rfl
theorem ov_5_4 {ω : Nat → Nat → Nat} {σ : MS} {i : Nat} : oV ω σ 5 i 4 = .int (σ.2 41 i) := rfl
theorem li_6 : isLi 6 := ⟨by decide, by decide⟩
theorem ov_6_0 {ω : Nat → Nat → Nat} {σ : MS} {i : Nat} : oV ω σ 6 i 0 = .int (σ.2 45 i) := rfl
theorem ov_6_1 {ω : Nat → Nat → Nat} {σ : MS} {i : Nat} : oV ω σ 6 i 1 = .int (σ.2 46 i) := rfl
theorem ov_6_2 {ω : Nat → Nat → Nat} {σ : MS} {i : Nat} : oV ω σ 6 i 2 = .int (σ.2 47 i) := rfl
theorem ov_6_3 {ω : Nat → Nat → Nat} {σ : MS} {i : Nat} : oV ω σ 6 i 3 = .int (σ.2 48 i) := rfl
theorem li_7 : isLi 7 := ⟨by decide, by decide⟩
theorem ov_7_0 {ω : Nat → Nat → Nat} {σ : MS} {i : Nat} : oV ω σ 7 i 0 = .int (σ.2 62 i) := rfl
theorem ov_7_1 {ω : Nat → Nat → Nat} {σ : MS} {i : Nat} : oV ω σ 7 i 1 = .int (σ.2 63 i) := rfl
theorem ob_1 {G : Gam} {τ : Nat → Nat} {ω : Nat → Nat → Nat} {ε : Nat → Nat} {σ κ : MS} {Md : Mem} (h : Dyn G τ ω ε σ Md) {i : Nat} (hi : i < cn σ 15) : cm τ κ Md (ω 1 i) = some (5, 5, oV ω σ 1 i) := h.ob 1 li_1 hi
theorem ob_2 {G : Gam} {τ : Nat → Nat} {ω : Nat → Nat → Nat} {ε : Nat → Nat} {σ κ : MS} {Md : Mem} (h : Dyn G τ ω ε σ Md) {i : Nat} (hi : i < cn σ 16) : cm τ κ Md (ω 2 i) = some (2, 7, oV ω σ 2 i) := h.ob 2 li_2 hi
theorem ob_3 {G : Gam} {τ : Nat → Nat} {ω : Nat → Nat → Nat} {ε : Nat → Nat} {σ κ : MS} {Md : Mem} (h : Dyn G τ ω ε σ Md) {i : Nat} (hi : i < cn σ 17) : cm τ κ Md (ω 3 i) = some (8, 3, oV ω σ 3 i) := h.ob 3 li_3 hi
theorem ob_4 {G : Gam} {τ : Nat → Nat} {ω : Nat → Nat → Nat} {ε : Nat → Nat} {σ κ : MS} {Md : Mem} (h : Dyn G τ ω ε σ Md) {i : Nat} (hi : i < cn σ 25) : cm τ κ Md (ω 4 i) = some (7, 3, oV ω σ 4 i) := h.ob 4 li_4 hi
theorem ob_5 {G : Gam} {τ : Nat → Nat} {ω : Nat → Nat → Nat} {ε : Nat → Nat} {σ κ : MS} {Md : Mem} (h : Dyn G τ ω ε σ Md) {i : Nat} (hi : i < cn σ 44) : cm τ κ Md (ω 5 i) = some (1, 5, oV ω σ 5 i) := h.ob 5 li_5 hi
theorem ob_6 {G : Gam} {τ : Nat → Nat} {ω : Nat → Nat → Nat} {ε : Nat → Nat} {σ κ : MS} {Md : Mem} (h : Dyn G τ ω ε σ Md) {i : Nat} (hi : i < cn σ 49) : cm τ κ Md (ω 6 i) = some (3, 4, oV ω σ 6 i) := h.ob 6 li_6 hi
theorem ob_7 {G : Gam} {τ : Nat → Nat} {ω : Nat → Nat → Nat} {ε : Nat → Nat} {σ κ : MS} {Md : Mem} (h : Dyn G τ ω ε σ Md) {i : Nat} (hi : i < cn σ 65) : cm τ κ Md (ω 7 i) = some (6, 2, oV ω σ 7 i) := h.ob 7 li_7 hi
theorem Dyn.wr {G : Gam} {τ : Nat → Nat} {ω : Nat → Nat → Nat} {ε : Nat → Nat} {σ : MS} {Md : Mem} (h : Dyn G τ ω ε σ Md) {i : Nat} (hi : i < cn σ 16) : pw σ i < cn σ 15 := pw_lt h.2.2.2.2.2 hi
theorem ov_w {G : Gam} {τ : Nat → Nat} {ω : Nat → Nat → Nat} {ε : Nat → Nat} {σ : MS} {Md : Mem} (h : Dyn G τ ω ε σ Md) {i : Nat} (hi : i < cn σ 16) : oV ω σ 1 (pw σ i) 0 = .int (σ.2 8 i) := congrArg Value.int (pw_nI h.2.2.2.2.2 hi)
