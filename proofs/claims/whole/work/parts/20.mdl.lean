/-! THE MODEL's memory: one object, its arrays; a state is its ints and its arrays' ints -/
abbrev MS : Type := (Nat → Int32) × (Nat → Nat → Int32)
def updB (f : Nat → Int32) (k : Nat) (v : Int32) : Nat → Int32 := fun j => bif Nat.beq j k then v else f j
theorem updB_eq {f : Nat → Int32} {k : Nat} {v : Int32} : updB f k v k = v := by unfold updB; rw [Nat.beq_refl]; rfl
theorem updB_ne {f : Nat → Int32} {k j : Nat} {v : Int32} (h : j ≠ k) : updB f k v j = f j := by
  unfold updB
  cases e : Nat.beq j k with
  | false => rfl
  | true => exact absurd (Nat.eq_of_beq_eq_true e) h
def seti (σ : MS) (k : Nat) (v : Int32) : MS := (updB σ.1 k v, σ.2)
def seta (σ : MS) (k i : Nat) (v : Int32) : MS := (σ.1, fun j => bif Nat.beq j k then updB (σ.2 k) i v else σ.2 j)
theorem seta_eq {σ : MS} {k i : Nat} {v : Int32} : (seta σ k i v).2 k = updB (σ.2 k) i v := by unfold seta; show (bif Nat.beq k k then _ else _) = _; rw [Nat.beq_refl]; rfl
theorem seta_ne {σ : MS} {k i j : Nat} {v : Int32} (h : j ≠ k) : (seta σ k i v).2 j = σ.2 j := by
  show (bif Nat.beq j k then _ else _) = _
  cases e : Nat.beq j k with
  | false => rfl
  | true => exact absurd (Nat.eq_of_beq_eq_true e) h
/-- the arrays: field, kind, length -/
def mArr : List (Nat × Nat × Nat) := [(2, 100, 24), (3, 100, 24), (4, 100, 24), (5, 100, 60), (6, 100, 60), (7, 100, 60), (8, 100, 200), (9, 100, 200), (10, 100, 200), (11, 100, 200), (12, 100, 200), (13, 100, 200), (14, 100, 200), (18, 101, 160), (19, 101, 3200), (20, 100, 20), (21, 100, 20), (22, 100, 20), (23, 100, 128), (35, 100, 200), (38, 100, 100), (39, 100, 100), (40, 100, 100), (41, 100, 100), (42, 103, 100), (43, 103, 24), (45, 100, 200), (46, 100, 200), (47, 100, 200), (48, 100, 200), (50, 100, 32), (51, 100, 200), (53, 100, 4), (54, 100, 4), (55, 100, 8), (56, 100, 8), (57, 100, 8), (58, 100, 8), (62, 100, 8), (63, 100, 8), (64, 100, 24)]
def mFind : List (Nat × Nat × Nat) → Nat → Option (Nat × Nat)
  | [], _ => none
  | (k, c) :: t, i => bif Nat.beq k i then some c else mFind t i
def mIsA (k : Nat) : Bool := (mFind mArr k).isSome
/-- the field text (26) holds the array whose field's number stands in its place -/
def vM (ad : Nat → Nat) (σ : MS) (k : Nat) : Value := bif mIsA k then .ref (ad k) else bif Nat.beq k 26 then .ref (ad (σ.1 26).toNatClampNeg) else .int (σ.1 k)
def mmA (ad : Nat → Nat) (σ : MS) : List (Nat × Nat × Nat) → Mem
  | [] => fun _ => none
  | (k, c, n) :: t => fun a => if a = ad k then some (c, n, fun i => .int (σ.2 k i)) else mmA ad σ t a
def mm (ad : Nat → Nat) (σ : MS) : Mem := fun a => if a = ad 99 then some (13, 66, vM ad σ) else mmA ad σ mArr a
def adOK (ad : Nat → Nat) : Prop := ∀ i j, i < 100 → j < 100 → ad i = ad j → i = j
theorem mm_obj {ad : Nat → Nat} {σ : MS} : mm ad σ (ad 99) = some (13, 66, vM ad σ) := if_pos rfl
theorem mFind_mem : ∀ {l : List (Nat × Nat × Nat)} {k : Nat} {c : Nat × Nat}, mFind l k = some c → (k, c) ∈ l
  | [], _, _, h => by cases h
  | (j, e) :: t, k, c, h => by
    unfold mFind at h
    cases e1 : Nat.beq j k with
    | true =>
      rw [e1] at h
      have hj : j = k := Nat.eq_of_beq_eq_true e1
      cases h
      subst hj
      exact List.mem_cons_self
    | false =>
      rw [e1] at h
      exact List.mem_cons_of_mem _ (mFind_mem h)
theorem mArr_lt : ∀ q ∈ mArr, q.1 < 99 := by decide
theorem mmA_get {ad : Nat → Nat} {σ : MS} (hi : adOK ad) : ∀ (l : List (Nat × Nat × Nat)), (∀ q ∈ l, q.1 < 99) → ∀ {k c n : Nat}, mFind l k = some (c, n) → mmA ad σ l (ad k) = some (c, n, fun i => .int (σ.2 k i))
  | [], _, _, _, _, h => by cases h
  | (j, c0, n0) :: t, hl, k, c, n, h => by
    have hm := mFind_mem h
    have hk : k < 99 := hl _ hm
    have hj : j < 99 := hl (j, c0, n0) List.mem_cons_self
    unfold mFind at h
    cases e1 : Nat.beq j k with
    | true =>
      rw [e1] at h
      have e2 : j = k := Nat.eq_of_beq_eq_true e1
      subst e2
      cases h
      exact if_pos rfl
    | false =>
      rw [e1] at h
      have e2 : j ≠ k := Nat.ne_of_beq_eq_false e1
      show (if ad k = ad j then _ else _) = _
      rw [if_neg (fun z => e2 (hi j k (by omega) (by omega) z.symm))]
      exact mmA_get hi t (fun q hq => hl q (List.mem_cons_of_mem _ hq)) h
theorem mm_arr {ad : Nat → Nat} {σ : MS} (hi : adOK ad) {k c n : Nat} (h : mFind mArr k = some (c, n)) : mm ad σ (ad k) = some (c, n, fun i => .int (σ.2 k i)) := by
  have hk : k < 99 := mArr_lt _ (mFind_mem h)
  unfold mm
  rw [if_neg (fun z => absurd (hi k 99 (by omega) (by omega) z) (by omega))]
  exact mmA_get hi mArr mArr_lt h
theorem vM_seti {ad : Nat → Nat} {σ : MS} {k : Nat} {v : Int32} (h1 : mIsA k = false) (h2 : k ≠ 26) : vM ad (seti σ k v) = updV (vM ad σ) k (.int v) := by
  funext j
  by_cases e : j = k
  · subst e
    rw [updV_eq]
    unfold vM
    rw [h1]
    have : Nat.beq j 26 = false := by
      cases e2 : Nat.beq j 26 with
      | false => rfl
      | true => exact absurd (Nat.eq_of_beq_eq_true e2) h2
    rw [this]
    show Value.int (updB σ.1 j v j) = _
    rw [updB_eq]
  · rw [updV_ne e]
    unfold vM
    have h3 : (seti σ k v).1 j = σ.1 j := updB_ne e
    have h4 : (seti σ k v).1 26 = σ.1 26 := updB_ne (fun z => h2 z.symm)
    rw [h3, h4]
theorem mmA_seti {ad : Nat → Nat} {σ : MS} {k : Nat} {v : Int32} : ∀ l, mmA ad (seti σ k v) l = mmA ad σ l
  | [] => rfl
  | (j, c, n) :: t => by
    show (fun a => if a = ad j then _ else mmA ad (seti σ k v) t a) = _
    rw [mmA_seti t]; rfl
theorem mm_seti {ad : Nat → Nat} {σ : MS} {k : Nat} {v : Int32} (h1 : mIsA k = false) (h2 : k ≠ 26) : mset (mm ad σ) (ad 99) (13, 66, updV (vM ad σ) k (.int v)) = mm ad (seti σ k v) := by
  funext a
  unfold mset mm
  by_cases e : a = ad 99
  · rw [if_pos e, if_pos e, vM_seti h1 h2]
  · rw [if_neg e, if_neg e, if_neg e, mmA_seti]
theorem mm_setx {ad : Nat → Nat} {σ : MS} {j : Nat} (hj : j < 2 ^ 31) : mset (mm ad σ) (ad 99) (13, 66, updV (vM ad σ) 26 (.ref (ad j))) = mm ad (seti σ 26 (nI j)) := by
  funext a
  unfold mset mm
  by_cases e : a = ad 99
  · rw [if_pos e, if_pos e]
    congr 3
    funext i
    by_cases e2 : i = 26
    · subst e2
      rw [updV_eq]
      show _ = Value.ref (ad ((updB σ.1 26 (nI j)) 26).toNatClampNeg)
      rw [updB_eq, nI_clamp hj]
    · rw [updV_ne e2]
      unfold vM
      have : Nat.beq i 26 = false := by
        cases e3 : Nat.beq i 26 with
        | false => rfl
        | true => exact absurd (Nat.eq_of_beq_eq_true e3) e2
      rw [this]
      show _ = bif mIsA i then _ else Value.int (updB σ.1 26 (nI j) i)
      rw [updB_ne e2]; rfl
  · rw [if_neg e, if_neg e, if_neg e, mmA_seti]
theorem mmA_seta {ad : Nat → Nat} {σ : MS} (hi : adOK ad) {k i : Nat} {v : Int32} (hk : k < 99) : ∀ (l : List (Nat × Nat × Nat)), (∀ q ∈ l, q.1 < 99) → ∀ a, a ≠ ad k → mmA ad (seta σ k i v) l a = mmA ad σ l a
  | [], _, _, _ => rfl
  | (j, c, n) :: t, hl, a, ha => by
    show (if a = ad j then some (c, n, fun x => Value.int ((seta σ k i v).2 j x)) else mmA ad (seta σ k i v) t a) = (if a = ad j then some (c, n, fun x => Value.int (σ.2 j x)) else mmA ad σ t a)
    by_cases e : a = ad j
    · rw [if_pos e, if_pos e]
      have : j ≠ k := fun z => ha (by rw [e, z])
      have h2 : (seta σ k i v).2 j = σ.2 j := seta_ne this
      rw [h2]
    · rw [if_neg e, if_neg e, mmA_seta hi hk t (fun q hq => hl q (List.mem_cons_of_mem _ hq)) a ha]
theorem mm_seta {ad : Nat → Nat} {σ : MS} (hi : adOK ad) {k c n i : Nat} {v : Int32} (h : mFind mArr k = some (c, n)) : mset (mm ad σ) (ad k) (c, n, updV (fun x => .int (σ.2 k x)) i (.int v)) = mm ad (seta σ k i v) := by
  have hk : k < 99 := mArr_lt _ (mFind_mem h)
  funext a
  by_cases e : a = ad k
  · subst e
    rw [mset_eq, mm_arr hi h]
    congr 3
    funext x
    have h2 : (seta σ k i v).2 k = updB (σ.2 k) i v := seta_eq
    rw [h2]
    by_cases e2 : x = i
    · subst e2; rw [updV_eq, updB_eq]
    · rw [updV_ne e2, updB_ne e2]
  · rw [mset_ne e]
    unfold mm
    by_cases e2 : a = ad 99
    · rw [if_pos e2, if_pos e2]; rfl
    · rw [if_neg e2, if_neg e2, mmA_seta hi hk mArr mArr_lt a e]
theorem vmi_0 {ad : Nat → Nat} {σ : MS} : vM ad σ 0 = .int (σ.1 0) := rfl
theorem vmq_0 : (mIsA 0 || Nat.beq 0 26) = false := rfl
theorem vmn_0 {v : Int32} : narrow (vwTy 13 0) (.int v) = .int v := rfl
theorem vmf_0 {v : Int32} : fits (vwTy 13 0) (.int v) = true := rfl
theorem vmi_1 {ad : Nat → Nat} {σ : MS} : vM ad σ 1 = .int (σ.1 1) := rfl
theorem vmq_1 : (mIsA 1 || Nat.beq 1 26) = false := rfl
theorem vmn_1 {v : Int32} : narrow (vwTy 13 1) (.int v) = .int v := rfl
theorem vmf_1 {v : Int32} : fits (vwTy 13 1) (.int v) = true := rfl
theorem vma_2 {ad : Nat → Nat} {σ : MS} : vM ad σ 2 = .ref (ad 2) := rfl
theorem mf_2 : mFind mArr 2 = some (100, 24) := rfl
theorem vma_3 {ad : Nat → Nat} {σ : MS} : vM ad σ 3 = .ref (ad 3) := rfl
theorem mf_3 : mFind mArr 3 = some (100, 24) := rfl
theorem vma_4 {ad : Nat → Nat} {σ : MS} : vM ad σ 4 = .ref (ad 4) := rfl
theorem mf_4 : mFind mArr 4 = some (100, 24) := rfl
theorem vma_5 {ad : Nat → Nat} {σ : MS} : vM ad σ 5 = .ref (ad 5) := rfl
theorem mf_5 : mFind mArr 5 = some (100, 60) := rfl
theorem vma_6 {ad : Nat → Nat} {σ : MS} : vM ad σ 6 = .ref (ad 6) := rfl
theorem mf_6 : mFind mArr 6 = some (100, 60) := rfl
theorem vma_7 {ad : Nat → Nat} {σ : MS} : vM ad σ 7 = .ref (ad 7) := rfl
theorem mf_7 : mFind mArr 7 = some (100, 60) := rfl
theorem vma_8 {ad : Nat → Nat} {σ : MS} : vM ad σ 8 = .ref (ad 8) := rfl
theorem mf_8 : mFind mArr 8 = some (100, 200) := rfl
theorem vma_9 {ad : Nat → Nat} {σ : MS} : vM ad σ 9 = .ref (ad 9) := rfl
theorem mf_9 : mFind mArr 9 = some (100, 200) := rfl
theorem vma_10 {ad : Nat → Nat} {σ : MS} : vM ad σ 10 = .ref (ad 10) := rfl
theorem mf_10 : mFind mArr 10 = some (100, 200) := rfl
theorem vma_11 {ad : Nat → Nat} {σ : MS} : vM ad σ 11 = .ref (ad 11) := rfl
theorem mf_11 : mFind mArr 11 = some (100, 200) := rfl
theorem vma_12 {ad : Nat → Nat} {σ : MS} : vM ad σ 12 = .ref (ad 12) := rfl
theorem mf_12 : mFind mArr 12 = some (100, 200) := rfl
theorem vma_13 {ad : Nat → Nat} {σ : MS} : vM ad σ 13 = .ref (ad 13) := rfl
theorem mf_13 : mFind mArr 13 = some (100, 200) := rfl
theorem vma_14 {ad : Nat → Nat} {σ : MS} : vM ad σ 14 = .ref (ad 14) := rfl
theorem mf_14 : mFind mArr 14 = some (100, 200) := rfl
theorem vmi_15 {ad : Nat → Nat} {σ : MS} : vM ad σ 15 = .int (σ.1 15) := rfl
theorem vmq_15 : (mIsA 15 || Nat.beq 15 26) = false := rfl
theorem vmn_15 {v : Int32} : narrow (vwTy 13 15) (.int v) = .int v := rfl
theorem vmf_15 {v : Int32} : fits (vwTy 13 15) (.int v) = true := rfl
theorem vmi_16 {ad : Nat → Nat} {σ : MS} : vM ad σ 16 = .int (σ.1 16) := rfl
theorem vmq_16 : (mIsA 16 || Nat.beq 16 26) = false := rfl
theorem vmn_16 {v : Int32} : narrow (vwTy 13 16) (.int v) = .int v := rfl
theorem vmf_16 {v : Int32} : fits (vwTy 13 16) (.int v) = true := rfl
theorem vmi_17 {ad : Nat → Nat} {σ : MS} : vM ad σ 17 = .int (σ.1 17) := rfl
theorem vmq_17 : (mIsA 17 || Nat.beq 17 26) = false := rfl
theorem vmn_17 {v : Int32} : narrow (vwTy 13 17) (.int v) = .int v := rfl
theorem vmf_17 {v : Int32} : fits (vwTy 13 17) (.int v) = true := rfl
theorem vma_18 {ad : Nat → Nat} {σ : MS} : vM ad σ 18 = .ref (ad 18) := rfl
theorem mf_18 : mFind mArr 18 = some (101, 160) := rfl
theorem vma_19 {ad : Nat → Nat} {σ : MS} : vM ad σ 19 = .ref (ad 19) := rfl
theorem mf_19 : mFind mArr 19 = some (101, 3200) := rfl
theorem vma_20 {ad : Nat → Nat} {σ : MS} : vM ad σ 20 = .ref (ad 20) := rfl
theorem mf_20 : mFind mArr 20 = some (100, 20) := rfl
theorem vma_21 {ad : Nat → Nat} {σ : MS} : vM ad σ 21 = .ref (ad 21) := rfl
theorem mf_21 : mFind mArr 21 = some (100, 20) := rfl
theorem vma_22 {ad : Nat → Nat} {σ : MS} : vM ad σ 22 = .ref (ad 22) := rfl
theorem mf_22 : mFind mArr 22 = some (100, 20) := rfl
theorem vma_23 {ad : Nat → Nat} {σ : MS} : vM ad σ 23 = .ref (ad 23) := rfl
theorem mf_23 : mFind mArr 23 = some (100, 128) := rfl
theorem vmi_24 {ad : Nat → Nat} {σ : MS} : vM ad σ 24 = .int (σ.1 24) := rfl
theorem vmq_24 : (mIsA 24 || Nat.beq 24 26) = false := rfl
theorem vmn_24 {v : Int32} : narrow (vwTy 13 24) (.int v) = .int v := rfl
theorem vmf_24 {v : Int32} : fits (vwTy 13 24) (.int v) = true := rfl
theorem vmi_25 {ad : Nat → Nat} {σ : MS} : vM ad σ 25 = .int (σ.1 25) := rfl
theorem vmq_25 : (mIsA 25 || Nat.beq 25 26) = false := rfl
theorem vmn_25 {v : Int32} : narrow (vwTy 13 25) (.int v) = .int v := rfl
theorem vmf_25 {v : Int32} : fits (vwTy 13 25) (.int v) = true := rfl
theorem vmi_27 {ad : Nat → Nat} {σ : MS} : vM ad σ 27 = .int (σ.1 27) := rfl
theorem vmq_27 : (mIsA 27 || Nat.beq 27 26) = false := rfl
theorem vmn_27 {v : Int32} : narrow (vwTy 13 27) (.int v) = .int v := rfl
theorem vmf_27 {v : Int32} : fits (vwTy 13 27) (.int v) = true := rfl
theorem vmi_28 {ad : Nat → Nat} {σ : MS} : vM ad σ 28 = .int (σ.1 28) := rfl
theorem vmq_28 : (mIsA 28 || Nat.beq 28 26) = false := rfl
theorem vmn_28 {v : Int32} : narrow (vwTy 13 28) (.int v) = .int v := rfl
theorem vmf_28 {v : Int32} : fits (vwTy 13 28) (.int v) = true := rfl
theorem vmi_29 {ad : Nat → Nat} {σ : MS} : vM ad σ 29 = .int (σ.1 29) := rfl
theorem vmq_29 : (mIsA 29 || Nat.beq 29 26) = false := rfl
theorem vmn_29 {v : Int32} : narrow (vwTy 13 29) (.int v) = .int v := rfl
theorem vmf_29 {v : Int32} : fits (vwTy 13 29) (.int v) = true := rfl
theorem vmi_30 {ad : Nat → Nat} {σ : MS} : vM ad σ 30 = .int (σ.1 30) := rfl
theorem vmq_30 : (mIsA 30 || Nat.beq 30 26) = false := rfl
theorem vmn_30 {v : Int32} : narrow (vwTy 13 30) (.int v) = .int v := rfl
theorem vmf_30 {v : Int32} : fits (vwTy 13 30) (.int v) = true := rfl
theorem vmi_31 {ad : Nat → Nat} {σ : MS} : vM ad σ 31 = .int (σ.1 31) := rfl
theorem vmq_31 : (mIsA 31 || Nat.beq 31 26) = false := rfl
theorem vmn_31 {v : Int32} : narrow (vwTy 13 31) (.int v) = .int v := rfl
theorem vmf_31 {v : Int32} : fits (vwTy 13 31) (.int v) = true := rfl
theorem vmi_32 {ad : Nat → Nat} {σ : MS} : vM ad σ 32 = .int (σ.1 32) := rfl
theorem vmq_32 : (mIsA 32 || Nat.beq 32 26) = false := rfl
theorem vmn_32 {v : Int32} : narrow (vwTy 13 32) (.int v) = .int v := rfl
theorem vmf_32 {v : Int32} : fits (vwTy 13 32) (.int v) = true := rfl
theorem vmi_33 {ad : Nat → Nat} {σ : MS} : vM ad σ 33 = .int (σ.1 33) := rfl
theorem vmq_33 : (mIsA 33 || Nat.beq 33 26) = false := rfl
theorem vmn_33 {v : Int32} : narrow (vwTy 13 33) (.int v) = .int v := rfl
theorem vmf_33 {v : Int32} : fits (vwTy 13 33) (.int v) = true := rfl
theorem vmi_34 {ad : Nat → Nat} {σ : MS} : vM ad σ 34 = .int (σ.1 34) := rfl
theorem vmq_34 : (mIsA 34 || Nat.beq 34 26) = false := rfl
theorem vma_35 {ad : Nat → Nat} {σ : MS} : vM ad σ 35 = .ref (ad 35) := rfl
theorem mf_35 : mFind mArr 35 = some (100, 200) := rfl
theorem vmi_36 {ad : Nat → Nat} {σ : MS} : vM ad σ 36 = .int (σ.1 36) := rfl
theorem vmq_36 : (mIsA 36 || Nat.beq 36 26) = false := rfl
theorem vmn_36 {v : Int32} : narrow (vwTy 13 36) (.int v) = .int v := rfl
theorem vmf_36 {v : Int32} : fits (vwTy 13 36) (.int v) = true := rfl
theorem vmi_37 {ad : Nat → Nat} {σ : MS} : vM ad σ 37 = .int (σ.1 37) := rfl
theorem vmq_37 : (mIsA 37 || Nat.beq 37 26) = false := rfl
theorem vmn_37 {v : Int32} : narrow (vwTy 13 37) (.int v) = .int v := rfl
theorem vmf_37 {v : Int32} : fits (vwTy 13 37) (.int v) = true := rfl
theorem vma_38 {ad : Nat → Nat} {σ : MS} : vM ad σ 38 = .ref (ad 38) := rfl
theorem mf_38 : mFind mArr 38 = some (100, 100) := rfl
theorem vma_39 {ad : Nat → Nat} {σ : MS} : vM ad σ 39 = .ref (ad 39) := rfl
theorem mf_39 : mFind mArr 39 = some (100, 100) := rfl
theorem vma_40 {ad : Nat → Nat} {σ : MS} : vM ad σ 40 = .ref (ad 40) := rfl
theorem mf_40 : mFind mArr 40 = some (100, 100) := rfl
theorem vma_41 {ad : Nat → Nat} {σ : MS} : vM ad σ 41 = .ref (ad 41) := rfl
theorem mf_41 : mFind mArr 41 = some (100, 100) := rfl
theorem vma_42 {ad : Nat → Nat} {σ : MS} : vM ad σ 42 = .ref (ad 42) := rfl
theorem mf_42 : mFind mArr 42 = some (103, 100) := rfl
theorem vma_43 {ad : Nat → Nat} {σ : MS} : vM ad σ 43 = .ref (ad 43) := rfl
theorem mf_43 : mFind mArr 43 = some (103, 24) := rfl
theorem vmi_44 {ad : Nat → Nat} {σ : MS} : vM ad σ 44 = .int (σ.1 44) := rfl
theorem vmq_44 : (mIsA 44 || Nat.beq 44 26) = false := rfl
theorem vmn_44 {v : Int32} : narrow (vwTy 13 44) (.int v) = .int v := rfl
theorem vmf_44 {v : Int32} : fits (vwTy 13 44) (.int v) = true := rfl
theorem vma_45 {ad : Nat → Nat} {σ : MS} : vM ad σ 45 = .ref (ad 45) := rfl
theorem mf_45 : mFind mArr 45 = some (100, 200) := rfl
theorem vma_46 {ad : Nat → Nat} {σ : MS} : vM ad σ 46 = .ref (ad 46) := rfl
theorem mf_46 : mFind mArr 46 = some (100, 200) := rfl
theorem vma_47 {ad : Nat → Nat} {σ : MS} : vM ad σ 47 = .ref (ad 47) := rfl
theorem mf_47 : mFind mArr 47 = some (100, 200) := rfl
theorem vma_48 {ad : Nat → Nat} {σ : MS} : vM ad σ 48 = .ref (ad 48) := rfl
theorem mf_48 : mFind mArr 48 = some (100, 200) := rfl
theorem vmi_49 {ad : Nat → Nat} {σ : MS} : vM ad σ 49 = .int (σ.1 49) := rfl
theorem vmq_49 : (mIsA 49 || Nat.beq 49 26) = false := rfl
theorem vmn_49 {v : Int32} : narrow (vwTy 13 49) (.int v) = .int v := rfl
theorem vmf_49 {v : Int32} : fits (vwTy 13 49) (.int v) = true := rfl
theorem vma_50 {ad : Nat → Nat} {σ : MS} : vM ad σ 50 = .ref (ad 50) := rfl
theorem mf_50 : mFind mArr 50 = some (100, 32) := rfl
theorem vma_51 {ad : Nat → Nat} {σ : MS} : vM ad σ 51 = .ref (ad 51) := rfl
theorem mf_51 : mFind mArr 51 = some (100, 200) := rfl
theorem vmi_52 {ad : Nat → Nat} {σ : MS} : vM ad σ 52 = .int (σ.1 52) := rfl
theorem vmq_52 : (mIsA 52 || Nat.beq 52 26) = false := rfl
theorem vmn_52 {v : Int32} : narrow (vwTy 13 52) (.int v) = .int v := rfl
theorem vmf_52 {v : Int32} : fits (vwTy 13 52) (.int v) = true := rfl
theorem vma_53 {ad : Nat → Nat} {σ : MS} : vM ad σ 53 = .ref (ad 53) := rfl
theorem mf_53 : mFind mArr 53 = some (100, 4) := rfl
theorem vma_54 {ad : Nat → Nat} {σ : MS} : vM ad σ 54 = .ref (ad 54) := rfl
theorem mf_54 : mFind mArr 54 = some (100, 4) := rfl
theorem vma_55 {ad : Nat → Nat} {σ : MS} : vM ad σ 55 = .ref (ad 55) := rfl
theorem mf_55 : mFind mArr 55 = some (100, 8) := rfl
theorem vma_56 {ad : Nat → Nat} {σ : MS} : vM ad σ 56 = .ref (ad 56) := rfl
theorem mf_56 : mFind mArr 56 = some (100, 8) := rfl
theorem vma_57 {ad : Nat → Nat} {σ : MS} : vM ad σ 57 = .ref (ad 57) := rfl
theorem mf_57 : mFind mArr 57 = some (100, 8) := rfl
theorem vma_58 {ad : Nat → Nat} {σ : MS} : vM ad σ 58 = .ref (ad 58) := rfl
theorem mf_58 : mFind mArr 58 = some (100, 8) := rfl
theorem vmi_59 {ad : Nat → Nat} {σ : MS} : vM ad σ 59 = .int (σ.1 59) := rfl
theorem vmq_59 : (mIsA 59 || Nat.beq 59 26) = false := rfl
theorem vmn_59 {v : Int32} : narrow (vwTy 13 59) (.int v) = .int v := rfl
theorem vmf_59 {v : Int32} : fits (vwTy 13 59) (.int v) = true := rfl
theorem vmi_60 {ad : Nat → Nat} {σ : MS} : vM ad σ 60 = .int (σ.1 60) := rfl
theorem vmq_60 : (mIsA 60 || Nat.beq 60 26) = false := rfl
theorem vmn_60 {v : Int32} : narrow (vwTy 13 60) (.int v) = .int v := rfl
theorem vmf_60 {v : Int32} : fits (vwTy 13 60) (.int v) = true := rfl
theorem vmi_61 {ad : Nat → Nat} {σ : MS} : vM ad σ 61 = .int (σ.1 61) := rfl
theorem vmq_61 : (mIsA 61 || Nat.beq 61 26) = false := rfl
theorem vmn_61 {v : Int32} : narrow (vwTy 13 61) (.int v) = .int v := rfl
theorem vmf_61 {v : Int32} : fits (vwTy 13 61) (.int v) = true := rfl
theorem vma_62 {ad : Nat → Nat} {σ : MS} : vM ad σ 62 = .ref (ad 62) := rfl
theorem mf_62 : mFind mArr 62 = some (100, 8) := rfl
theorem vma_63 {ad : Nat → Nat} {σ : MS} : vM ad σ 63 = .ref (ad 63) := rfl
theorem mf_63 : mFind mArr 63 = some (100, 8) := rfl
theorem vma_64 {ad : Nat → Nat} {σ : MS} : vM ad σ 64 = .ref (ad 64) := rfl
theorem mf_64 : mFind mArr 64 = some (100, 24) := rfl
theorem vmi_65 {ad : Nat → Nat} {σ : MS} : vM ad σ 65 = .int (σ.1 65) := rfl
theorem vmq_65 : (mIsA 65 || Nat.beq 65 26) = false := rfl
theorem vmn_65 {v : Int32} : narrow (vwTy 13 65) (.int v) = .int v := rfl
theorem vmf_65 {v : Int32} : fits (vwTy 13 65) (.int v) = true := rfl
section XM
variable {G : Gam} {d : Nat} {k : Nat × Nat} {Y : MR} {ad : Nat → Nat} {σ : MS} {lv : Lv} {st : List Value} {pc : Nat} {Q : Option Value → Mem → Prop}
theorem xm_geti {idx kf : Nat} (hd : decode Y.2.1 pc = .ok (.getfield idx, 3)) (hlk : LkF Y.1.cls idx 13 kf) (hv : vM ad σ kf = .int (σ.1 kf)) (kk : XJ G d k Y (mm ad σ) lv (.int (σ.1 kf) :: st) (pc + 3) Q) : XJ G d k Y (mm ad σ) lv (.ref (ad 99) :: st) pc Q := x_getf hd hlk mm_obj hv kk
theorem xm_geta {idx kf : Nat} (hd : decode Y.2.1 pc = .ok (.getfield idx, 3)) (hlk : LkF Y.1.cls idx 13 kf) (hv : vM ad σ kf = .ref (ad kf)) (kk : XJ G d k Y (mm ad σ) lv (.ref (ad kf) :: st) (pc + 3) Q) : XJ G d k Y (mm ad σ) lv (.ref (ad 99) :: st) pc Q := x_getf hd hlk mm_obj hv kk
theorem xm_puti {idx kf : Nat} {v : Int32} (hd : decode Y.2.1 pc = .ok (.putfield idx, 3)) (hlk : LkP Y.1.cls idx 13 kf) (hA : (mIsA kf || Nat.beq kf 26) = false) (hn : narrow (vwTy 13 kf) (.int v) = .int v) (hfit : fits (vwTy 13 kf) (.int v) = true) (kk : XJ G d k Y (mm ad (seti σ kf v)) lv st (pc + 3) Q) : XJ G d k Y (mm ad σ) lv (.int v :: .ref (ad 99) :: st) pc Q := by
  rw [Bool.or_eq_false_iff] at hA
  refine x_putf hd hlk mm_obj hn hfit ?_
  rw [mm_seti hA.1 (Nat.ne_of_beq_eq_false hA.2)]
  exact kk
theorem xm_iald {n j : Nat} (kf : Nat) {i : Int32} (hd : decode Y.2.1 pc = .ok (.iaload, 1)) (h : mFind mArr kf = some (100, n)) (hi : adOK ad) (hin : vp_in i n) (hj : i.toNatClampNeg = j) (kk : XJ G d k Y (mm ad σ) lv (.int (σ.2 kf j) :: st) (pc + 1) Q) : XJ G d k Y (mm ad σ) lv (.int i :: .ref (ad kf) :: st) pc Q := x_iaload hd (mm_arr hi h) hin (by rw [hj]) kk
theorem xm_bald {n j : Nat} (kf : Nat) {i : Int32} (hd : decode Y.2.1 pc = .ok (.baload, 1)) (h : mFind mArr kf = some (101, n)) (hi : adOK ad) (hin : vp_in i n) (hj : i.toNatClampNeg = j) (kk : XJ G d k Y (mm ad σ) lv (.int (σ.2 kf j) :: st) (pc + 1) Q) : XJ G d k Y (mm ad σ) lv (.int i :: .ref (ad kf) :: st) pc Q := x_baload hd (mm_arr hi h) hin (by rw [hj]) kk
theorem xm_zald {n j : Nat} (kf : Nat) {i : Int32} (hd : decode Y.2.1 pc = .ok (.baload, 1)) (h : mFind mArr kf = some (103, n)) (hi : adOK ad) (hin : vp_in i n) (hj : i.toNatClampNeg = j) (kk : XJ G d k Y (mm ad σ) lv (.int (σ.2 kf j) :: st) (pc + 1) Q) : XJ G d k Y (mm ad σ) lv (.int i :: .ref (ad kf) :: st) pc Q := x_zaload hd (mm_arr hi h) hin (by rw [hj]) kk
theorem xm_iast {n j : Nat} (kf : Nat) {i v : Int32} (hd : decode Y.2.1 pc = .ok (.iastore, 1)) (h : mFind mArr kf = some (100, n)) (hi : adOK ad) (hin : vp_in i n) (hj : i.toNatClampNeg = j) (kk : XJ G d k Y (mm ad (seta σ kf j v)) lv st (pc + 1) Q) : XJ G d k Y (mm ad σ) lv (.int v :: .int i :: .ref (ad kf) :: st) pc Q := by
  refine x_iastore hd (mm_arr hi h) hin ?_
  rw [mm_seta hi h, hj]; exact kk
theorem xm_bast {n j : Nat} (kf : Nat) {i v : Int32} (hd : decode Y.2.1 pc = .ok (.bastore, 1)) (h : mFind mArr kf = some (101, n)) (hi : adOK ad) (hin : vp_in i n) (hj : i.toNatClampNeg = j) (kk : XJ G d k Y (mm ad (seta σ kf j v.toInt8.toInt32)) lv st (pc + 1) Q) : XJ G d k Y (mm ad σ) lv (.int v :: .int i :: .ref (ad kf) :: st) pc Q := by
  refine x_bastore hd (mm_arr hi h) hin ?_
  rw [mm_seta hi h, hj]; exact kk
theorem xm_zast {n j : Nat} (kf : Nat) {i v : Int32} (hd : decode Y.2.1 pc = .ok (.bastore, 1)) (h : mFind mArr kf = some (103, n)) (hi : adOK ad) (hin : vp_in i n) (hj : i.toNatClampNeg = j) (kk : XJ G d k Y (mm ad (seta σ kf j (v &&& 1))) lv st (pc + 1) Q) : XJ G d k Y (mm ad σ) lv (.int v :: .int i :: .ref (ad kf) :: st) pc Q := by
  refine x_zastore hd (mm_arr hi h) hin ?_
  rw [mm_seta hi h, hj]; exact kk
end XM
/-- 1 where P holds, else 0 -/
noncomputable def bI (P : Prop) : Int32 := @ite _ P (Classical.propDecidable P) 1 0
theorem bI_t {P : Prop} (h : P) : bI P = 1 := if_pos h
theorem bI_f {P : Prop} (h : ¬ P) : bI P = 0 := if_neg h
theorem bI_c {P Q : Prop} (h : P ↔ Q) : bI P = bI Q := by rw [propext h]
theorem bI_01 {P : Prop} : bI P = 0 ∨ bI P = 1 := by
  by_cases h : P
  · exact Or.inr (bI_t h)
  · exact Or.inl (bI_f h)
theorem bI_nar {P : Prop} : narrow .boolean (.int (bI P)) = .int (bI P) := by
  rcases bI_01 (P := P) with h | h <;> rw [h] <;> rfl
theorem bI_and1 {P : Prop} : bI P &&& 1 = bI P := by
  rcases bI_01 (P := P) with h | h <;> rw [h] <;> rfl
section XB
variable {G : Gam} {d : Nat} {k : Nat × Nat} {Y : MR} {M : Mem} {lv : Lv} {st : List Value} {pc : Nat} {Q : Option Value → Mem → Prop}
theorem x_if_eq_b {P : Prop} {off : Int} {tgt : Nat} (hd : decode Y.2.1 pc = .ok (.ifCond .eq off, 3)) (ht : (pc : Int) + off = (tgt : Int)) (kt : ¬ P → XJ G d k Y M lv st tgt Q) (kf : P → XJ G d k Y M lv st (pc + 3) Q) : XJ G d k Y M lv (.int (bI P) :: st) pc Q :=
  x_if_eq hd ht (fun h => kt (fun p => by rw [bI_t p] at h; exact absurd h (by decide))) (fun h => kf (Classical.byContradiction fun p => h (bI_f p)))
theorem x_if_ne_b {P : Prop} {off : Int} {tgt : Nat} (hd : decode Y.2.1 pc = .ok (.ifCond .ne off, 3)) (ht : (pc : Int) + off = (tgt : Int)) (kt : P → XJ G d k Y M lv st tgt Q) (kf : ¬ P → XJ G d k Y M lv st (pc + 3) Q) : XJ G d k Y M lv (.int (bI P) :: st) pc Q :=
  x_if_ne hd ht (fun h => kt (Classical.byContradiction fun p => h (bI_f p))) (fun h => kf (fun p => by rw [bI_t p] at h; exact absurd h (by decide)))
end XB
section MDB
variable {G : Gam} {d : Nat} {k : Nat × Nat} {ad : Nat → Nat} {σ : MS} {M : Mem} {Q : Option Value → Mem → Prop}
theorem c_X12_isIn {v a b : Int32} (hq : Q (some (.int (bI (a ≤ v ∧ v ≤ b)))) M) : CT G d (0, 0) MX12_isIn [.int v, .int a, .int b] M Q := by
  refine CT.of rfl (Nat.le_of_ble_eq_true rfl) ?_
  refine x_iload_n dX12_isIn_0 rfl rfl ?_
  refine x_iload_n dX12_isIn_1 rfl rfl ?_
  refine x_icmp_lt (tgt := 14) dX12_isIn_2 (by decide) (fun h2 => ?_) (fun h2 => ?_)
  · refine x_iconst (v := 0) dX12_isIn_14 (by decide) ?_
    exact x_ireturn dX12_isIn_15 rfl rfl (by first | (rw [bI_t ⟨Int32.not_lt.mp h2, Int32.not_lt.mp h7⟩] at hq; exact hq) | (rw [bI_f (fun z => absurd h2 (Int32.not_lt.mpr z.1))] at hq; exact hq) | (rw [bI_f (fun z => absurd h7 (Int32.not_lt.mpr z.2))] at hq; exact hq))
  · refine x_iload_n dX12_isIn_5 rfl rfl ?_
    refine x_iload_n dX12_isIn_6 rfl rfl ?_
    refine x_icmp_gt (tgt := 14) dX12_isIn_7 (by decide) (fun h7 => ?_) (fun h7 => ?_)
    · refine x_iconst (v := 0) dX12_isIn_14 (by decide) ?_
      exact x_ireturn dX12_isIn_15 rfl rfl (by first | (rw [bI_t ⟨Int32.not_lt.mp h2, Int32.not_lt.mp h7⟩] at hq; exact hq) | (rw [bI_f (fun z => absurd h2 (Int32.not_lt.mpr z.1))] at hq; exact hq) | (rw [bI_f (fun z => absurd h7 (Int32.not_lt.mpr z.2))] at hq; exact hq))
    · refine x_iconst (v := 1) dX12_isIn_10 (by decide) ?_
      refine x_goto (tgt := 15) dX12_isIn_11 (by decide) ?_
      exact x_ireturn dX12_isIn_15 rfl rfl (by first | (rw [bI_t ⟨Int32.not_lt.mp h2, Int32.not_lt.mp h7⟩] at hq; exact hq) | (rw [bI_f (fun z => absurd h2 (Int32.not_lt.mpr z.1))] at hq; exact hq) | (rw [bI_f (fun z => absurd h7 (Int32.not_lt.mpr z.2))] at hq; exact hq))
theorem c_X12_isKnown {q : Int32} (hq : Q (some (.int (bI (0 ≤ q ∧ q ≤ σ.1 1)))) (mm ad σ)) : CT G (d + 1) (0, 0) MX12_isKnown [.ref (ad 99), .int q] (mm ad σ) Q := by
  refine CT.of rfl (Nat.le_of_ble_eq_true rfl) ?_
  refine x_iload_n dX12_isKnown_0 rfl rfl ?_
  refine x_iconst (v := 0) dX12_isKnown_1 (by decide) ?_
  refine x_aload_n dX12_isKnown_2 rfl rfl ?_
  refine xm_geti dX12_isKnown_3 lf_X12_142 vmi_1 ?_
  refine x_cS3 dX12_isKnown_6 ls_X12_145 rfl  (c_X12_isIn ?_)
  exact x_ireturn dX12_isKnown_9 rfl bI_nar (hq)
end MDB
