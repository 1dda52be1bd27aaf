/-! THE MODEL's memory: one object, its arrays; a state is its ints and its arrays' ints -/
abbrev MS : Type := (Nat → Int32) × (Nat → Nat → Int32)
def seti (σ : MS) (k : Nat) (v : Int32) : MS := (upd σ.1 k v, σ.2)
def seta (σ : MS) (k i : Nat) (v : Int32) : MS := (σ.1, fun j => if j = k then upd (σ.2 k) i v else σ.2 j)
/-- the arrays: field, kind, length -/
def mArr : List (Nat × Nat × Nat) := [(2, 100, 24), (3, 100, 24), (4, 100, 24), (5, 100, 60), (6, 100, 60), (7, 100, 60), (8, 100, 200), (9, 100, 200), (10, 100, 200), (11, 100, 200), (12, 100, 200), (13, 100, 200), (14, 100, 200), (18, 101, 160), (19, 101, 3200), (20, 100, 20), (21, 100, 20), (22, 100, 20), (23, 100, 128), (35, 100, 200), (38, 100, 100), (39, 100, 100), (40, 100, 100), (41, 100, 100), (42, 103, 100), (43, 103, 24), (45, 100, 200), (46, 100, 200), (47, 100, 200), (48, 100, 200), (50, 100, 32), (51, 100, 200), (53, 100, 4), (54, 100, 4), (55, 100, 8), (56, 100, 8), (57, 100, 8), (58, 100, 8), (62, 100, 8), (63, 100, 8), (64, 100, 24)]
def mFind : List (Nat × Nat × Nat) → Nat → Option (Nat × Nat)
  | [], _ => none
  | (k, c) :: t, i => bif Nat.beq k i then some c else mFind t i
def mIsA (k : Nat) : Bool := (mFind mArr k).isSome
/-- the field text (26) holds the array whose field's number stands in its place -/
def vM (ad : Nat → Nat) (σ : MS) (k : Nat) : Value := bif mIsA k then .ref (ad k) else bif Nat.beq k 26 then .ref (ad (σ.1 26).toNatClampNeg) else .int (σ.1 k)
def mmA (ad : Nat → Nat) (σ : MS) : List (Nat × Nat × Nat) → Mem
  | [] => fun _ => none
  | (k, c, n) :: t => fun a => if a = ad k then some (c, n, fun i => .int (σ.2 k i)) else mmA ad σ t a
def mm (ad : Nat → Nat) (σ : MS) : Mem := fun a => if a = ad 99 then some (13, 66, vM ad σ) else mmA ad σ mArr a
def adOK (ad : Nat → Nat) : Prop := ∀ i j, i < 100 → j < 100 → ad i = ad j → i = j
theorem mm_obj {ad : Nat → Nat} {σ : MS} : mm ad σ (ad 99) = some (13, 66, vM ad σ) := if_pos rfl
theorem mFind_mem : ∀ {l : List (Nat × Nat × Nat)} {k : Nat} {c : Nat × Nat}, mFind l k = some c → (k, c) ∈ l
  | [], _, _, h => by cases h
  | (j, e) :: t, k, c, h => by
    unfold mFind at h
    cases e1 : Nat.beq j k with
    | true =>
      rw [e1] at h
      have hj : j = k := Nat.eq_of_beq_eq_true e1
      cases h
      subst hj
      exact List.mem_cons_self
    | false =>
      rw [e1] at h
      exact List.mem_cons_of_mem _ (mFind_mem h)
theorem mArr_lt : ∀ q ∈ mArr, q.1 < 99 := by decide
theorem mmA_get {ad : Nat → Nat} {σ : MS} (hi : adOK ad) : ∀ (l : List (Nat × Nat × Nat)), (∀ q ∈ l, q.1 < 99) → ∀ {k c n : Nat}, mFind l k = some (c, n) → mmA ad σ l (ad k) = some (c, n, fun i => .int (σ.2 k i))
  | [], _, _, _, _, h => by cases h
  | (j, c0, n0) :: t, hl, k, c, n, h => by
    have hm := mFind_mem h
    have hk : k < 99 := hl _ hm
    have hj : j < 99 := hl (j, c0, n0) List.mem_cons_self
    unfold mFind at h
    cases e1 : Nat.beq j k with
    | true =>
      rw [e1] at h
      have e2 : j = k := Nat.eq_of_beq_eq_true e1
      subst e2
      cases h
      exact if_pos rfl
    | false =>
      rw [e1] at h
      have e2 : j ≠ k := Nat.ne_of_beq_eq_false e1
      show (if ad k = ad j then _ else _) = _
      rw [if_neg (fun z => e2 (hi j k (by omega) (by omega) z.symm))]
      exact mmA_get hi t (fun q hq => hl q (List.mem_cons_of_mem _ hq)) h
theorem mm_arr {ad : Nat → Nat} {σ : MS} (hi : adOK ad) {k c n : Nat} (h : mFind mArr k = some (c, n)) : mm ad σ (ad k) = some (c, n, fun i => .int (σ.2 k i)) := by
  have hk : k < 99 := mArr_lt _ (mFind_mem h)
  unfold mm
  rw [if_neg (fun z => absurd (hi k 99 (by omega) (by omega) z) (by omega))]
  exact mmA_get hi mArr mArr_lt h
theorem vM_seti {ad : Nat → Nat} {σ : MS} {k : Nat} {v : Int32} (h1 : mIsA k = false) (h2 : k ≠ 26) : vM ad (seti σ k v) = updV (vM ad σ) k (.int v) := by
  funext j
  by_cases e : j = k
  · subst e
    rw [updV_eq]
    unfold vM
    rw [h1]
    have : Nat.beq j 26 = false := by
      cases e2 : Nat.beq j 26 with
      | false => rfl
      | true => exact absurd (Nat.eq_of_beq_eq_true e2) h2
    rw [this]
    show Value.int (upd σ.1 j v j) = _
    rw [pk_us]
  · rw [updV_ne e]
    unfold vM
    have h3 : (seti σ k v).1 j = σ.1 j := pk_un e
    have h4 : (seti σ k v).1 26 = σ.1 26 := pk_un (fun z => h2 z.symm)
    rw [h3, h4]
theorem mmA_seti {ad : Nat → Nat} {σ : MS} {k : Nat} {v : Int32} : ∀ l, mmA ad (seti σ k v) l = mmA ad σ l
  | [] => rfl
  | (j, c, n) :: t => by
    show (fun a => if a = ad j then _ else mmA ad (seti σ k v) t a) = _
    rw [mmA_seti t]; rfl
theorem mm_seti {ad : Nat → Nat} {σ : MS} {k : Nat} {v : Int32} (h1 : mIsA k = false) (h2 : k ≠ 26) : mset (mm ad σ) (ad 99) (13, 66, updV (vM ad σ) k (.int v)) = mm ad (seti σ k v) := by
  funext a
  unfold mset mm
  by_cases e : a = ad 99
  · rw [if_pos e, if_pos e, vM_seti h1 h2]
  · rw [if_neg e, if_neg e, if_neg e, mmA_seti]
theorem mm_setx {ad : Nat → Nat} {σ : MS} {j : Nat} (hj : j < 2 ^ 31) : mset (mm ad σ) (ad 99) (13, 66, updV (vM ad σ) 26 (.ref (ad j))) = mm ad (seti σ 26 (nI j)) := by
  funext a
  unfold mset mm
  by_cases e : a = ad 99
  · rw [if_pos e, if_pos e]
    congr 3
    funext i
    by_cases e2 : i = 26
    · subst e2
      rw [updV_eq]
      show _ = Value.ref (ad ((upd σ.1 26 (nI j)) 26).toNatClampNeg)
      rw [pk_us, nI_clamp hj]
    · rw [updV_ne e2]
      unfold vM
      have : Nat.beq i 26 = false := by
        cases e3 : Nat.beq i 26 with
        | false => rfl
        | true => exact absurd (Nat.eq_of_beq_eq_true e3) e2
      rw [this]
      show _ = bif mIsA i then _ else Value.int (upd σ.1 26 (nI j) i)
      rw [pk_un e2]; rfl
  · rw [if_neg e, if_neg e, if_neg e, mmA_seti]
theorem mmA_seta {ad : Nat → Nat} {σ : MS} (hi : adOK ad) {k i : Nat} {v : Int32} (hk : k < 99) : ∀ (l : List (Nat × Nat × Nat)), (∀ q ∈ l, q.1 < 99) → ∀ a, a ≠ ad k → mmA ad (seta σ k i v) l a = mmA ad σ l a
  | [], _, _, _ => rfl
  | (j, c, n) :: t, hl, a, ha => by
    show (if a = ad j then some (c, n, fun x => Value.int ((seta σ k i v).2 j x)) else mmA ad (seta σ k i v) t a) = (if a = ad j then some (c, n, fun x => Value.int (σ.2 j x)) else mmA ad σ t a)
    by_cases e : a = ad j
    · rw [if_pos e, if_pos e]
      have : j ≠ k := fun z => ha (by rw [e, z])
      have h2 : (seta σ k i v).2 j = σ.2 j := if_neg this
      rw [h2]
    · rw [if_neg e, if_neg e, mmA_seta hi hk t (fun q hq => hl q (List.mem_cons_of_mem _ hq)) a ha]
theorem mm_seta {ad : Nat → Nat} {σ : MS} (hi : adOK ad) {k c n i : Nat} {v : Int32} (h : mFind mArr k = some (c, n)) : mset (mm ad σ) (ad k) (c, n, updV (fun x => .int (σ.2 k x)) i (.int v)) = mm ad (seta σ k i v) := by
  have hk : k < 99 := mArr_lt _ (mFind_mem h)
  funext a
  by_cases e : a = ad k
  · subst e
    rw [mset_eq, mm_arr hi h]
    congr 3
    funext x
    have h2 : (seta σ k i v).2 k = upd (σ.2 k) i v := if_pos rfl
    rw [h2]
    by_cases e2 : x = i
    · subst e2; rw [updV_eq, pk_us]
    · rw [updV_ne e2, pk_un e2]
  · rw [mset_ne e]
    unfold mm
    by_cases e2 : a = ad 99
    · rw [if_pos e2, if_pos e2]; rfl
    · rw [if_neg e2, if_neg e2, mmA_seta hi hk mArr mArr_lt a e]
section XM
variable {G : Gam} {d : Nat} {k : Nat × Nat} {Y : MR} {ad : Nat → Nat} {σ : MS} {lv : Lv} {st : List Value} {pc : Nat} {Q : Option Value → Mem → Prop}
theorem xm_geti {idx kf : Nat} (hd : decode Y.2.1 pc = .ok (.getfield idx, 3)) (hlk : LkF Y.1.cls idx 13 kf) (hv : vM ad σ kf = .int (σ.1 kf)) (kk : XJ G d k Y (mm ad σ) lv (.int (σ.1 kf) :: st) (pc + 3) Q) : XJ G d k Y (mm ad σ) lv (.ref (ad 99) :: st) pc Q := x_getf hd hlk mm_obj hv kk
theorem xm_geta {idx kf : Nat} (hd : decode Y.2.1 pc = .ok (.getfield idx, 3)) (hlk : LkF Y.1.cls idx 13 kf) (hv : vM ad σ kf = .ref (ad kf)) (kk : XJ G d k Y (mm ad σ) lv (.ref (ad kf) :: st) (pc + 3) Q) : XJ G d k Y (mm ad σ) lv (.ref (ad 99) :: st) pc Q := x_getf hd hlk mm_obj hv kk
theorem xm_puti {idx kf : Nat} {v : Int32} (hd : decode Y.2.1 pc = .ok (.putfield idx, 3)) (hlk : LkP Y.1.cls idx 13 kf) (hA : (mIsA kf || Nat.beq kf 26) = false) (hn : narrow (vwTy 13 kf) (.int v) = .int v) (hfit : fits (vwTy 13 kf) (.int v) = true) (kk : XJ G d k Y (mm ad (seti σ kf v)) lv st (pc + 3) Q) : XJ G d k Y (mm ad σ) lv (.int v :: .ref (ad 99) :: st) pc Q := by
  rw [Bool.or_eq_false_iff] at hA
  refine x_putf hd hlk mm_obj hn hfit ?_
  rw [mm_seti hA.1 (Nat.ne_of_beq_eq_false hA.2)]
  exact kk
theorem xm_iald {n j : Nat} (kf : Nat) {i : Int32} (hd : decode Y.2.1 pc = .ok (.iaload, 1)) (h : mFind mArr kf = some (100, n)) (hi : adOK ad) (hin : vp_in i n) (hj : i.toNatClampNeg = j) (kk : XJ G d k Y (mm ad σ) lv (.int (σ.2 kf j) :: st) (pc + 1) Q) : XJ G d k Y (mm ad σ) lv (.int i :: .ref (ad kf) :: st) pc Q := x_iaload hd (mm_arr hi h) hin (by rw [hj]) kk
theorem xm_bald {n j : Nat} (kf : Nat) {i : Int32} (hd : decode Y.2.1 pc = .ok (.baload, 1)) (h : mFind mArr kf = some (101, n)) (hi : adOK ad) (hin : vp_in i n) (hj : i.toNatClampNeg = j) (kk : XJ G d k Y (mm ad σ) lv (.int (σ.2 kf j) :: st) (pc + 1) Q) : XJ G d k Y (mm ad σ) lv (.int i :: .ref (ad kf) :: st) pc Q := x_baload hd (mm_arr hi h) hin (by rw [hj]) kk
theorem xm_zald {n j : Nat} (kf : Nat) {i : Int32} (hd : decode Y.2.1 pc = .ok (.baload, 1)) (h : mFind mArr kf = some (103, n)) (hi : adOK ad) (hin : vp_in i n) (hj : i.toNatClampNeg = j) (kk : XJ G d k Y (mm ad σ) lv (.int (σ.2 kf j) :: st) (pc + 1) Q) : XJ G d k Y (mm ad σ) lv (.int i :: .ref (ad kf) :: st) pc Q := x_zaload hd (mm_arr hi h) hin (by rw [hj]) kk
theorem xm_iast {n j : Nat} (kf : Nat) {i v : Int32} (hd : decode Y.2.1 pc = .ok (.iastore, 1)) (h : mFind mArr kf = some (100, n)) (hi : adOK ad) (hin : vp_in i n) (hj : i.toNatClampNeg = j) (kk : XJ G d k Y (mm ad (seta σ kf j v)) lv st (pc + 1) Q) : XJ G d k Y (mm ad σ) lv (.int v :: .int i :: .ref (ad kf) :: st) pc Q := by
  refine x_iastore hd (mm_arr hi h) hin ?_
  rw [mm_seta hi h, hj]; exact kk
theorem xm_bast {n j : Nat} (kf : Nat) {i v : Int32} (hd : decode Y.2.1 pc = .ok (.bastore, 1)) (h : mFind mArr kf = some (101, n)) (hi : adOK ad) (hin : vp_in i n) (hj : i.toNatClampNeg = j) (kk : XJ G d k Y (mm ad (seta σ kf j v.toInt8.toInt32)) lv st (pc + 1) Q) : XJ G d k Y (mm ad σ) lv (.int v :: .int i :: .ref (ad kf) :: st) pc Q := by
  refine x_bastore hd (mm_arr hi h) hin ?_
  rw [mm_seta hi h, hj]; exact kk
theorem xm_zast {n j : Nat} (kf : Nat) {i v : Int32} (hd : decode Y.2.1 pc = .ok (.bastore, 1)) (h : mFind mArr kf = some (103, n)) (hi : adOK ad) (hin : vp_in i n) (hj : i.toNatClampNeg = j) (kk : XJ G d k Y (mm ad (seta σ kf j (v &&& 1))) lv st (pc + 1) Q) : XJ G d k Y (mm ad σ) lv (.int v :: .int i :: .ref (ad kf) :: st) pc Q := by
  refine x_zastore hd (mm_arr hi h) hin ?_
  rw [mm_seta hi h, hj]; exact kk
end XM
/-- 1 where P holds, else 0 -/
noncomputable def bI (P : Prop) : Int32 := @ite _ P (Classical.propDecidable P) 1 0
theorem bI_t {P : Prop} (h : P) : bI P = 1 := if_pos h
theorem bI_f {P : Prop} (h : ¬ P) : bI P = 0 := if_neg h
theorem bI_c {P Q : Prop} (h : P ↔ Q) : bI P = bI Q := by rw [propext h]
theorem bI_01 {P : Prop} : bI P = 0 ∨ bI P = 1 := by
  by_cases h : P
  · exact Or.inr (bI_t h)
  · exact Or.inl (bI_f h)
theorem bI_nar {P : Prop} : narrow .boolean (.int (bI P)) = .int (bI P) := by
  rcases bI_01 (P := P) with h | h <;> rw [h] <;> rfl
theorem bI_and1 {P : Prop} : bI P &&& 1 = bI P := by
  rcases bI_01 (P := P) with h | h <;> rw [h] <;> rfl
section XB
variable {G : Gam} {d : Nat} {k : Nat × Nat} {Y : MR} {M : Mem} {lv : Lv} {st : List Value} {pc : Nat} {Q : Option Value → Mem → Prop}
theorem x_if_eq_b {P : Prop} {off : Int} {tgt : Nat} (hd : decode Y.2.1 pc = .ok (.ifCond .eq off, 3)) (ht : (pc : Int) + off = (tgt : Int)) (kt : ¬ P → XJ G d k Y M lv st tgt Q) (kf : P → XJ G d k Y M lv st (pc + 3) Q) : XJ G d k Y M lv (.int (bI P) :: st) pc Q :=
  x_if_eq hd ht (fun h => kt (fun p => by rw [bI_t p] at h; exact absurd h (by decide))) (fun h => kf (Classical.byContradiction fun p => h (bI_f p)))
theorem x_if_ne_b {P : Prop} {off : Int} {tgt : Nat} (hd : decode Y.2.1 pc = .ok (.ifCond .ne off, 3)) (ht : (pc : Int) + off = (tgt : Int)) (kt : P → XJ G d k Y M lv st tgt Q) (kf : ¬ P → XJ G d k Y M lv st (pc + 3) Q) : XJ G d k Y M lv (.int (bI P) :: st) pc Q :=
  x_if_ne hd ht (fun h => kt (Classical.byContradiction fun p => h (bI_f p))) (fun h => kf (fun p => by rw [bI_t p] at h; exact absurd h (by decide)))
end XB
section MDB
variable {G : Gam} {d : Nat} {k : Nat × Nat} {ad : Nat → Nat} {σ : MS} {M : Mem} {Q : Option Value → Mem → Prop}
theorem c_X12_isIn {v a b : Int32} (hq : Q (some (.int (bI (a ≤ v ∧ v ≤ b)))) M) : CT G d (0, 0) MX12_isIn [.int v, .int a, .int b] M Q := by
  refine CT.of rfl (Nat.le_of_ble_eq_true rfl) ?_
  refine x_iload_n dX12_isIn_0 rfl rfl ?_
  refine x_iload_n dX12_isIn_1 rfl rfl ?_
  refine x_icmp_lt (tgt := 14) dX12_isIn_2 (by decide) (fun h2 => ?_) (fun h2 => ?_)
  · refine x_iconst (v := 0) dX12_isIn_14 (by decide) ?_
    exact x_ireturn dX12_isIn_15 rfl rfl (by first | (rw [bI_t ⟨Int32.not_lt.mp h2, Int32.not_lt.mp h7⟩] at hq; exact hq) | (rw [bI_f (fun z => absurd h2 (Int32.not_lt.mpr z.1))] at hq; exact hq) | (rw [bI_f (fun z => absurd h7 (Int32.not_lt.mpr z.2))] at hq; exact hq))
  · refine x_iload_n dX12_isIn_5 rfl rfl ?_
    refine x_iload_n dX12_isIn_6 rfl rfl ?_
    refine x_icmp_gt (tgt := 14) dX12_isIn_7 (by decide) (fun h7 => ?_) (fun h7 => ?_)
    · refine x_iconst (v := 0) dX12_isIn_14 (by decide) ?_
      exact x_ireturn dX12_isIn_15 rfl rfl (by first | (rw [bI_t ⟨Int32.not_lt.mp h2, Int32.not_lt.mp h7⟩] at hq; exact hq) | (rw [bI_f (fun z => absurd h2 (Int32.not_lt.mpr z.1))] at hq; exact hq) | (rw [bI_f (fun z => absurd h7 (Int32.not_lt.mpr z.2))] at hq; exact hq))
    · refine x_iconst (v := 1) dX12_isIn_10 (by decide) ?_
      refine x_goto (tgt := 15) dX12_isIn_11 (by decide) ?_
      exact x_ireturn dX12_isIn_15 rfl rfl (by first | (rw [bI_t ⟨Int32.not_lt.mp h2, Int32.not_lt.mp h7⟩] at hq; exact hq) | (rw [bI_f (fun z => absurd h2 (Int32.not_lt.mpr z.1))] at hq; exact hq) | (rw [bI_f (fun z => absurd h7 (Int32.not_lt.mpr z.2))] at hq; exact hq))
theorem c_X12_isKnown {q : Int32} (hq : Q (some (.int (bI (0 ≤ q ∧ q ≤ σ.1 1)))) (mm ad σ)) : CT G (d + 1) (0, 0) MX12_isKnown [.ref (ad 99), .int q] (mm ad σ) Q := by
  refine CT.of rfl (Nat.le_of_ble_eq_true rfl) ?_
  refine x_iload_n dX12_isKnown_0 rfl rfl ?_
  refine x_iconst (v := 0) dX12_isKnown_1 (by decide) ?_
  refine x_aload_n dX12_isKnown_2 rfl rfl ?_
  refine xm_geti dX12_isKnown_3 lf_X12_142 rfl ?_
  refine x_callS [_, _, _] dX12_isKnown_6 ls_X12_145 rfl (Nat.le_of_ble_eq_true rfl) ⟨Nat.zero_le _, Nat.zero_le _⟩ rfl (c_X12_isIn ?_)
  exact x_ireturn dX12_isKnown_9 rfl bI_nar (hq)
end MDB
