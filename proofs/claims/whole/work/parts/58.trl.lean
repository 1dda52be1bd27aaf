/-! the class, 8: turns: lists, boundaries (no walks) -/
theorem posF_app (key : Nat → Int32) (x : Nat) (X Y : List Nat) (hX : ∀ y ∈ X, ¬ key y < key x) : ∀ j, j ≤ Y.length → (∀ i, i < j → key (Y.getD i 0) < key x) → posF key x (X ++ Y) (X.length + j) = X.length
  | 0, _, _ => by
    cases h : X.length with
    | zero => rfl
    | succ n =>
      show (if key ((X ++ Y).getD n 0) < key x then _ else n + 1) = n + 1
      have e : (X ++ Y).getD n 0 = X.getD n 0 := by
        rw [List.getD_eq_getElem?_getD, List.getD_eq_getElem?_getD, List.getElem?_append_left (by omega)]
      have hm : X.getD n 0 ∈ X := by
        rw [List.getD_eq_getElem?_getD, List.getElem?_eq_getElem (by omega)]
        exact List.getElem_mem _
      rw [e, if_neg (hX _ hm)]
  | j + 1, hj, h => by
    show (if key ((X ++ Y).getD (X.length + j) 0) < key x then posF key x (X ++ Y) (X.length + j) else X.length + j + 1) = X.length
    have e : (X ++ Y).getD (X.length + j) 0 = Y.getD j 0 := by
      rw [List.getD_eq_getElem?_getD, List.getD_eq_getElem?_getD, List.getElem?_append_right (by omega), show X.length + j - X.length = j by omega]
    rw [e, if_pos (h j (Nat.lt_succ_self j))]
    exact posF_app key x X Y hX j (by omega) (fun i hi => h i (by omega))
theorem insB_app (key : Nat → Int32) (x : Nat) (X Y : List Nat) (hX : ∀ y ∈ X, ¬ key y < key x) (hY : ∀ y ∈ Y, key y < key x) : insB key x (X ++ Y) = X ++ x :: Y := by
  have h := posF_app key x X Y hX Y.length (Nat.le_refl _) (fun i hi => hY _ (by
    rw [List.getD_eq_getElem?_getD, List.getElem?_eq_getElem hi]
    exact List.getElem_mem _))
  unfold insB
  rw [List.length_append, h, List.take_left, List.drop_left]
/-- as tAll, of the first n lines -/
def tAN (σ : MS) (a : Nat) (q : Int32) (n : Nat) : Nat → List Nat
  | 0 => []
  | m + 1 => tAN σ a q n m ++ dayL σ q (nI (a + m)) n
theorem tAN_eq (σ : MS) (a : Nat) (q : Int32) : ∀ m, tAN σ a q (cn σ 16) m = tAll σ a q m
  | 0 => rfl
  | m + 1 => by
    show tAN σ a q (cn σ 16) m ++ _ = tAll σ a q m ++ _
    rw [tAN_eq σ a q m]
theorem dayL_mem {σ : MS} {q d : Int32} {n y : Nat} (h : y ∈ dayL σ q d n) : y < n ∧ σ.2 9 y = d ∧ σ.2 14 y ≤ q := by
  unfold dayL at h
  obtain ⟨h1, h2⟩ := List.mem_filter.mp h
  unfold kno at h2
  exact ⟨List.mem_range.mp h1, of_decide_eq_true h2⟩
theorem tAN_mem {σ : MS} {a : Nat} {q : Int32} {n y : Nat} : ∀ m, y ∈ tAN σ a q n m → y < n ∧ ∃ i, i < m ∧ σ.2 9 y = nI (a + i)
  | 0, h => by cases h
  | m + 1, h => by
    rcases List.mem_append.mp h with h | h
    · obtain ⟨h1, i, hi, e⟩ := tAN_mem m h
      exact ⟨h1, i, by omega, e⟩
    · obtain ⟨h1, h2, -⟩ := dayL_mem h
      exact ⟨h1, m, Nat.lt_succ_self m, h2⟩
theorem kno_no {σ : MS} {q d : Int32} {n : Nat} (h : ¬ (σ.2 9 n = d ∧ σ.2 14 n ≤ q)) : dayL σ q d (n + 1) = dayL σ q d n := by
  rw [dayL_s, if_neg]
  unfold kno
  rw [decide_eq_true_iff]; exact h
theorem kno_yes {σ : MS} {q d : Int32} {n : Nat} (h : σ.2 9 n = d ∧ σ.2 14 n ≤ q) : dayL σ q d (n + 1) = dayL σ q d n ++ [n] := by
  rw [dayL_s, if_pos]
  unfold kno
  rw [decide_eq_true_iff]; exact h
theorem tAN_no {σ : MS} {a : Nat} {q : Int32} {n : Nat} : ∀ m, (∀ i, i < m → ¬ (σ.2 9 n = nI (a + i) ∧ σ.2 14 n ≤ q)) → tAN σ a q (n + 1) m = tAN σ a q n m
  | 0, _ => rfl
  | m + 1, h => by
    show tAN σ a q (n + 1) m ++ _ = tAN σ a q n m ++ _
    rw [tAN_no m (fun i hi => h i (by omega)), kno_no (h m (Nat.lt_succ_self m))]
/-- what stands behind a day's lines -/
theorem tAN_cut {σ : MS} {a : Nat} {q : Int32} {n i0 : Nat} (hd : σ.2 9 n = nI (a + i0)) (hq : σ.2 14 n ≤ q) : ∀ k, a + i0 + 1 + k < 5000 → ∃ Y, tAN σ a q n (i0 + 1 + k) = tAN σ a q n (i0 + 1) ++ Y ∧ tAN σ a q (n + 1) (i0 + 1 + k) = tAN σ a q (n + 1) (i0 + 1) ++ Y ∧ ∀ y ∈ Y, ∃ i, i0 < i ∧ i < i0 + 1 + k ∧ σ.2 9 y = nI (a + i)
  | 0, _ => ⟨[], (List.append_nil _).symm, (List.append_nil _).symm, fun y hy => by cases hy⟩
  | k + 1, h => by
    obtain ⟨Y, h1, h2, h3⟩ := tAN_cut hd hq k (by omega)
    have hno : ¬ (σ.2 9 n = nI (a + (i0 + 1 + k)) ∧ σ.2 14 n ≤ q) := by
      intro z
      have := (nI_eq (by omega) (by omega)).mp (hd.symm.trans z.1)
      omega
    refine ⟨Y ++ dayL σ q (nI (a + (i0 + 1 + k))) n, ?_, ?_, fun y hy => ?_⟩
    · show tAN σ a q n (i0 + 1 + k) ++ dayL σ q (nI (a + (i0 + 1 + k))) n = _
      rw [h1, List.append_assoc]
    · show tAN σ a q (n + 1) (i0 + 1 + k) ++ dayL σ q (nI (a + (i0 + 1 + k))) (n + 1) = _
      rw [h2, kno_no hno, List.append_assoc]
    · rcases List.mem_append.mp hy with hy | hy
      · obtain ⟨i, g1, g2, g3⟩ := h3 y hy
        exact ⟨i, g1, by omega, g3⟩
      · exact ⟨i0 + 1 + k, by omega, by omega, (dayL_mem hy).2.1⟩
def dKey (σ : MS) (l : Nat) : Int32 := - σ.2 9 l
theorem dKey_lt {σ : MS} {x y i j : Nat} (hx : σ.2 9 x = nI i) (hy : σ.2 9 y = nI j) (hi : i < 5000) (hj : j < 5000) : dKey σ y < dKey σ x ↔ i < j := by
  unfold dKey
  rw [hx, hy, Int32.lt_iff_toInt_lt, Int32.toInt_neg, Int32.toInt_neg, nI_toInt (by omega), nI_toInt (by omega)]
  simp only [Int.bmod, e32]
  constructor
  · intro h
    split at h <;> split at h <;> omega
  · intro h
    split <;> split <;> omega
theorem tAN_yes {σ : MS} {a : Nat} {q : Int32} {n i0 m : Nat} (hd : σ.2 9 n = nI (a + i0)) (hq : σ.2 14 n ≤ q) (hm : i0 < m) (ha : a + m < 5000) : tAN σ a q (n + 1) m = insB (dKey σ) n (tAN σ a q n m) := by
  obtain ⟨k, rfl⟩ : ∃ k, m = i0 + 1 + k := ⟨m - i0 - 1, by omega⟩
  obtain ⟨Y, h1, h2, h3⟩ := tAN_cut hd hq k (by omega)
  have e : tAN σ a q (n + 1) (i0 + 1) = tAN σ a q n (i0 + 1) ++ [n] := by
    show tAN σ a q (n + 1) i0 ++ dayL σ q (nI (a + i0)) (n + 1) = (tAN σ a q n i0 ++ dayL σ q (nI (a + i0)) n) ++ [n]
    rw [kno_yes ⟨hd, hq⟩, tAN_no i0 (fun i hi z => by
      have := (nI_eq (by omega) (by omega)).mp (hd.symm.trans z.1)
      omega), List.append_assoc]
  rw [h1, h2, e, insB_app, List.append_assoc]
  · rfl
  · intro y hy z
    obtain ⟨-, i, hi, hyd⟩ := tAN_mem _ hy
    have := (dKey_lt hd hyd (by omega) (by omega)).mp z
    omega
  · intro y hy
    obtain ⟨i, g1, g2, g3⟩ := h3 y hy
    exact (dKey_lt hd g3 (by omega) (by omega)).mpr (by omega)
section TRN
variable {σ : MS} {a : Nat} {q : Int32} {m : Nat}
/-- the first days' lines stand ahead -/
theorem tAll_pre (σ : MS) (a : Nat) (q : Int32) (j : Nat) : ∀ k, ∃ Y, tAll σ a q (j + k) = tAll σ a q j ++ Y ∧ ∀ y ∈ Y, ∃ i, j ≤ i ∧ i < j + k ∧ σ.2 9 y = nI (a + i)
  | 0 => ⟨[], (List.append_nil _).symm, fun y hy => by cases hy⟩
  | k + 1 => by
    obtain ⟨Y, h1, h2⟩ := tAll_pre σ a q j k
    refine ⟨Y ++ dayL σ q (nI (a + (j + k))) (cn σ 16), ?_, fun y hy => ?_⟩
    · show tAll σ a q (j + k) ++ dayL σ q (nI (a + (j + k))) (cn σ 16) = _
      rw [h1, List.append_assoc]
    · rcases List.mem_append.mp hy with hy | hy
      · obtain ⟨i, g1, g2, g3⟩ := h2 y hy
        exact ⟨i, g1, by omega, g3⟩
      · exact ⟨j + k, by omega, by omega, (dayL_mem hy).2.1⟩
theorem tAll_mem {y : Nat} {j : Nat} (h : y ∈ tAll σ a q j) : y < cn σ 16 ∧ ∃ i, i < j ∧ σ.2 9 y = nI (a + i) := by
  rw [← tAN_eq] at h
  exact tAN_mem j h
def tD (σ : MS) (a : Nat) (q : Int32) (m : Nat) (i : Nat) : Int32 := σ.2 9 ((tAll σ a q m).getD i 0)
def tF (σ : MS) (a : Nat) (q : Int32) (j : Nat) : Nat := (tAll σ a q j).length
theorem tF_mono (σ : MS) (a : Nat) (q : Int32) (j k : Nat) : tF σ a q j ≤ tF σ a q (j + k) := by
  obtain ⟨Y, h, -⟩ := tAll_pre σ a q j k
  unfold tF
  rw [h, List.length_append]; omega
/-- an early line's day -/
theorem tD_lo {j : Nat} (hj : j ≤ m) {i : Nat} (hi : i < tF σ a q j) : ∃ e, e < j ∧ tD σ a q m i = nI (a + e) := by
  obtain ⟨k, rfl⟩ : ∃ k, m = j + k := ⟨m - j, by omega⟩
  obtain ⟨Y, h, -⟩ := tAll_pre σ a q j k
  unfold tD
  rw [h, List.getD_eq_getElem?_getD, List.getElem?_append_left hi, List.getElem?_eq_getElem hi]
  obtain ⟨-, e, he, hd⟩ := tAll_mem (List.getElem_mem hi)
  exact ⟨e, he, hd⟩
/-- a late line's day -/
theorem tD_hi {j : Nat} (hj : j ≤ m) {i : Nat} (hi : tF σ a q j ≤ i) (hi2 : i < tF σ a q m) : ∃ e, j ≤ e ∧ e < m ∧ tD σ a q m i = nI (a + e) := by
  obtain ⟨k, rfl⟩ : ∃ k, m = j + k := ⟨m - j, by omega⟩
  obtain ⟨Y, h, hY⟩ := tAll_pre σ a q j k
  unfold tF at hi hi2
  rw [h, List.length_append] at hi2
  unfold tD
  rw [h, List.getD_eq_getElem?_getD, List.getElem?_append_right hi, List.getElem?_eq_getElem (by omega)]
  exact hY _ (List.getElem_mem _)
/-- better by cross products -/
def tBet (ms : Nat → Int32) (N f g : Nat) : Prop := 0 < lg_cmp (spApart ms N f 0 * (nI g).toInt64 * (nI N - nI g).toInt64) (spApart ms N g 0 * (nI f).toInt64 * (nI N - nI f).toInt64)
theorem tBet_no {ms : Nat → Int32} {N f : Nat} : ¬ tBet ms N f f := by
  unfold tBet
  rw [lg_cmp_gt]
  exact Int64.lt_irrefl
/-- a place at which a new day begins -/
def tBd (σ : MS) (a : Nat) (q : Int32) (m : Nat) (n : Nat) : Prop := 0 < n ∧ n < tF σ a q m ∧ ¬ tD σ a q m (n - 1) = tD σ a q m n
/-- the best place so far: 0 is none -/
noncomputable def clS (σ : MS) (a : Nat) (q : Int32) (m : Nat) (n : Nat) : Nat := fold (fun i b => cI (tBd σ a q m (i + 1) ∧ (b = 0 ∨ tBet (tMs σ a q m) (tF σ a q m) (i + 1) b)) (i + 1) b) 0 n
theorem clS_s (σ : MS) (a : Nat) (q : Int32) (m : Nat) (n : Nat) : clS σ a q m (n + 1) = cI (tBd σ a q m (n + 1) ∧ (clS σ a q m n = 0 ∨ tBet (tMs σ a q m) (tF σ a q m) (n + 1) (clS σ a q m n))) (n + 1) (clS σ a q m n) := rfl
theorem clS_no {n : Nat} (h : ¬ tBd σ a q m (n + 1)) : clS σ a q m (n + 1) = clS σ a q m n := by rw [clS_s, cI_f (fun z => h z.1)]
theorem clS_skip {n : Nat} : ∀ k, (∀ i, n < i → i ≤ n + k → ¬ tBd σ a q m i) → clS σ a q m (n + k) = clS σ a q m n
  | 0, _ => rfl
  | k + 1, h => by
    show clS σ a q m (n + k + 1) = _
    rw [clS_no (h (n + k + 1) (by omega) (by omega)), clS_skip k (fun i h1 h2 => h i h1 (by omega))]
theorem clS_le : ∀ n, clS σ a q m n ≤ n
  | 0 => Nat.le_refl 0
  | n + 1 => by
    have := clS_le n
    rw [clS_s]
    by_cases z : tBd σ a q m (n + 1) ∧ (clS σ a q m n = 0 ∨ tBet (tMs σ a q m) (tF σ a q m) (n + 1) (clS σ a q m n))
    · rw [cI_t z]; omega
    · rw [cI_f z]; omega
/-- the best place is a boundary -/
theorem clS_bd : ∀ n, clS σ a q m n ≠ 0 → tBd σ a q m (clS σ a q m n)
  | 0, h => absurd rfl h
  | n + 1, h => by
    rw [clS_s] at h ⊢
    by_cases z : tBd σ a q m (n + 1) ∧ (clS σ a q m n = 0 ∨ tBet (tMs σ a q m) (tF σ a q m) (n + 1) (clS σ a q m n))
    · rw [cI_t z]; exact z.1
    · rw [cI_f z] at h ⊢; exact clS_bd n h
theorem clS_at {n : Nat} (h : tBd σ a q m (n + 1)) : clS σ a q m (n + 1) ≠ 0 ∧ ¬ tBet (tMs σ a q m) (tF σ a q m) (n + 1) (clS σ a q m (n + 1)) := by
  rw [clS_s]
  by_cases z : clS σ a q m n = 0 ∨ tBet (tMs σ a q m) (tF σ a q m) (n + 1) (clS σ a q m n)
  · rw [cI_t ⟨h, z⟩]
    exact ⟨by omega, tBet_no⟩
  · rw [cI_f (fun y => z y.2)]
    exact ⟨fun y => z (Or.inl y), fun y => z (Or.inr y)⟩
/-- the ends of days are boundaries -/
theorem bd_F (ha : a + m < 5000) {j : Nat} (hj : j ≤ m) (h0 : 0 < tF σ a q j) (hN : tF σ a q j < tF σ a q m) : tBd σ a q m (tF σ a q j) := by
  refine ⟨h0, hN, fun z => ?_⟩
  obtain ⟨e1, h1, d1⟩ := tD_lo (σ := σ) (a := a) (q := q) (m := m) hj (i := tF σ a q j - 1) (by omega)
  obtain ⟨e2, h2, h3, d2⟩ := tD_hi (σ := σ) (a := a) (q := q) (m := m) hj (Nat.le_refl _) hN
  rw [d1, d2] at z
  have := (nI_eq (by omega) (by omega)).mp z
  omega
/-- within one day there is none -/
theorem bd_in (ha : a + m < 5000) {j : Nat} (hj : j < m) {n : Nat} (h1 : tF σ a q j < n) (h2 : n < tF σ a q (j + 1)) : ¬ tBd σ a q m n := by
  intro z
  have hle := tF_mono σ a q (j + 1) (m - (j + 1))
  rw [show j + 1 + (m - (j + 1)) = m by omega] at hle
  obtain ⟨e1, g1, d1⟩ := tD_lo (σ := σ) (a := a) (q := q) (m := m) (show j + 1 ≤ m by omega) (i := n - 1) (by omega)
  obtain ⟨e2, g2, d2⟩ := tD_lo (σ := σ) (a := a) (q := q) (m := m) (show j + 1 ≤ m by omega) (i := n) h2
  obtain ⟨e3, g3, k3, d3⟩ := tD_hi (σ := σ) (a := a) (q := q) (m := m) (show j ≤ m by omega) (i := n - 1) (by omega) (by omega)
  obtain ⟨e4, g4, k4, d4⟩ := tD_hi (σ := σ) (a := a) (q := q) (m := m) (show j ≤ m by omega) (i := n) (by omega) (by omega)
  have x1 := (nI_eq (by omega) (by omega)).mp (d1.symm.trans d3)
  have x2 := (nI_eq (by omega) (by omega)).mp (d2.symm.trans d4)
  exact z.2.2 (by rw [d1, d2]; congr 2; omega)
theorem spTurn_s (σ : MS) (a : Nat) (q : Int32) (m j : Nat) : spTurn σ a q m (j + 1) = cI (¬ tF σ a q (j + 1) = 0 ∧ ¬ tF σ a q (j + 1) = tF σ a q m ∧ ((spTurn σ a q m j).1 = -1 ∨ tBet (tMs σ a q m) (tF σ a q m) (tF σ a q (j + 1)) (spTurn σ a q m j).2)) (nI (a + (j + 1)), tF σ a q (j + 1)) (spTurn σ a q m j) := by
  unfold spTurn tBet tF
  rfl
/-- the model's best day is the class's best place -/
theorem turn_eq (ha : a + (m + 1) < 5000) : ∀ j, j ≤ m → (spTurn σ a q (m + 1) j).2 = clS σ a q (m + 1) (tF σ a q j) ∧ (spTurn σ a q (m + 1) j).1 = (if clS σ a q (m + 1) (tF σ a q j) = 0 then -1 else tD σ a q (m + 1) (clS σ a q (m + 1) (tF σ a q j) - 1) + 1)
  | 0, _ => ⟨rfl, rfl⟩
  | j + 1, hj => by
    obtain ⟨i1, i2⟩ := turn_eq ha j (by omega)
    have hmono := tF_mono σ a q j 1
    have hle := tF_mono σ a q (j + 1) (m - j)
    rw [show j + 1 + (m - j) = m + 1 by omega] at hle
    rw [spTurn_s]
    rcases Nat.eq_or_lt_of_le hmono with he | hlt
    · have he' : tF σ a q (j + 1) = tF σ a q j := he.symm
      rw [he']
      have hno : ¬ (¬ tF σ a q j = 0 ∧ ¬ tF σ a q j = tF σ a q (m + 1) ∧ ((spTurn σ a q (m + 1) j).1 = -1 ∨ tBet (tMs σ a q (m + 1)) (tF σ a q (m + 1)) (tF σ a q j) (spTurn σ a q (m + 1) j).2)) := by
        intro z
        have hb := bd_F (q := q) (σ := σ) ha (show j ≤ m + 1 by omega) (by omega) (by rw [he'] at hle; omega)
        obtain ⟨n, hn⟩ : ∃ n, tF σ a q j = n + 1 := ⟨tF σ a q j - 1, by omega⟩
        rw [hn] at hb
        have hc := clS_at hb
        rw [← hn] at hc
        rcases z.2.2 with y | y
        · rw [i2, if_neg hc.1] at y
          have hbb := clS_bd (tF σ a q j) hc.1
          obtain ⟨e, -, he9, hd⟩ := tD_hi (σ := σ) (a := a) (q := q) (m := m + 1) (j := 0) (by omega) (i := clS σ a q (m + 1) (tF σ a q j) - 1) (Nat.zero_le _) (by have := hbb.2.1; omega)
          rw [hd, nI_1] at y
          exact nI_n1 (by omega) y
        · rw [i1] at y
          exact hc.2 y
      rw [cI_f hno]
      exact ⟨i1, i2⟩
    · have hlt' : tF σ a q j < tF σ a q (j + 1) := hlt
      obtain ⟨k, hk⟩ : ∃ k, tF σ a q (j + 1) = tF σ a q j + k + 1 := ⟨tF σ a q (j + 1) - tF σ a q j - 1, by omega⟩
      have hskip : clS σ a q (m + 1) (tF σ a q j + k) = clS σ a q (m + 1) (tF σ a q j) := clS_skip k (fun i h1 h2 => bd_in ha (show j < m + 1 by omega) h1 (by omega))
      have hiff : (spTurn σ a q (m + 1) j).1 = -1 ↔ clS σ a q (m + 1) (tF σ a q j) = 0 := by
        rw [i2]
        by_cases y : clS σ a q (m + 1) (tF σ a q j) = 0
        · rw [if_pos y]; exact ⟨fun _ => y, fun _ => rfl⟩
        · rw [if_neg y]
          refine ⟨fun z => ?_, fun z => absurd z y⟩
          have hbb := clS_bd (tF σ a q j) y
          obtain ⟨e, -, he9, hd⟩ := tD_hi (σ := σ) (a := a) (q := q) (m := m + 1) (j := 0) (by omega) (i := clS σ a q (m + 1) (tF σ a q j) - 1) (Nat.zero_le _) (by have := hbb.2.1; omega)
          rw [hd, nI_1] at z
          exact absurd z (nI_n1 (by omega))
      by_cases hN : tF σ a q (j + 1) = tF σ a q (m + 1)
      · rw [cI_f (fun z => z.2.1 hN)]
        have hnb : ¬ tBd σ a q (m + 1) (tF σ a q j + k + 1) := fun z => by have := z.2.1; omega
        have e : clS σ a q (m + 1) (tF σ a q (j + 1)) = clS σ a q (m + 1) (tF σ a q j) := by rw [hk, clS_no hnb, hskip]
        rw [e]
        exact ⟨i1, i2⟩
      · have hb := bd_F (q := q) (σ := σ) ha (show j + 1 ≤ m + 1 by omega) (by omega) (by omega)
        have hb' := hb
        rw [hk] at hb'
        have ec : clS σ a q (m + 1) (tF σ a q (j + 1)) = cI (tBd σ a q (m + 1) (tF σ a q j + k + 1) ∧ (clS σ a q (m + 1) (tF σ a q j) = 0 ∨ tBet (tMs σ a q (m + 1)) (tF σ a q (m + 1)) (tF σ a q j + k + 1) (clS σ a q (m + 1) (tF σ a q j)))) (tF σ a q j + k + 1) (clS σ a q (m + 1) (tF σ a q j)) := by rw [hk, clS_s, hskip]
        by_cases z : clS σ a q (m + 1) (tF σ a q j) = 0 ∨ tBet (tMs σ a q (m + 1)) (tF σ a q (m + 1)) (tF σ a q j + k + 1) (clS σ a q (m + 1) (tF σ a q j))
        · rw [cI_t ⟨by omega, hN, by rw [hiff, i1, hk]; exact z⟩, ec, cI_t ⟨hb', z⟩]
          refine ⟨hk, ?_⟩
          rw [if_neg (by omega)]
          show nI (a + (j + 1)) = tD σ a q (m + 1) (tF σ a q j + k + 1 - 1) + 1
          obtain ⟨e1, g1, d1⟩ := tD_lo (σ := σ) (a := a) (q := q) (m := m + 1) (show j + 1 ≤ m + 1 by omega) (i := tF σ a q j + k + 1 - 1) (by omega)
          obtain ⟨e3, g3, k3, d3⟩ := tD_hi (σ := σ) (a := a) (q := q) (m := m + 1) (show j ≤ m + 1 by omega) (i := tF σ a q j + k + 1 - 1) (by omega) (by omega)
          have x1 := (nI_eq (by omega) (by omega)).mp (d1.symm.trans d3)
          rw [d1, nI_1]
          congr 1
          omega
        · rw [cI_f (fun y => z (by have := y.2.2; rw [hiff, i1, hk] at this; exact this)), ec, cI_f (fun y => z y.2)]
          exact ⟨i1, i2⟩
/-- behind the last day's end there is no boundary more -/
theorem turn_all (ha : a + (m + 1) < 5000) : clS σ a q (m + 1) (tF σ a q (m + 1) - 1) = clS σ a q (m + 1) (tF σ a q m) := by
  have hmono := tF_mono σ a q m 1
  rcases Nat.eq_or_lt_of_le hmono with he | hlt
  · have he' : tF σ a q (m + 1) = tF σ a q m := he.symm
    rcases Nat.eq_zero_or_pos (tF σ a q m) with y | y
    · rw [he', y]
    · obtain ⟨n, hn⟩ : ∃ n, tF σ a q m = n + 1 := ⟨tF σ a q m - 1, by omega⟩
      have hnb : ¬ tBd σ a q (m + 1) (n + 1) := fun z => by have := z.2.1; omega
      rw [he', hn, clS_no hnb]
      rfl
  · have hlt' : tF σ a q m < tF σ a q (m + 1) := hlt
    obtain ⟨k, hk⟩ : ∃ k, tF σ a q (m + 1) = tF σ a q m + k + 1 := ⟨tF σ a q (m + 1) - tF σ a q m - 1, by omega⟩
    have := clS_skip (σ := σ) (a := a) (q := q) (m := m + 1) (n := tF σ a q m) k (fun i h1 h2 => bd_in ha (show m < m + 1 by omega) h1 (by omega))
    rw [hk, show tF σ a q m + k + 1 - 1 = tF σ a q m + k by omega, this]
end TRN
