/-! the class, 7: spans in numbers; the land -/
theorem e32 : ((2 ^ 32 : Nat) : Int) = 4294967296 := rfl
theorem e64 : ((2 ^ 64 : Nat) : Int) = 18446744073709551616 := rfl
theorem i_add {a b : Int32} (h : -2147483648 ≤ a.toInt + b.toInt ∧ a.toInt + b.toInt ≤ 2147483647) : (a + b).toInt = a.toInt + b.toInt := by
  rw [Int32.toInt_add]
  simp only [Int.bmod, e32]
  split <;> omega
theorem i_sub {a b : Int32} (h : -2147483648 ≤ a.toInt - b.toInt ∧ a.toInt - b.toInt ≤ 2147483647) : (a - b).toInt = a.toInt - b.toInt := by
  rw [Int32.toInt_sub]
  simp only [Int.bmod, e32]
  split <;> omega
theorem bm32 {x : Int} (h : -2147483648 ≤ x ∧ x ≤ 2147483647) : x.bmod (2 ^ 32) = x := by
  simp only [Int.bmod, e32]
  split <;> omega
theorem bm64 {x : Int} (h : -9000000000000000000 ≤ x ∧ x ≤ 9000000000000000000) : x.bmod (2 ^ 64) = x := by
  simp only [Int.bmod, e64]
  split <;> omega
theorem i_mul {a b : Int32} (h : -2147483648 ≤ a.toInt * b.toInt ∧ a.toInt * b.toInt ≤ 2147483647) : (a * b).toInt = a.toInt * b.toInt := by
  rw [Int32.toInt_mul, bm32 h]
theorem l_add {a b : Int64} (h : -9000000000000000000 ≤ a.toInt + b.toInt ∧ a.toInt + b.toInt ≤ 9000000000000000000) : (a + b).toInt = a.toInt + b.toInt := by
  rw [Int64.toInt_add, bm64 h]
theorem l_mul {a b : Int64} (h : -9000000000000000000 ≤ a.toInt * b.toInt ∧ a.toInt * b.toInt ≤ 9000000000000000000) : (a * b).toInt = a.toInt * b.toInt := by
  rw [Int64.toInt_mul, bm64 h]
theorem i_div {a b : Int32} (h : -2147483647 ≤ a.toInt) : (a / b).toInt = a.toInt.tdiv b.toInt := by
  refine Int32.toInt_div_of_ne_left _ _ (fun z => ?_)
  rw [z] at h
  have : Int32.minValue.toInt = -2147483648 := by decide
  omega
/-- one division, short or long -/
theorem div_nar {x y : Int32} {X : Int64} (hX : X.toInt = x.toInt) (h : -2147483647 ≤ x.toInt) : (X / y.toInt64).toInt32 = x / y := by
  rw [← Int32.toInt_inj, i_div h, Int64.toInt_toInt32]
  have h2 : X ≠ Int64.minValue := by
    intro z
    rw [z] at hX
    have : Int64.minValue.toInt = -9223372036854775808 := by decide
    omega
  rw [Int64.toInt_div_of_ne_left _ _ h2, hX, Int32.toInt_toInt64]
  have h3 := Int.natAbs_tdiv_le_natAbs x.toInt y.toInt
  have h4 : x.toInt < 2147483648 := Int32.toInt_lt x
  rw [bm32 (by omega)]
/-- sums of whole numbers -/
def zS (f : Nat → Int) (n : Nat) : Int := fold (fun i s => s + f i) 0 n
theorem zS_s (f : Nat → Int) (n : Nat) : zS f (n + 1) = zS f n + f n := rfl
theorem zS_bd {f : Nat → Int} {B : Int} : ∀ n, (∀ i, i < n → -B ≤ f i ∧ f i ≤ B) → -(B * n) ≤ zS f n ∧ zS f n ≤ B * n
  | 0, _ => by
    show -(B * ((0 : Nat) : Int)) ≤ 0 ∧ 0 ≤ B * ((0 : Nat) : Int)
    simp
  | n + 1, h => by
    have h1 := zS_bd n (fun i hi => h i (by omega))
    have h2 := h n (Nat.lt_succ_self n)
    rw [zS_s]
    have e : B * ((n + 1 : Nat) : Int) = B * n + B := by rw [Int.natCast_succ, Int.mul_add, Int.mul_one]
    rw [e]
    omega
theorem mul_bd {p m : Int} (hp : 0 ≤ p ∧ p ≤ 9999) (hm : -900 ≤ m ∧ m ≤ 900) : -8999100 ≤ p * m ∧ p * m ≤ 8999100 := by
  constructor
  · have h1 : p * -900 ≤ p * m := Int.mul_le_mul_of_nonneg_left hm.1 hp.1
    omega
  · have h1 : p * m ≤ p * 900 := Int.mul_le_mul_of_nonneg_left hm.2 hp.1
    omega
def PpB (σ : MS) : Prop := ∀ k, k < 32 → 0 ≤ σ.2 50 k ∧ σ.2 50 k ≤ 9999
def MoB (σ : MS) : Prop := ∀ l, l < cn σ 16 → -9 ≤ σ.2 11 l ∧ σ.2 11 l ≤ 9
theorem PpB.i {σ : MS} (h : PpB σ) {k : Nat} (hk : k < 32) : 0 ≤ (σ.2 50 k).toInt ∧ (σ.2 50 k).toInt ≤ 9999 := ⟨Int32.le_iff_toInt_le.mp (h k hk).1, Int32.le_iff_toInt_le.mp (h k hk).2⟩
section SPN
variable {σ : MS} {sort day q : Int32} {k : Nat}
theorem cell_bd (hM : MoB σ) : ∀ n, n ≤ cn σ 16 → n ≤ 200 → ∃ c : Nat, c ≤ n ∧ (spCell σ sort day q k n).2 = nI c ∧ -(9 * (c : Int)) ≤ (spCell σ sort day q k n).1.toInt ∧ (spCell σ sort day q k n).1.toInt ≤ 9 * (c : Int)
  | 0, _, _ => ⟨0, Nat.le_refl 0, rfl, by show -(9 * ((0 : Nat) : Int)) ≤ 0; omega, by show (0 : Int) ≤ 9 * ((0 : Nat) : Int); omega⟩
  | n + 1, h1, h2 => by
    obtain ⟨c, hc, e1, b1, b2⟩ := cell_bd hM n (by omega) (by omega)
    have hm := hM n h1
    have m1 := Int32.le_iff_toInt_le.mp hm.1
    have m2 := Int32.le_iff_toInt_le.mp hm.2
    have e9 : (-9 : Int32).toInt = -9 := rfl
    have e9' : (9 : Int32).toInt = 9 := rfl
    rw [e9] at m1
    rw [e9'] at m2
    rw [spCell_s]
    split
    · refine ⟨c + 1, by omega, by show (spCell σ sort day q k n).2 + 1 = _; rw [e1, nI_1], ?_, ?_⟩
      · show _ ≤ ((spCell σ sort day q k n).1 + σ.2 11 n).toInt
        rw [i_add (by omega)]; omega
      · show ((spCell σ sort day q k n).1 + σ.2 11 n).toInt ≤ _
        rw [i_add (by omega)]; omega
    · exact ⟨c, by omega, e1, b1, b2⟩
/-- whether somebody wrote there, and the mean -/
def wB (σ : MS) (sort day q : Int32) (k : Nat) : Prop := ¬ (spCell σ sort day q k (cn σ 16)).2 = 0
def mI (σ : MS) (sort day q : Int32) (k : Nat) : Int := (mnV (spCell σ sort day q k (cn σ 16))).toInt
theorem wB_lt (hM : MoB σ) (hn : cn σ 16 ≤ 200) : 0 < (spCell σ sort day q k (cn σ 16)).2 ↔ wB σ sort day q k := by
  obtain ⟨c, hc, e1, -, -⟩ := cell_bd (sort := sort) (day := day) (q := q) (k := k) hM _ (Nat.le_refl _) hn
  unfold wB
  rw [e1]
  cases c with
  | zero => exact ⟨fun z => absurd z (by decide), fun z => absurd rfl z⟩
  | succ c => exact ⟨fun _ => nI_ne0 (by omega) (by omega), fun _ => nI_lt (a := 0) (by omega) (by omega)⟩
theorem mI_bd (hM : MoB σ) (hn : cn σ 16 ≤ 200) (hw : wB σ sort day q k) : -900 ≤ mI σ sort day q k ∧ mI σ sort day q k ≤ 900 := by
  obtain ⟨c, hc, e1, b1, b2⟩ := cell_bd (sort := sort) (day := day) (q := q) (k := k) hM _ (Nat.le_refl _) hn
  unfold mI mnV
  unfold wB at hw
  rw [if_neg hw]
  have hc0 : 0 < c := by
    rcases Nat.eq_zero_or_pos c with y | y
    · rw [e1, y] at hw; exact absurd rfl hw
    · exact y
  have e100 : (100 : Int32).toInt = 100 := rfl
  have hm : ((spCell σ sort day q k (cn σ 16)).1 * 100).toInt = (spCell σ sort day q k (cn σ 16)).1.toInt * 100 := by
    rw [i_mul (by rw [e100]; omega), e100]
  rw [i_div (by rw [hm]; omega), hm, e1, nI_toInt (by omega)]
  have h3 : (((spCell σ sort day q k (cn σ 16)).1.toInt * 100).tdiv (c : Int)).natAbs ≤ 900 := by
    rw [Int.natAbs_tdiv]
    refine Nat.div_le_of_le_mul ?_
    rw [Int.natAbs_natCast]
    omega
  omega
theorem mn_hid (hM : MoB σ) (hn : cn σ 16 ≤ 200) : mnV (spCell σ sort day q k (cn σ 16)) = -1000000 ↔ ¬ wB σ sort day q k := by
  constructor
  · intro z hw
    have h := mI_bd hM hn hw
    unfold mI at h
    rw [z] at h
    have : (-1000000 : Int32).toInt = -1000000 := rfl
    omega
  · intro z
    unfold mnV
    rw [if_pos (Classical.byContradiction z)]
theorem cMean_i (hM : MoB σ) (hn : cn σ 16 ≤ 200) (what : Int32) : (cMean (spCell σ sort day q k (cn σ 16)) what).toInt = (if 0 < (spCell σ sort day q k (cn σ 16)).2 then mI σ sort day q k else if what = 0 then -900 else 900) := by
  unfold cMean
  by_cases z : 0 < (spCell σ sort day q k (cn σ 16)).2
  · have hw := (wB_lt hM hn).mp z
    rw [if_pos z, if_pos z]
    unfold mI mnV
    unfold wB at hw
    rw [if_neg hw, Int32.mul_comm]
  · rw [if_neg z, if_neg z]
    split <;> rfl
end SPN
noncomputable def zSum (σ : MS) (sort day q : Int32) (k : Nat) : Int := cI (wB σ sort day q k) ((σ.2 50 k).toInt * mI σ sort day q k) 0
noncomputable def zWr (σ : MS) (sort day q : Int32) (k : Nat) : Int := cI (wB σ sort day q k) (σ.2 50 k).toInt 0
def zPp (σ : MS) (k : Nat) : Int := (σ.2 50 k).toInt
section SPN2
variable {σ : MS} {sort day q : Int32}
theorem zSum_bd (hM : MoB σ) (hn : cn σ 16 ≤ 200) (hP : PpB σ) {k : Nat} (hk : k < 32) : -8999100 ≤ zSum σ sort day q k ∧ zSum σ sort day q k ≤ 8999100 := by
  unfold zSum
  by_cases z : wB σ sort day q k
  · rw [cI_t z]; exact mul_bd (hP.i hk) (mI_bd hM hn z)
  · rw [cI_f z]; omega
theorem zWr_bd (hP : PpB σ) {k : Nat} (hk : k < 32) : 0 ≤ zWr σ sort day q k ∧ zWr σ sort day q k ≤ zPp σ k := by
  have := hP.i hk
  unfold zWr zPp
  by_cases z : wB σ sort day q k
  · rw [cI_t z]; omega
  · rw [cI_f z]; omega
theorem zWr_le (hP : PpB σ) : ∀ n, n ≤ 32 → 0 ≤ zS (zWr σ sort day q) n ∧ zS (zWr σ sort day q) n ≤ zS (zPp σ) n ∧ zS (zPp σ) n ≤ 9999 * n
  | 0, _ => ⟨Int.le_refl 0, Int.le_refl 0, by show (0 : Int) ≤ 9999 * ((0 : Nat) : Int); omega⟩
  | n + 1, h => by
    obtain ⟨a, b, c⟩ := zWr_le hP n (by omega)
    have h1 := zWr_bd (sort := sort) (day := day) (q := q) hP (show n < 32 by omega)
    have h2 := hP.i (show n < 32 by omega)
    rw [zS_s, zS_s]
    unfold zPp at *
    have e : ((n + 1 : Nat) : Int) = n + 1 := Int.natCast_succ n
    rw [e]
    omega
theorem people_i (hP : PpB σ) : ∀ n, n ≤ 32 → (spPeople σ n).toInt = zS (zPp σ) n
  | 0, _ => rfl
  | n + 1, h => by
    obtain ⟨a, b, c⟩ := zWr_le (sort := 0) (day := 0) (q := 0) hP n (by omega)
    have h2 := hP.i (show n < 32 by omega)
    rw [spPeople_s, zS_s, i_add (by rw [people_i hP n (by omega)]; omega), people_i hP n (by omega)]
    rfl
theorem span_i (hM : MoB σ) (hn : cn σ 16 ≤ 200) (hP : PpB σ) (what : Int32) : ∀ n, n ≤ 32 → (spSpan σ sort day q what n).1.toInt = zS (zSum σ sort day q) n + (if what = 0 then -900 else 900) * (zS (zPp σ) n - zS (zWr σ sort day q) n) ∧ (spSpan σ sort day q what n).2.toInt = zS (zWr σ sort day q) n
  | 0, _ => ⟨by show (0 : Int) = 0 + _ * (0 - 0); simp, rfl⟩
  | n + 1, h => by
    obtain ⟨a1, a2⟩ := span_i hM hn hP what n (by omega)
    obtain ⟨a, b, c⟩ := zWr_le (sort := sort) (day := day) (q := q) hP n (by omega)
    have hb := zS_bd (f := zSum σ sort day q) (B := 8999100) n (fun i hi => zSum_bd hM hn hP (by omega))
    have h2 := hP.i (show n < 32 by omega)
    have hcm := cMean_i (sort := sort) (day := day) (q := q) (k := n) hM hn what
    have hwl := wB_lt (sort := sort) (day := day) (q := q) (k := n) hM hn
    have es : spSpan σ sort day q what (n + 1) = ((spSpan σ sort day q what n).1 + (σ.2 50 n).toInt64 * (cMean (spCell σ sort day q n (cn σ 16)) what).toInt64, (spSpan σ sort day q what n).2 + (if 0 < (spCell σ sort day q n (cn σ 16)).2 then (σ.2 50 n).toInt64 else 0)) := rfl
    have hwb : -900 ≤ (if what = 0 then (-900 : Int) else 900) ∧ (if what = 0 then (-900 : Int) else 900) ≤ 900 := by split <;> omega
    generalize (if what = 0 then (-900 : Int) else 900) = u at hcm hwb a1 ⊢
    have hu : -(900 * 319968) ≤ u * (zS (zPp σ) n - zS (zWr σ sort day q) n) ∧ u * (zS (zPp σ) n - zS (zWr σ sort day q) n) ≤ 900 * 319968 := by
      have hd : 0 ≤ zS (zPp σ) n - zS (zWr σ sort day q) n ∧ zS (zPp σ) n - zS (zWr σ sort day q) n ≤ 319968 := by omega
      generalize zS (zPp σ) n - zS (zWr σ sort day q) n = dd at hd ⊢
      have h5 : u * dd ≤ 900 * dd := Int.mul_le_mul_of_nonneg_right hwb.2 hd.1
      have h6 : -900 * dd ≤ u * dd := Int.mul_le_mul_of_nonneg_right hwb.1 hd.1
      omega
    rw [es, zS_s, zS_s, zS_s]
    by_cases z : 0 < (spCell σ sort day q n (cn σ 16)).2
    · have hw := hwl.mp z
      have hmb := mI_bd hM hn hw
      have hpm := mul_bd h2 hmb
      rw [if_pos z] at hcm
      have e1 : zSum σ sort day q n = (σ.2 50 n).toInt * mI σ sort day q n := cI_t hw
      have e2 : zWr σ sort day q n = zPp σ n := cI_t hw
      have hmul : ((σ.2 50 n).toInt64 * (cMean (spCell σ sort day q n (cn σ 16)) what).toInt64).toInt = (σ.2 50 n).toInt * mI σ sort day q n := by
        rw [l_mul (by rw [Int32.toInt_toInt64, Int32.toInt_toInt64, hcm]; omega), Int32.toInt_toInt64, Int32.toInt_toInt64, hcm]
      constructor
      · show ((spSpan σ sort day q what n).1 + _).toInt = _
        rw [l_add (by rw [hmul, a1]; omega), hmul, a1, e1, e2]
        have e3 : zS (zPp σ) n + zPp σ n - (zS (zWr σ sort day q) n + zPp σ n) = zS (zPp σ) n - zS (zWr σ sort day q) n := by omega
        rw [e3]
        omega
      · show ((spSpan σ sort day q what n).2 + _).toInt = _
        rw [if_pos z, l_add (by rw [a2, Int32.toInt_toInt64]; omega), a2, Int32.toInt_toInt64, e2]
        rfl
    · have hw : ¬ wB σ sort day q n := fun y => z (hwl.mpr y)
      rw [if_neg z] at hcm
      have e1 : zSum σ sort day q n = 0 := cI_f hw
      have e2 : zWr σ sort day q n = 0 := cI_f hw
      have hpm := mul_bd h2 hwb
      have hmul : ((σ.2 50 n).toInt64 * (cMean (spCell σ sort day q n (cn σ 16)) what).toInt64).toInt = (σ.2 50 n).toInt * u := by
        rw [l_mul (by rw [Int32.toInt_toInt64, Int32.toInt_toInt64, hcm]; omega), Int32.toInt_toInt64, Int32.toInt_toInt64, hcm]
      constructor
      · show ((spSpan σ sort day q what n).1 + _).toInt = _
        rw [l_add (by rw [hmul, a1]; omega), hmul, a1, e1, e2]
        have e3 : zS (zPp σ) n + zPp σ n - (zS (zWr σ sort day q) n + 0) = (zS (zPp σ) n - zS (zWr σ sort day q) n) + zPp σ n := by omega
        rw [e3, Int.mul_add]
        have e4 : u * zPp σ n = (σ.2 50 n).toInt * u := Int.mul_comm _ _
        rw [e4]
        omega
      · show ((spSpan σ sort day q what n).2 + _).toInt = _
        rw [if_neg z, e2, l_add (by rw [a2]; show _ ≤ _ + (0 : Int) ∧ _ + (0 : Int) ≤ _; omega), a2]
        rfl
end SPN2
section CLG
variable {G : Gam} {d : Nat} {τ : Nat → Nat} {ω : Nat → Nat → Nat} {ε : Nat → Nat} {σ κ : MS} {Md : Mem} {M : Mem} {Q : Option Value → Mem → Prop} {k : Nat}
/-- the class's numbers behind n cells -/
def spnI (σ : MS) (sort day q : Int32) (a w : Int32) (n : Nat) : Prop := a.toInt = zS (zSum σ sort day q) n ∧ w.toInt = zS (zWr σ sort day q) n
theorem spn_step {sort day q a w : Int32} {n : Nat} (hM : MoB σ) (hn : cn σ 16 ≤ 200) (hP : PpB σ) (hk : n < 32) (h : spnI σ sort day q a w n) (hw : wB σ sort day q n ∨ σ.2 50 n = 0) {m : Int32} (hm : m = (if σ.2 50 n = 0 then 0 else mnV (spCell σ sort day q n (cn σ 16)))) : spnI σ sort day q (a + σ.2 50 n * m) (w + σ.2 50 n) (n + 1) := by
  obtain ⟨h1, h2⟩ := h
  obtain ⟨b1, b2, b3⟩ := zWr_le (sort := sort) (day := day) (q := q) hP n (by omega)
  have hb := zS_bd (f := zSum σ sort day q) (B := 8999100) n (fun i hi => zSum_bd hM hn hP (by omega))
  have hp := hP.i hk
  by_cases z : σ.2 50 n = 0
  · rw [if_pos z] at hm
    subst hm
    have e1 : zSum σ sort day q n = 0 := by
      unfold zSum
      by_cases y : wB σ sort day q n
      · rw [cI_t y, z]; exact Int.zero_mul _
      · rw [cI_f y]
    have e2 : zWr σ sort day q n = 0 := by
      unfold zWr
      by_cases y : wB σ sort day q n
      · rw [cI_t y, z]; rfl
      · rw [cI_f y]
    rw [z]
    constructor
    · rw [zS_s, e1, ← h1, show (0 : Int32) * 0 = 0 from rfl, Int32.add_zero]; omega
    · rw [zS_s, e2, ← h2, Int32.add_zero]; omega
  · rw [if_neg z] at hm
    have hw' : wB σ sort day q n := hw.resolve_right z
    have hmb := mI_bd hM hn hw'
    have hpm := mul_bd hp hmb
    have e1 : zSum σ sort day q n = (σ.2 50 n).toInt * mI σ sort day q n := cI_t hw'
    have e2 : zWr σ sort day q n = (σ.2 50 n).toInt := cI_t hw'
    have hmul : (σ.2 50 n * m).toInt = (σ.2 50 n).toInt * mI σ sort day q n := by
      rw [hm, i_mul (by show _ ≤ _ * mI σ sort day q n ∧ _ * mI σ sort day q n ≤ _; omega)]
      rfl
    constructor
    · rw [zS_s, e1, i_add (by rw [hmul, h1]; omega), hmul, h1]
    · rw [zS_s, e2, i_add (by rw [h2]; omega), h2]
theorem spn_skip {sort day q a w : Int32} {n : Nat} (h : spnI σ sort day q a w n) (hw : ¬ wB σ sort day q n) : spnI σ sort day q a w (n + 1) := by
  obtain ⟨h1, h2⟩ := h
  have e1 : zSum σ sort day q n = 0 := cI_f hw
  have e2 : zWr σ sort day q n = 0 := cI_f hw
  exact ⟨by rw [zS_s, e1, h1]; omega, by rw [zS_s, e2, h2]; omega⟩
theorem c_X11_span {sort day q what : Int32} (hW : Wld G τ ω ε σ κ Md) (hL : LinP σ) (hM : MoB σ) (hP : PpB σ) (hq : Q (some (.int (aSpan σ sort day q what))) (cm τ κ Md)) : CT G (d + 4) (0, 0) MX11_span [.ref (τ 0), .int sort, .int day, .int q, .int what] (cm τ κ Md) Q := by
  have hW' := hW
  obtain ⟨hi, hc, hD, hK⟩ := hW
  have hn := (hc.b 16 (b := 200) (by decide)).2
  refine CT.of rfl (Nat.le_of_ble_eq_true rfl) ?_
  refine x_aload_n dX11_span_0 rfl rfl ?_
  refine x_cV0 dX11_span_1 lv_X11_342 (kc hi kf_0) rfl rfl rfl  (c_X11_allPeople hW' ?_)
  refine x_istore dX11_span_4 (by decide) ?_
  refine x_iload_n dX11_span_6 rfl rfl ?_
  refine x_cS1 dX11_span_7 ls_X11_115 rfl  (c_X11_isSort ?_)
  refine x_if_eq_b (tgt := 43) dX11_span_10 (by decide) (fun h10 => ?_) (fun h10 => ?_)
  · refine x_ldcw dX11_span_43 tb865 ?_
    exact x_ireturn dX11_span_46 rfl rfl (fan_f hq (fun z => by first | exact h10 z.2.1 | exact h17 z.2.2.1 | exact h25 z.2.2.2.1 | exact h35 z.2.2.2.2 | exact z.1 h40))
  · refine x_iload_n dX11_span_13 rfl rfl ?_
    refine x_cS1 dX11_span_14 ls_X11_150 rfl  (c_X11_isDay ?_)
    refine x_if_eq_b (tgt := 43) dX11_span_17 (by decide) (fun h17 => ?_) (fun h17 => ?_)
    · refine x_ldcw dX11_span_43 tb865 ?_
      exact x_ireturn dX11_span_46 rfl rfl (fan_f hq (fun z => by first | exact h10 z.2.1 | exact h17 z.2.2.1 | exact h25 z.2.2.2.1 | exact h35 z.2.2.2.2 | exact z.1 h40))
    · refine x_aload_n dX11_span_20 rfl rfl ?_
      refine x_iload_n dX11_span_21 rfl rfl ?_
      refine x_cV1 dX11_span_22 lv_X11_158 (kc hi kf_0) rfl rfl rfl  (c_X11_isKnownDay hW' ?_)
      refine x_if_eq_b (tgt := 43) dX11_span_25 (by decide) (fun h25 => ?_) (fun h25 => ?_)
      · refine x_ldcw dX11_span_43 tb865 ?_
        exact x_ireturn dX11_span_46 rfl rfl (fan_f hq (fun z => by first | exact h10 z.2.1 | exact h17 z.2.2.1 | exact h25 z.2.2.2.1 | exact h35 z.2.2.2.2 | exact z.1 h40))
      · refine x_iload dX11_span_28 rfl ?_
        refine x_iconst (v := 0) dX11_span_30 (by decide) ?_
        refine x_iconst (v := 2) dX11_span_31 (by decide) ?_
        refine x_cS3 dX11_span_32 ls_X11_92 rfl  (c_X11_isWithin ?_)
        refine x_if_eq_b (tgt := 43) dX11_span_35 (by decide) (fun h35 => ?_) (fun h35 => ?_)
        · refine x_ldcw dX11_span_43 tb865 ?_
          exact x_ireturn dX11_span_46 rfl rfl (fan_f hq (fun z => by first | exact h10 z.2.1 | exact h17 z.2.2.1 | exact h25 z.2.2.2.1 | exact h35 z.2.2.2.2 | exact z.1 h40))
        · refine x_iload dX11_span_38 rfl ?_
          refine x_if_ne (tgt := 47) dX11_span_40 (by decide) (fun h40 => ?_) (fun h40 => ?_)
          · have h2 := fan_t hq ⟨h40, h10, h17, h25, h35⟩
            have hpp := people_i hP 32 (Nat.le_refl _)
            have F : ∀ a w : Int32, spnI σ sort day q a w 32 → XJ G (d + 4) (0, 0) MX11_span (cm τ κ Md) [(0, .ref (τ 0)), (4, .int what), (5, .int (spPeople σ 32)), (6, .int a), (7, .int w)] [] 143 Q := by
              intro a w hs
              obtain ⟨s1, s2⟩ := span_i (sort := sort) (day := day) (q := q) hM hn hP what 32 (Nat.le_refl _)
              obtain ⟨b1, b2, b3⟩ := zWr_le (sort := sort) (day := day) (q := q) hP 32 (Nat.le_refl _)
              have hb := zS_bd (f := zSum σ sort day q) (B := 8999100) 32 (fun i hi => zSum_bd hM hn hP (by omega))
              obtain ⟨g1, g2⟩ := hs
              have e1000 : (1000 : Int32).toInt = 1000 := rfl
              have e900 : (900 : Int32).toInt = 900 := rfl
              have hws : (spPeople σ 32 - w).toInt = zS (zPp σ) 32 - zS (zWr σ sort day q) 32 := by rw [i_sub (by rw [hpp, g2]; omega), hpp, g2]
              have hun : ((spPeople σ 32 - w) * 900).toInt = (zS (zPp σ) 32 - zS (zWr σ sort day q) 32) * 900 := by rw [i_mul (by rw [hws, e900]; omega), hws, e900]
              by_cases w2 : what = 2
              · rw [if_pos w2] at h2
                have hx : (w * 1000).toInt = zS (zWr σ sort day q) 32 * 1000 := by rw [i_mul (by rw [g2, e1000]; omega), g2, e1000]
                have e1k : (1000 : Int64).toInt = 1000 := rfl
                have hX : (1000 * (spSpan σ sort day q what 32).2).toInt = (w * 1000).toInt := by
                  rw [hx, l_mul (by rw [s2, e1k]; omega), s2, e1k]; omega
                rw [div_nar hX (by rw [hx]; omega)] at h2
                refine x_iload dX11_span_143 rfl ?_
                refine x_iconst (v := 2) dX11_span_145 (by decide) ?_
                refine x_icmp_ne (tgt := 160) dX11_span_146 (by decide) (fun z => absurd w2 z) (fun _ => ?_)
                refine x_iload dX11_span_149 rfl ?_
                refine x_sipush (v := 1000) dX11_span_151 (by decide) ?_
                refine x_iload dX11_span_154 rfl ?_
                refine x_cS3 dX11_span_156 ls_X11_336 rfl  (c_X11_share ?_)
                exact x_ireturn dX11_span_159 rfl rfl (by rw [if_neg h40]; exact h2)
              · rw [if_neg w2] at h2
                refine x_iload dX11_span_143 rfl ?_
                refine x_iconst (v := 2) dX11_span_145 (by decide) ?_
                refine x_icmp_ne (tgt := 160) dX11_span_146 (by decide) (fun _ => ?_) (fun z => absurd z w2)
                refine x_iload dX11_span_160 rfl ?_
                refine x_iload dX11_span_162 rfl ?_
                refine x_isub dX11_span_164 ?_
                refine x_sipush (v := 900) dX11_span_165 (by decide) ?_
                refine x_imul dX11_span_168 ?_
                refine x_istore dX11_span_169 (by decide) ?_
                refine x_iload dX11_span_171 rfl ?_
                refine x_if_ne (tgt := 184) dX11_span_173 (by decide) (fun h173 => ?_) (fun h173 => ?_)
                · refine x_iload dX11_span_184 rfl ?_
                  refine x_iload dX11_span_186 rfl ?_
                  refine x_iadd dX11_span_188 ?_
                  refine x_iconst (v := 1) dX11_span_189 (by decide) ?_
                  refine x_iload dX11_span_190 rfl ?_
                  refine x_cS3 dX11_span_192 ls_X11_336 rfl  (c_X11_share ?_)
                  exact x_ireturn dX11_span_195 rfl rfl (by
rw [if_neg h40, Int32.mul_one]
first
| (have hz : ¬ what = 0 := h173
   rw [if_neg hz] at s1
   have hx : (a + (spPeople σ 32 - w) * 900).toInt = zS (zSum σ sort day q) 32 + (zS (zPp σ) 32 - zS (zWr σ sort day q) 32) * 900 := by rw [i_add (by rw [g1, hun]; omega), g1, hun]
   rw [div_nar (x := a + (spPeople σ 32 - w) * 900) (by rw [hx, s1]; omega) (by rw [hx]; omega)] at h2
   exact h2)
| (have hz : what = 0 := h173
   rw [if_pos hz] at s1
   have hx : (a - (spPeople σ 32 - w) * 900).toInt = zS (zSum σ sort day q) 32 - (zS (zPp σ) 32 - zS (zWr σ sort day q) 32) * 900 := by rw [i_sub (by rw [g1, hun]; omega), g1, hun]
   rw [div_nar (x := a - (spPeople σ 32 - w) * 900) (by rw [hx, s1]; omega) (by rw [hx]; omega)] at h2
   exact h2))
                · refine x_iload dX11_span_176 rfl ?_
                  refine x_iload dX11_span_178 rfl ?_
                  refine x_isub dX11_span_180 ?_
                  refine x_goto (tgt := 189) dX11_span_181 (by decide) ?_
                  refine x_iconst (v := 1) dX11_span_189 (by decide) ?_
                  refine x_iload dX11_span_190 rfl ?_
                  refine x_cS3 dX11_span_192 ls_X11_336 rfl  (c_X11_share ?_)
                  exact x_ireturn dX11_span_195 rfl rfl (by
rw [if_neg h40, Int32.mul_one]
first
| (have hz : ¬ what = 0 := h173
   rw [if_neg hz] at s1
   have hx : (a + (spPeople σ 32 - w) * 900).toInt = zS (zSum σ sort day q) 32 + (zS (zPp σ) 32 - zS (zWr σ sort day q) 32) * 900 := by rw [i_add (by rw [g1, hun]; omega), g1, hun]
   rw [div_nar (x := a + (spPeople σ 32 - w) * 900) (by rw [hx, s1]; omega) (by rw [hx]; omega)] at h2
   exact h2)
| (have hz : what = 0 := h173
   rw [if_pos hz] at s1
   have hx : (a - (spPeople σ 32 - w) * 900).toInt = zS (zSum σ sort day q) 32 - (zS (zPp σ) 32 - zS (zWr σ sort day q) 32) * 900 := by rw [i_sub (by rw [g1, hun]; omega), g1, hun]
   rw [div_nar (x := a - (spPeople σ 32 - w) * 900) (by rw [hx, s1]; omega) (by rw [hx]; omega)] at h2
   exact h2))
            have H2 : ∀ p, p < 8 → (∀ a w : Int32, spnI σ sort day q a w (4 * (p + 1)) → XJ G (d + 4) (0, 0) MX11_span (cm τ κ Md) [(0, .ref (τ 0)), (1, .int sort), (2, .int day), (3, .int q), (4, .int what), (5, .int (spPeople σ 32)), (6, .int a), (7, .int w), (8, .int (nI (p + 1)))] [] 56 Q) → ∀ f s, s + f = 4 → ∀ a w : Int32, spnI σ sort day q a w (4 * p + s) → XJ G (d + 4) (0, 0) MX11_span (cm τ κ Md) [(0, .ref (τ 0)), (1, .int sort), (2, .int day), (3, .int q), (4, .int what), (5, .int (spPeople σ 32)), (6, .int a), (7, .int w), (8, .int (nI p)), (9, .int (nI s))] [] 66 Q := by
              intro p hp hnext f
              have hclp : (nI p).toNatClampNeg = p := nI_clamp (by omega)
              induction f with
              | zero =>
                intro s hsf a w hs
                obtain rfl : s = 4 := by omega
                refine x_iload dX11_span_66 rfl ?_
                refine x_iconst (v := 4) dX11_span_68 (by decide) ?_
                refine x_icmp_ge (tgt := 137) dX11_span_69 (by decide) (fun _ => ?_) (fun z => absurd (by decide) z)
                refine x_iinc (c := 1) dX11_span_137 rfl (by decide) ?_
                refine x_goto (tgt := 56) dX11_span_140 (by decide) ?_
                refine x_loc _ (?_ : lle _ _) (hnext a w hs)
                refine ⟨rfl, rfl, rfl, rfl, rfl, rfl, rfl, rfl, ?_, trivial⟩
                show some (Value.int (nI p + 1)) = some (Value.int (nI (p + 1)))
                rw [nI_1]
              | succ f ih =>
                intro s hsf a w hs
                have hs4 : s < 4 := by omega
                have hcls : (nI s).toNatClampNeg = s := nI_clamp (by omega)
                have hst : ∀ a w : Int32, spnI σ sort day q a w (4 * p + s + 1) → XJ G (d + 4) (0, 0) MX11_span (cm τ κ Md) [(0, .ref (τ 0)), (1, .int sort), (2, .int day), (3, .int q), (4, .int what), (5, .int (spPeople σ 32)), (6, .int a), (7, .int w), (8, .int (nI p)), (9, .int (nI s))] [] 131 Q := by
                  intro a w hs2
                  refine x_iinc (c := 1) dX11_span_131 rfl (by decide) ?_
                  refine x_goto (tgt := 66) dX11_span_134 (by decide) ?_
                  refine x_loc _ (?_ : lle _ _) (ih (s + 1) (by omega) a w hs2)
                  refine ⟨rfl, rfl, rfl, rfl, rfl, rfl, rfl, rfl, rfl, ?_, trivial⟩
                  show some (Value.int (nI s + 1)) = some (Value.int (nI (s + 1)))
                  rw [nI_1]
                refine x_iload dX11_span_66 rfl ?_
                refine x_iconst (v := 4) dX11_span_68 (by decide) ?_
                refine x_icmp_ge (tgt := 137) dX11_span_69 (by decide) (fun z => absurd z (nI_ge (b := 4) hs4 (by decide))) (fun _ => ?_)
                refine x_aload_n dX11_span_72 rfl rfl ?_
                refine x_getf dX11_span_73 lf_X11_57 (kc hi kf_0) kv_0_11 ?_
                refine x_iload dX11_span_76 rfl ?_
                refine x_aaload dX11_span_78 (Or.inl rfl) (kc hi kf_11) (vp_in_nI hp (by decide)) (show kV _ _ 11 _ = .ref (τ (30 + p)) by rw [hclp]; rfl) ?_
                refine x_iload dX11_span_79 rfl ?_
                refine xk_iald (30 + p) dX11_span_81 (kf_p p hp) (kr_p p hp) hi (vp_in_nI hs4 (by decide)) hcls ?_
                rw [hK.2.2.2.2 p s hp hs4]
                refine x_istore dX11_span_82 (by decide) ?_
                refine x_iload dX11_span_84 rfl ?_
                refine x_if_ne (tgt := 93) dX11_span_86 (by decide) (fun h86 => ?_) (fun h86 => ?_)
                · refine x_aload_n dX11_span_93 rfl rfl ?_
                  refine x_iload dX11_span_94 rfl ?_
                  refine x_iload dX11_span_96 rfl ?_
                  refine x_iload_n dX11_span_98 rfl rfl ?_
                  refine x_iload_n dX11_span_99 rfl rfl ?_
                  refine x_iload_n dX11_span_100 rfl rfl ?_
                  refine x_cV5 dX11_span_101 lv_X11_345 (kc hi kf_0) rfl rfl rfl  (c_X11_meanMood hW' hL hp hs4 ?_)
                  refine x_istore dX11_span_104 (by decide) ?_
                  refine x_iload dX11_span_106 rfl ?_
                  refine x_ldcw dX11_span_108 tb865 ?_
                  refine x_icmp_eq (tgt := 131) dX11_span_111 (by decide) (fun h111 => ?_) (fun h111 => ?_)
                  · first
                    | exact absurd (show (0 : Int32) = -1000000 from h111) (by decide)
                    | (refine x_loc _ (?_ : lle _ _) (hst a w (spn_skip hs ((mn_hid hM hn).mp h111)))
                       exact ⟨rfl, rfl, rfl, rfl, rfl, rfl, rfl, rfl, rfl, rfl, trivial⟩)
                    | (refine x_loc _ (?_ : lle _ _) (hst _ _ (spn_step hM hn hP (by omega) hs (Or.inr (by first | exact h86 | exact Classical.byContradiction h86)) (if_pos (by first | exact h86 | exact Classical.byContradiction h86)).symm))
                       exact ⟨rfl, rfl, rfl, rfl, rfl, rfl, rfl, rfl, rfl, rfl, trivial⟩)
                    | (refine x_loc _ (?_ : lle _ _) (hst _ _ (spn_step hM hn hP (by omega) hs (Or.inl (Classical.byContradiction (fun z => h111 ((mn_hid hM hn).mpr z)))) (if_neg h86).symm))
                       exact ⟨rfl, rfl, rfl, rfl, rfl, rfl, rfl, rfl, rfl, rfl, trivial⟩)
                  · refine x_iload dX11_span_114 rfl ?_
                    refine x_iload dX11_span_116 rfl ?_
                    refine x_iload dX11_span_118 rfl ?_
                    refine x_imul dX11_span_120 ?_
                    refine x_iadd dX11_span_121 ?_
                    refine x_istore dX11_span_122 (by decide) ?_
                    refine x_iload dX11_span_124 rfl ?_
                    refine x_iload dX11_span_126 rfl ?_
                    refine x_iadd dX11_span_128 ?_
                    refine x_istore dX11_span_129 (by decide) ?_
                    first
                    | exact absurd (show (0 : Int32) = -1000000 from h111) (by decide)
                    | (refine x_loc _ (?_ : lle _ _) (hst a w (spn_skip hs ((mn_hid hM hn).mp h111)))
                       exact ⟨rfl, rfl, rfl, rfl, rfl, rfl, rfl, rfl, rfl, rfl, trivial⟩)
                    | (refine x_loc _ (?_ : lle _ _) (hst _ _ (spn_step hM hn hP (by omega) hs (Or.inr (by first | exact h86 | exact Classical.byContradiction h86)) (if_pos (by first | exact h86 | exact Classical.byContradiction h86)).symm))
                       exact ⟨rfl, rfl, rfl, rfl, rfl, rfl, rfl, rfl, rfl, rfl, trivial⟩)
                    | (refine x_loc _ (?_ : lle _ _) (hst _ _ (spn_step hM hn hP (by omega) hs (Or.inl (Classical.byContradiction (fun z => h111 ((mn_hid hM hn).mpr z)))) (if_neg h86).symm))
                       exact ⟨rfl, rfl, rfl, rfl, rfl, rfl, rfl, rfl, rfl, rfl, trivial⟩)
                · refine x_iconst (v := 0) dX11_span_89 (by decide) ?_
                  refine x_goto (tgt := 104) dX11_span_90 (by decide) ?_
                  refine x_istore dX11_span_104 (by decide) ?_
                  refine x_iload dX11_span_106 rfl ?_
                  refine x_ldcw dX11_span_108 tb865 ?_
                  refine x_icmp_eq (tgt := 131) dX11_span_111 (by decide) (fun h111 => ?_) (fun h111 => ?_)
                  · first
                    | exact absurd (show (0 : Int32) = -1000000 from h111) (by decide)
                    | (refine x_loc _ (?_ : lle _ _) (hst a w (spn_skip hs ((mn_hid hM hn).mp h111)))
                       exact ⟨rfl, rfl, rfl, rfl, rfl, rfl, rfl, rfl, rfl, rfl, trivial⟩)
                    | (refine x_loc _ (?_ : lle _ _) (hst _ _ (spn_step hM hn hP (by omega) hs (Or.inr (by first | exact h86 | exact Classical.byContradiction h86)) (if_pos (by first | exact h86 | exact Classical.byContradiction h86)).symm))
                       exact ⟨rfl, rfl, rfl, rfl, rfl, rfl, rfl, rfl, rfl, rfl, trivial⟩)
                    | (refine x_loc _ (?_ : lle _ _) (hst _ _ (spn_step hM hn hP (by omega) hs (Or.inl (Classical.byContradiction (fun z => h111 ((mn_hid hM hn).mpr z)))) (if_neg h86).symm))
                       exact ⟨rfl, rfl, rfl, rfl, rfl, rfl, rfl, rfl, rfl, rfl, trivial⟩)
                  · refine x_iload dX11_span_114 rfl ?_
                    refine x_iload dX11_span_116 rfl ?_
                    refine x_iload dX11_span_118 rfl ?_
                    refine x_imul dX11_span_120 ?_
                    refine x_iadd dX11_span_121 ?_
                    refine x_istore dX11_span_122 (by decide) ?_
                    refine x_iload dX11_span_124 rfl ?_
                    refine x_iload dX11_span_126 rfl ?_
                    refine x_iadd dX11_span_128 ?_
                    refine x_istore dX11_span_129 (by decide) ?_
                    first
                    | exact absurd (show (0 : Int32) = -1000000 from h111) (by decide)
                    | (refine x_loc _ (?_ : lle _ _) (hst a w (spn_skip hs ((mn_hid hM hn).mp h111)))
                       exact ⟨rfl, rfl, rfl, rfl, rfl, rfl, rfl, rfl, rfl, rfl, trivial⟩)
                    | (refine x_loc _ (?_ : lle _ _) (hst _ _ (spn_step hM hn hP (by omega) hs (Or.inr (by first | exact h86 | exact Classical.byContradiction h86)) (if_pos (by first | exact h86 | exact Classical.byContradiction h86)).symm))
                       exact ⟨rfl, rfl, rfl, rfl, rfl, rfl, rfl, rfl, rfl, rfl, trivial⟩)
                    | (refine x_loc _ (?_ : lle _ _) (hst _ _ (spn_step hM hn hP (by omega) hs (Or.inl (Classical.byContradiction (fun z => h111 ((mn_hid hM hn).mpr z)))) (if_neg h86).symm))
                       exact ⟨rfl, rfl, rfl, rfl, rfl, rfl, rfl, rfl, rfl, rfl, trivial⟩)
            have H1 : ∀ f p, p + f = 8 → ∀ a w : Int32, spnI σ sort day q a w (4 * p) → XJ G (d + 4) (0, 0) MX11_span (cm τ κ Md) [(0, .ref (τ 0)), (1, .int sort), (2, .int day), (3, .int q), (4, .int what), (5, .int (spPeople σ 32)), (6, .int a), (7, .int w), (8, .int (nI p))] [] 56 Q := by
              intro f
              induction f with
              | zero =>
                intro p hpf a w hs
                obtain rfl : p = 8 := by omega
                refine x_iload dX11_span_56 rfl ?_
                refine x_bipush (v := 8) dX11_span_58 (by decide) ?_
                refine x_icmp_ge (tgt := 143) dX11_span_60 (by decide) (fun _ => ?_) (fun z => absurd (by decide) z)
                refine x_loc _ (?_ : lle _ _) (F a w hs)
                exact ⟨rfl, rfl, rfl, rfl, rfl, trivial⟩
              | succ f ih =>
                intro p hpf a w hs
                have hp : p < 8 := by omega
                refine x_iload dX11_span_56 rfl ?_
                refine x_bipush (v := 8) dX11_span_58 (by decide) ?_
                refine x_icmp_ge (tgt := 143) dX11_span_60 (by decide) (fun z => absurd z (nI_ge (b := 8) hp (by decide))) (fun _ => ?_)
                refine x_iconst (v := 0) dX11_span_63 (by decide) ?_
                refine x_istore dX11_span_64 (by decide) ?_
                refine x_loc _ (?_ : lle _ _) (H2 p hp (ih (p + 1) (by omega)) 4 0 (by omega) a w hs)
                exact ⟨rfl, rfl, rfl, rfl, rfl, rfl, rfl, rfl, rfl, rfl, trivial⟩
            refine x_iconst (v := 0) dX11_span_47 (by decide) ?_
            refine x_istore dX11_span_48 (by decide) ?_
            refine x_iconst (v := 0) dX11_span_50 (by decide) ?_
            refine x_istore dX11_span_51 (by decide) ?_
            refine x_iconst (v := 0) dX11_span_53 (by decide) ?_
            refine x_istore dX11_span_54 (by decide) ?_
            refine x_loc _ (?_ : lle _ _) (H1 8 0 (by omega) 0 0 ⟨rfl, rfl⟩)
            exact ⟨rfl, rfl, rfl, rfl, rfl, rfl, rfl, rfl, rfl, trivial⟩
          · refine x_ldcw dX11_span_43 tb865 ?_
            exact x_ireturn dX11_span_46 rfl rfl (fan_f hq (fun z => by first | exact h10 z.2.1 | exact h17 z.2.2.1 | exact h25 z.2.2.2.1 | exact h35 z.2.2.2.2 | exact z.1 h40))
end CLG
