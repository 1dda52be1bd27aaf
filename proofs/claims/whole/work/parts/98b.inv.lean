/-! what every step keeps: the state's own facts; facts hang on the fields that they name -/
def memB (k : Nat) (l : List Nat) : Bool := l.any (fun j => Nat.beq k j)
theorem memB_in {k : Nat} {l : List Nat} (h : memB k l = true) : k ∈ l := by
  obtain ⟨j, h1, h2⟩ := List.any_eq_true.mp h
  rw [Nat.eq_of_beq_eq_true h2]; exact h1
/-- the fields named, all else nothing -/
def kp (lI lA : List Nat) (σ : MS) : MS := (fun k => bif memB k lI then σ.1 k else 0, fun k => bif memB k lA then σ.2 k else fun _ => 0)
theorem kp_eq {lI lA : List Nat} {σ σ' : MS} (hI : ∀ k ∈ lI, σ'.1 k = σ.1 k) (hA : ∀ r ∈ lA, σ'.2 r = σ.2 r) : kp lI lA σ' = kp lI lA σ := by
  refine Prod.ext (funext fun k => ?_) (funext fun k => ?_)
  · show (bif memB k lI then σ'.1 k else 0) = (bif memB k lI then σ.1 k else 0)
    cases e : memB k lI with
    | false => rfl
    | true => exact hI k (memB_in e)
  · show (bif memB k lA then σ'.2 k else fun _ => 0) = (bif memB k lA then σ.2 k else fun _ => 0)
    cases e : memB k lA with
    | false => rfl
    | true => exact hA k (memB_in e)
theorem kp_use {P : MS → Prop} {σ σ' : MS} (lI lA : List Nat) (hP : ∀ σ, P (kp lI lA σ) = P σ) (hI : ∀ k ∈ lI, σ'.1 k = σ.1 k) (hA : ∀ r ∈ lA, σ'.2 r = σ.2 r) (h : P σ) : P σ' := by
  rw [← hP, kp_eq hI hA, hP]; exact h
/-- the facts -/
def SbL (σ : MS) : Prop := LinP σ ∧ LinF σ ∧ LnB σ ∧ MoB σ ∧ TolB σ
def SbR (σ : MS) : Prop := RulOK σ ∧ RulD σ ∧ CdI σ
def Sb (σ : MS) : Prop := SbL σ ∧ SbR σ ∧ PerOK σ ∧ MkI σ ∧ BytOK σ ∧ QuB σ ∧ PpB σ ∧ HoB σ
def sI : List Nat := [1, 15, 16, 25, 49, 60, 65]
def sA : List Nat := [2, 3, 4, 8, 9, 10, 11, 13, 14, 18, 19, 20, 21, 45, 46, 48, 50, 56, 62]
theorem Sb_kp (σ : MS) : Sb (kp sI sA σ) = Sb σ := rfl
def dI : List Nat := [15, 16, 17, 25, 44, 49, 65]
def dA : List Nat := [2, 3, 4, 5, 6, 7, 8, 9, 10, 11, 12, 13, 14, 19, 20, 21, 22, 38, 39, 40, 41, 42, 45, 46, 47, 48, 62, 63]
theorem oV_kp (ω : Nat → Nat → Nat) (σ : MS) (k i : Nat) : oV ω (kp dI dA σ) k i = oV ω σ k i :=
  match k with
  | 0 => rfl
  | 1 => rfl
  | 2 => rfl
  | 3 => rfl
  | 4 => rfl
  | 5 => rfl
  | 6 => rfl
  | _ + 7 => rfl
theorem cK_kp (σ : MS) (k : Nat) : cn (kp dI dA σ) (cK k) = cn σ (cK k) :=
  match k with
  | 0 => rfl
  | 1 => rfl
  | 2 => rfl
  | 3 => rfl
  | 4 => rfl
  | 5 => rfl
  | 6 => rfl
  | _ + 7 => rfl
theorem codS_kp (σ : MS) : codS (kp dI dA σ) = codS σ := rfl
section INV
variable {G : Gam} {τ : Nat → Nat} {ω : Nat → Nat → Nat} {ε : Nat → Nat} {σ σ' κ κ' : MS} {Md : Mem}
theorem Dyn_kp (σ : MS) : Dyn G τ ω ε (kp dI dA σ) Md = Dyn G τ ω ε σ Md := by
  unfold Dyn
  simp only [oV_kp, cK_kp, codS_kp]
  rfl
theorem Dyn_E (hI : ∀ k ∈ dI, σ'.1 k = σ.1 k) (hA : ∀ r ∈ dA, σ'.2 r = σ.2 r) (h : Dyn G τ ω ε σ Md) : Dyn G τ ω ε σ' Md := kp_use (P := fun σ => Dyn G τ ω ε σ Md) dI dA Dyn_kp hI hA h
def pI : List Nat := [59, 60]
def pA : List Nat := [53, 54, 55, 56]
theorem tryT_kp (σ : MS) : ∀ f, tryT (kp pI pA σ) f = tryT σ f
  | 0 => rfl
  | f + 1 => by
    have ih := tryT_kp σ f
    funext one seen t
    show cI (nI seen + (kp pI pA σ).1 60 - nI one ≤ t.2.2) t (let t1 := fold (fun w s => cI (mayS (kp pI pA σ) s.1 w one) (tryT (kp pI pA σ) f (one + 1) (seen + 1) (updB s.1 one (nI w), s.2)) s) t (cn (kp pI pA σ) 59)
       tryT (kp pI pA σ) f (one + 1) seen (updB t1.1 one (-1), t1.2)) = _
    rw [ih]
    rfl
theorem Pln_kp (σ : MS) : Pln (kp pI pA σ) κ = Pln σ κ := by
  unfold Pln
  rw [tryT_kp]
  rfl
theorem Pln_E (hI : ∀ k ∈ pI, σ'.1 k = σ.1 k) (hA : ∀ r ∈ pA, σ'.2 r = σ.2 r) (h : Pln σ κ) : Pln σ' κ := kp_use (P := fun σ => Pln σ κ) pI pA Pln_kp hI hA h
theorem Kap_E (hI : ∀ k ∈ [1, 24, 59, 60], σ'.1 k = σ.1 k) (hA : ∀ r ∈ [18, 50, 53, 54, 55, 56], σ'.2 r = σ.2 r) (h : Kap σ κ) : Kap σ' κ := kp_use (P := fun σ => Kap σ κ) [1, 24, 59, 60] [18, 50, 53, 54, 55, 56] (fun _ => rfl) hI hA h
theorem Sb_E (hI : ∀ k ∈ sI, σ'.1 k = σ.1 k) (hA : ∀ r ∈ sA, σ'.2 r = σ.2 r) (h : Sb σ) : Sb σ' := kp_use (P := Sb) sI sA Sb_kp hI hA h
def cI0 : List Nat := [1, 15, 16, 17, 24, 25, 44, 49, 59, 60, 65]
theorem Cnt_E (hI : ∀ k ∈ cI0, σ'.1 k = σ.1 k) (h : Cnt σ) : Cnt σ' := by
  intro q hq
  have h1 := h q hq
  have h2 : q.1 ∈ cI0 := (by decide : ∀ q ∈ mBnd, q.1 ∈ cI0) q hq
  unfold Bnd cn at *
  rw [hI _ h2]; exact h1
/-- all that holds between two calls -/
def Bn (G : Gam) (τ : Nat → Nat) (ω : Nat → Nat → Nat) (ε : Nat → Nat) (σ κ : MS) (Md : Mem) : Prop := Wld G τ ω ε σ κ Md ∧ Sb σ ∧ Pln σ κ ∧ LetOK σ
/-- fields that no fact names -/
def scI (k : Nat) : Bool := Nat.beq k 0 || (Nat.ble 26 k && Nat.ble k 37) || Nat.beq k 52 || Nat.beq k 61
def scA (k : Nat) : Bool := Nat.beq k 23 || Nat.beq k 35 || Nat.beq k 43 || Nat.beq k 51 || Nat.beq k 57 || Nat.beq k 58 || Nat.beq k 64
def Eqv (σ σ' : MS) : Prop := (∀ k, scI k = false → σ'.1 k = σ.1 k) ∧ (∀ k, scA k = false → σ'.2 k = σ.2 k) ∧ (LetOK σ → LetOK σ')
theorem Bn_E (h : Eqv σ σ') (hB : Bn G τ ω ε σ κ Md) : Bn G τ ω ε σ' κ Md := by
  obtain ⟨⟨hi, hc, hD, hK⟩, hS, hP, hL⟩ := hB
  have eI : ∀ l : List Nat, (∀ k ∈ l, scI k = false) → ∀ k ∈ l, σ'.1 k = σ.1 k := fun l hl k hk => h.1 k (hl k hk)
  have eA : ∀ l : List Nat, (∀ k ∈ l, scA k = false) → ∀ k ∈ l, σ'.2 k = σ.2 k := fun l hl k hk => h.2.1 k (hl k hk)
  exact ⟨⟨hi, Cnt_E (eI _ (by decide)) hc, Dyn_E (eI _ (by decide)) (eA _ (by decide)) hD, Kap_E (eI _ (by decide)) (eA _ (by decide)) hK⟩, Sb_E (eI _ (by decide)) (eA _ (by decide)) hS, Pln_E (eI _ (by decide)) (eA _ (by decide)) hP, h.2.2 hL⟩
theorem Eqv.rf : Eqv σ σ := ⟨fun _ _ => rfl, fun _ _ => rfl, fun h => h⟩
theorem bool_or {a b : Bool} (h : (a || b) = false) : a = false ∧ b = false := by cases a <;> cases b <;> first | exact ⟨rfl, rfl⟩ | cases h
theorem Eqv_0 {v : Int32} : Eqv σ (seti σ 0 v) := ⟨fun k h => updB_ne (fun z => by subst z; cases h), fun _ _ => rfl, fun h => h⟩
theorem Eqv_d (h : dKeep σ σ') : Eqv σ σ' := by
  refine ⟨fun k _ => by rw [h.1], fun k hk => h.2 k (fun z => by subst z; cases hk) (fun z => by subst z; cases hk), fun hl c hc => ?_⟩
  rw [h.2 23 (by decide) (by decide)]; exact hl c hc
theorem Eqv_t (h : tKeep σ σ') : Eqv σ σ' := by
  refine ⟨fun k hk => h.1 k (fun z => by subst z; cases hk), fun k hk => h.2 k (fun z => by subst z; cases hk), fun hl c hc => ?_⟩
  rw [h.2 23 (by decide)]; exact hl c hc
theorem Eqv_s (h : Sim σ σ') : Eqv σ σ' := by
  refine ⟨fun k hk => h.2.1 k ?_, fun k hk => h.1 k (fun z => by subst z; cases hk) (fun z => by subst z; cases hk), fun _ => h.2.2⟩
  refine Classical.byContradiction fun z => ?_
  have h1 : 26 ≤ k := by omega
  have h2 : k ≤ 37 := by omega
  have : scI k = true := by
    unfold scI
    rw [Nat.ble_eq_true_of_le h1, Nat.ble_eq_true_of_le h2]
    cases Nat.beq k 0 <;> rfl
  rw [this] at hk; cases hk
theorem Eqv_w (t : TT) : Eqv σ (wT σ t) := by
  refine ⟨fun k hk => updB_ne (fun z => by subst z; cases hk), fun k hk => ?_, fun hl => hl⟩
  show (bif Nat.beq k 57 then t.1 else bif Nat.beq k 58 then t.2.1 else σ.2 k) = σ.2 k
  have h1 : ¬ k = 57 := fun z => by subst z; cases hk
  have h2 : ¬ k = 58 := fun z => by subst z; cases hk
  rw [beq_f h1, beq_f h2]; rfl
end INV
