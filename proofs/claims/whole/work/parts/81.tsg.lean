/-! the class, 29: the reader's small steps -/
/-- the reader's place, how many codes, the codes -/
def rS (κ : MS) (a m : Int32) (f : Nat → Int32) : MS := (fun k => bif Nat.beq k 82 then a else bif Nat.beq k 84 then m else κ.1 k, fun r => bif Nat.beq r 18 then f else κ.2 r)
theorem rS_a {κ : MS} {a m : Int32} {f : Nat → Int32} : (rS κ a m f).1 82 = a := rfl
theorem rS_m {κ : MS} {a m : Int32} {f : Nat → Int32} : (rS κ a m f).1 84 = m := rfl
theorem rS_f {κ : MS} {a m : Int32} {f : Nat → Int32} : (rS κ a m f).2 18 = f := rfl
theorem rS_82 {κ : MS} {a m v : Int32} {f : Nat → Int32} : seti (rS κ a m f) 82 v = rS κ v m f := by
  refine Prod.ext ?_ rfl
  funext k
  show updB (rS κ a m f).1 82 v k = _
  by_cases e : k = 82
  · subst e; rw [updB_eq]; rfl
  · rw [updB_ne e]
    show (bif Nat.beq k 82 then _ else _) = (bif Nat.beq k 82 then _ else _)
    rw [beq_f e]; rfl
theorem rS_84 {κ : MS} {a m v : Int32} {f : Nat → Int32} : seti (rS κ a m f) 84 v = rS κ a v f := by
  refine Prod.ext ?_ rfl
  funext k
  show updB (rS κ a m f).1 84 v k = _
  by_cases e : k = 84
  · subst e; rw [updB_eq]; rfl
  · rw [updB_ne e]
    show (bif Nat.beq k 82 then _ else (bif Nat.beq k 84 then _ else _)) = (bif Nat.beq k 82 then _ else (bif Nat.beq k 84 then _ else _))
    rw [beq_f e]
    rfl
theorem rS_18 {κ : MS} {a m v : Int32} {i : Nat} {f : Nat → Int32} : seta (rS κ a m f) 18 i v = rS κ a m (updB f i v) := by
  refine Prod.ext rfl ?_
  funext r
  by_cases e : r = 18
  · subst e; rw [seta_eq]; rfl
  · rw [seta_ne e]
    show (bif Nat.beq r 18 then _ else _) = (bif Nat.beq r 18 then _ else _)
    rw [beq_f e]; rfl
theorem rS_self {κ : MS} : rS κ (κ.1 82) (κ.1 84) (κ.2 18) = κ := by
  refine Prod.ext ?_ ?_
  · funext k
    show (bif Nat.beq k 82 then _ else (bif Nat.beq k 84 then _ else _)) = _
    cases z : Nat.beq k 82 with
    | true => rw [Nat.eq_of_beq_eq_true z]; rfl
    | false =>
      cases y : Nat.beq k 84 with
      | true => rw [Nat.eq_of_beq_eq_true y]; rfl
      | false => rfl
  · funext r
    show (bif Nat.beq r 18 then _ else _) = _
    cases z : Nat.beq r 18 with
    | true => rw [Nat.eq_of_beq_eq_true z]; rfl
    | false => rfl
/-- a byte and the sign it is -/
def sgn (x : Int32) : Prop := (x &&& 255 = x ∧ 0 ≤ x ∧ x ≤ 127) ∨ (x < 0 ∧ 128 ≤ x &&& 255 ∧ x &&& 255 ≤ 255)
theorem sgn_of {x : Int32} (h : x.toInt8.toInt32 = x) : sgn x := by
  have h1 := Int8.le_toInt x.toInt8
  have h2 := Int8.toInt_lt x.toInt8
  have h3 : x.toInt = x.toInt8.toInt := by
    have := congrArg Int32.toInt h
    rw [Int8.toInt_toInt32] at this
    exact this.symm
  by_cases z : 0 ≤ x
  · left
    have hz : 0 ≤ x.toInt := by
      rw [Int32.le_iff_toInt_le] at z
      exact z
    obtain ⟨n, hn⟩ : ∃ n : Nat, x.toInt = n := ⟨x.toInt.toNat, by omega⟩
    have hx : x = nI n := by rw [← Int32.toInt_inj, nI_toInt (by omega)]; exact hn
    subst hx
    have hall : ∀ n, n < 128 → nI n &&& 255 = nI n ∧ nI n ≤ 127 := by decide +kernel
    exact ⟨(hall n (by omega)).1, z, (hall n (by omega)).2⟩
  · right
    have hz : x.toInt < 0 := by
      rw [Int32.le_iff_toInt_le] at z
      have e0 : (0 : Int32).toInt = 0 := rfl
      omega
    obtain ⟨n, hn⟩ : ∃ n : Nat, x.toInt = -(n : Int) := ⟨(-x.toInt).toNat, by omega⟩
    have hx : x = -nI n := by
      rw [← Int32.toInt_inj, Int32.toInt_neg, nI_toInt (by omega), bm32 (by omega)]; exact hn
    subst hx
    have hall : ∀ n, n < 129 → 0 < n → -nI n < 0 ∧ 128 ≤ (-nI n) &&& 255 ∧ (-nI n) &&& 255 ≤ 255 := by decide +kernel
    exact hall n (by omega) (by omega)
theorem sgn_r {x : Int32} (h : sgn x) : 0 ≤ x &&& 255 ∧ x &&& 255 ≤ 255 := by
  rcases h with ⟨h1, h2, h3⟩ | ⟨h1, h2, h3⟩
  · rw [h1]; exact ⟨h2, Int32.le_trans h3 (by decide)⟩
  · exact ⟨Int32.le_trans (by decide) h2, h3⟩
theorem sgn_eq {x c : Int32} (h : sgn x) (h0 : 0 ≤ c) (h1 : c ≤ 127) : x &&& 255 = c ↔ x = c := by
  rcases h with ⟨e, h2, h3⟩ | ⟨h2, h3, h4⟩
  · rw [e]
  · constructor
    · intro z
      rw [z] at h3
      exact absurd (Int32.le_trans h3 h1) (by decide)
    · intro z
      subst z
      exact absurd h2 (Int32.not_lt.mpr h0)
theorem sgn_dg {x : Int32} (h : sgn x) : (48 ≤ x &&& 255 ∧ x &&& 255 ≤ 57) ↔ (48 ≤ x ∧ x ≤ 57) := by
  rcases h with ⟨e, h2, h3⟩ | ⟨h2, h3, h4⟩
  · rw [e]
  · constructor
    · intro z
      exact absurd (Int32.le_trans h3 z.2) (by decide)
    · intro z
      exact absurd (Int32.lt_of_le_of_lt z.1 h2) (by decide)
/-- the tape as the class has it -/
def TpB (κ : MS) (b : Nat → Int32) (n : Nat) : Prop := κ.1 81 = nI n ∧ n ≤ 160 ∧ ∀ p, p < n → κ.2 17 p = b p &&& 255 ∧ sgn (b p)
theorem TpB_of {σ κ : MS} (hc : Cnt σ) (hT : Tp σ κ) (hB : BytOK σ) : TpB κ (σ.2 18) (cn σ 24) := by
  obtain ⟨h1, h2⟩ := hc.b 24 (b := 160) (by decide)
  exact ⟨hT.1.trans h1, h2, fun p hp => ⟨hT.2 p hp, sgn_of (hB p)⟩⟩
theorem rS_n {κ : MS} {b : Nat → Int32} {n : Nat} {a m : Int32} {f : Nat → Int32} (h : TpB κ b n) : (rS κ a m f).1 81 = nI n := h.1
theorem rS_t {κ : MS} {b : Nat → Int32} {n : Nat} {a m : Int32} {f : Nat → Int32} (h : TpB κ b n) {p : Nat} (hp : p < n) : (rS κ a m f).2 17 p = b p &&& 255 := (h.2.2 p hp).1
theorem nar_ch {x : Int32} (h0 : 0 ≤ x) (h1 : x ≤ 255) : narrow .char (.int x) = .int x := by
  obtain ⟨n, hn, rfl⟩ := nI_of2 (M := 255) (n := 255) rfl (Int32.not_lt.mpr h0) h1
  have h : ∀ n, n < 256 → (nI n).toUInt32.toUInt16.toUInt32.toInt32 = nI n := by decide +kernel
  exact congrArg Value.int (h n (by omega))
theorem sxF_at {bs : List Int32} {c : Int32} : ∀ (f i : Nat), i + f < 2 ^ 31 → (∃ j, j < f ∧ bs.getD (i + j) 0 = c) → ¬ sxF bs c f i < 0
  | 0, _, _, h => by obtain ⟨j, hj, -⟩ := h; omega
  | f + 1, i, hN, h => by
    unfold sxF
    by_cases z : bs.getD i 0 = c
    · rw [if_pos z]; exact nI_pos (by omega)
    · rw [if_neg z]
      refine sxF_at f (i + 1) (by omega) ?_
      obtain ⟨j, hj, e⟩ := h
      cases j with
      | zero => exact absurd e z
      | succ j => exact ⟨j, by omega, by rw [show i + 1 + j = i + (j + 1) by omega]; exact e⟩
theorem sx_in {bs : List Int32} {c : Int32} (hN : bs.length < 2 ^ 31) : ¬ sxF bs c bs.length 0 < 0 ↔ c ∈ bs := by
  constructor
  · intro h
    by_cases z : c ∈ bs
    · exact z
    · exact absurd (by rw [sxF_none _ _ (fun j hj e => z (by
        rw [Nat.zero_add, List.getD_eq_getElem?_getD, List.getElem?_eq_getElem hj] at e
        exact e ▸ List.getElem_mem hj))]; decide) h
  · intro h
    obtain ⟨j, hj, e⟩ := List.mem_iff_getElem.mp h
    exact sxF_at _ _ (by omega) ⟨j, hj, by rw [Nat.zero_add, List.getD_eq_getElem?_getD, List.getElem?_eq_getElem hj]; exact e⟩
section TSG
variable {G : Gam} {d : Nat} {τ : Nat → Nat} {κ : MS} {Md : Mem} {M : Mem} {Q : Option Value → Mem → Prop} {b : Nat → Int32} {n p m : Nat} {f : Nat → Int32}
/-- a text of signs -/
def Sg (bs : List Int32) : Prop := bs.length < 2 ^ 31 ∧ ∀ j, j < bs.length → 0 ≤ bs.getD j 0 ∧ bs.getD j 0 ≤ 127
theorem Sg_n1 {bs : List Int32} (h : Sg bs) : ¬ (-1 : Int32) ∈ bs := by
  intro z
  obtain ⟨j, hj, e⟩ := List.mem_iff_getElem.mp z
  have h2 := (h.2 j hj).1
  rw [List.getD_eq_getElem?_getD, List.getElem?_eq_getElem hj] at h2
  have h3 : (0 : Int32) ≤ bs[j] := h2
  rw [e] at h3
  exact absurd h3 (by decide)
theorem sees_38 {a q : Nat} {bs : List Int32} {c mI : Int32} (hi : adOK τ) (hz : ZCom G) (hT : TpB κ b n) (hS : StrA G a bs) (hb : Sg bs) (hq : q ≤ n) (hc : (if q < n then b q &&& 255 else -1) = c)
    (h1 : c ∈ bs → Q (some (.int 1)) (cm τ (rS κ (nI q) mI f) Md)) (h0 : ¬ c ∈ bs → Q (some (.int 0)) (cm τ (rS κ (nI q) mI f) Md)) : XJ G (d + 4) (0, 0) MX9_sees (cm τ (rS κ (nI q) mI f) Md) [(0, .ref (τ 8)), (1, .ref a)] [] 38 Q := by
  obtain ⟨v, ho, -⟩ := id hS
  by_cases e : q < n
  · rw [if_pos e] at hc
    refine x_aload_n dX9_sees_38 rfl rfl ?_
    refine x_getf dX9_sees_39 lf_X9_32 (kc hi kf_8) kv_8_2 ?_
    rw [rS_a]
    refine x_aload_n dX9_sees_42 rfl rfl ?_
    refine x_getf dX9_sees_43 lf_X9_19 (kc hi kf_8) kv_8_1 ?_
    rw [rS_n hT]
    refine x_icmp_ge (tgt := 69) dX9_sees_46 (by decide) (fun z => absurd z (nI_ge e (by have := hT.2.1; omega))) (fun _ => ?_)
    refine x_aload_n dX9_sees_49 rfl rfl ?_
    refine x_aload_n dX9_sees_50 rfl rfl ?_
    refine x_getf dX9_sees_51 lf_X9_11 (kc hi kf_8) kv_8_0 ?_
    refine x_aload_n dX9_sees_54 rfl rfl ?_
    refine x_getf dX9_sees_55 lf_X9_32 (kc hi kf_8) kv_8_2 ?_
    refine xk_cald 17 dX9_sees_58 kf_17 rfl hi (vp_in_nI (by have := hT.2.1; omega) (by decide)) (nI_clamp (by have := hT.2.1; omega)) ?_
    rw [rS_t hT e, hc]
    refine x_oV1 dX9_sees_59 lv_X9_123 ho rfl rfl  (c_J0_indexOf hz hb.1 hb.2 hS ?_)
    refine x_if_lt (tgt := 69) dX9_sees_62 (by decide) (fun h62 => ?_) (fun h62 => ?_)
    · refine x_iconst (v := 0) dX9_sees_69 (by decide) ?_
      exact x_ireturn dX9_sees_70 rfl rfl ((by
first
| exact h0 (fun z => (sx_in hb.1).mpr z h62)
| exact h1 ((sx_in hb.1).mp h62)))
    · refine x_iconst (v := 1) dX9_sees_65 (by decide) ?_
      refine x_goto (tgt := 70) dX9_sees_66 (by decide) ?_
      exact x_ireturn dX9_sees_70 rfl rfl ((by
first
| exact h0 (fun z => (sx_in hb.1).mpr z h62)
| exact h1 ((sx_in hb.1).mp h62)))
  · rw [if_neg e] at hc
    subst hc
    obtain rfl : q = n := by omega
    refine x_aload_n dX9_sees_38 rfl rfl ?_
    refine x_getf dX9_sees_39 lf_X9_32 (kc hi kf_8) kv_8_2 ?_
    rw [rS_a]
    refine x_aload_n dX9_sees_42 rfl rfl ?_
    refine x_getf dX9_sees_43 lf_X9_19 (kc hi kf_8) kv_8_1 ?_
    rw [rS_n hT]
    refine x_icmp_ge (tgt := 69) dX9_sees_46 (by decide) (fun _ => ?_) (fun z => absurd (Int32.le_refl _) z)
    refine x_iconst (v := 0) dX9_sees_69 (by decide) ?_
    exact x_ireturn dX9_sees_70 rfl rfl (h0 (Sg_n1 hb))
theorem c_X9_sees {a : Nat} {bs : List Int32} {mI : Int32} (hi : adOK τ) (hz : ZCom G) (hT : TpB κ b n) (hS : StrA G a bs) (hb : Sg bs) (hp : p ≤ n)
    (h1 : lk b n p ∈ bs → Q (some (.int 1)) (cm τ (rS κ (nI (sk b n p)) mI f) Md)) (h0 : ¬ lk b n p ∈ bs → Q (some (.int 0)) (cm τ (rS κ (nI (sk b n p)) mI f) Md)) : CT G (d + 4) (0, 0) MX9_sees [.ref (τ 8), .ref a] (cm τ (rS κ (nI p) mI f) Md) Q := by
  have hn := hT.2.1
  have H : ∀ g p, p + g = n → (lk b n p ∈ bs → Q (some (.int 1)) (cm τ (rS κ (nI (sk b n p)) mI f) Md)) → (¬ lk b n p ∈ bs → Q (some (.int 0)) (cm τ (rS κ (nI (sk b n p)) mI f) Md)) → XJ G (d + 4) (0, 0) MX9_sees (cm τ (rS κ (nI p) mI f) Md) [(0, .ref (τ 8)), (1, .ref a)] [] 0 Q := by
    intro g
    induction g with
    | zero =>
      intro p hpg h1 h0
      obtain rfl : p = n := by omega
      have es : sk b p p = p := sk_end b p
      rw [es] at h1 h0
      refine x_aload_n dX9_sees_0 rfl rfl ?_
      refine x_getf dX9_sees_1 lf_X9_32 (kc hi kf_8) kv_8_2 ?_
      rw [rS_a]
      refine x_aload_n dX9_sees_4 rfl rfl ?_
      refine x_getf dX9_sees_5 lf_X9_19 (kc hi kf_8) kv_8_1 ?_
      rw [rS_n hT]
      refine x_icmp_ge (tgt := 38) dX9_sees_8 (by decide) (fun _ => ?_) (fun z => absurd (Int32.le_refl _) z)
      refine sees_38 (c := lk b p p) hi hz hT hS hb (Nat.le_refl _) ?_ h1 h0
      unfold lk; rw [es]
    | succ g ih =>
      intro p hpg h1 h0
      have hlt : p < n := by omega
      have hsg := (hT.2.2 p hlt).2
      have h32 := sgn_eq (c := 32) hsg (by decide) (by decide)
      refine x_aload_n dX9_sees_0 rfl rfl ?_
      refine x_getf dX9_sees_1 lf_X9_32 (kc hi kf_8) kv_8_2 ?_
      rw [rS_a]
      refine x_aload_n dX9_sees_4 rfl rfl ?_
      refine x_getf dX9_sees_5 lf_X9_19 (kc hi kf_8) kv_8_1 ?_
      rw [rS_n hT]
      refine x_icmp_ge (tgt := 38) dX9_sees_8 (by decide) (fun z => absurd z (nI_ge hlt (by omega))) (fun _ => ?_)
      refine x_aload_n dX9_sees_11 rfl rfl ?_
      refine x_getf dX9_sees_12 lf_X9_11 (kc hi kf_8) kv_8_0 ?_
      refine x_aload_n dX9_sees_15 rfl rfl ?_
      refine x_getf dX9_sees_16 lf_X9_32 (kc hi kf_8) kv_8_2 ?_
      refine xk_cald 17 dX9_sees_19 kf_17 rfl hi (vp_in_nI (by omega) (by decide)) (nI_clamp (by omega)) ?_
      rw [rS_t hT hlt]
      refine x_bipush (v := 32) dX9_sees_20 (by decide) ?_
      refine x_icmp_ne (tgt := 38) dX9_sees_22 (by decide) (fun h22 => ?_) (fun h22 => ?_)
      · have es : sk b n p = p := sk_at (fun z => h22 (h32.mpr z))
        rw [es] at h1 h0
        refine sees_38 (c := lk b n p) hi hz hT hS hb (by omega) ?_ h1 h0
        unfold lk; rw [es]
      · refine x_aload_n dX9_sees_25 rfl rfl ?_
        refine x_dup dX9_sees_26 rfl ?_
        refine x_getf dX9_sees_27 lf_X9_32 (kc hi kf_8) kv_8_2 ?_
        rw [rS_a]
        refine x_iconst (v := 1) dX9_sees_30 (by decide) ?_
        refine x_iadd dX9_sees_31 ?_
        refine xk_puti dX9_sees_32 lp_X9_32 (kc hi kf_8) rfl rfl (kp_8_2 hi) ?_
        rw [nI_1, rS_82]
        refine x_goto (tgt := 0) dX9_sees_35 (by decide) ?_
        have es : sk b n p = sk b n (p + 1) := sk_on hlt (h32.mp h22)
        rw [es, lk_of es] at h1 h0
        exact ih (p + 1) (by omega) h1 h0
  exact CT.of rfl (Nat.le_of_ble_eq_true rfl) (H (n - p) p (by omega) h1 h0)
theorem c_X9_take {a : Nat} {bs : List Int32} {mI : Int32} (hi : adOK τ) (hz : ZCom G) (hT : TpB κ b n) (hS : StrA G a bs) (hb : Sg bs) (hp : p ≤ n)
    (h1 : lk b n p ∈ bs → Q (some (.int 1)) (cm τ (rS κ (nI (sk b n p + 1)) mI f) Md)) (h0 : ¬ lk b n p ∈ bs → Q (some (.int 0)) (cm τ (rS κ (nI (sk b n p)) mI f) Md)) : CT G (d + 5) (0, 0) MX9_take [.ref (τ 8), .ref a] (cm τ (rS κ (nI p) mI f) Md) Q := by
  refine CT.of rfl (Nat.le_of_ble_eq_true rfl) ?_
  refine x_aload_n dX9_take_0 rfl rfl ?_
  refine x_aload_n dX9_take_1 rfl rfl ?_
  refine x_cV1 dX9_take_2 lv_X9_49 (kc hi kf_8) rfl rfl rfl  (c_X9_sees hi hz hT hS hb hp (fun y => ?_) (fun y => ?_))
  · refine x_istore_n dX9_take_5 rfl (by decide) ?_
    refine x_iload_n dX9_take_6 rfl rfl ?_
    refine x_if_eq (tgt := 20) dX9_take_7 (by decide) (fun z => absurd z (by decide)) (fun _ => ?_)
    refine x_aload_n dX9_take_10 rfl rfl ?_
    refine x_dup dX9_take_11 rfl ?_
    refine x_getf dX9_take_12 lf_X9_32 (kc hi kf_8) kv_8_2 ?_
    rw [rS_a]
    refine x_iconst (v := 1) dX9_take_15 (by decide) ?_
    refine x_iadd dX9_take_16 ?_
    refine xk_puti dX9_take_17 lp_X9_32 (kc hi kf_8) rfl rfl (kp_8_2 hi) ?_
    rw [nI_1, rS_82]
    refine x_iload_n dX9_take_20 rfl rfl ?_
    exact x_ireturn dX9_take_21 rfl rfl (h1 y)
  · refine x_istore_n dX9_take_5 rfl (by decide) ?_
    refine x_iload_n dX9_take_6 rfl rfl ?_
    refine x_if_eq (tgt := 20) dX9_take_7 (by decide) (fun _ => ?_) (fun z => absurd rfl z)
    refine x_iload_n dX9_take_20 rfl rfl ?_
    exact x_ireturn dX9_take_21 rfl rfl (h0 y)
theorem c_X9_takeSign {q : Nat} {mI : Int32} (hi : adOK τ) (hT : TpB κ b n) (hq : q < n) (hQ : Q (some (.int (b q &&& 255))) (cm τ (rS κ (nI (q + 1)) mI f) Md)) : CT G d (0, 0) MX9_takeSign [.ref (τ 8)] (cm τ (rS κ (nI q) mI f) Md) Q := by
  have hn := hT.2.1
  have hr := sgn_r (hT.2.2 q hq).2
  refine CT.of rfl (Nat.le_of_ble_eq_true rfl) ?_
  refine x_aload_n dX9_takeSign_0 rfl rfl ?_
  refine x_getf dX9_takeSign_1 lf_X9_32 (kc hi kf_8) kv_8_2 ?_
  rw [rS_a]
  refine x_aload_n dX9_takeSign_4 rfl rfl ?_
  refine x_getf dX9_takeSign_5 lf_X9_19 (kc hi kf_8) kv_8_1 ?_
  rw [rS_n hT]
  refine x_icmp_lt (tgt := 14) dX9_takeSign_8 (by decide) (fun _ => ?_) (fun z => absurd (nI_lt hq (by omega)) z)
  refine x_aload_n dX9_takeSign_14 rfl rfl ?_
  refine x_dup dX9_takeSign_15 rfl ?_
  refine x_getf dX9_takeSign_16 lf_X9_32 (kc hi kf_8) kv_8_2 ?_
  rw [rS_a]
  refine x_iconst (v := 1) dX9_takeSign_19 (by decide) ?_
  refine x_iadd dX9_takeSign_20 ?_
  refine xk_puti dX9_takeSign_21 lp_X9_32 (kc hi kf_8) rfl rfl (kp_8_2 hi) ?_
  rw [nI_1, rS_82]
  refine x_aload_n dX9_takeSign_24 rfl rfl ?_
  refine x_getf dX9_takeSign_25 lf_X9_11 (kc hi kf_8) kv_8_0 ?_
  refine x_aload_n dX9_takeSign_28 rfl rfl ?_
  refine x_getf dX9_takeSign_29 lf_X9_32 (kc hi kf_8) kv_8_2 ?_
  rw [rS_a]
  refine x_iconst (v := 1) dX9_takeSign_32 (by decide) ?_
  refine x_isub dX9_takeSign_33 ?_
  rw [nI_pred]
  refine xk_cald 17 dX9_takeSign_34 kf_17 rfl hi (vp_in_nI (by omega) (by decide)) (nI_clamp (by omega)) ?_
  rw [rS_t hT hq]
  exact x_ireturn dX9_takeSign_35 rfl (nar_ch hr.1 hr.2) (hQ)
theorem c_addOK {aI v : Int32} (hi : adOK τ) (hm : m < 160) (hQ : Q none (cm τ (rS κ aI (nI (m + 1)) (updB f m v)) Md)) : CT G d (0, 0) MX9_addCode [.ref (τ 8), .int v] (cm τ (rS κ aI (nI m) f) Md) Q := by
  refine CT.of rfl (Nat.le_of_ble_eq_true rfl) ?_
  refine x_aload_n dX9_addCode_0 rfl rfl ?_
  refine x_getf dX9_addCode_1 lf_X9_23 (kc hi kf_8) kv_8_4 ?_
  rw [rS_m]
  refine x_aload_n dX9_addCode_4 rfl rfl ?_
  refine x_getf dX9_addCode_5 lf_X9_15 (kc hi kf_8) kv_8_3 ?_
  refine x_alen dX9_addCode_8 (by decide) (by decide) (kc hi kf_18) ?_
  refine x_icmp_ge (tgt := 32) dX9_addCode_9 (by decide) (fun z => absurd z (nI_ge (b := 160) hm (by decide))) (fun _ => ?_)
  refine x_aload_n dX9_addCode_12 rfl rfl ?_
  refine x_getf dX9_addCode_13 lf_X9_15 (kc hi kf_8) kv_8_3 ?_
  refine x_aload_n dX9_addCode_16 rfl rfl ?_
  refine x_getf dX9_addCode_17 lf_X9_23 (kc hi kf_8) kv_8_4 ?_
  rw [rS_m]
  refine x_iload_n dX9_addCode_20 rfl rfl ?_
  refine xk_iast 18 dX9_addCode_21 kf_18 rfl hi (vp_in_nI hm (by decide)) (nI_clamp (by omega)) ?_
  rw [rS_18]
  refine x_aload_n dX9_addCode_22 rfl rfl ?_
  refine x_dup dX9_addCode_23 rfl ?_
  refine x_getf dX9_addCode_24 lf_X9_23 (kc hi kf_8) kv_8_4 ?_
  rw [rS_m]
  refine x_iconst (v := 1) dX9_addCode_27 (by decide) ?_
  refine x_iadd dX9_addCode_28 ?_
  refine xk_puti dX9_addCode_29 lp_X9_23 (kc hi kf_8) rfl rfl (kp_8_4 hi) ?_
  rw [nI_1, rS_84]
  exact x_return dX9_addCode_32 rfl (hQ)
theorem c_addAny {aI v : Int32} (hi : adOK τ) (hm : m ≤ 160) (hQ : ∀ m' f', m' ≤ 160 → Q none (cm τ (rS κ aI (nI m') f') Md)) : CT G d (0, 0) MX9_addCode [.ref (τ 8), .int v] (cm τ (rS κ aI (nI m) f) Md) Q := by
  rcases Nat.lt_or_ge m 160 with h | h
  · exact c_addOK hi h (hQ _ _ (by omega))
  · obtain rfl : m = 160 := by omega
    refine CT.of rfl (Nat.le_of_ble_eq_true rfl) ?_
    refine x_aload_n dX9_addCode_0 rfl rfl ?_
    refine x_getf dX9_addCode_1 lf_X9_23 (kc hi kf_8) kv_8_4 ?_
    rw [rS_m]
    refine x_aload_n dX9_addCode_4 rfl rfl ?_
    refine x_getf dX9_addCode_5 lf_X9_15 (kc hi kf_8) kv_8_3 ?_
    refine x_alen dX9_addCode_8 (by decide) (by decide) (kc hi kf_18) ?_
    refine x_icmp_ge (tgt := 32) dX9_addCode_9 (by decide) (fun _ => ?_) (fun z => absurd (Int32.le_refl _) z)
    exact x_return dX9_addCode_32 rfl (hQ _ _ (Nat.le_refl _))
end TSG
