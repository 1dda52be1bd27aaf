/-! the class, 2: methods that read lines, persons, rules, happenings, questions -/
theorem and1_01 (x : Int32) : x &&& 1 = 0 ∨ x &&& 1 = 1 := by
  have h : x.toBitVec &&& 1#32 = 0#32 ∨ x.toBitVec &&& 1#32 = 1#32 := by
    rw [BitVec.and_one_eq_setWidth_ofBool_getLsbD]
    cases x.toBitVec.getLsbD 0
    · exact Or.inl rfl
    · exact Or.inr rfl
  rcases h with h | h
  · exact Or.inl (Int32.toBitVec_inj.mp h)
  · exact Or.inr (Int32.toBitVec_inj.mp h)
theorem and1_ne {x : Int32} : ¬ x &&& 1 = 0 ↔ x &&& 1 = 1 := by
  rcases and1_01 x with h | h
  · rw [h]; decide
  · rw [h]; decide
/-- the greatest DAY so far, as the class keeps it -/
def grF (σ : MS) (f : Nat) (b : Int32) : Int32 := if b = -1 then -1 else σ.2 f b.toNatClampNeg
theorem gr_iff {σ : MS} {f i : Nat} {b : Int32} (h : isD (σ.2 f i)) : ¬ σ.2 f i < grF σ f b ↔ (b = -1 ∨ σ.2 f b.toNatClampNeg ≤ σ.2 f i) := by
  unfold grF
  by_cases z : b = -1
  · rw [if_pos z]
    constructor
    · intro _; exact Or.inl z
    · intro _ y
      have := h.1
      rw [Int32.le_iff_toInt_le] at this
      rw [Int32.lt_iff_toInt_lt] at y
      have e1 : (-1 : Int32).toInt = -1 := rfl
      have e0 : (0 : Int32).toInt = 0 := rfl
      omega
  · rw [if_neg z]
    constructor
    · intro y; exact Or.inr (Int32.not_lt.mp y)
    · rintro (y | y)
      · exact absurd y z
      · exact Int32.not_lt.mpr y
/-- every rule's day is one -/
def RulD (σ : MS) : Prop := ∀ r, r < cn σ 25 → isD (σ.2 21 r)
section CLB
variable {G : Gam} {d : Nat} {τ : Nat → Nat} {ω : Nat → Nat → Nat} {ε : Nat → Nat} {σ κ : MS} {Md : Mem} {M : Mem} {Q : Option Value → Mem → Prop} {k : Nat}
theorem c_X11_ruleInForce {day q : Int32} (hW : Wld G τ ω ε σ κ Md) (hr : RulD σ) (hq : Q (some (.int (spRule σ day q (cn σ 25)))) (cm τ κ Md)) : CT G (d + 3) (0, 0) MX11_ruleInForce [.ref (τ 0), .int day, .int q] (cm τ κ Md) Q := by
  obtain ⟨hi, hc, hD, hK⟩ := hW
  obtain ⟨hl1, hl2⟩ := hc.b 25 (b := 20) (by decide)
  refine CT.of rfl (Nat.le_of_ble_eq_true rfl) ?_
  refine x_iconst (v := -1) dX11_ruleInForce_0 (by decide) ?_
  refine x_istore_n dX11_ruleInForce_1 rfl (by decide) ?_
  refine x_iconst (v := -1) dX11_ruleInForce_2 (by decide) ?_
  refine x_istore dX11_ruleInForce_3 (by decide) ?_
  refine x_iconst (v := 0) dX11_ruleInForce_5 (by decide) ?_
  refine x_istore dX11_ruleInForce_6 (by decide) ?_
  refine x_loc [(0, .ref (τ 0)), (1, .int day), (2, .int q), (3, .int (spRule σ day q 0)), (4, .int (grF σ 21 (spRule σ day q 0))), (5, .int (nI 0))] ⟨rfl, rfl, rfl, rfl, rfl, rfl, trivial⟩ ?_
  refine loop_up (P := fun i => XJ G (d + 3) (0, 0) MX11_ruleInForce (cm τ κ Md) [(0, .ref (τ 0)), (1, .int day), (2, .int q), (3, .int (spRule σ day q i)), (4, .int (grF σ 21 (spRule σ day q i))), (5, .int (nI i))] [] 8 Q) (n := cn σ 25) ?_ ?_ 0 (Nat.zero_le _)
  · refine x_iload dX11_ruleInForce_8 rfl ?_
    refine x_aload_n dX11_ruleInForce_10 rfl rfl ?_
    refine x_getf dX11_ruleInForce_11 lf_X11_22 (kc hi kf_0) kv_0_4 ?_
    refine x_cV0 dX11_ruleInForce_14 lv_X11_100 (hD.lc 4 li_4) rfl rfl rfl (c_lsz_4 hD ?_)
    refine x_icmp_ge (tgt := 78) dX11_ruleInForce_17 (by decide) (fun _ => ?_) (fun z => absurd (loopT rfl) z)
    refine x_iload_n dX11_ruleInForce_78 rfl rfl ?_
    exact x_ireturn dX11_ruleInForce_79 rfl rfl (hq)
  · intro i hlt ih
    have hg := gr_iff (σ := σ) (f := 21) (i := i) (b := spRule σ day q i) (hr i hlt)
    have es : spRule σ day q (i + 1) = if σ.2 22 i ≤ q ∧ σ.2 21 i ≤ day ∧ (spRule σ day q i = -1 ∨ σ.2 21 (spRule σ day q i).toNatClampNeg ≤ σ.2 21 i) then nI i else spRule σ day q i := rfl
    have hcl : (nI i).toNatClampNeg = i := nI_clamp (by omega)
    have hne : ¬ nI i = -1 := nI_n1 (by omega)
    refine x_iload dX11_ruleInForce_8 rfl ?_
    refine x_aload_n dX11_ruleInForce_10 rfl rfl ?_
    refine x_getf dX11_ruleInForce_11 lf_X11_22 (kc hi kf_0) kv_0_4 ?_
    refine x_cV0 dX11_ruleInForce_14 lv_X11_100 (hD.lc 4 li_4) rfl rfl rfl (c_lsz_4 hD ?_)
    refine x_icmp_ge (tgt := 78) dX11_ruleInForce_17 (by decide) (fun z => absurd z (loopF rfl hlt (by omega))) (fun _ => ?_)
    refine x_aload_n dX11_ruleInForce_20 rfl rfl ?_
    refine x_getf dX11_ruleInForce_21 lf_X11_22 (kc hi kf_0) kv_0_4 ?_
    refine x_iload dX11_ruleInForce_24 rfl ?_
    refine x_cV1 dX11_ruleInForce_26 lv_X11_126 (hD.lc 4 li_4) rfl rfl rfl (c_lget (k := 4) hD li_4 hlt ?_)
    refine x_cast (q := (_, _, _)) dX11_ruleInForce_29 (show vwCl[7]? = some _ from rfl) tb620 (ob_4 hD hlt) ?_
    refine x_astore dX11_ruleInForce_32 (by decide) ?_
    refine x_aload dX11_ruleInForce_34 rfl ?_
    refine x_getf dX11_ruleInForce_36 lf_X11_200 (ob_4 hD hlt) ov_4_1 ?_
    refine x_iload_n dX11_ruleInForce_39 rfl rfl ?_
    refine x_icmp_gt (tgt := 72) dX11_ruleInForce_40 (by decide) (fun h40 => ?_) (fun h40 => ?_)
    · refine x_iinc (c := 1) dX11_ruleInForce_72 rfl (by decide) ?_
      refine x_goto (tgt := 8) dX11_ruleInForce_75 (by decide) ?_
      refine x_loc _ (?_ : lle _ _) ih
      refine ⟨rfl, rfl, rfl, ?_, ?_, ?_, trivial⟩
      · show some (Value.int _) = some (Value.int _)
        rw [es]; clear ih hq; grind
      · show some (Value.int _) = some (Value.int _)
        rw [es]
        first
        | rw [if_neg (fun z => by first | exact absurd z.1 (Int32.not_le.mpr h40) | exact absurd z.2.1 (Int32.not_le.mpr h49) | exact hg.mpr z.2.2 h59)]
        | (rw [if_pos ⟨Int32.not_lt.mp h40, Int32.not_lt.mp h49, hg.mp h59⟩]; unfold grF; rw [if_neg hne, hcl])
      · show some (Value.int _) = some (Value.int (nI (i + 1)))
        rw [← nI_1]
    · refine x_aload dX11_ruleInForce_43 rfl ?_
      refine x_getf dX11_ruleInForce_45 lf_X11_201 (ob_4 hD hlt) ov_4_0 ?_
      refine x_iload_n dX11_ruleInForce_48 rfl rfl ?_
      refine x_icmp_gt (tgt := 72) dX11_ruleInForce_49 (by decide) (fun h49 => ?_) (fun h49 => ?_)
      · refine x_iinc (c := 1) dX11_ruleInForce_72 rfl (by decide) ?_
        refine x_goto (tgt := 8) dX11_ruleInForce_75 (by decide) ?_
        refine x_loc _ (?_ : lle _ _) ih
        refine ⟨rfl, rfl, rfl, ?_, ?_, ?_, trivial⟩
        · show some (Value.int _) = some (Value.int _)
          rw [es]; clear ih hq; grind
        · show some (Value.int _) = some (Value.int _)
          rw [es]
          first
          | rw [if_neg (fun z => by first | exact absurd z.1 (Int32.not_le.mpr h40) | exact absurd z.2.1 (Int32.not_le.mpr h49) | exact hg.mpr z.2.2 h59)]
          | (rw [if_pos ⟨Int32.not_lt.mp h40, Int32.not_lt.mp h49, hg.mp h59⟩]; unfold grF; rw [if_neg hne, hcl])
        · show some (Value.int _) = some (Value.int (nI (i + 1)))
          rw [← nI_1]
      · refine x_aload dX11_ruleInForce_52 rfl ?_
        refine x_getf dX11_ruleInForce_54 lf_X11_201 (ob_4 hD hlt) ov_4_0 ?_
        refine x_iload dX11_ruleInForce_57 rfl ?_
        refine x_icmp_lt (tgt := 72) dX11_ruleInForce_59 (by decide) (fun h59 => ?_) (fun h59 => ?_)
        · refine x_iinc (c := 1) dX11_ruleInForce_72 rfl (by decide) ?_
          refine x_goto (tgt := 8) dX11_ruleInForce_75 (by decide) ?_
          refine x_loc _ (?_ : lle _ _) ih
          refine ⟨rfl, rfl, rfl, ?_, ?_, ?_, trivial⟩
          · show some (Value.int _) = some (Value.int _)
            rw [es]; clear ih hq; grind
          · show some (Value.int _) = some (Value.int _)
            rw [es]
            first
            | rw [if_neg (fun z => by first | exact absurd z.1 (Int32.not_le.mpr h40) | exact absurd z.2.1 (Int32.not_le.mpr h49) | exact hg.mpr z.2.2 h59)]
            | (rw [if_pos ⟨Int32.not_lt.mp h40, Int32.not_lt.mp h49, hg.mp h59⟩]; unfold grF; rw [if_neg hne, hcl])
          · show some (Value.int _) = some (Value.int (nI (i + 1)))
            rw [← nI_1]
        · refine x_iload dX11_ruleInForce_62 rfl ?_
          refine x_istore_n dX11_ruleInForce_64 rfl (by decide) ?_
          refine x_aload dX11_ruleInForce_65 rfl ?_
          refine x_getf dX11_ruleInForce_67 lf_X11_201 (ob_4 hD hlt) ov_4_0 ?_
          refine x_istore dX11_ruleInForce_70 (by decide) ?_
          refine x_iinc (c := 1) dX11_ruleInForce_72 rfl (by decide) ?_
          refine x_goto (tgt := 8) dX11_ruleInForce_75 (by decide) ?_
          refine x_loc _ (?_ : lle _ _) ih
          refine ⟨rfl, rfl, rfl, ?_, ?_, ?_, trivial⟩
          · show some (Value.int _) = some (Value.int _)
            rw [es]; clear ih hq; grind
          · show some (Value.int _) = some (Value.int _)
            rw [es]
            first
            | rw [if_neg (fun z => by first | exact absurd z.1 (Int32.not_le.mpr h40) | exact absurd z.2.1 (Int32.not_le.mpr h49) | exact hg.mpr z.2.2 h59)]
            | (rw [if_pos ⟨Int32.not_lt.mp h40, Int32.not_lt.mp h49, hg.mp h59⟩]; unfold grF; rw [if_neg hne, hcl])
          · show some (Value.int _) = some (Value.int (nI (i + 1)))
            rw [← nI_1]
theorem c_X11_force {day q : Int32} (hW : Wld G τ ω ε σ κ Md) (hr : RulD σ) (hq : Q (some (.int (aForce σ day q))) (cm τ κ Md)) : CT G (d + 4) (0, 0) MX11_force [.ref (τ 0), .int day, .int q] (cm τ κ Md) Q := by
  have hi := hW.1
  refine CT.of rfl (Nat.le_of_ble_eq_true rfl) ?_
  refine x_iload_n dX11_force_0 rfl rfl ?_
  refine x_cS1 dX11_force_1 ls_X11_150 rfl  (c_X11_isDay ?_)
  refine x_if_eq_b (tgt := 15) dX11_force_4 (by decide) (fun h4 => ?_) (fun h4 => ?_)
  · refine x_iconst (v := -1) dX11_force_15 (by decide) ?_
    exact x_ireturn dX11_force_16 rfl rfl (by first | exact fan_t hq ⟨h4, h12⟩ | exact fan_f hq (fun z => h4 z.1) | exact fan_f hq (fun z => h12 z.2))
  · refine x_aload_n dX11_force_7 rfl rfl ?_
    refine x_iload_n dX11_force_8 rfl rfl ?_
    refine x_cV1 dX11_force_9 lv_X11_158 (kc hi kf_0) rfl rfl rfl  (c_X11_isKnownDay hW ?_)
    refine x_if_ne_b (tgt := 17) dX11_force_12 (by decide) (fun h12 => ?_) (fun h12 => ?_)
    · refine x_aload_n dX11_force_17 rfl rfl ?_
      refine x_iload_n dX11_force_18 rfl rfl ?_
      refine x_iload_n dX11_force_19 rfl rfl ?_
      refine x_cV2 dX11_force_20 lv_X11_197 (kc hi kf_0) rfl rfl rfl  (c_X11_ruleInForce hW hr ?_)
      exact x_ireturn dX11_force_23 rfl rfl (by first | exact fan_t hq ⟨h4, h12⟩ | exact fan_f hq (fun z => h4 z.1) | exact fan_f hq (fun z => h12 z.2))
    · refine x_iconst (v := -1) dX11_force_15 (by decide) ?_
      exact x_ireturn dX11_force_16 rfl rfl (by first | exact fan_t hq ⟨h4, h12⟩ | exact fan_f hq (fun z => h4 z.1) | exact fan_f hq (fun z => h12 z.2))
theorem c_X1_isFor {i : Nat} {day q : Int32} (hD : Dyn G τ ω ε σ Md) (hj : i < cn σ 16) (hq : Q (some (.int (bI (σ.2 9 i = day ∧ σ.2 14 i ≤ q)))) (cm τ κ Md)) : CT G d (0, 0) MX1_isFor [.ref (ω 2 i), .int day, .int q] (cm τ κ Md) Q := by
  refine CT.of rfl (Nat.le_of_ble_eq_true rfl) ?_
  refine x_aload_n dX1_isFor_0 rfl rfl ?_
  refine x_getf dX1_isFor_1 lf_X1_13 (ob_2 hD hj) ov_2_1 ?_
  refine x_iload_n dX1_isFor_4 rfl rfl ?_
  refine x_icmp_ne (tgt := 20) dX1_isFor_5 (by decide) (fun h5 => ?_) (fun h5 => ?_)
  · refine x_iconst (v := 0) dX1_isFor_20 (by decide) ?_
    exact x_ireturn dX1_isFor_21 rfl rfl (fin hq (by first | exact bI_f (fun z => h5 z.1) | exact bI_t ⟨h5, Int32.not_lt.mp h13⟩ | exact bI_f (fun z => absurd z.2 (Int32.not_le.mpr h13))))
  · refine x_aload_n dX1_isFor_8 rfl rfl ?_
    refine x_getf dX1_isFor_9 lf_X1_29 (ob_2 hD hj) ov_2_6 ?_
    refine x_iload_n dX1_isFor_12 rfl rfl ?_
    refine x_icmp_gt (tgt := 20) dX1_isFor_13 (by decide) (fun h13 => ?_) (fun h13 => ?_)
    · refine x_iconst (v := 0) dX1_isFor_20 (by decide) ?_
      exact x_ireturn dX1_isFor_21 rfl rfl (fin hq (by first | exact bI_f (fun z => h5 z.1) | exact bI_t ⟨h5, Int32.not_lt.mp h13⟩ | exact bI_f (fun z => absurd z.2 (Int32.not_le.mpr h13))))
    · refine x_iconst (v := 1) dX1_isFor_16 (by decide) ?_
      refine x_goto (tgt := 21) dX1_isFor_17 (by decide) ?_
      exact x_ireturn dX1_isFor_21 rfl rfl (fin hq (by first | exact bI_f (fun z => h5 z.1) | exact bI_t ⟨h5, Int32.not_lt.mp h13⟩ | exact bI_f (fun z => absurd z.2 (Int32.not_le.mpr h13))))
def spCnt (σ : MS) (day q : Int32) (n : Nat) : Int32 := fold (fun i s => if σ.2 9 i = day ∧ σ.2 14 i ≤ q then s + 1 else s) 0 n
theorem spCnt_2 (σ : MS) (day q : Int32) : ∀ n, spCnt σ day q n = (spMood σ day q n).2
  | 0 => rfl
  | n + 1 => by
    have e1 : spCnt σ day q (n + 1) = if σ.2 9 n = day ∧ σ.2 14 n ≤ q then spCnt σ day q n + 1 else spCnt σ day q n := rfl
    have e2 : spMood σ day q (n + 1) = if σ.2 9 n = day ∧ σ.2 14 n ≤ q then ((spMood σ day q n).1 + σ.2 11 n, (spMood σ day q n).2 + 1) else spMood σ day q n := rfl
    rw [e1, e2, spCnt_2 σ day q n]
    split <;> rfl
theorem c_X11_linesFor {day q : Int32} (hW : Wld G τ ω ε σ κ Md) (hq : Q (some (.int (spCnt σ day q (cn σ 16)))) (cm τ κ Md)) : CT G (d + 3) (0, 0) MX11_linesFor [.ref (τ 0), .int day, .int q] (cm τ κ Md) Q := by
  obtain ⟨hi, hc, hD, hK⟩ := hW
  obtain ⟨hl1, hl2⟩ := hc.b 16 (b := 200) (by decide)
  refine CT.of rfl (Nat.le_of_ble_eq_true rfl) ?_
  refine x_iconst (v := 0) dX11_linesFor_0 (by decide) ?_
  refine x_istore_n dX11_linesFor_1 rfl (by decide) ?_
  refine x_iconst (v := 0) dX11_linesFor_2 (by decide) ?_
  refine x_istore dX11_linesFor_3 (by decide) ?_
  refine x_loc [(0, .ref (τ 0)), (1, .int day), (2, .int q), (3, .int (spCnt σ day q 0)), (4, .int (nI 0))] ⟨rfl, rfl, rfl, rfl, rfl, trivial⟩ ?_
  refine loop_up (P := fun i => XJ G (d + 3) (0, 0) MX11_linesFor (cm τ κ Md) [(0, .ref (τ 0)), (1, .int day), (2, .int q), (3, .int (spCnt σ day q i)), (4, .int (nI i))] [] 5 Q) (n := cn σ 16) ?_ ?_ 0 (Nat.zero_le _)
  · refine x_iload dX11_linesFor_5 rfl ?_
    refine x_aload_n dX11_linesFor_7 rfl rfl ?_
    refine x_getf dX11_linesFor_8 lf_X11_16 (kc hi kf_0) kv_0_2 ?_
    refine x_cV0 dX11_linesFor_11 lv_X11_100 (hD.lc 2 li_2) rfl rfl rfl (c_lsz_2 hD ?_)
    refine x_icmp_ge (tgt := 46) dX11_linesFor_14 (by decide) (fun _ => ?_) (fun z => absurd (loopT rfl) z)
    refine x_iload_n dX11_linesFor_46 rfl rfl ?_
    exact x_ireturn dX11_linesFor_47 rfl rfl (hq)
  · intro i hlt ih
    have es : spCnt σ day q (i + 1) = if σ.2 9 i = day ∧ σ.2 14 i ≤ q then spCnt σ day q i + 1 else spCnt σ day q i := rfl
    refine x_iload dX11_linesFor_5 rfl ?_
    refine x_aload_n dX11_linesFor_7 rfl rfl ?_
    refine x_getf dX11_linesFor_8 lf_X11_16 (kc hi kf_0) kv_0_2 ?_
    refine x_cV0 dX11_linesFor_11 lv_X11_100 (hD.lc 2 li_2) rfl rfl rfl (c_lsz_2 hD ?_)
    refine x_icmp_ge (tgt := 46) dX11_linesFor_14 (by decide) (fun z => absurd z (loopF rfl hlt (by omega))) (fun _ => ?_)
    refine x_aload_n dX11_linesFor_17 rfl rfl ?_
    refine x_getf dX11_linesFor_18 lf_X11_16 (kc hi kf_0) kv_0_2 ?_
    refine x_iload dX11_linesFor_21 rfl ?_
    refine x_cV1 dX11_linesFor_23 lv_X11_126 (hD.lc 2 li_2) rfl rfl rfl (c_lget (k := 2) hD li_2 hlt ?_)
    refine x_cast (q := (_, _, _)) dX11_linesFor_26 (show vwCl[2]? = some _ from rfl) tb367 (ob_2 hD hlt) ?_
    refine x_iload_n dX11_linesFor_29 rfl rfl ?_
    refine x_iload_n dX11_linesFor_30 rfl rfl ?_
    refine x_cV2 dX11_linesFor_31 lv_X11_264 (ob_2 hD hlt) rfl rfl rfl  (c_X1_isFor hD hlt ?_)
    refine x_if_eq_b (tgt := 40) dX11_linesFor_34 (by decide) (fun h34 => ?_) (fun h34 => ?_)
    · refine x_iinc (c := 1) dX11_linesFor_40 rfl (by decide) ?_
      refine x_goto (tgt := 5) dX11_linesFor_43 (by decide) ?_
      refine x_loc _ (?_ : lle _ _) ih
      refine ⟨rfl, rfl, rfl, ?_, ?_, trivial⟩
      · show some (Value.int _) = some (Value.int _)
        rw [es]
        first | rw [if_neg h34] | rw [if_pos h34]
      · show some (Value.int _) = some (Value.int (nI (i + 1)))
        rw [← nI_1]
    · refine x_iinc (c := 1) dX11_linesFor_37 rfl (by decide) ?_
      refine x_iinc (c := 1) dX11_linesFor_40 rfl (by decide) ?_
      refine x_goto (tgt := 5) dX11_linesFor_43 (by decide) ?_
      refine x_loc _ (?_ : lle _ _) ih
      refine ⟨rfl, rfl, rfl, ?_, ?_, trivial⟩
      · show some (Value.int _) = some (Value.int _)
        rw [es]
        first | rw [if_neg h34] | rw [if_pos h34]
      · show some (Value.int _) = some (Value.int (nI (i + 1)))
        rw [← nI_1]
theorem c_X11_mood {day q what : Int32} (hW : Wld G τ ω ε σ κ Md) (hq : Q (some (.int (aMood σ day q what))) (cm τ κ Md)) : CT G (d + 4) (0, 0) MX11_mood [.ref (τ 0), .int day, .int q, .int what] (cm τ κ Md) Q := by
  have hW' := hW
  obtain ⟨hi, hc, hD, hK⟩ := hW
  obtain ⟨hl1, hl2⟩ := hc.b 16 (b := 200) (by decide)
  refine CT.of rfl (Nat.le_of_ble_eq_true rfl) ?_
  refine x_iload_n dX11_mood_0 rfl rfl ?_
  refine x_cS1 dX11_mood_1 ls_X11_150 rfl  (c_X11_isDay ?_)
  refine x_if_eq_b (tgt := 24) dX11_mood_4 (by decide) (fun h4 => ?_) (fun h4 => ?_)
  · refine x_ldcw dX11_mood_24 tb865 ?_
    exact x_ireturn dX11_mood_27 rfl rfl (fan_f hq (fun z => by first | exact h4 z.1 | exact h12 z.2.1 | exact h21 z.2.2))
  · refine x_aload_n dX11_mood_7 rfl rfl ?_
    refine x_iload_n dX11_mood_8 rfl rfl ?_
    refine x_cV1 dX11_mood_9 lv_X11_158 (kc hi kf_0) rfl rfl rfl  (c_X11_isKnownDay hW' ?_)
    refine x_if_eq_b (tgt := 24) dX11_mood_12 (by decide) (fun h12 => ?_) (fun h12 => ?_)
    · refine x_ldcw dX11_mood_24 tb865 ?_
      exact x_ireturn dX11_mood_27 rfl rfl (fan_f hq (fun z => by first | exact h4 z.1 | exact h12 z.2.1 | exact h21 z.2.2))
    · refine x_iload_n dX11_mood_15 rfl rfl ?_
      refine x_iconst (v := 0) dX11_mood_16 (by decide) ?_
      refine x_iconst (v := 1) dX11_mood_17 (by decide) ?_
      refine x_cS3 dX11_mood_18 ls_X11_92 rfl  (c_X11_isWithin ?_)
      refine x_if_ne_b (tgt := 28) dX11_mood_21 (by decide) (fun h21 => ?_) (fun h21 => ?_)
      · refine x_iload_n dX11_mood_28 rfl rfl ?_
        refine x_iconst (v := 1) dX11_mood_29 (by decide) ?_
        refine x_icmp_ne (tgt := 40) dX11_mood_30 (by decide) (fun h30 => ?_) (fun h30 => ?_)
        · refine x_iconst (v := 0) dX11_mood_40 (by decide) ?_
          refine x_istore dX11_mood_41 (by decide) ?_
          refine x_iconst (v := 0) dX11_mood_43 (by decide) ?_
          refine x_istore dX11_mood_44 (by decide) ?_
          have hw0 : what = 0 := by
            obtain ⟨j, hj, rfl⟩ := of_le (n := 1) h21.1 h21.2 rfl (by decide)
            rcases Nat.lt_or_ge j 1 with y | y
            · rw [show j = 0 by omega]; rfl
            · exact absurd (show nI j = 1 by rw [show j = 1 by omega]; rfl) h30
          have h2 := fan_t hq ⟨h4, h12, h21⟩
          rw [if_pos hw0] at h2
          refine x_loc [(0, .ref (τ 0)), (1, .int day), (2, .int q), (4, .int (spMood σ day q 0).1), (5, .int (nI 0))] ⟨rfl, rfl, rfl, rfl, rfl, trivial⟩ ?_
          refine loop_up (P := fun i => XJ G (d + 4) (0, 0) MX11_mood (cm τ κ Md) [(0, .ref (τ 0)), (1, .int day), (2, .int q), (4, .int (spMood σ day q i).1), (5, .int (nI i))] [] 46 Q) (n := cn σ 16) ?_ ?_ 0 (Nat.zero_le _)
          · refine x_iload dX11_mood_46 rfl ?_
            refine x_aload_n dX11_mood_48 rfl rfl ?_
            refine x_getf dX11_mood_49 lf_X11_16 (kc hi kf_0) kv_0_2 ?_
            refine x_cV0 dX11_mood_52 lv_X11_100 (hD.lc 2 li_2) rfl rfl rfl (c_lsz_2 hD ?_)
            refine x_icmp_ge (tgt := 98) dX11_mood_55 (by decide) (fun _ => ?_) (fun z => absurd (loopT rfl) z)
            refine x_iload dX11_mood_98 rfl ?_
            exact x_ireturn dX11_mood_100 rfl rfl (h2)
          · intro i hlt ih
            have es : (spMood σ day q (i + 1)).1 = if σ.2 9 i = day ∧ σ.2 14 i ≤ q then (spMood σ day q i).1 + σ.2 11 i else (spMood σ day q i).1 := by
              show (if σ.2 9 i = day ∧ σ.2 14 i ≤ q then ((spMood σ day q i).1 + σ.2 11 i, (spMood σ day q i).2 + 1) else spMood σ day q i).1 = _
              split <;> rfl
            refine x_iload dX11_mood_46 rfl ?_
            refine x_aload_n dX11_mood_48 rfl rfl ?_
            refine x_getf dX11_mood_49 lf_X11_16 (kc hi kf_0) kv_0_2 ?_
            refine x_cV0 dX11_mood_52 lv_X11_100 (hD.lc 2 li_2) rfl rfl rfl (c_lsz_2 hD ?_)
            refine x_icmp_ge (tgt := 98) dX11_mood_55 (by decide) (fun z => absurd z (loopF rfl hlt (by omega))) (fun _ => ?_)
            refine x_aload_n dX11_mood_58 rfl rfl ?_
            refine x_getf dX11_mood_59 lf_X11_16 (kc hi kf_0) kv_0_2 ?_
            refine x_iload dX11_mood_62 rfl ?_
            refine x_cV1 dX11_mood_64 lv_X11_126 (hD.lc 2 li_2) rfl rfl rfl (c_lget (k := 2) hD li_2 hlt ?_)
            refine x_cast (q := (_, _, _)) dX11_mood_67 (show vwCl[2]? = some _ from rfl) tb367 (ob_2 hD hlt) ?_
            refine x_astore dX11_mood_70 (by decide) ?_
            refine x_aload dX11_mood_72 rfl ?_
            refine x_iload_n dX11_mood_74 rfl rfl ?_
            refine x_iload_n dX11_mood_75 rfl rfl ?_
            refine x_cV2 dX11_mood_76 lv_X11_264 (ob_2 hD hlt) rfl rfl rfl  (c_X1_isFor hD hlt ?_)
            refine x_if_eq_b (tgt := 92) dX11_mood_79 (by decide) (fun h79 => ?_) (fun h79 => ?_)
            · refine x_iinc (c := 1) dX11_mood_92 rfl (by decide) ?_
              refine x_goto (tgt := 46) dX11_mood_95 (by decide) ?_
              refine x_loc _ (?_ : lle _ _) ih
              refine ⟨rfl, rfl, rfl, ?_, ?_, trivial⟩
              · show some (Value.int _) = some (Value.int _)
                rw [es]
                first | rw [if_neg h79] | rw [if_pos h79]
              · show some (Value.int _) = some (Value.int (nI (i + 1)))
                rw [← nI_1]
            · refine x_iload dX11_mood_82 rfl ?_
              refine x_aload dX11_mood_84 rfl ?_
              refine x_getf dX11_mood_86 lf_X11_250 (ob_2 hD hlt) ov_2_3 ?_
              refine x_iadd dX11_mood_89 ?_
              refine x_istore dX11_mood_90 (by decide) ?_
              refine x_iinc (c := 1) dX11_mood_92 rfl (by decide) ?_
              refine x_goto (tgt := 46) dX11_mood_95 (by decide) ?_
              refine x_loc _ (?_ : lle _ _) ih
              refine ⟨rfl, rfl, rfl, ?_, ?_, trivial⟩
              · show some (Value.int _) = some (Value.int _)
                rw [es]
                first | rw [if_neg h79] | rw [if_pos h79]
              · show some (Value.int _) = some (Value.int (nI (i + 1)))
                rw [← nI_1]
        · refine x_aload_n dX11_mood_33 rfl rfl ?_
          refine x_iload_n dX11_mood_34 rfl rfl ?_
          refine x_iload_n dX11_mood_35 rfl rfl ?_
          refine x_cV2 dX11_mood_36 lv_X11_261 (kc hi kf_0) rfl rfl rfl  (c_X11_linesFor hW' ?_)
          exact x_ireturn dX11_mood_39 rfl rfl (by
have h2 := fan_t hq ⟨h4, h12, h21⟩
rw [if_neg (by rw [h30]; decide)] at h2
rw [spCnt_2]; exact h2)
      · refine x_ldcw dX11_mood_24 tb865 ?_
        exact x_ireturn dX11_mood_27 rfl rfl (fan_f hq (fun z => by first | exact h4 z.1 | exact h12 z.2.1 | exact h21 z.2.2))
theorem c_X11_lastOf {p q : Int32} (hW : Wld G τ ω ε σ κ Md) (hB : LnB σ) (hq : Q (some (.int (spLast σ p q (cn σ 16)))) (cm τ κ Md)) : CT G (d + 3) (0, 0) MX11_lastOf [.ref (τ 0), .int p, .int q] (cm τ κ Md) Q := by
  obtain ⟨hi, hc, hD, hK⟩ := hW
  obtain ⟨hl1, hl2⟩ := hc.b 16 (b := 200) (by decide)
  refine CT.of rfl (Nat.le_of_ble_eq_true rfl) ?_
  refine x_iconst (v := -1) dX11_lastOf_0 (by decide) ?_
  refine x_istore_n dX11_lastOf_1 rfl (by decide) ?_
  refine x_iconst (v := -1) dX11_lastOf_2 (by decide) ?_
  refine x_istore dX11_lastOf_3 (by decide) ?_
  refine x_iconst (v := 0) dX11_lastOf_5 (by decide) ?_
  refine x_istore dX11_lastOf_6 (by decide) ?_
  refine x_loc [(0, .ref (τ 0)), (1, .int p), (2, .int q), (3, .int (spLast σ p q 0)), (4, .int (grF σ 9 (spLast σ p q 0))), (5, .int (nI 0))] ⟨rfl, rfl, rfl, rfl, rfl, rfl, trivial⟩ ?_
  refine loop_up (P := fun i => XJ G (d + 3) (0, 0) MX11_lastOf (cm τ κ Md) [(0, .ref (τ 0)), (1, .int p), (2, .int q), (3, .int (spLast σ p q i)), (4, .int (grF σ 9 (spLast σ p q i))), (5, .int (nI i))] [] 8 Q) (n := cn σ 16) ?_ ?_ 0 (Nat.zero_le _)
  · refine x_iload dX11_lastOf_8 rfl ?_
    refine x_aload_n dX11_lastOf_10 rfl rfl ?_
    refine x_getf dX11_lastOf_11 lf_X11_16 (kc hi kf_0) kv_0_2 ?_
    refine x_cV0 dX11_lastOf_14 lv_X11_100 (hD.lc 2 li_2) rfl rfl rfl (c_lsz_2 hD ?_)
    refine x_icmp_ge (tgt := 81) dX11_lastOf_17 (by decide) (fun _ => ?_) (fun z => absurd (loopT rfl) z)
    refine x_iload_n dX11_lastOf_81 rfl rfl ?_
    exact x_ireturn dX11_lastOf_82 rfl rfl (hq)
  · intro i hlt ih
    have hg := gr_iff (σ := σ) (f := 9) (i := i) (b := spLast σ p q i) (hB i hlt).1
    have es : spLast σ p q (i + 1) = if σ.2 8 i = p ∧ σ.2 14 i ≤ q ∧ (spLast σ p q i = -1 ∨ σ.2 9 (spLast σ p q i).toNatClampNeg ≤ σ.2 9 i) then nI i else spLast σ p q i := rfl
    have hcl : (nI i).toNatClampNeg = i := nI_clamp (by omega)
    have hne : ¬ nI i = -1 := nI_n1 (by omega)
    refine x_iload dX11_lastOf_8 rfl ?_
    refine x_aload_n dX11_lastOf_10 rfl rfl ?_
    refine x_getf dX11_lastOf_11 lf_X11_16 (kc hi kf_0) kv_0_2 ?_
    refine x_cV0 dX11_lastOf_14 lv_X11_100 (hD.lc 2 li_2) rfl rfl rfl (c_lsz_2 hD ?_)
    refine x_icmp_ge (tgt := 81) dX11_lastOf_17 (by decide) (fun z => absurd z (loopF rfl hlt (by omega))) (fun _ => ?_)
    refine x_aload_n dX11_lastOf_20 rfl rfl ?_
    refine x_getf dX11_lastOf_21 lf_X11_16 (kc hi kf_0) kv_0_2 ?_
    refine x_iload dX11_lastOf_24 rfl ?_
    refine x_cV1 dX11_lastOf_26 lv_X11_126 (hD.lc 2 li_2) rfl rfl rfl (c_lget (k := 2) hD li_2 hlt ?_)
    refine x_cast (q := (_, _, _)) dX11_lastOf_29 (show vwCl[2]? = some _ from rfl) tb367 (ob_2 hD hlt) ?_
    refine x_astore dX11_lastOf_32 (by decide) ?_
    refine x_aload dX11_lastOf_34 rfl ?_
    refine x_getf dX11_lastOf_36 lf_X11_243 (ob_2 hD hlt) ov_2_0 ?_
    refine x_getf dX11_lastOf_39 lf_X11_309 (ob_1 hD (hD.wr hlt)) (ov_w hD hlt) ?_
    refine x_iload_n dX11_lastOf_42 rfl rfl ?_
    refine x_icmp_ne (tgt := 75) dX11_lastOf_43 (by decide) (fun h43 => ?_) (fun h43 => ?_)
    · refine x_iinc (c := 1) dX11_lastOf_75 rfl (by decide) ?_
      refine x_goto (tgt := 8) dX11_lastOf_78 (by decide) ?_
      refine x_loc _ (?_ : lle _ _) ih
      refine ⟨rfl, rfl, rfl, ?_, ?_, ?_, trivial⟩
      · show some (Value.int _) = some (Value.int _)
        rw [es]
        first
        | rw [if_neg (fun z => by first | exact h43 z.1 | exact absurd z.2.1 (Int32.not_le.mpr h52) | exact hg.mpr z.2.2 h62)]
        | rw [if_pos ⟨h43, Int32.not_lt.mp h52, hg.mp h62⟩]
      · show some (Value.int _) = some (Value.int _)
        rw [es]
        first
        | rw [if_neg (fun z => by first | exact h43 z.1 | exact absurd z.2.1 (Int32.not_le.mpr h52) | exact hg.mpr z.2.2 h62)]
        | (rw [if_pos ⟨h43, Int32.not_lt.mp h52, hg.mp h62⟩]; unfold grF; rw [if_neg hne, hcl])
      · show some (Value.int _) = some (Value.int (nI (i + 1)))
        rw [← nI_1]
    · refine x_aload dX11_lastOf_46 rfl ?_
      refine x_getf dX11_lastOf_48 lf_X11_315 (ob_2 hD hlt) ov_2_6 ?_
      refine x_iload_n dX11_lastOf_51 rfl rfl ?_
      refine x_icmp_gt (tgt := 75) dX11_lastOf_52 (by decide) (fun h52 => ?_) (fun h52 => ?_)
      · refine x_iinc (c := 1) dX11_lastOf_75 rfl (by decide) ?_
        refine x_goto (tgt := 8) dX11_lastOf_78 (by decide) ?_
        refine x_loc _ (?_ : lle _ _) ih
        refine ⟨rfl, rfl, rfl, ?_, ?_, ?_, trivial⟩
        · show some (Value.int _) = some (Value.int _)
          rw [es]
          first
          | rw [if_neg (fun z => by first | exact h43 z.1 | exact absurd z.2.1 (Int32.not_le.mpr h52) | exact hg.mpr z.2.2 h62)]
          | rw [if_pos ⟨h43, Int32.not_lt.mp h52, hg.mp h62⟩]
        · show some (Value.int _) = some (Value.int _)
          rw [es]
          first
          | rw [if_neg (fun z => by first | exact h43 z.1 | exact absurd z.2.1 (Int32.not_le.mpr h52) | exact hg.mpr z.2.2 h62)]
          | (rw [if_pos ⟨h43, Int32.not_lt.mp h52, hg.mp h62⟩]; unfold grF; rw [if_neg hne, hcl])
        · show some (Value.int _) = some (Value.int (nI (i + 1)))
          rw [← nI_1]
      · refine x_aload dX11_lastOf_55 rfl ?_
        refine x_getf dX11_lastOf_57 lf_X11_238 (ob_2 hD hlt) ov_2_1 ?_
        refine x_iload dX11_lastOf_60 rfl ?_
        refine x_icmp_lt (tgt := 75) dX11_lastOf_62 (by decide) (fun h62 => ?_) (fun h62 => ?_)
        · refine x_iinc (c := 1) dX11_lastOf_75 rfl (by decide) ?_
          refine x_goto (tgt := 8) dX11_lastOf_78 (by decide) ?_
          refine x_loc _ (?_ : lle _ _) ih
          refine ⟨rfl, rfl, rfl, ?_, ?_, ?_, trivial⟩
          · show some (Value.int _) = some (Value.int _)
            rw [es]
            first
            | rw [if_neg (fun z => by first | exact h43 z.1 | exact absurd z.2.1 (Int32.not_le.mpr h52) | exact hg.mpr z.2.2 h62)]
            | rw [if_pos ⟨h43, Int32.not_lt.mp h52, hg.mp h62⟩]
          · show some (Value.int _) = some (Value.int _)
            rw [es]
            first
            | rw [if_neg (fun z => by first | exact h43 z.1 | exact absurd z.2.1 (Int32.not_le.mpr h52) | exact hg.mpr z.2.2 h62)]
            | (rw [if_pos ⟨h43, Int32.not_lt.mp h52, hg.mp h62⟩]; unfold grF; rw [if_neg hne, hcl])
          · show some (Value.int _) = some (Value.int (nI (i + 1)))
            rw [← nI_1]
        · refine x_iload dX11_lastOf_65 rfl ?_
          refine x_istore_n dX11_lastOf_67 rfl (by decide) ?_
          refine x_aload dX11_lastOf_68 rfl ?_
          refine x_getf dX11_lastOf_70 lf_X11_238 (ob_2 hD hlt) ov_2_1 ?_
          refine x_istore dX11_lastOf_73 (by decide) ?_
          refine x_iinc (c := 1) dX11_lastOf_75 rfl (by decide) ?_
          refine x_goto (tgt := 8) dX11_lastOf_78 (by decide) ?_
          refine x_loc _ (?_ : lle _ _) ih
          refine ⟨rfl, rfl, rfl, ?_, ?_, ?_, trivial⟩
          · show some (Value.int _) = some (Value.int _)
            rw [es]
            first
            | rw [if_neg (fun z => by first | exact h43 z.1 | exact absurd z.2.1 (Int32.not_le.mpr h52) | exact hg.mpr z.2.2 h62)]
            | rw [if_pos ⟨h43, Int32.not_lt.mp h52, hg.mp h62⟩]
          · show some (Value.int _) = some (Value.int _)
            rw [es]
            first
            | rw [if_neg (fun z => by first | exact h43 z.1 | exact absurd z.2.1 (Int32.not_le.mpr h52) | exact hg.mpr z.2.2 h62)]
            | (rw [if_pos ⟨h43, Int32.not_lt.mp h52, hg.mp h62⟩]; unfold grF; rw [if_neg hne, hcl])
          · show some (Value.int _) = some (Value.int (nI (i + 1)))
            rw [← nI_1]
theorem c_X11_last {p q : Int32} (hW : Wld G τ ω ε σ κ Md) (hB : LnB σ) (hq : Q (some (.int (aLast σ p q))) (cm τ κ Md)) : CT G (d + 4) (0, 0) MX11_last [.ref (τ 0), .int p, .int q] (cm τ κ Md) Q := by
  have hi := hW.1
  refine CT.of rfl (Nat.le_of_ble_eq_true rfl) ?_
  refine x_aload_n dX11_last_0 rfl rfl ?_
  refine x_iload_n dX11_last_1 rfl rfl ?_
  refine x_cV1 dX11_last_2 lv_X11_112 (kc hi kf_0) rfl rfl rfl  (c_X11_isPerson hW ?_)
  refine x_if_eq_b (tgt := 16) dX11_last_5 (by decide) (fun h5 => ?_) (fun h5 => ?_)
  · refine x_iconst (v := -1) dX11_last_16 (by decide) ?_
    exact x_ireturn dX11_last_17 rfl rfl (by first | exact fan_t hq ⟨h5, h13⟩ | exact fan_f hq (fun z => h5 z.1) | exact fan_f hq (fun z => h13 z.2))
  · refine x_aload_n dX11_last_8 rfl rfl ?_
    refine x_iload_n dX11_last_9 rfl rfl ?_
    refine x_cV1 dX11_last_10 lv_X11_158 (kc hi kf_0) rfl rfl rfl  (c_X11_isKnownDay hW ?_)
    refine x_if_ne_b (tgt := 18) dX11_last_13 (by decide) (fun h13 => ?_) (fun h13 => ?_)
    · refine x_aload_n dX11_last_18 rfl rfl ?_
      refine x_iload_n dX11_last_19 rfl rfl ?_
      refine x_iload_n dX11_last_20 rfl rfl ?_
      refine x_cV2 dX11_last_21 lv_X11_367 (kc hi kf_0) rfl rfl rfl  (c_X11_lastOf hW hB ?_)
      exact x_ireturn dX11_last_24 rfl rfl (by first | exact fan_t hq ⟨h5, h13⟩ | exact fan_f hq (fun z => h5 z.1) | exact fan_f hq (fun z => h13 z.2))
    · refine x_iconst (v := -1) dX11_last_16 (by decide) ?_
      exact x_ireturn dX11_last_17 rfl rfl (by first | exact fan_t hq ⟨h5, h13⟩ | exact fan_f hq (fun z => h5 z.1) | exact fan_f hq (fun z => h13 z.2))
/-- a word as the class hands it on: a line or null -/
def wdV (ω : Nat → Nat → Nat) (w : Int32) : Value := if w = -1 then .null else .ref (ω 2 w.toNatClampNeg)
theorem wdV_n {ω : Nat → Nat → Nat} {w : Int32} (h : w = -1) : wdV ω w = .null := if_pos h
theorem wdV_r {ω : Nat → Nat → Nat} {i : Nat} (h : i < 2 ^ 31) : wdV ω (nI i) = .ref (ω 2 i) := by
  unfold wdV
  rw [if_neg (nI_n1 h), nI_clamp h]
theorem c_X11_wordOf {p say q : Int32} (hW : Wld G τ ω ε σ κ Md) (hq : Q (some (wdV ω (spWord σ p say q (cn σ 16)))) (cm τ κ Md)) : CT G (d + 3) (0, 0) MX11_wordOf [.ref (τ 0), .int p, .int say, .int q] (cm τ κ Md) Q := by
  obtain ⟨hi, hc, hD, hK⟩ := hW
  obtain ⟨hl1, hl2⟩ := hc.b 16 (b := 200) (by decide)
  refine CT.of rfl (Nat.le_of_ble_eq_true rfl) ?_
  refine x_null dX11_wordOf_0 ?_
  refine x_astoreN dX11_wordOf_1 (by decide) ?_
  refine x_iconst (v := 0) dX11_wordOf_3 (by decide) ?_
  refine x_istore dX11_wordOf_4 (by decide) ?_
  refine x_loc [(0, .ref (τ 0)), (1, .int p), (2, .int say), (3, .int q), (4, wdV ω (spWord σ p say q 0)), (5, .int (nI 0))] ⟨rfl, rfl, rfl, rfl, rfl, rfl, trivial⟩ ?_
  refine loop_up (P := fun i => XJ G (d + 3) (0, 0) MX11_wordOf (cm τ κ Md) [(0, .ref (τ 0)), (1, .int p), (2, .int say), (3, .int q), (4, wdV ω (spWord σ p say q i)), (5, .int (nI i))] [] 6 Q) (n := cn σ 16) ?_ ?_ 0 (Nat.zero_le _)
  · rcases spWord_cases (σ := σ) (p := p) (say := say) (q := q) (cn σ 16) with hw | ⟨j, hj, hw⟩
    · rw [wdV_n hw] at hq ⊢
      refine x_iload dX11_wordOf_6 rfl ?_
      refine x_aload_n dX11_wordOf_8 rfl rfl ?_
      refine x_getf dX11_wordOf_9 lf_X11_16 (kc hi kf_0) kv_0_2 ?_
      refine x_cV0 dX11_wordOf_12 lv_X11_100 (hD.lc 2 li_2) rfl rfl rfl (c_lsz_2 hD ?_)
      refine x_icmp_ge (tgt := 90) dX11_wordOf_15 (by decide) (fun _ => ?_) (fun z => absurd (loopT rfl) z)
      refine x_aloadN dX11_wordOf_90 rfl ?_
      exact x_areturn dX11_wordOf_92 rfl (Or.inl ⟨_, rfl⟩) (Or.inl rfl) (hq)
    · rw [hw, wdV_r (by omega)] at hq ⊢
      refine x_iload dX11_wordOf_6 rfl ?_
      refine x_aload_n dX11_wordOf_8 rfl rfl ?_
      refine x_getf dX11_wordOf_9 lf_X11_16 (kc hi kf_0) kv_0_2 ?_
      refine x_cV0 dX11_wordOf_12 lv_X11_100 (hD.lc 2 li_2) rfl rfl rfl (c_lsz_2 hD ?_)
      refine x_icmp_ge (tgt := 90) dX11_wordOf_15 (by decide) (fun _ => ?_) (fun z => absurd (loopT rfl) z)
      refine x_aload dX11_wordOf_90 rfl ?_
      exact x_areturn dX11_wordOf_92 rfl (Or.inl ⟨_, rfl⟩) (Or.inr ⟨_, rfl⟩) (hq)
  · intro i hlt ih
    have es : spWord σ p say q (i + 1) = if σ.2 8 i = p ∧ σ.2 12 i = say ∧ σ.2 14 i ≤ q ∧ (spWord σ p say q i = -1 ∨ σ.2 9 i < σ.2 9 (spWord σ p say q i).toNatClampNeg) then nI i else spWord σ p say q i := rfl
    rcases spWord_cases (σ := σ) (p := p) (say := say) (q := q) i with hw | ⟨j, hj, hw⟩
    · rw [wdV_n hw]
      refine x_iload dX11_wordOf_6 rfl ?_
      refine x_aload_n dX11_wordOf_8 rfl rfl ?_
      refine x_getf dX11_wordOf_9 lf_X11_16 (kc hi kf_0) kv_0_2 ?_
      refine x_cV0 dX11_wordOf_12 lv_X11_100 (hD.lc 2 li_2) rfl rfl rfl (c_lsz_2 hD ?_)
      refine x_icmp_ge (tgt := 90) dX11_wordOf_15 (by decide) (fun z => absurd z (loopF rfl hlt (by omega))) (fun _ => ?_)
      refine x_aload_n dX11_wordOf_18 rfl rfl ?_
      refine x_getf dX11_wordOf_19 lf_X11_16 (kc hi kf_0) kv_0_2 ?_
      refine x_iload dX11_wordOf_22 rfl ?_
      refine x_cV1 dX11_wordOf_24 lv_X11_126 (hD.lc 2 li_2) rfl rfl rfl (c_lget (k := 2) hD li_2 hlt ?_)
      refine x_cast (q := (_, _, _)) dX11_wordOf_27 (show vwCl[2]? = some _ from rfl) tb367 (ob_2 hD hlt) ?_
      refine x_astore dX11_wordOf_30 (by decide) ?_
      refine x_aload dX11_wordOf_32 rfl ?_
      refine x_getf dX11_wordOf_34 lf_X11_243 (ob_2 hD hlt) ov_2_0 ?_
      refine x_getf dX11_wordOf_37 lf_X11_309 (ob_1 hD (hD.wr hlt)) (ov_w hD hlt) ?_
      refine x_iload_n dX11_wordOf_40 rfl rfl ?_
      refine x_icmp_ne (tgt := 84) dX11_wordOf_41 (by decide) (fun h41 => ?_) (fun h41 => ?_)
      · refine x_iinc (c := 1) dX11_wordOf_84 rfl (by decide) ?_
        refine x_goto (tgt := 6) dX11_wordOf_87 (by decide) ?_
        refine x_loc _ (?_ : lle _ _) ih
        refine ⟨rfl, rfl, rfl, rfl, ?_, ?_, trivial⟩
        · show some _ = some (wdV ω (spWord σ p say q (i + 1)))
          rw [es]
          first
          | rw [if_neg (fun z => by first | exact h41 z.1 | exact h50 z.2.1 | exact absurd z.2.2.1 (Int32.not_le.mpr h59)), wdV_n hw]
          | rw [if_pos ⟨h41, h50, Int32.not_lt.mp h59, Or.inl hw⟩, wdV_r (by omega)]
        · show some (Value.int (nI i + 1)) = some (Value.int (nI (i + 1)))
          rw [nI_1]
      · refine x_aload dX11_wordOf_44 rfl ?_
        refine x_getf dX11_wordOf_46 lf_X11_312 (ob_2 hD hlt) ov_2_4 ?_
        refine x_iload_n dX11_wordOf_49 rfl rfl ?_
        refine x_icmp_ne (tgt := 84) dX11_wordOf_50 (by decide) (fun h50 => ?_) (fun h50 => ?_)
        · refine x_iinc (c := 1) dX11_wordOf_84 rfl (by decide) ?_
          refine x_goto (tgt := 6) dX11_wordOf_87 (by decide) ?_
          refine x_loc _ (?_ : lle _ _) ih
          refine ⟨rfl, rfl, rfl, rfl, ?_, ?_, trivial⟩
          · show some _ = some (wdV ω (spWord σ p say q (i + 1)))
            rw [es]
            first
            | rw [if_neg (fun z => by first | exact h41 z.1 | exact h50 z.2.1 | exact absurd z.2.2.1 (Int32.not_le.mpr h59)), wdV_n hw]
            | rw [if_pos ⟨h41, h50, Int32.not_lt.mp h59, Or.inl hw⟩, wdV_r (by omega)]
          · show some (Value.int (nI i + 1)) = some (Value.int (nI (i + 1)))
            rw [nI_1]
        · refine x_aload dX11_wordOf_53 rfl ?_
          refine x_getf dX11_wordOf_55 lf_X11_315 (ob_2 hD hlt) ov_2_6 ?_
          refine x_iload_n dX11_wordOf_58 rfl rfl ?_
          refine x_icmp_gt (tgt := 84) dX11_wordOf_59 (by decide) (fun h59 => ?_) (fun h59 => ?_)
          · refine x_iinc (c := 1) dX11_wordOf_84 rfl (by decide) ?_
            refine x_goto (tgt := 6) dX11_wordOf_87 (by decide) ?_
            refine x_loc _ (?_ : lle _ _) ih
            refine ⟨rfl, rfl, rfl, rfl, ?_, ?_, trivial⟩
            · show some _ = some (wdV ω (spWord σ p say q (i + 1)))
              rw [es]
              first
              | rw [if_neg (fun z => by first | exact h41 z.1 | exact h50 z.2.1 | exact absurd z.2.2.1 (Int32.not_le.mpr h59)), wdV_n hw]
              | rw [if_pos ⟨h41, h50, Int32.not_lt.mp h59, Or.inl hw⟩, wdV_r (by omega)]
            · show some (Value.int (nI i + 1)) = some (Value.int (nI (i + 1)))
              rw [nI_1]
          · refine x_aloadN dX11_wordOf_62 rfl ?_
            refine x_ifnullN (tgt := 80) dX11_wordOf_64 (by decide) ?_
            refine x_aload dX11_wordOf_80 rfl ?_
            refine x_astore dX11_wordOf_82 (by decide) ?_
            refine x_iinc (c := 1) dX11_wordOf_84 rfl (by decide) ?_
            refine x_goto (tgt := 6) dX11_wordOf_87 (by decide) ?_
            refine x_loc _ (?_ : lle _ _) ih
            refine ⟨rfl, rfl, rfl, rfl, ?_, ?_, trivial⟩
            · show some _ = some (wdV ω (spWord σ p say q (i + 1)))
              rw [es]
              first
              | rw [if_neg (fun z => by first | exact h41 z.1 | exact h50 z.2.1 | exact absurd z.2.2.1 (Int32.not_le.mpr h59)), wdV_n hw]
              | rw [if_pos ⟨h41, h50, Int32.not_lt.mp h59, Or.inl hw⟩, wdV_r (by omega)]
            · show some (Value.int (nI i + 1)) = some (Value.int (nI (i + 1)))
              rw [nI_1]
    · rw [hw, wdV_r (by omega)]
      have hjl : j < cn σ 16 := by omega
      have hclj : (nI j).toNatClampNeg = j := nI_clamp (by omega)
      rw [hw, hclj] at es
      refine x_iload dX11_wordOf_6 rfl ?_
      refine x_aload_n dX11_wordOf_8 rfl rfl ?_
      refine x_getf dX11_wordOf_9 lf_X11_16 (kc hi kf_0) kv_0_2 ?_
      refine x_cV0 dX11_wordOf_12 lv_X11_100 (hD.lc 2 li_2) rfl rfl rfl (c_lsz_2 hD ?_)
      refine x_icmp_ge (tgt := 90) dX11_wordOf_15 (by decide) (fun z => absurd z (loopF rfl hlt (by omega))) (fun _ => ?_)
      refine x_aload_n dX11_wordOf_18 rfl rfl ?_
      refine x_getf dX11_wordOf_19 lf_X11_16 (kc hi kf_0) kv_0_2 ?_
      refine x_iload dX11_wordOf_22 rfl ?_
      refine x_cV1 dX11_wordOf_24 lv_X11_126 (hD.lc 2 li_2) rfl rfl rfl (c_lget (k := 2) hD li_2 hlt ?_)
      refine x_cast (q := (_, _, _)) dX11_wordOf_27 (show vwCl[2]? = some _ from rfl) tb367 (ob_2 hD hlt) ?_
      refine x_astore dX11_wordOf_30 (by decide) ?_
      refine x_aload dX11_wordOf_32 rfl ?_
      refine x_getf dX11_wordOf_34 lf_X11_243 (ob_2 hD hlt) ov_2_0 ?_
      refine x_getf dX11_wordOf_37 lf_X11_309 (ob_1 hD (hD.wr hlt)) (ov_w hD hlt) ?_
      refine x_iload_n dX11_wordOf_40 rfl rfl ?_
      refine x_icmp_ne (tgt := 84) dX11_wordOf_41 (by decide) (fun h41 => ?_) (fun h41 => ?_)
      · refine x_iinc (c := 1) dX11_wordOf_84 rfl (by decide) ?_
        refine x_goto (tgt := 6) dX11_wordOf_87 (by decide) ?_
        refine x_loc _ (?_ : lle _ _) ih
        refine ⟨rfl, rfl, rfl, rfl, ?_, ?_, trivial⟩
        · show some _ = some (wdV ω (spWord σ p say q (i + 1)))
          rw [es]
          first
          | rw [if_neg (fun z => by first | exact h41 z.1 | exact h50 z.2.1 | exact absurd z.2.2.1 (Int32.not_le.mpr h59) | exact z.2.2.2.elim (nI_n1 (by omega)) (fun y => absurd y (Int32.not_lt.mpr h77))), wdV_r (by omega)]
          | rw [if_pos ⟨h41, h50, Int32.not_lt.mp h59, Or.inr (Int32.not_le.mp h77)⟩, wdV_r (by omega)]
        · show some (Value.int (nI i + 1)) = some (Value.int (nI (i + 1)))
          rw [nI_1]
      · refine x_aload dX11_wordOf_44 rfl ?_
        refine x_getf dX11_wordOf_46 lf_X11_312 (ob_2 hD hlt) ov_2_4 ?_
        refine x_iload_n dX11_wordOf_49 rfl rfl ?_
        refine x_icmp_ne (tgt := 84) dX11_wordOf_50 (by decide) (fun h50 => ?_) (fun h50 => ?_)
        · refine x_iinc (c := 1) dX11_wordOf_84 rfl (by decide) ?_
          refine x_goto (tgt := 6) dX11_wordOf_87 (by decide) ?_
          refine x_loc _ (?_ : lle _ _) ih
          refine ⟨rfl, rfl, rfl, rfl, ?_, ?_, trivial⟩
          · show some _ = some (wdV ω (spWord σ p say q (i + 1)))
            rw [es]
            first
            | rw [if_neg (fun z => by first | exact h41 z.1 | exact h50 z.2.1 | exact absurd z.2.2.1 (Int32.not_le.mpr h59) | exact z.2.2.2.elim (nI_n1 (by omega)) (fun y => absurd y (Int32.not_lt.mpr h77))), wdV_r (by omega)]
            | rw [if_pos ⟨h41, h50, Int32.not_lt.mp h59, Or.inr (Int32.not_le.mp h77)⟩, wdV_r (by omega)]
          · show some (Value.int (nI i + 1)) = some (Value.int (nI (i + 1)))
            rw [nI_1]
        · refine x_aload dX11_wordOf_53 rfl ?_
          refine x_getf dX11_wordOf_55 lf_X11_315 (ob_2 hD hlt) ov_2_6 ?_
          refine x_iload_n dX11_wordOf_58 rfl rfl ?_
          refine x_icmp_gt (tgt := 84) dX11_wordOf_59 (by decide) (fun h59 => ?_) (fun h59 => ?_)
          · refine x_iinc (c := 1) dX11_wordOf_84 rfl (by decide) ?_
            refine x_goto (tgt := 6) dX11_wordOf_87 (by decide) ?_
            refine x_loc _ (?_ : lle _ _) ih
            refine ⟨rfl, rfl, rfl, rfl, ?_, ?_, trivial⟩
            · show some _ = some (wdV ω (spWord σ p say q (i + 1)))
              rw [es]
              first
              | rw [if_neg (fun z => by first | exact h41 z.1 | exact h50 z.2.1 | exact absurd z.2.2.1 (Int32.not_le.mpr h59) | exact z.2.2.2.elim (nI_n1 (by omega)) (fun y => absurd y (Int32.not_lt.mpr h77))), wdV_r (by omega)]
              | rw [if_pos ⟨h41, h50, Int32.not_lt.mp h59, Or.inr (Int32.not_le.mp h77)⟩, wdV_r (by omega)]
            · show some (Value.int (nI i + 1)) = some (Value.int (nI (i + 1)))
              rw [nI_1]
          · refine x_aload dX11_wordOf_62 rfl ?_
            refine x_ifnull dX11_wordOf_64 ?_
            refine x_aload dX11_wordOf_67 rfl ?_
            refine x_getf dX11_wordOf_69 lf_X11_238 (ob_2 hD hlt) ov_2_1 ?_
            refine x_aload dX11_wordOf_72 rfl ?_
            refine x_getf dX11_wordOf_74 lf_X11_238 (ob_2 hD hjl) ov_2_1 ?_
            refine x_icmp_ge (tgt := 84) dX11_wordOf_77 (by decide) (fun h77 => ?_) (fun h77 => ?_)
            · refine x_iinc (c := 1) dX11_wordOf_84 rfl (by decide) ?_
              refine x_goto (tgt := 6) dX11_wordOf_87 (by decide) ?_
              refine x_loc _ (?_ : lle _ _) ih
              refine ⟨rfl, rfl, rfl, rfl, ?_, ?_, trivial⟩
              · show some _ = some (wdV ω (spWord σ p say q (i + 1)))
                rw [es]
                first
                | rw [if_neg (fun z => by first | exact h41 z.1 | exact h50 z.2.1 | exact absurd z.2.2.1 (Int32.not_le.mpr h59) | exact z.2.2.2.elim (nI_n1 (by omega)) (fun y => absurd y (Int32.not_lt.mpr h77))), wdV_r (by omega)]
                | rw [if_pos ⟨h41, h50, Int32.not_lt.mp h59, Or.inr (Int32.not_le.mp h77)⟩, wdV_r (by omega)]
              · show some (Value.int (nI i + 1)) = some (Value.int (nI (i + 1)))
                rw [nI_1]
            · refine x_aload dX11_wordOf_80 rfl ?_
              refine x_astore dX11_wordOf_82 (by decide) ?_
              refine x_iinc (c := 1) dX11_wordOf_84 rfl (by decide) ?_
              refine x_goto (tgt := 6) dX11_wordOf_87 (by decide) ?_
              refine x_loc _ (?_ : lle _ _) ih
              refine ⟨rfl, rfl, rfl, rfl, ?_, ?_, trivial⟩
              · show some _ = some (wdV ω (spWord σ p say q (i + 1)))
                rw [es]
                first
                | rw [if_neg (fun z => by first | exact h41 z.1 | exact h50 z.2.1 | exact absurd z.2.2.1 (Int32.not_le.mpr h59) | exact z.2.2.2.elim (nI_n1 (by omega)) (fun y => absurd y (Int32.not_lt.mpr h77))), wdV_r (by omega)]
                | rw [if_pos ⟨h41, h50, Int32.not_lt.mp h59, Or.inr (Int32.not_le.mp h77)⟩, wdV_r (by omega)]
              · show some (Value.int (nI i + 1)) = some (Value.int (nI (i + 1)))
                rw [nI_1]
end CLB
