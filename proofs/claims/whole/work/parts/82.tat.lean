/-! the class, 30: reading a number, an atom -/
def Cds (f : Nat → Int32) (cs : List Int32) : Prop := ∀ i, i < cs.length → f i = cs.getD i 0
theorem Cds_0 {f : Nat → Int32} : Cds f [] := fun i hi => absurd hi (Nat.not_lt_zero i)
theorem Cds_add {f : Nat → Int32} {cs : List Int32} {v : Int32} (h : Cds f cs) : Cds (updB f cs.length v) (cs ++ [v]) := by
  intro i hi
  rw [List.length_append, List.length_singleton] at hi
  rw [List.getD_eq_getElem?_getD]
  by_cases e : i = cs.length
  · subst e
    rw [updB_eq, List.getElem?_append_right (Nat.le_refl _), Nat.sub_self]; rfl
  · rw [updB_ne e, List.getElem?_append_left (by omega), ← List.getD_eq_getElem?_getD]
    exact h i (by omega)
theorem len1 {cs : List Int32} {v : Int32} : (cs ++ [v]).length = cs.length + 1 := by rw [List.length_append, List.length_singleton]
/-- how far a reading comes -/
def Pg (n p : Nat) (x : PR) : Prop := (∀ q cs, x = .ok (q, cs) → p + cs.length ≤ q ∧ q ≤ n ∧ 0 < cs.length) ∧ ∀ e, x = .error e → e ≤ n
theorem Pg_of {n p : Nat} {L : Int32 → Int32} {V : Int32 → Prop} {x : PR} (h : Gd n L V p x) : Pg n p x := ⟨fun q cs e => by
  obtain ⟨h1, h2, h3, h4, h5⟩ := h.1 q cs e
  refine ⟨h1, h2, ?_⟩
  cases cs with
  | nil => exact absurd (congrArg List.length (h5 [])) (by show ¬ (0 = 1); decide)
  | cons _ _ => exact Nat.succ_pos _, h.2⟩
def L0 : Int32 → Int32 := fun _ => 0
theorem L0_bd : ∀ c, bd6 (L0 c) := fun _ => (show bd6 0 from ⟨by decide, by decide⟩)
theorem Pg_st {n p q q1 : Nat} {cs ds : List Int32} {c : Int32} {b : Nat → Int32} (h : Pg n p (.ok (q, cs))) (hd : Pg n (sk b n q + 1) (.ok (q1, ds))) : Pg n p (.ok (q1, cs ++ ds ++ [c])) := by
  obtain ⟨h1, h2, h3⟩ := h.1 q cs rfl
  obtain ⟨g1, g2, g3⟩ := hd.1 q1 ds rfl
  have hge := sk_ge (b := b) (n := n) (p := q)
  refine ⟨fun q' cs' z => ?_, fun e z => by cases z⟩
  cases z
  rw [len1, List.length_append]
  exact ⟨by omega, g2, by omega⟩
/-- what a reading leaves behind -/
def RQ9 (τ : Nat → Nat) (κ : MS) (Md : Mem) (b : Nat → Int32) (n : Nat) (c0 : List Int32) (x : PR) (Q : Option Value → Mem → Prop) : Prop :=
  (∀ q cs, x = .ok (q, cs) → ∀ q' f', q' ≤ n → sk b n q' = sk b n q → Cds f' (c0 ++ cs) → Q (some (.int 1)) (cm τ (rS κ (nI q') (nI (c0 ++ cs).length) f') Md)) ∧ (∀ x', x = .error x' → ∀ w m f', m ≤ 160 → (w = 0 ∨ w = 1 ∧ isDg b n x') → Q (some (.int w)) (cm τ (rS κ (nI x') (nI m) f') Md))
/-- the reader's literals -/
def TLit (G : Gam) : Prop := ZCom G ∧ Lit G RX9 110 [91] ∧ Lit G RX9 112 [93] ∧ Lit G RX9 114 pLetters ∧ Lit G RX9 108 [42, 47] ∧ Lit G RX9 103 [43, 45] ∧ Lit G RX9 71 [61, 60, 62] ∧ Lit G RX9 94 [33] ∧ Lit G RX9 96 [40] ∧ Lit G RX9 98 [41] ∧ Lit G RX9 92 [38] ∧ Lit G RX9 87 [124] ∧ Lit G RX9 47 pLabels ∧ Lit G RX9 60 [58] ∧ Lit G RX9 62 [33, 40] ∧ Lit G RX9 82 [63] ∧ Lit G RX9 39 [59]
theorem Sg_91 : Sg [91] := by unfold Sg; decide
theorem Sg_93 : Sg [93] := by unfold Sg; decide
theorem Sg_let : Sg pLetters := by unfold Sg; decide
theorem Sg_42 : Sg [42, 47] := by unfold Sg; decide
theorem Sg_43 : Sg [43, 45] := by unfold Sg; decide
theorem Sg_61 : Sg [61, 60, 62] := by unfold Sg; decide
theorem Sg_33 : Sg [33] := by unfold Sg; decide
theorem Sg_40 : Sg [40] := by unfold Sg; decide
theorem Sg_41 : Sg [41] := by unfold Sg; decide
theorem Sg_38 : Sg [38] := by unfold Sg; decide
theorem Sg_124 : Sg [124] := by unfold Sg; decide
theorem Sg_lab : Sg pLabels := by unfold Sg; decide
theorem Sg_58 : Sg [58] := by unfold Sg; decide
theorem Sg_3340 : Sg [33, 40] := by unfold Sg; decide
theorem Sg_63 : Sg [63] := by unfold Sg; decide
theorem Sg_59 : Sg [59] := by unfold Sg; decide
theorem in1 {x c : Int32} : x ∈ [c] ↔ x = c := List.mem_singleton
theorem in2 {x c e : Int32} : x ∈ [c, e] ↔ x = c ∨ x = e := by
  rw [List.mem_cons, List.mem_singleton]
theorem in3 {x c e g : Int32} : x ∈ [c, e, g] ↔ x = c ∨ x = e ∨ x = g := by
  rw [List.mem_cons, List.mem_cons, List.mem_singleton]
theorem in_let {x : Int32} : x ∈ pLetters ↔ isLet x = true := by
  unfold isLet
  rw [List.any_eq_true]
  exact ⟨fun h => ⟨x, h, decide_eq_true rfl⟩, fun ⟨y, hy, e⟩ => by rw [of_decide_eq_true e]; exact hy⟩
theorem in_lab {x : Int32} : x ∈ pLabels ↔ isLab x = true := by
  unfold isLab
  rw [List.any_eq_true]
  exact ⟨fun h => ⟨x, h, decide_eq_true rfl⟩, fun ⟨y, hy, e⟩ => by rw [of_decide_eq_true e]; exact hy⟩
section TAT
variable {G : Gam} {d : Nat} {τ : Nat → Nat} {κ : MS} {Md : Mem} {M : Mem} {Q : Option Value → Mem → Prop} {b : Nat → Int32} {n p m : Nat} {f : Nat → Int32}
theorem c_sees1 {a : Nat} {bs : List Int32} {mI : Int32} (hi : adOK τ) (hz : ZCom G) (hT : TpB κ b n) (hS : StrA G a bs) (hb : Sg bs) (hp : p ≤ n) (y : lk b n p ∈ bs) (hq : Q (some (.int 1)) (cm τ (rS κ (nI (sk b n p)) mI f) Md)) : CT G (d + 4) (0, 0) MX9_sees [.ref (τ 8), .ref a] (cm τ (rS κ (nI p) mI f) Md) Q := c_X9_sees hi hz hT hS hb hp (fun _ => hq) (fun z => absurd y z)
theorem c_sees0 {a : Nat} {bs : List Int32} {mI : Int32} (hi : adOK τ) (hz : ZCom G) (hT : TpB κ b n) (hS : StrA G a bs) (hb : Sg bs) (hp : p ≤ n) (y : ¬ lk b n p ∈ bs) (hq : Q (some (.int 0)) (cm τ (rS κ (nI (sk b n p)) mI f) Md)) : CT G (d + 4) (0, 0) MX9_sees [.ref (τ 8), .ref a] (cm τ (rS κ (nI p) mI f) Md) Q := c_X9_sees hi hz hT hS hb hp (fun z => absurd z y) (fun _ => hq)
theorem c_take1 {a : Nat} {bs : List Int32} {mI : Int32} (hi : adOK τ) (hz : ZCom G) (hT : TpB κ b n) (hS : StrA G a bs) (hb : Sg bs) (hp : p ≤ n) (y : lk b n p ∈ bs) (hq : Q (some (.int 1)) (cm τ (rS κ (nI (sk b n p + 1)) mI f) Md)) : CT G (d + 5) (0, 0) MX9_take [.ref (τ 8), .ref a] (cm τ (rS κ (nI p) mI f) Md) Q := c_X9_take hi hz hT hS hb hp (fun _ => hq) (fun z => absurd y z)
theorem c_take0 {a : Nat} {bs : List Int32} {mI : Int32} (hi : adOK τ) (hz : ZCom G) (hT : TpB κ b n) (hS : StrA G a bs) (hb : Sg bs) (hp : p ≤ n) (y : ¬ lk b n p ∈ bs) (hq : Q (some (.int 0)) (cm τ (rS κ (nI (sk b n p)) mI f) Md)) : CT G (d + 5) (0, 0) MX9_take [.ref (τ 8), .ref a] (cm τ (rS κ (nI p) mI f) Md) Q := c_X9_take hi hz hT hS hb hp (fun z => absurd z y) (fun _ => hq)
/-- a digit is no blank, and none of the signs -/
theorem dg_sk (hT : TpB κ b n) {x : Nat} (h : isDg b n x) : sk b n x = x ∧ 48 ≤ lk b n x ∧ lk b n x ≤ 57 := by
  have hs := (hT.2.2 x h.1).2
  have e : sk b n x = x := sk_at (fun z => by have := h.2.1; rw [z] at this; exact absurd this (by decide))
  have e2 : lk b n x = b x &&& 255 := by unfold lk; rw [e, if_pos h.1]
  rw [e2]
  exact ⟨e, (sgn_dg hs).mpr h.2⟩
theorem dg_no (hT : TpB κ b n) {x : Nat} {bs : List Int32} (h : isDg b n x) (hb : ∀ c ∈ bs, c < 48 ∨ 57 < c) : ¬ lk b n x ∈ bs := by
  intro z
  obtain ⟨-, h1, h2⟩ := dg_sk hT h
  rcases hb _ z with y | y
  · exact absurd y (Int32.not_lt.mpr h1)
  · exact absurd y (Int32.not_lt.mpr h2)
theorem num_loop {c0 : List Int32} (hi : adOK τ) (hT : TpB κ b n) (hc : Cds f c0) : ∀ (g p mm : Nat), p ≤ n → c0.length < p → g ≤ 3 → mm < 10 ^ (4 - g) → RQ9 τ κ Md b n c0 (pNum b n g p (nI mm)) Q → XJ G (d + 1) (0, 0) MX9_readNumber (cm τ (rS κ (nI p) (nI c0.length) f) Md) [(0, .ref (τ 8)), (1, .int (nI mm)), (2, .int (nI (4 - g)))] [] 4 Q := by
  have hn := hT.2.1
  intro g
  induction g with
  | zero =>
    intro p mm hp hcp _ hmm hq
    refine x_iload_n dX9_readNumber_4 rfl rfl ?_
    refine x_iconst (v := 4) dX9_readNumber_5 (by decide) ?_
    refine x_icmp_ge (tgt := 73) dX9_readNumber_6 (by decide) (fun _ => ?_) (fun z => absurd (Int32.le_refl _) z)
    refine x_iload_n dX9_readNumber_73 rfl rfl ?_
    refine x_if_le (tgt := 82) dX9_readNumber_74 (by decide) (fun z => absurd z (by decide)) (fun _ => ?_)
    refine x_aload_n dX9_readNumber_77 rfl rfl ?_
    refine x_iload_n dX9_readNumber_78 rfl rfl ?_
    refine x_cV1 dX9_readNumber_79 lv_X9_56 (kc hi kf_8) rfl rfl rfl  (c_addOK hi (by omega) ?_)
    refine x_iload_n dX9_readNumber_82 rfl rfl ?_
    refine x_if_le (tgt := 90) dX9_readNumber_83 (by decide) (fun z => absurd z (by decide)) (fun _ => ?_)
    refine x_iconst (v := 1) dX9_readNumber_86 (by decide) ?_
    refine x_goto (tgt := 91) dX9_readNumber_87 (by decide) ?_
    exact x_ireturn dX9_readNumber_91 rfl rfl ((by
by_cases hd : p < n ∧ 48 ≤ b p ∧ b p ≤ 57
· exact hq.2 p (by unfold pNum; rw [if_pos hd]) 1 _ _ (by omega) (Or.inr ⟨rfl, hd⟩)
· have h := hq.1 p [nI mm] (by unfold pNum; rw [if_neg hd]) p _ hp rfl (Cds_add hc)
  rw [len1] at h
  exact h))
  | succ g ih =>
    intro p mm hp hcp hg hmm hq
    have hne4 : 0 < 4 - (g + 1) := by omega
    have hout : ¬ (p < n ∧ 48 ≤ b p ∧ b p ≤ 57) → XJ G (d + 1) (0, 0) MX9_readNumber (cm τ (rS κ (nI p) (nI c0.length) f) Md) [(0, .ref (τ 8)), (1, .int (nI mm)), (2, .int (nI (4 - (g + 1))))] [] 73 Q := by
      intro hd
      refine x_iload_n dX9_readNumber_73 rfl rfl ?_
      refine x_if_le (tgt := 82) dX9_readNumber_74 (by decide) (fun z => absurd z (nI_nle hne4 (by omega))) (fun _ => ?_)
      refine x_aload_n dX9_readNumber_77 rfl rfl ?_
      refine x_iload_n dX9_readNumber_78 rfl rfl ?_
      refine x_cV1 dX9_readNumber_79 lv_X9_56 (kc hi kf_8) rfl rfl rfl  (c_addOK hi (by omega) ?_)
      refine x_iload_n dX9_readNumber_82 rfl rfl ?_
      refine x_if_le (tgt := 90) dX9_readNumber_83 (by decide) (fun z => absurd z (nI_nle hne4 (by omega))) (fun _ => ?_)
      refine x_iconst (v := 1) dX9_readNumber_86 (by decide) ?_
      refine x_goto (tgt := 91) dX9_readNumber_87 (by decide) ?_
      exact x_ireturn dX9_readNumber_91 rfl rfl ((by
have h := hq.1 p [nI mm] (by unfold pNum; rw [if_neg hd]) p _ hp rfl (Cds_add hc)
rw [len1] at h
exact h))
    by_cases hpn : p < n
    · have hsg := (hT.2.2 p hpn).2
      have hdg := sgn_dg hsg
      refine x_iload_n dX9_readNumber_4 rfl rfl ?_
      refine x_iconst (v := 4) dX9_readNumber_5 (by decide) ?_
      refine x_icmp_ge (tgt := 73) dX9_readNumber_6 (by decide) (fun z => absurd z (nI_ge (b := 4) (by omega) (by decide))) (fun _ => ?_)
      refine x_aload_n dX9_readNumber_9 rfl rfl ?_
      refine x_getf dX9_readNumber_10 lf_X9_32 (kc hi kf_8) kv_8_2 ?_
      rw [rS_a]
      refine x_aload_n dX9_readNumber_13 rfl rfl ?_
      refine x_getf dX9_readNumber_14 lf_X9_19 (kc hi kf_8) kv_8_1 ?_
      rw [rS_n hT]
      refine x_icmp_ge (tgt := 73) dX9_readNumber_17 (by decide) (fun z => absurd z (nI_ge hpn (by omega))) (fun _ => ?_)
      refine x_aload_n dX9_readNumber_20 rfl rfl ?_
      refine x_getf dX9_readNumber_21 lf_X9_11 (kc hi kf_8) kv_8_0 ?_
      refine x_aload_n dX9_readNumber_24 rfl rfl ?_
      refine x_getf dX9_readNumber_25 lf_X9_32 (kc hi kf_8) kv_8_2 ?_
      refine xk_cald 17 dX9_readNumber_28 kf_17 rfl hi (vp_in_nI (by omega) (by decide)) (nI_clamp (by omega)) ?_
      rw [rS_t hT hpn]
      refine x_bipush (v := 48) dX9_readNumber_29 (by decide) ?_
      refine x_bipush (v := 57) dX9_readNumber_31 (by decide) ?_
      refine x_cSN3 dX9_readNumber_33 ls_X9_119 rfl  (c_X11_isWithin ?_)
      refine x_if_eq_b (tgt := 73) dX9_readNumber_36 (by decide) (fun h36 => ?_) (fun h36 => ?_)
      · exact hout (fun z => h36 (hdg.mpr z.2))
      · refine x_iload_n dX9_readNumber_39 rfl rfl ?_
        refine x_bipush (v := 10) dX9_readNumber_40 (by decide) ?_
        refine x_imul dX9_readNumber_42 ?_
        refine x_aload_n dX9_readNumber_43 rfl rfl ?_
        refine x_getf dX9_readNumber_44 lf_X9_11 (kc hi kf_8) kv_8_0 ?_
        refine x_aload_n dX9_readNumber_47 rfl rfl ?_
        refine x_getf dX9_readNumber_48 lf_X9_32 (kc hi kf_8) kv_8_2 ?_
        refine xk_cald 17 dX9_readNumber_51 kf_17 rfl hi (vp_in_nI (by omega) (by decide)) (nI_clamp (by omega)) ?_
        rw [rS_t hT hpn]
        refine x_iadd dX9_readNumber_52 ?_
        refine x_bipush (v := 48) dX9_readNumber_53 (by decide) ?_
        refine x_isub dX9_readNumber_55 ?_
        refine x_istore_n dX9_readNumber_56 rfl (by decide) ?_
        refine x_iinc (c := 1) dX9_readNumber_57 rfl (by decide) ?_
        refine x_aload_n dX9_readNumber_60 rfl rfl ?_
        refine x_dup dX9_readNumber_61 rfl ?_
        refine x_getf dX9_readNumber_62 lf_X9_32 (kc hi kf_8) kv_8_2 ?_
        rw [rS_a]
        refine x_iconst (v := 1) dX9_readNumber_65 (by decide) ?_
        refine x_iadd dX9_readNumber_66 ?_
        refine xk_puti dX9_readNumber_67 lp_X9_32 (kc hi kf_8) rfl rfl (kp_8_2 hi) ?_
        rw [nI_1, rS_82]
        refine x_goto (tgt := 4) dX9_readNumber_70 (by decide) ?_
        have hd : p < n ∧ 48 ≤ b p ∧ b p ≤ 57 := ⟨hpn, hdg.mp h36⟩
        have hbe : b p &&& 255 = b p := by
          rcases hsg with ⟨e, -, -⟩ | ⟨e, -, -⟩
          · exact e
          · exact absurd (Int32.lt_of_le_of_lt hd.2.1 e) (by decide)
        obtain ⟨dg, hdg9, hst⟩ := dig_st (b := b) (n := n) (p := p) hd
        have e10 : 10 ^ (4 - g) = 10 * 10 ^ (4 - (g + 1)) := by
          rw [show 4 - g = (4 - (g + 1)) + 1 by omega, Nat.pow_succ, Nat.mul_comm]
        unfold pNum at hq
        rw [if_pos hd, hst mm] at hq
        refine x_loc _ (?_ : lle _ _) (ih (p + 1) (10 * mm + dg) (by omega) (by omega) (by omega) (by rw [e10]; omega) hq)
        refine ⟨rfl, ?_, ?_, trivial⟩
        · show some (Value.int (nI mm * 10 + (b p &&& 255) - 48)) = some (Value.int (nI (10 * mm + dg)))
          rw [hbe, Int32.mul_comm, hst mm]
        · show some (Value.int (nI (4 - (g + 1)) + 1)) = some (Value.int (nI (4 - g)))
          rw [nI_1, show 4 - (g + 1) + 1 = 4 - g by omega]
    · refine x_iload_n dX9_readNumber_4 rfl rfl ?_
      refine x_iconst (v := 4) dX9_readNumber_5 (by decide) ?_
      refine x_icmp_ge (tgt := 73) dX9_readNumber_6 (by decide) (fun z => absurd z (nI_ge (b := 4) (by omega) (by decide))) (fun _ => ?_)
      refine x_aload_n dX9_readNumber_9 rfl rfl ?_
      refine x_getf dX9_readNumber_10 lf_X9_32 (kc hi kf_8) kv_8_2 ?_
      rw [rS_a]
      refine x_aload_n dX9_readNumber_13 rfl rfl ?_
      refine x_getf dX9_readNumber_14 lf_X9_19 (kc hi kf_8) kv_8_1 ?_
      rw [rS_n hT]
      refine x_icmp_ge (tgt := 73) dX9_readNumber_17 (by decide) (fun _ => ?_) (fun z => absurd (nI_le (by omega) (by omega)) z)
      exact hout (fun z => hpn z.1)
theorem c_X9_readNumber {c0 : List Int32} (hi : adOK τ) (hT : TpB κ b n) (hc : Cds f c0) (hp : p ≤ n) (hcp : c0.length ≤ p) (hq : RQ9 τ κ Md b n c0 (if p < n ∧ 48 ≤ b p ∧ b p ≤ 57 then pNum b n 4 p 0 else .error p) Q) : CT G (d + 1) (0, 0) MX9_readNumber [.ref (τ 8)] (cm τ (rS κ (nI p) (nI c0.length) f) Md) Q := by
  have hn := hT.2.1
  refine CT.of rfl (Nat.le_of_ble_eq_true rfl) ?_
  have hout : ¬ (p < n ∧ 48 ≤ b p ∧ b p ≤ 57) → XJ G (d + 1) (0, 0) MX9_readNumber (cm τ (rS κ (nI p) (nI c0.length) f) Md) [(0, .ref (τ 8)), (1, .int 0), (2, .int 0)] [] 73 Q := by
    intro hd
    rw [if_neg hd] at hq
    refine x_iload_n dX9_readNumber_73 rfl rfl ?_
    refine x_if_le (tgt := 82) dX9_readNumber_74 (by decide) (fun _ => ?_) (fun z => absurd (by decide) z)
    refine x_iload_n dX9_readNumber_82 rfl rfl ?_
    refine x_if_le (tgt := 90) dX9_readNumber_83 (by decide) (fun _ => ?_) (fun z => absurd (by decide) z)
    refine x_iconst (v := 0) dX9_readNumber_90 (by decide) ?_
    exact x_ireturn dX9_readNumber_91 rfl rfl (hq.2 p rfl 0 _ _ (by omega) (Or.inl rfl))
  by_cases hpn : p < n
  · have hsg := (hT.2.2 p hpn).2
    have hdg := sgn_dg hsg
    refine x_iconst (v := 0) dX9_readNumber_0 (by decide) ?_
    refine x_istore_n dX9_readNumber_1 rfl (by decide) ?_
    refine x_iconst (v := 0) dX9_readNumber_2 (by decide) ?_
    refine x_istore_n dX9_readNumber_3 rfl (by decide) ?_
    refine x_iload_n dX9_readNumber_4 rfl rfl ?_
    refine x_iconst (v := 4) dX9_readNumber_5 (by decide) ?_
    refine x_icmp_ge (tgt := 73) dX9_readNumber_6 (by decide) (fun z => absurd z (by decide)) (fun _ => ?_)
    refine x_aload_n dX9_readNumber_9 rfl rfl ?_
    refine x_getf dX9_readNumber_10 lf_X9_32 (kc hi kf_8) kv_8_2 ?_
    rw [rS_a]
    refine x_aload_n dX9_readNumber_13 rfl rfl ?_
    refine x_getf dX9_readNumber_14 lf_X9_19 (kc hi kf_8) kv_8_1 ?_
    rw [rS_n hT]
    refine x_icmp_ge (tgt := 73) dX9_readNumber_17 (by decide) (fun z => absurd z (nI_ge hpn (by omega))) (fun _ => ?_)
    refine x_aload_n dX9_readNumber_20 rfl rfl ?_
    refine x_getf dX9_readNumber_21 lf_X9_11 (kc hi kf_8) kv_8_0 ?_
    refine x_aload_n dX9_readNumber_24 rfl rfl ?_
    refine x_getf dX9_readNumber_25 lf_X9_32 (kc hi kf_8) kv_8_2 ?_
    refine xk_cald 17 dX9_readNumber_28 kf_17 rfl hi (vp_in_nI (by omega) (by decide)) (nI_clamp (by omega)) ?_
    rw [rS_t hT hpn]
    refine x_bipush (v := 48) dX9_readNumber_29 (by decide) ?_
    refine x_bipush (v := 57) dX9_readNumber_31 (by decide) ?_
    refine x_cSN3 dX9_readNumber_33 ls_X9_119 rfl  (c_X11_isWithin ?_)
    refine x_if_eq_b (tgt := 73) dX9_readNumber_36 (by decide) (fun h36 => ?_) (fun h36 => ?_)
    · refine x_loc _ (?_ : lle _ _) (hout (fun z => h36 (hdg.mpr z.2)))
      exact ⟨rfl, rfl, rfl, trivial⟩
    · refine x_iload_n dX9_readNumber_39 rfl rfl ?_
      refine x_bipush (v := 10) dX9_readNumber_40 (by decide) ?_
      refine x_imul dX9_readNumber_42 ?_
      refine x_aload_n dX9_readNumber_43 rfl rfl ?_
      refine x_getf dX9_readNumber_44 lf_X9_11 (kc hi kf_8) kv_8_0 ?_
      refine x_aload_n dX9_readNumber_47 rfl rfl ?_
      refine x_getf dX9_readNumber_48 lf_X9_32 (kc hi kf_8) kv_8_2 ?_
      refine xk_cald 17 dX9_readNumber_51 kf_17 rfl hi (vp_in_nI (by omega) (by decide)) (nI_clamp (by omega)) ?_
      rw [rS_t hT hpn]
      refine x_iadd dX9_readNumber_52 ?_
      refine x_bipush (v := 48) dX9_readNumber_53 (by decide) ?_
      refine x_isub dX9_readNumber_55 ?_
      refine x_istore_n dX9_readNumber_56 rfl (by decide) ?_
      refine x_iinc (c := 1) dX9_readNumber_57 rfl (by decide) ?_
      refine x_aload_n dX9_readNumber_60 rfl rfl ?_
      refine x_dup dX9_readNumber_61 rfl ?_
      refine x_getf dX9_readNumber_62 lf_X9_32 (kc hi kf_8) kv_8_2 ?_
      rw [rS_a]
      refine x_iconst (v := 1) dX9_readNumber_65 (by decide) ?_
      refine x_iadd dX9_readNumber_66 ?_
      refine xk_puti dX9_readNumber_67 lp_X9_32 (kc hi kf_8) rfl rfl (kp_8_2 hi) ?_
      rw [nI_1, rS_82]
      refine x_goto (tgt := 4) dX9_readNumber_70 (by decide) ?_
      have hd : p < n ∧ 48 ≤ b p ∧ b p ≤ 57 := ⟨hpn, hdg.mp h36⟩
      have hbe : b p &&& 255 = b p := by
        rcases hsg with ⟨e, -, -⟩ | ⟨e, -, -⟩
        · exact e
        · exact absurd (Int32.lt_of_le_of_lt hd.2.1 e) (by decide)
      obtain ⟨dg, hdg9, hst⟩ := dig_st (b := b) (n := n) (p := p) hd
      have h0 := hst 0
      rw [show 10 * 0 + dg = dg by omega] at h0
      have h0' : 10 * 0 + b p - 48 = nI dg := h0
      rw [if_pos hd] at hq
      unfold pNum at hq
      rw [if_pos hd, h0'] at hq
      refine x_loc _ (?_ : lle _ _) (num_loop (d := d) hi hT hc 3 (p + 1) dg (by omega) (by omega) (by omega) (by show dg < 10; omega) hq)
      refine ⟨rfl, ?_, rfl, trivial⟩
      show some (Value.int (0 * 10 + (b p &&& 255) - 48)) = some (Value.int (nI dg))
      rw [hbe, ← h0', Int32.mul_comm]
  · refine x_iconst (v := 0) dX9_readNumber_0 (by decide) ?_
    refine x_istore_n dX9_readNumber_1 rfl (by decide) ?_
    refine x_iconst (v := 0) dX9_readNumber_2 (by decide) ?_
    refine x_istore_n dX9_readNumber_3 rfl (by decide) ?_
    refine x_iload_n dX9_readNumber_4 rfl rfl ?_
    refine x_iconst (v := 4) dX9_readNumber_5 (by decide) ?_
    refine x_icmp_ge (tgt := 73) dX9_readNumber_6 (by decide) (fun z => absurd z (by decide)) (fun _ => ?_)
    refine x_aload_n dX9_readNumber_9 rfl rfl ?_
    refine x_getf dX9_readNumber_10 lf_X9_32 (kc hi kf_8) kv_8_2 ?_
    rw [rS_a]
    refine x_aload_n dX9_readNumber_13 rfl rfl ?_
    refine x_getf dX9_readNumber_14 lf_X9_19 (kc hi kf_8) kv_8_1 ?_
    rw [rS_n hT]
    refine x_icmp_ge (tgt := 73) dX9_readNumber_17 (by decide) (fun _ => ?_) (fun z => absurd (nI_le (by omega) (by omega)) z)
    refine x_loc _ (?_ : lle _ _) (hout (fun z => hpn z.1))
    exact ⟨rfl, rfl, rfl, trivial⟩
/-- an atom without its brackets -/
def pAt2 (b : Nat → Int32) (n p : Nat) : PR := if isLet (lk b n p) = true then .ok (sk b n p + 1, [-lk b n p]) else if sk b n p < n ∧ 48 ≤ b (sk b n p) ∧ b (sk b n p) ≤ 57 then pNum b n 4 (sk b n p) 0 else .error (sk b n p)
theorem pAtom_2 {S : Option (Nat → PR)} (hT : TpB κ b n) (hp : p ≤ n) (h : ¬ lk b n p = 91 ∨ S = none) : pAtom b n S p = pAt2 b n p := by
  unfold pAtom pAt2
  by_cases z : isLet (lk b n p) = true
  · rw [if_pos z, if_pos (show pLetters.any (fun c => decide (lk b n p = c)) = true from z)]
  · rw [if_neg z, if_neg (show ¬ pLetters.any (fun c => decide (lk b n p = c)) = true from z)]
    by_cases y : lk b n p = 91
    · rcases h with h | h
      · exact absurd y h
      · subst h
        rw [if_pos (see_eq.mpr y)]
        have hlt : sk b n p < n := lk_lt (by rw [y]; decide)
        have hb : b (sk b n p) = 91 := (sgn_eq (hT.2.2 _ hlt).2 (by decide) (by decide)).mp (by have h9 := y; unfold lk at h9; rw [if_pos hlt] at h9; exact h9)
        rw [if_neg (fun w => by have := w.2.2; rw [hb] at this; exact absurd this (by decide))]
    · rw [if_neg (fun w => y (see_eq.mp w))]
theorem pAt2_of {p q : Nat} (h : sk b n p = sk b n q) : pAt2 b n p = pAt2 b n q := by
  unfold pAt2
  rw [lk_of h, h]
theorem at_40 {c0 : List Int32} {q : Nat} {e : Int32} (hi : adOK τ) (hl : TLit G) (hT : TpB κ b n) (hc : Cds f c0) (hp : q ≤ n) (hcp : c0.length ≤ q) (hq : RQ9 τ κ Md b n c0 (pAt2 b n q) Q) : XJ G (d + 5) (0, 0) MX9_readAtom (cm τ (rS κ (nI q) (nI c0.length) f) Md) [(0, .ref (τ 8)), (1, .int e)] [] 40 Q := by
  have hn := hT.2.1
  have hge := sk_ge (b := b) (n := n) (p := q)
  obtain ⟨hz, -, -, ⟨tx, sa, hlR, hlS⟩, -⟩ := hl
  unfold pAt2 at hq
  by_cases y : isLet (lk b n q) = true
  · rw [if_pos y] at hq
    have hlt : sk b n q < n := lk_lt (fun z => by rw [z] at y; revert y; decide)
    have hlk : b (sk b n q) &&& 255 = lk b n q := by unfold lk; rw [if_pos hlt]
    refine x_aload_n dX9_readAtom_40 rfl rfl ?_
    refine x_ldcS dX9_readAtom_41 hlR ?_
    refine x_cV1 dX9_readAtom_43 lv_X9_49 (kc hi kf_8) rfl rfl rfl  (c_sees1 hi hz hT hlS Sg_let hp (in_let.mpr y) ?_)
    refine x_if_eq (tgt := 60) dX9_readAtom_46 (by decide) (fun z => absurd z (by decide)) (fun _ => ?_)
    refine x_aload_n dX9_readAtom_49 rfl rfl ?_
    refine x_aload_n dX9_readAtom_50 rfl rfl ?_
    refine x_cV0 dX9_readAtom_51 lv_X9_52 (kc hi kf_8) rfl rfl rfl  (c_X9_takeSign hi hT hlt ?_)
    rw [hlk]
    refine x_ineg dX9_readAtom_54 ?_
    refine x_cV1 dX9_readAtom_55 lv_X9_56 (kc hi kf_8) rfl rfl rfl  (c_addOK hi (by omega) ?_)
    refine x_iconst (v := 1) dX9_readAtom_58 (by decide) ?_
    exact x_ireturn dX9_readAtom_59 rfl rfl ((by
have h := hq.1 _ _ rfl (sk b n q + 1) _ (by omega) rfl (Cds_add hc)
rw [len1] at h
exact h))
  · rw [if_neg y] at hq
    refine x_aload_n dX9_readAtom_40 rfl rfl ?_
    refine x_ldcS dX9_readAtom_41 hlR ?_
    refine x_cV1 dX9_readAtom_43 lv_X9_49 (kc hi kf_8) rfl rfl rfl  (c_sees0 hi hz hT hlS Sg_let hp (fun z => y (in_let.mp z)) ?_)
    refine x_if_eq (tgt := 60) dX9_readAtom_46 (by decide) (fun _ => ?_) (fun z => absurd rfl z)
    refine x_aload_n dX9_readAtom_60 rfl rfl ?_
    refine x_cV0 dX9_readAtom_61 lv_X9_116 (kc hi kf_8) rfl rfl rfl  (c_X9_readNumber hi hT hc (sk_le hp) (by omega) ?_)
    refine ⟨fun q1 cs hok q' f' h1 h2 h3 => ?_, fun x' herr w m' f' h1 h2 => ?_⟩
    · exact x_ireturn dX9_readAtom_64 rfl rfl (hq.1 q1 cs hok q' f' h1 h2 h3)
    · exact x_ireturn dX9_readAtom_64 rfl (v01_nar (h2.elim Or.inl (fun z => Or.inr z.1))) (hq.2 x' herr w m' f' h1 h2)
/-- what reads one depth below -/
def SC9 (G : Gam) (d : Nat) (τ : Nat → Nat) (κ : MS) (Md : Mem) (b : Nat → Int32) (n : Nat) (e : Int32) (S : Option (Nat → PR)) : Prop :=
  (S = none ∧ e = 6) ∨ ∃ s, S = some s ∧ ¬ 6 ≤ e ∧ (∀ p, p ≤ n → Pg n p (s p)) ∧ ∀ p' c0 f Q', p' ≤ n → c0.length ≤ p' → Cds f c0 → RQ9 τ κ Md b n c0 (s p') Q' → CT G d (0, 0) MX9_readSum [.ref (τ 8), .int (e + 1)] (cm τ (rS κ (nI p') (nI c0.length) f) Md) Q'
theorem c_X9_readAtom {c0 : List Int32} {e : Int32} {S : Option (Nat → PR)} (hi : adOK τ) (hl : TLit G) (hT : TpB κ b n) (hS : SC9 G (d + 5) τ κ Md b n e S) (hc : Cds f c0) (hp : p ≤ n) (hcp : c0.length ≤ p) (hq : RQ9 τ κ Md b n c0 (pAtom b n S p) Q) : CT G (d + 6) (0, 0) MX9_readAtom [.ref (τ 8), .int e] (cm τ (rS κ (nI p) (nI c0.length) f) Md) Q := by
  have hl0 := hl
  have hn := hT.2.1
  have hge := sk_ge (b := b) (n := n) (p := p)
  have hskn := sk_le (b := b) hp
  obtain ⟨hz, ⟨tx, sa, hlR, hlS⟩, ⟨tx2, sa2, hlR2, hlS2⟩, -⟩ := hl
  refine CT.of rfl (Nat.le_of_ble_eq_true rfl) ?_
  rcases hS with ⟨hS1, he⟩ | ⟨s, hS1, he, hg, hrd⟩
  · rw [pAtom_2 hT hp (Or.inr hS1)] at hq
    refine x_iload_n dX9_readAtom_0 rfl rfl ?_
    refine x_bipush (v := 6) dX9_readAtom_1 (by decide) ?_
    refine x_icmp_ge (tgt := 40) dX9_readAtom_3 (by decide) (fun _ => ?_) (fun z => absurd (by rw [he]; exact Int32.le_refl _) z)
    exact at_40 (d := d + 1) hi hl0 hT hc hp hcp hq
  · subst hS1
    by_cases h91 : lk b n p = 91
    · have hlt : sk b n p < n := lk_lt (by rw [h91]; decide)
      have hpa : pAtom b n (some s) p = pBind (s (sk b n p + 1)) (fun q cs => pTake b n q 93 cs) := by
        unfold pAtom
        rw [if_neg (by rw [h91]; decide), if_pos (see_eq.mpr h91)]
      rw [hpa] at hq
      refine x_iload_n dX9_readAtom_0 rfl rfl ?_
      refine x_bipush (v := 6) dX9_readAtom_1 (by decide) ?_
      refine x_icmp_ge (tgt := 40) dX9_readAtom_3 (by decide) (fun z => absurd z he) (fun _ => ?_)
      refine x_aload_n dX9_readAtom_6 rfl rfl ?_
      refine x_ldcS dX9_readAtom_7 hlR ?_
      refine x_cV1 dX9_readAtom_9 lv_X9_41 (kc hi kf_8) rfl rfl rfl  (c_take1 hi hz hT hlS Sg_91 hp (in1.mpr h91) ?_)
      refine x_if_eq (tgt := 40) dX9_readAtom_12 (by decide) (fun z => absurd z (by decide)) (fun _ => ?_)
      refine x_aload_n dX9_readAtom_15 rfl rfl ?_
      refine x_iload_n dX9_readAtom_16 rfl rfl ?_
      refine x_iconst (v := 1) dX9_readAtom_17 (by decide) ?_
      refine x_iadd dX9_readAtom_18 ?_
      refine x_cV1 dX9_readAtom_19 lv_X9_68 (kc hi kf_8) rfl rfl rfl  (hrd _ c0 _ _ (by omega) (by omega) hc ?_)
      refine ⟨fun q cs hok q' f' h1 h2 h3 => ?_, fun x' herr w m' f' h1 h2 => ?_⟩
      · rw [hok] at hq
        have hqn := ((hg _ (by omega)).1 q cs hok).2.1
        have hq2 : RQ9 τ κ Md b n c0 (pTake b n q 93 cs) Q := hq
        unfold pTake at hq2
        by_cases h93 : lk b n q = 93
        · rw [if_pos (see_eq.mpr h93)] at hq2
          have hlt2 : sk b n q < n := lk_lt (by rw [h93]; decide)
          refine x_if_eq (tgt := 38) dX9_readAtom_22 (by decide) (fun z => absurd z (by decide)) (fun _ => ?_)
          refine x_aload_n dX9_readAtom_25 rfl rfl ?_
          refine x_ldcS dX9_readAtom_26 hlR2 ?_
          refine x_cV1 dX9_readAtom_28 lv_X9_41 (kc hi kf_8) rfl rfl rfl  (c_take1 hi hz hT hlS2 Sg_93 h1 (in1.mpr (by rw [lk_of h2]; exact h93)) ?_)
          refine x_if_eq (tgt := 38) dX9_readAtom_31 (by decide) (fun z => absurd z (by decide)) (fun _ => ?_)
          refine x_iconst (v := 1) dX9_readAtom_34 (by decide) ?_
          refine x_goto (tgt := 39) dX9_readAtom_35 (by decide) ?_
          exact x_ireturn dX9_readAtom_39 rfl rfl (hq2.1 _ _ rfl _ f' (by rw [h2]; omega) (by rw [h2]) h3)
        · rw [if_neg (fun z => h93 (see_eq.mp z))] at hq2
          refine x_if_eq (tgt := 38) dX9_readAtom_22 (by decide) (fun z => absurd z (by decide)) (fun _ => ?_)
          refine x_aload_n dX9_readAtom_25 rfl rfl ?_
          refine x_ldcS dX9_readAtom_26 hlR2 ?_
          refine x_cV1 dX9_readAtom_28 lv_X9_41 (kc hi kf_8) rfl rfl rfl  (c_take0 hi hz hT hlS2 Sg_93 h1 (fun z => h93 (by rw [← lk_of h2]; exact in1.mp z)) ?_)
          refine x_if_eq (tgt := 38) dX9_readAtom_31 (by decide) (fun _ => ?_) (fun z => absurd rfl z)
          refine x_iconst (v := 0) dX9_readAtom_38 (by decide) ?_
          rw [h2]
          exact x_ireturn dX9_readAtom_39 rfl rfl (hq2.2 _ rfl 0 _ _ (by rw [List.length_append]; have h9 := (hg (sk b n p + 1) (by omega)).1 q cs hok; omega) (Or.inl rfl))
      · rw [herr] at hq
        rcases h2 with h2 | ⟨h2, h3⟩
        · subst h2
          refine x_if_eq (tgt := 38) dX9_readAtom_22 (by decide) (fun _ => ?_) (fun z => absurd rfl z)
          refine x_iconst (v := 0) dX9_readAtom_38 (by decide) ?_
          exact x_ireturn dX9_readAtom_39 rfl rfl (hq.2 x' rfl 0 m' f' h1 (Or.inl rfl))
        · subst h2
          refine x_if_eq (tgt := 38) dX9_readAtom_22 (by decide) (fun z => absurd z (by decide)) (fun _ => ?_)
          refine x_aload_n dX9_readAtom_25 rfl rfl ?_
          refine x_ldcS dX9_readAtom_26 hlR2 ?_
          refine x_cV1 dX9_readAtom_28 lv_X9_41 (kc hi kf_8) rfl rfl rfl  (c_take0 hi hz hT hlS2 Sg_93 (Nat.le_of_lt h3.1) (dg_no hT h3 (by decide)) ?_)
          refine x_if_eq (tgt := 38) dX9_readAtom_31 (by decide) (fun _ => ?_) (fun z => absurd rfl z)
          refine x_iconst (v := 0) dX9_readAtom_38 (by decide) ?_
          rw [(dg_sk hT h3).1]
          exact x_ireturn dX9_readAtom_39 rfl rfl (hq.2 x' rfl 0 m' f' h1 (Or.inl rfl))
    · rw [pAtom_2 hT hp (Or.inl h91), pAt2_of (sk_sk hp).symm] at hq
      refine x_iload_n dX9_readAtom_0 rfl rfl ?_
      refine x_bipush (v := 6) dX9_readAtom_1 (by decide) ?_
      refine x_icmp_ge (tgt := 40) dX9_readAtom_3 (by decide) (fun z => absurd z he) (fun _ => ?_)
      refine x_aload_n dX9_readAtom_6 rfl rfl ?_
      refine x_ldcS dX9_readAtom_7 hlR ?_
      refine x_cV1 dX9_readAtom_9 lv_X9_41 (kc hi kf_8) rfl rfl rfl  (c_take0 hi hz hT hlS Sg_91 hp (fun z => h91 (in1.mp z)) ?_)
      refine x_if_eq (tgt := 40) dX9_readAtom_12 (by decide) (fun _ => ?_) (fun z => absurd rfl z)
      exact at_40 (d := d + 1) hi hl0 hT hc hskn (by omega) hq
end TAT
