/-! the model's methods, 16: units, parts, conditions -/
def PQb (ad : Nat → Nat) (σ : MS) (b : Nat → Int32) (n : Nat) (L : Int32 → Int32) (v h e : Int32) (x : PR) (Q : Option Value → Mem → Prop) : Prop :=
  (∀ q cs, x = .ok (q, cs) → ∀ q', q' ≤ n → sk b n q' = sk b n q → Q (some (.int (vl L cs))) (mm ad (pS σ (nI q') (-1) e v h))) ∧ (∀ x', x = .error x' → ∀ w a e', v01 w → Q (some (.int w)) (mm ad (pS σ a (nI x') e' v h)))
theorem PQb.up {ad : Nat → Nat} {σ : MS} {b : Nat → Int32} {n : Nat} {L : Int32 → Int32} {v h e : Int32} {x : PR} {Q : Option Value → Mem → Prop} (hq : PQ ad σ b n L v h e x Q) : PQb ad σ b n L v h e x Q := ⟨hq.1, fun x' hx w a e' _ => hq.2 x' hx w a e'⟩
theorem v01_nar {w : Int32} (h : v01 w) : narrow .boolean (.int w) = .int w := by rcases h with h | h <;> subst h <;> rfl
theorem v0 : v01 0 := Or.inl rfl
theorem v1 : v01 1 := Or.inr rfl
theorem sg_rel {b : Nat → Int32} {n p : Nat} : isSg (lk b n p) ↔ pIsRel b n p = true := by
  unfold isSg pIsRel
  rw [Bool.or_eq_true_iff, Bool.or_eq_true_iff, see_eq, see_eq, see_eq]
  constructor
  · rintro (z | z | z)
    · exact Or.inl (Or.inl z)
    · exact Or.inl (Or.inr z)
    · exact Or.inr z
  · rintro ((z | z) | z)
    · exact Or.inl z
    · exact Or.inr (Or.inl z)
    · exact Or.inr (Or.inr z)
theorem pUnit1_of {b : Nat → Int32} {n : Nat} {UC : Option ((Nat → PR) × (Nat → PR))} {S : Nat → PR} {p q : Nat} (h : sk b n p = sk b n q) (hS : S p = S q) : pUnit1 b n UC S p = pUnit1 b n UC S q := by
  unfold pUnit1 pSee
  rw [lk_of h, h, hS]
theorem pUC1_of {b : Nat → Int32} {n p q : Nat} (h : sk b n p = sk b n q) : ∀ k, (pUC b n k).1 p = (pUC b n k).1 q
  | 0 => show pUnit1 b n none (pSum b n 0) p = pUnit1 b n none (pSum b n 0) q from pUnit1_of h (pSum_of h 0)
  | k + 1 => show pUnit1 b n (some (pUC b n k)) (pSum b n (k + 1)) p = pUnit1 b n (some (pUC b n k)) (pSum b n (k + 1)) q from pUnit1_of h (pSum_of h (k + 1))
theorem pUC2_eq {b : Nat → Int32} {n : Nat} : ∀ (k p : Nat), (pUC b n k).2 p = pCond1 b n (pUC b n k).1 p
  | 0, _ => rfl
  | k + 1, _ => rfl
theorem pUC2_of {b : Nat → Int32} {n p q : Nat} (h : sk b n p = sk b n q) (k : Nat) : (pUC b n k).2 p = (pUC b n k).2 q := by
  rw [pUC2_eq, pUC2_eq]
  unfold pCond1 pPart1
  rw [pUC1_of h]
section MDQ
variable {G : Gam} {d : Nat} {Y : MR} {ad : Nat → Nat} {σ σ0 : MS} {M : Mem} {lv : Lv} {st : List Value} {pc : Nat} {Q : Option Value → Mem → Prop} {b : Nat → Int32} {n p k : Nat} {L : Int32 → Int32} {e v h : Int32}
theorem cmp_23 {q q0 p0 : Nat} {cs : List Int32} (hR : RdC G ad σ b n L) (hk : k ≤ 6) (he : e = nI (6 - k)) (hq0 : q0 ≤ n) (hsk : sk b n q0 = sk b n q) (hg : Gd n L bd6 p0 (.ok (q, cs))) (hq : PQb ad σ b n L v h e (pRel b n (pSum b n k) q cs) Q) : XJ G (d + 25) (0, 0) MX12_compares (mm ad (pS σ (nI q0) (-1) e v h)) [(0, .ref (ad 99)), (3, .int (vl L cs))] [] 23 Q := by
  have hR' := hR
  obtain ⟨hi, hx, -, hbd, -, -, -⟩ := hR
  have hn3 := hx.n31
  obtain ⟨h1, hqn, h3, h4, h5⟩ := hg.1 q cs rfl
  have hlk := lk_of hsk
  unfold pRel at hq
  by_cases hr : isSg (lk b n q)
  · rw [if_pos (sg_rel.mp hr)] at hq
    have hlt : sk b n q < n := lk_lt (by intro y; rw [y] at hr; revert hr; unfold isSg; decide)
    have hgA := Gd_sum (b := b) hbd k (show sk b n q + 1 ≤ n by omega)
    refine x_aload_n dX12_compares_23 rfl rfl ?_
    refine x_cV0 dX12_compares_24 lv_X12_208 mm_obj rfl rfl rfl  (c_X12_look hi hx hq0 ?_)
    rw [hlk, hsk]
    refine x_istore dX12_compares_27 (by decide) ?_
    refine x_iload dX12_compares_29 rfl ?_
    refine x_cS1 dX12_compares_31 ls_X12_254 rfl  (c_X12_isSign ?_)
    refine x_if_ne_b (tgt := 42) dX12_compares_34 (by decide) (fun _ => ?_) (fun z => absurd hr z)
    refine x_aload_n dX12_compares_42 rfl rfl ?_
    refine x_dup dX12_compares_43 rfl ?_
    refine xm_geti dX12_compares_44 lf_X12_189 vmi_29 ?_
    refine x_iconst (v := 1) dX12_compares_47 (by decide) ?_
    refine x_iadd dX12_compares_48 ?_
    refine xm_puti dX12_compares_49 lp_X12_189 vmq_29 vmn_29 vmf_29 ?_
    rw [pS_inc]
    refine x_aload_n dX12_compares_52 rfl rfl ?_
    refine x_cV0 dX12_compares_53 lv_X12_235 mm_obj rfl rfl rfl  (c_X12_sum hR' hk he (show sk b n q + 1 ≤ n by omega) ?_)
    refine ⟨fun q1 ds hok q2 hq2 hsk2 => ?_, fun x' herr w a e' => ?_⟩
    · rw [hok] at hgA
      obtain ⟨g1, g2, g3, g4, g5⟩ := hgA.1 q1 ds rfl
      rw [hok, pBind_ok] at hq
      have h2 := hq.1 q1 _ rfl q2 hq2 hsk2
      rcases hr with hc | hc | hc
      · rw [hc, vl_jn (by unfold isJn; decide) h5 g5, show jn 61 (vl L cs) (vl L ds) = if vl L cs = vl L ds then 1 else 0 from rfl] at h2
        refine x_istore dX12_compares_56 (by decide) ?_
        refine x_iload dX12_compares_58 rfl ?_
        refine x_bipush (v := 61) dX12_compares_60 (by decide) ?_
        refine x_icmp_ne (tgt := 79) dX12_compares_62 (by decide) (fun z => absurd hc z) (fun _ => ?_)
        refine x_iload_n dX12_compares_65 rfl rfl ?_
        refine x_iload dX12_compares_66 rfl ?_
        refine x_icmp_ne (tgt := 75) dX12_compares_68 (by decide) (fun h68 => ?_) (fun h68 => ?_)
        · refine x_iconst (v := 0) dX12_compares_75 (by decide) ?_
          refine x_goto (tgt := 111) dX12_compares_76 (by decide) ?_
          exact x_ireturn dX12_compares_111 rfl rfl (by first | (rw [if_pos (by first | exact h68 | exact Classical.byContradiction h68)] at h2; exact h2) | (rw [if_neg h68] at h2; exact h2))
        · refine x_iconst (v := 1) dX12_compares_71 (by decide) ?_
          refine x_goto (tgt := 111) dX12_compares_72 (by decide) ?_
          exact x_ireturn dX12_compares_111 rfl rfl (by first | (rw [if_pos (by first | exact h68 | exact Classical.byContradiction h68)] at h2; exact h2) | (rw [if_neg h68] at h2; exact h2))
      · rw [hc, vl_jn (by unfold isJn; decide) h5 g5, show jn 60 (vl L cs) (vl L ds) = if vl L cs < vl L ds then 1 else 0 from rfl] at h2
        refine x_istore dX12_compares_56 (by decide) ?_
        refine x_iload dX12_compares_58 rfl ?_
        refine x_bipush (v := 61) dX12_compares_60 (by decide) ?_
        refine x_icmp_ne (tgt := 79) dX12_compares_62 (by decide) (fun _ => ?_) (fun z => absurd z (by rw [hc]; decide))
        refine x_iload dX12_compares_79 rfl ?_
        refine x_bipush (v := 60) dX12_compares_81 (by decide) ?_
        refine x_icmp_ne (tgt := 100) dX12_compares_83 (by decide) (fun z => absurd hc z) (fun _ => ?_)
        refine x_iload_n dX12_compares_86 rfl rfl ?_
        refine x_iload dX12_compares_87 rfl ?_
        refine x_icmp_ge (tgt := 96) dX12_compares_89 (by decide) (fun h89 => ?_) (fun h89 => ?_)
        · refine x_iconst (v := 0) dX12_compares_96 (by decide) ?_
          refine x_goto (tgt := 111) dX12_compares_97 (by decide) ?_
          exact x_ireturn dX12_compares_111 rfl rfl (by first | (rw [if_neg (Int32.not_lt.mpr h89)] at h2; exact h2) | (rw [if_pos (Int32.not_le.mp h89)] at h2; exact h2))
        · refine x_iconst (v := 1) dX12_compares_92 (by decide) ?_
          refine x_goto (tgt := 111) dX12_compares_93 (by decide) ?_
          exact x_ireturn dX12_compares_111 rfl rfl (by first | (rw [if_neg (Int32.not_lt.mpr h89)] at h2; exact h2) | (rw [if_pos (Int32.not_le.mp h89)] at h2; exact h2))
      · rw [hc, vl_jn (by unfold isJn; decide) h5 g5, show jn 62 (vl L cs) (vl L ds) = if vl L ds < vl L cs then 1 else 0 from rfl] at h2
        refine x_istore dX12_compares_56 (by decide) ?_
        refine x_iload dX12_compares_58 rfl ?_
        refine x_bipush (v := 61) dX12_compares_60 (by decide) ?_
        refine x_icmp_ne (tgt := 79) dX12_compares_62 (by decide) (fun _ => ?_) (fun z => absurd z (by rw [hc]; decide))
        refine x_iload dX12_compares_79 rfl ?_
        refine x_bipush (v := 60) dX12_compares_81 (by decide) ?_
        refine x_icmp_ne (tgt := 100) dX12_compares_83 (by decide) (fun _ => ?_) (fun z => absurd z (by rw [hc]; decide))
        refine x_iload_n dX12_compares_100 rfl rfl ?_
        refine x_iload dX12_compares_101 rfl ?_
        refine x_icmp_le (tgt := 110) dX12_compares_103 (by decide) (fun h103 => ?_) (fun h103 => ?_)
        · refine x_iconst (v := 0) dX12_compares_110 (by decide) ?_
          exact x_ireturn dX12_compares_111 rfl rfl (by first | (rw [if_neg (Int32.not_lt.mpr h103)] at h2; exact h2) | (rw [if_pos (Int32.not_le.mp h103)] at h2; exact h2))
        · refine x_iconst (v := 1) dX12_compares_106 (by decide) ?_
          refine x_goto (tgt := 111) dX12_compares_107 (by decide) ?_
          exact x_ireturn dX12_compares_111 rfl rfl (by first | (rw [if_neg (Int32.not_lt.mpr h103)] at h2; exact h2) | (rw [if_pos (Int32.not_le.mp h103)] at h2; exact h2))
    · rw [herr, pBind_er] at hq
      refine x_istore dX12_compares_56 (by decide) ?_
      refine x_iload dX12_compares_58 rfl ?_
      refine x_bipush (v := 61) dX12_compares_60 (by decide) ?_
      refine x_icmp_ne (tgt := 79) dX12_compares_62 (by decide) (fun h62 => ?_) (fun h62 => ?_)
      · refine x_iload dX12_compares_79 rfl ?_
        refine x_bipush (v := 60) dX12_compares_81 (by decide) ?_
        refine x_icmp_ne (tgt := 100) dX12_compares_83 (by decide) (fun h83 => ?_) (fun h83 => ?_)
        · refine x_iload_n dX12_compares_100 rfl rfl ?_
          refine x_iload dX12_compares_101 rfl ?_
          refine x_icmp_le (tgt := 110) dX12_compares_103 (by decide) (fun h103 => ?_) (fun h103 => ?_)
          · refine x_iconst (v := 0) dX12_compares_110 (by decide) ?_
            exact x_ireturn dX12_compares_111 rfl rfl (hq.2 x' rfl _ _ _ (by first | exact v0 | exact v1))
          · refine x_iconst (v := 1) dX12_compares_106 (by decide) ?_
            refine x_goto (tgt := 111) dX12_compares_107 (by decide) ?_
            exact x_ireturn dX12_compares_111 rfl rfl (hq.2 x' rfl _ _ _ (by first | exact v0 | exact v1))
        · refine x_iload_n dX12_compares_86 rfl rfl ?_
          refine x_iload dX12_compares_87 rfl ?_
          refine x_icmp_ge (tgt := 96) dX12_compares_89 (by decide) (fun h89 => ?_) (fun h89 => ?_)
          · refine x_iconst (v := 0) dX12_compares_96 (by decide) ?_
            refine x_goto (tgt := 111) dX12_compares_97 (by decide) ?_
            exact x_ireturn dX12_compares_111 rfl rfl (hq.2 x' rfl _ _ _ (by first | exact v0 | exact v1))
          · refine x_iconst (v := 1) dX12_compares_92 (by decide) ?_
            refine x_goto (tgt := 111) dX12_compares_93 (by decide) ?_
            exact x_ireturn dX12_compares_111 rfl rfl (hq.2 x' rfl _ _ _ (by first | exact v0 | exact v1))
      · refine x_iload_n dX12_compares_65 rfl rfl ?_
        refine x_iload dX12_compares_66 rfl ?_
        refine x_icmp_ne (tgt := 75) dX12_compares_68 (by decide) (fun h68 => ?_) (fun h68 => ?_)
        · refine x_iconst (v := 0) dX12_compares_75 (by decide) ?_
          refine x_goto (tgt := 111) dX12_compares_76 (by decide) ?_
          exact x_ireturn dX12_compares_111 rfl rfl (hq.2 x' rfl _ _ _ (by first | exact v0 | exact v1))
        · refine x_iconst (v := 1) dX12_compares_71 (by decide) ?_
          refine x_goto (tgt := 111) dX12_compares_72 (by decide) ?_
          exact x_ireturn dX12_compares_111 rfl rfl (hq.2 x' rfl _ _ _ (by first | exact v0 | exact v1))
  · rw [if_neg (fun z => hr (sg_rel.mpr z))] at hq
    refine x_aload_n dX12_compares_23 rfl rfl ?_
    refine x_cV0 dX12_compares_24 lv_X12_208 mm_obj rfl rfl rfl  (c_X12_look hi hx hq0 ?_)
    rw [hlk, hsk]
    refine x_istore dX12_compares_27 (by decide) ?_
    refine x_iload dX12_compares_29 rfl ?_
    refine x_cS1 dX12_compares_31 ls_X12_254 rfl  (c_X12_isSign ?_)
    refine x_if_ne_b (tgt := 42) dX12_compares_34 (by decide) (fun z => absurd z hr) (fun _ => ?_)
    refine x_aload_n dX12_compares_37 rfl rfl ?_
    refine x_cV0 dX12_compares_38 lv_X12_204 mm_obj rfl rfl rfl  (c_X12_fails ?_)
    rw [ff_1]
    exact x_ireturn dX12_compares_41 rfl rfl (hq.2 _ rfl _ _ _ v0)
theorem c_compares0 (hR : RdC G ad σ b n L) (hk : k ≤ 6) (he : e = nI (6 - k)) (hp : p ≤ n) (hq : PQb ad σ b n L v h e (pBind (pSum b n k p) (pRel b n (pSum b n k))) Q) : CT G (d + 25) (0, 0) MX12_compares [.ref (ad 99), .int 0, .int 0] (mm ad (pS σ (nI p) (-1) e v h)) Q := by
  refine CT.of rfl (Nat.le_of_ble_eq_true rfl) ?_
  have hn3 := hR.2.1.n31
  have hgA := Gd_sum (b := b) hR.2.2.2.1 k hp
  refine x_iload_n dX12_compares_0 rfl rfl ?_
  refine x_if_eq (tgt := 8) dX12_compares_1 (by decide) (fun _ => ?_) (fun z => absurd rfl z)
  refine x_aload_n dX12_compares_8 rfl rfl ?_
  refine x_cV0 dX12_compares_9 lv_X12_235 mm_obj rfl rfl rfl  (c_X12_sum hR hk he hp ?_)
  refine ⟨fun q1 ds hok q2 hq2 hsk2 => ?_, fun x' herr w a e' => ?_⟩
  · rw [hok] at hgA
    rw [hok, pBind_ok] at hq
    refine x_istore_n dX12_compares_12 rfl (by decide) ?_
    refine x_aload_n dX12_compares_13 rfl rfl ?_
    refine xm_geti dX12_compares_14 lf_X12_198 vmi_30 ?_
    refine x_iconst (v := -1) dX12_compares_17 (by decide) ?_
    refine x_icmp_eq (tgt := 23) dX12_compares_18 (by decide) (fun _ => ?_) (fun z => absurd rfl z)
    refine x_loc _ (?_ : lle _ _) (cmp_23 hR hk he hq2 hsk2 hgA hq)
    exact ⟨rfl, rfl, trivial⟩
  · rw [herr, pBind_er] at hq
    have hne := nI_n1 (x := x') (by have := hgA.2 x' herr; omega)
    refine x_istore_n dX12_compares_12 rfl (by decide) ?_
    refine x_aload_n dX12_compares_13 rfl rfl ?_
    refine xm_geti dX12_compares_14 lf_X12_198 vmi_30 ?_
    refine x_iconst (v := -1) dX12_compares_17 (by decide) ?_
    refine x_icmp_eq (tgt := 23) dX12_compares_18 (by decide) (fun z => absurd z hne) (fun _ => ?_)
    refine x_iconst (v := 0) dX12_compares_21 (by decide) ?_
    exact x_ireturn dX12_compares_22 rfl rfl (hq.2 x' rfl _ _ _ v0)
theorem c_compares1 {q q0 p0 : Nat} {cs : List Int32} (hR : RdC G ad σ b n L) (hk : k ≤ 6) (he : e = nI (6 - k)) (hq0 : q0 ≤ n) (hsk : sk b n q0 = sk b n q) (hg : Gd n L bd6 p0 (.ok (q, cs))) (hq : PQb ad σ b n L v h e (pRel b n (pSum b n k) q cs) Q) : CT G (d + 25) (0, 0) MX12_compares [.ref (ad 99), .int 1, .int (vl L cs)] (mm ad (pS σ (nI q0) (-1) e v h)) Q := by
  refine CT.of rfl (Nat.le_of_ble_eq_true rfl) ?_
  refine x_iload_n dX12_compares_0 rfl rfl ?_
  refine x_if_eq (tgt := 8) dX12_compares_1 (by decide) (fun z => absurd z (by decide)) (fun _ => ?_)
  refine x_iload_n dX12_compares_4 rfl rfl ?_
  refine x_goto (tgt := 12) dX12_compares_5 (by decide) ?_
  refine x_istore_n dX12_compares_12 rfl (by decide) ?_
  refine x_aload_n dX12_compares_13 rfl rfl ?_
  refine xm_geti dX12_compares_14 lf_X12_198 vmi_30 ?_
  refine x_iconst (v := -1) dX12_compares_17 (by decide) ?_
  refine x_icmp_eq (tgt := 23) dX12_compares_18 (by decide) (fun _ => ?_) (fun z => absurd rfl z)
  refine x_loc _ (?_ : lle _ _) (cmp_23 hR hk he hq0 hsk hg hq)
  exact ⟨rfl, rfl, trivial⟩
/-- units and conditions one deeper -/
def UCc (G : Gam) (d : Nat) (ad : Nat → Nat) (σ : MS) (b : Nat → Int32) (n : Nat) (L : Int32 → Int32) (v h e : Int32) (UC : Option ((Nat → PR) × (Nat → PR))) : Prop :=
  (UC = none ∧ e = 6) ∨ ∃ u, UC = some u ∧ ¬ e = 6 ∧ (∀ p, p ≤ n → Gd n L v01 p (u.1 p)) ∧ (∀ p, p ≤ n → Gd n L v01 p (u.2 p)) ∧ (∀ p' Q', p' ≤ n → PQb ad σ b n L v h (e + 1) (u.1 p') Q' → CT G d (0, 0) MX12_unit [.ref (ad 99)] (mm ad (pS σ (nI p') (-1) (e + 1) v h)) Q') ∧ (∀ p' Q', p' ≤ n → PQb ad σ b n L v h (e + 1) (u.2 p') Q' → CT G d (0, 0) MX12_condition [.ref (ad 99), .int 0, .int 0] (mm ad (pS σ (nI p') (-1) (e + 1) v h)) Q')
theorem c_X12_unit1 {UC : Option ((Nat → PR) × (Nat → PR))} (hR : RdC G ad σ b n L) (hk : k ≤ 6) (he : e = nI (6 - k)) (hp : p ≤ n) (hU : UCc G (d + 25) ad σ b n L v h e UC) (hq : PQb ad σ b n L v h e (pUnit1 b n UC (pSum b n k) p) Q) : CT G (d + 26) (0, 0) MX12_unit [.ref (ad 99)] (mm ad (pS σ (nI p) (-1) e v h)) Q := by
  refine CT.of rfl (Nat.le_of_ble_eq_true rfl) ?_
  have hR' := hR
  obtain ⟨hi, hx, -, hbd, -, -, -⟩ := hR
  have hn3 := hx.n31
  have hskn := sk_le (b := b) hp
  unfold pUnit1 at hq
  by_cases h33 : lk b n p = 33
  · rw [if_pos (see_eq.mpr h33)] at hq
    have hlt : sk b n p < n := lk_lt (by rw [h33]; decide)
    rcases hU with ⟨hS1, he6⟩ | ⟨u, hS1, he6, hg1, hg2, hu1, hu2⟩
    · subst hS1
      refine x_aload_n dX12_unit_0 rfl rfl ?_
      refine x_cV0 dX12_unit_1 lv_X12_208 mm_obj rfl rfl rfl  (c_X12_look hi hx hp ?_)
      refine x_istore_n dX12_unit_4 rfl (by decide) ?_
      refine x_iload_n dX12_unit_5 rfl rfl ?_
      refine x_bipush (v := 33) dX12_unit_6 (by decide) ?_
      refine x_icmp_ne (tgt := 45) dX12_unit_8 (by decide) (fun z => absurd h33 z) (fun _ => ?_)
      refine x_aload_n dX12_unit_11 rfl rfl ?_
      refine x_cV0 dX12_unit_12 lv_X12_232 mm_obj rfl rfl rfl  (c_X12_goesIn ?_)
      rw [if_pos he6, if_pos he6, ff_1]
      refine x_if_ne (tgt := 20) dX12_unit_15 (by decide) (fun z => absurd rfl z) (fun _ => ?_)
      refine x_iconst (v := 0) dX12_unit_18 (by decide) ?_
      exact x_ireturn dX12_unit_19 rfl rfl (hq.2 _ rfl 0 _ _ v0)
    · subst hS1
      have hgA := hg1 (sk b n p + 1) (by omega)
      refine x_aload_n dX12_unit_0 rfl rfl ?_
      refine x_cV0 dX12_unit_1 lv_X12_208 mm_obj rfl rfl rfl  (c_X12_look hi hx hp ?_)
      refine x_istore_n dX12_unit_4 rfl (by decide) ?_
      refine x_iload_n dX12_unit_5 rfl rfl ?_
      refine x_bipush (v := 33) dX12_unit_6 (by decide) ?_
      refine x_icmp_ne (tgt := 45) dX12_unit_8 (by decide) (fun z => absurd h33 z) (fun _ => ?_)
      refine x_aload_n dX12_unit_11 rfl rfl ?_
      refine x_cV0 dX12_unit_12 lv_X12_232 mm_obj rfl rfl rfl  (c_X12_goesIn ?_)
      rw [if_neg he6, if_neg he6]
      refine x_if_ne (tgt := 20) dX12_unit_15 (by decide) (fun _ => ?_) (fun z => absurd z (by decide))
      refine x_aload_n dX12_unit_20 rfl rfl ?_
      refine x_cV0 dX12_unit_21 lv_X12_257 mm_obj rfl rfl rfl  (hu1 _ _ (by omega) ?_)
      refine ⟨fun q1 ds hok q2 hq2 hsk2 => ?_, fun x' herr w a e' hw => ?_⟩
      · rw [hok] at hgA
        obtain ⟨g1, g2, g3, g4, g5⟩ := hgA.1 q1 ds rfl
        have hq' := hq
        simp only [hok, pBind_ok] at hq'
        have h2 := hq'.1 q1 _ rfl q2 hq2 hsk2
        have hv : vl L (ds ++ [-33]) = if vl L ds = 0 then 1 else 0 := by
          show (rnL L (ds ++ [-33]) []).headD 0 = _
          rw [rnL_app, g5]
          show (stp L (-33) (vl L ds :: [])).headD 0 = _
          rw [stp_not]; rfl
        rw [hv] at h2
        refine x_istore_n dX12_unit_24 rfl (by decide) ?_
        refine x_aload_n dX12_unit_25 rfl rfl ?_
        refine x_dup dX12_unit_26 rfl ?_
        refine xm_geti dX12_unit_27 lf_X12_201 vmi_31 ?_
        refine x_iconst (v := 1) dX12_unit_30 (by decide) ?_
        refine x_isub dX12_unit_31 ?_
        refine xm_puti dX12_unit_32 lp_X12_201 vmq_31 vmn_31 vmf_31 ?_
        rw [pS_dec]
        refine x_iload_n dX12_unit_35 rfl rfl ?_
        refine x_if_ne (tgt := 43) dX12_unit_36 (by decide) (fun h36 => ?_) (fun h36 => ?_)
        · refine x_iconst (v := 0) dX12_unit_43 (by decide) ?_
          exact x_ireturn dX12_unit_44 rfl rfl (by first | (rw [if_neg h36] at h2; exact h2) | (rw [if_pos h36] at h2; exact h2) | (rw [if_pos (Classical.byContradiction h36)] at h2; exact h2))
        · refine x_iconst (v := 1) dX12_unit_39 (by decide) ?_
          refine x_goto (tgt := 44) dX12_unit_40 (by decide) ?_
          exact x_ireturn dX12_unit_44 rfl rfl (by first | (rw [if_neg h36] at h2; exact h2) | (rw [if_pos h36] at h2; exact h2) | (rw [if_pos (Classical.byContradiction h36)] at h2; exact h2))
      · have hq' := hq
        simp only [herr, pBind_er] at hq'
        refine x_istore_n dX12_unit_24 rfl (by decide) ?_
        refine x_aload_n dX12_unit_25 rfl rfl ?_
        refine x_dup dX12_unit_26 rfl ?_
        refine xm_geti dX12_unit_27 lf_X12_201 vmi_31 ?_
        refine x_iconst (v := 1) dX12_unit_30 (by decide) ?_
        refine x_isub dX12_unit_31 ?_
        refine xm_puti dX12_unit_32 lp_X12_201 vmq_31 vmn_31 vmf_31 ?_
        rw [pS_31]
        refine x_iload_n dX12_unit_35 rfl rfl ?_
        refine x_if_ne (tgt := 43) dX12_unit_36 (by decide) (fun h36 => ?_) (fun h36 => ?_)
        · refine x_iconst (v := 0) dX12_unit_43 (by decide) ?_
          exact x_ireturn dX12_unit_44 rfl rfl (hq'.2 x' rfl _ _ _ (by first | exact v0 | exact v1))
        · refine x_iconst (v := 1) dX12_unit_39 (by decide) ?_
          refine x_goto (tgt := 44) dX12_unit_40 (by decide) ?_
          exact x_ireturn dX12_unit_44 rfl rfl (hq'.2 x' rfl _ _ _ (by first | exact v0 | exact v1))
  · rw [if_neg (fun z => h33 (see_eq.mp z))] at hq
    by_cases h40 : lk b n p = 40
    · rw [if_pos (see_eq.mpr h40)] at hq
      have hlt : sk b n p < n := lk_lt (by rw [h40]; decide)
      rcases hU with ⟨hS1, he6⟩ | ⟨u, hS1, he6, hg1, hg2, hu1, hu2⟩
      · subst hS1
        refine x_aload_n dX12_unit_0 rfl rfl ?_
        refine x_cV0 dX12_unit_1 lv_X12_208 mm_obj rfl rfl rfl  (c_X12_look hi hx hp ?_)
        refine x_istore_n dX12_unit_4 rfl (by decide) ?_
        refine x_iload_n dX12_unit_5 rfl rfl ?_
        refine x_bipush (v := 33) dX12_unit_6 (by decide) ?_
        refine x_icmp_ne (tgt := 45) dX12_unit_8 (by decide) (fun _ => ?_) (fun z => absurd z h33)
        refine x_iload_n dX12_unit_45 rfl rfl ?_
        refine x_bipush (v := 40) dX12_unit_46 (by decide) ?_
        refine x_icmp_ne (tgt := 90) dX12_unit_48 (by decide) (fun z => absurd h40 z) (fun _ => ?_)
        refine x_aload_n dX12_unit_51 rfl rfl ?_
        refine x_cV0 dX12_unit_52 lv_X12_232 mm_obj rfl rfl rfl  (c_X12_goesIn ?_)
        rw [if_pos he6, if_pos he6, ff_1]
        refine x_if_ne (tgt := 60) dX12_unit_55 (by decide) (fun z => absurd rfl z) (fun _ => ?_)
        refine x_iconst (v := 0) dX12_unit_58 (by decide) ?_
        exact x_ireturn dX12_unit_59 rfl rfl (hq.2 _ rfl 0 _ _ v0)
      · subst hS1
        have hgA := hg2 (sk b n p + 1) (by omega)
        refine x_aload_n dX12_unit_0 rfl rfl ?_
        refine x_cV0 dX12_unit_1 lv_X12_208 mm_obj rfl rfl rfl  (c_X12_look hi hx hp ?_)
        refine x_istore_n dX12_unit_4 rfl (by decide) ?_
        refine x_iload_n dX12_unit_5 rfl rfl ?_
        refine x_bipush (v := 33) dX12_unit_6 (by decide) ?_
        refine x_icmp_ne (tgt := 45) dX12_unit_8 (by decide) (fun _ => ?_) (fun z => absurd z h33)
        refine x_iload_n dX12_unit_45 rfl rfl ?_
        refine x_bipush (v := 40) dX12_unit_46 (by decide) ?_
        refine x_icmp_ne (tgt := 90) dX12_unit_48 (by decide) (fun z => absurd h40 z) (fun _ => ?_)
        refine x_aload_n dX12_unit_51 rfl rfl ?_
        refine x_cV0 dX12_unit_52 lv_X12_232 mm_obj rfl rfl rfl  (c_X12_goesIn ?_)
        rw [if_neg he6, if_neg he6]
        refine x_if_ne (tgt := 60) dX12_unit_55 (by decide) (fun _ => ?_) (fun z => absurd z (by decide))
        refine x_aload_n dX12_unit_60 rfl rfl ?_
        refine x_iconst (v := 0) dX12_unit_61 (by decide) ?_
        refine x_iconst (v := 0) dX12_unit_62 (by decide) ?_
        refine x_cV2 dX12_unit_63 lv_X12_260 mm_obj rfl rfl rfl  (hu2 _ _ (by omega) ?_)
        refine ⟨fun q1 ds hok q2 hq2 hsk2 => ?_, fun x' herr w a e' hw => ?_⟩
        · rw [hok] at hgA
          obtain ⟨g1, g2, g3, g4, g5⟩ := hgA.1 q1 ds rfl
          have hq' := hq
          simp only [hok, pBind_ok] at hq'
          unfold pTake at hq'
          have hlk := lk_of hsk2
          refine x_istore_n dX12_unit_66 rfl (by decide) ?_
          refine x_aload_n dX12_unit_67 rfl rfl ?_
          refine x_bipush (v := 41) dX12_unit_68 (by decide) ?_
          refine x_cV1 dX12_unit_70 lv_X12_238 mm_obj rfl rfl rfl  (c_takes1 hi hx hq2 ?_ ?_)
          · intro hl
            rw [hlk] at hl
            rw [if_pos (see_eq.mpr hl)] at hq'
            rw [hsk2]
            refine x_if_ne (tgt := 78) dX12_unit_73 (by decide) (fun _ => ?_) (fun z => absurd z (by decide))
            refine x_aload_n dX12_unit_78 rfl rfl ?_
            refine x_dup dX12_unit_79 rfl ?_
            refine xm_geti dX12_unit_80 lf_X12_201 vmi_31 ?_
            refine x_iconst (v := 1) dX12_unit_83 (by decide) ?_
            refine x_isub dX12_unit_84 ?_
            refine xm_puti dX12_unit_85 lp_X12_201 vmq_31 vmn_31 vmf_31 ?_
            rw [pS_dec]
            refine x_iload_n dX12_unit_88 rfl rfl ?_
            exact x_ireturn dX12_unit_89 rfl (v01_nar g4) (hq'.1 _ _ rfl _ (by have := lk_lt (show ¬ lk b n q1 = -1 by rw [hl]; decide); omega) rfl)
          · intro hl
            rw [hlk] at hl
            rw [if_neg (fun z => hl (see_eq.mp z))] at hq'
            rw [hsk2]
            refine x_if_ne (tgt := 78) dX12_unit_73 (by decide) (fun z => absurd rfl z) (fun _ => ?_)
            refine x_iconst (v := 0) dX12_unit_76 (by decide) ?_
            exact x_ireturn dX12_unit_77 rfl rfl (hq'.2 _ rfl 0 _ _ v0)
        · have hq' := hq
          simp only [herr, pBind_er] at hq'
          have hne := nI_n1 (x := x') (by have := hgA.2 x' herr; omega)
          refine x_istore_n dX12_unit_66 rfl (by decide) ?_
          refine x_aload_n dX12_unit_67 rfl rfl ?_
          refine x_bipush (v := 41) dX12_unit_68 (by decide) ?_
          refine x_cV1 dX12_unit_70 lv_X12_238 mm_obj rfl rfl rfl  (c_takesE hne ?_)
          refine x_if_ne (tgt := 78) dX12_unit_73 (by decide) (fun z => absurd rfl z) (fun _ => ?_)
          refine x_iconst (v := 0) dX12_unit_76 (by decide) ?_
          exact x_ireturn dX12_unit_77 rfl rfl (hq'.2 x' rfl 0 _ _ v0)
    · rw [if_neg (fun z => h40 (see_eq.mp z))] at hq
      rw [← pSum_of (sk_sk hp) k] at hq
      refine x_aload_n dX12_unit_0 rfl rfl ?_
      refine x_cV0 dX12_unit_1 lv_X12_208 mm_obj rfl rfl rfl  (c_X12_look hi hx hp ?_)
      refine x_istore_n dX12_unit_4 rfl (by decide) ?_
      refine x_iload_n dX12_unit_5 rfl rfl ?_
      refine x_bipush (v := 33) dX12_unit_6 (by decide) ?_
      refine x_icmp_ne (tgt := 45) dX12_unit_8 (by decide) (fun _ => ?_) (fun z => absurd z h33)
      refine x_iload_n dX12_unit_45 rfl rfl ?_
      refine x_bipush (v := 40) dX12_unit_46 (by decide) ?_
      refine x_icmp_ne (tgt := 90) dX12_unit_48 (by decide) (fun _ => ?_) (fun z => absurd z h40)
      refine x_aload_n dX12_unit_90 rfl rfl ?_
      refine x_iconst (v := 0) dX12_unit_91 (by decide) ?_
      refine x_iconst (v := 0) dX12_unit_92 (by decide) ?_
      refine x_cV2 dX12_unit_93 lv_X12_264 mm_obj rfl rfl rfl  (c_compares0 hR' hk he hskn ?_)
      refine ⟨fun q1 ds hok q2 hq2 hsk2 => ?_, fun x' herr w a e' hw => ?_⟩
      · have g4 := ((Gd_bind (Gd_sum (b := b) hbd k hskn) (fun q cs hg _ _ => Gd_rel (fun p hp => Gd_sum hbd k hp) hg)).1 q1 ds hok).2.2.2.1
        exact x_ireturn dX12_unit_96 rfl (v01_nar g4) (hq.1 _ _ hok _ hq2 hsk2)
      · exact x_ireturn dX12_unit_96 rfl (v01_nar hw) (hq.2 _ herr _ _ _ hw)
/-- what a part and a condition need of their units -/
def UnC (G : Gam) (d : Nat) (ad : Nat → Nat) (σ : MS) (b : Nat → Int32) (n : Nat) (L : Int32 → Int32) (v h e : Int32) (U : Nat → PR) : Prop :=
  (∀ p, p ≤ n → Gd n L v01 p (U p)) ∧ ∀ p' Q', p' ≤ n → PQb ad σ b n L v h e (U p') Q' → CT G d (0, 0) MX12_unit [.ref (ad 99)] (mm ad (pS σ (nI p') (-1) e v h)) Q'
theorem and_01 {l r : Int32} (hl : v01 l) (hr : v01 r) : jn 38 l r = if l = 0 then 0 else if r = 0 then 0 else 1 := by
  rcases hl with h | h <;> rcases hr with h2 | h2 <;> subst h <;> subst h2 <;> decide
theorem or_01 {l r : Int32} (hl : v01 l) (hr : v01 r) : jn 124 l r = if l = 0 then (if r = 0 then 0 else 1) else 1 := by
  rcases hl with h | h <;> rcases hr with h2 | h2 <;> subst h <;> subst h2 <;> decide
theorem part_loop {U : Nat → PR} (hR : RdC G ad σ b n L) (hU : UnC G (d + 26) ad σ b n L v h e U) : ∀ (f q q0 p0 : Nat) (cs : List Int32), q0 ≤ n → sk b n q0 = sk b n q → Gd n L v01 p0 (.ok (q, cs)) → n ≤ q + f → PQb ad σ b n L v h e (pMore b n U 38 38 f q cs) Q → XJ G (d + 27) (0, 0) MX12_part (mm ad (pS σ (nI q0) (-1) e v h)) [(0, .ref (ad 99)), (3, .int (vl L cs))] [] 18 Q := by
  intro f
  induction f with
  | zero =>
    intro q q0 p0 cs hq0 hsk hg hf hq
    obtain ⟨hi, hx, -, hbd, -, -, -⟩ := hR
    obtain ⟨h1, hqn, h3, h4, h5⟩ := hg.1 q cs rfl
    rcases more_or (A := U) (s := 38) (t := 38) (b := b) (cs := cs) (by decide) (by decide) hqn hf with ⟨hn1, hn2, he⟩ | ⟨f', hf', -⟩
    · rw [he] at hq
      have hlk := lk_of hsk
      refine x_aload_n dX12_part_18 rfl rfl ?_
      refine xm_geti dX12_part_19 lf_X12_198 vmi_30 ?_
      refine x_iconst (v := -1) dX12_part_22 (by decide) ?_
      refine x_icmp_ne (tgt := 69) dX12_part_23 (by decide) (fun z => absurd rfl z) (fun _ => ?_)
      refine x_aload_n dX12_part_26 rfl rfl ?_
      refine x_cV0 dX12_part_27 lv_X12_208 mm_obj rfl rfl rfl  (c_X12_look hi hx hq0 ?_)
      rw [hlk, hsk]
      refine x_bipush (v := 38) dX12_part_30 (by decide) ?_
      refine x_icmp_ne (tgt := 69) dX12_part_32 (by decide) (fun _ => ?_) (fun z => absurd z hn1)
      refine x_iload_n dX12_part_69 rfl rfl ?_
      exact x_ireturn dX12_part_70 rfl (v01_nar h4) (hq.1 q cs rfl _ (sk_le hqn) (sk_sk hqn))
    · exact absurd hf' (by omega)
  | succ f ih =>
    intro q q0 p0 cs hq0 hsk hg hf hq
    have hR' := hR
    obtain ⟨hi, hx, -, hbd, -, -, -⟩ := hR
    have hn3 := hx.n31
    obtain ⟨h1, hqn, h3, h4, h5⟩ := hg.1 q cs rfl
    have hlk := lk_of hsk
    rcases more_or (A := U) (s := 38) (t := 38) (b := b) (cs := cs) (by decide) (by decide) hqn hf with ⟨hn1, hn2, he⟩ | ⟨f', hf', hf2, hst, hlt, he⟩
    · rw [he] at hq
      refine x_aload_n dX12_part_18 rfl rfl ?_
      refine xm_geti dX12_part_19 lf_X12_198 vmi_30 ?_
      refine x_iconst (v := -1) dX12_part_22 (by decide) ?_
      refine x_icmp_ne (tgt := 69) dX12_part_23 (by decide) (fun z => absurd rfl z) (fun _ => ?_)
      refine x_aload_n dX12_part_26 rfl rfl ?_
      refine x_cV0 dX12_part_27 lv_X12_208 mm_obj rfl rfl rfl  (c_X12_look hi hx hq0 ?_)
      rw [hlk, hsk]
      refine x_bipush (v := 38) dX12_part_30 (by decide) ?_
      refine x_icmp_ne (tgt := 69) dX12_part_32 (by decide) (fun _ => ?_) (fun z => absurd z hn1)
      refine x_iload_n dX12_part_69 rfl rfl ?_
      exact x_ireturn dX12_part_70 rfl (v01_nar h4) (hq.1 q cs rfl _ (sk_le hqn) (sk_sk hqn))
    · obtain rfl : f = f' := by omega
      rw [he] at hq
      have hgA := hU.1 (sk b n q + 1) (by omega)
      have hc : lk b n q = 38 := by rcases hst with z | z <;> exact z
      refine x_aload_n dX12_part_18 rfl rfl ?_
      refine xm_geti dX12_part_19 lf_X12_198 vmi_30 ?_
      refine x_iconst (v := -1) dX12_part_22 (by decide) ?_
      refine x_icmp_ne (tgt := 69) dX12_part_23 (by decide) (fun z => absurd rfl z) (fun _ => ?_)
      refine x_aload_n dX12_part_26 rfl rfl ?_
      refine x_cV0 dX12_part_27 lv_X12_208 mm_obj rfl rfl rfl  (c_X12_look hi hx hq0 ?_)
      rw [hlk, hsk]
      refine x_bipush (v := 38) dX12_part_30 (by decide) ?_
      refine x_icmp_ne (tgt := 69) dX12_part_32 (by decide) (fun z => absurd hc z) (fun _ => ?_)
      refine x_aload_n dX12_part_35 rfl rfl ?_
      refine x_dup dX12_part_36 rfl ?_
      refine xm_geti dX12_part_37 lf_X12_189 vmi_29 ?_
      refine x_iconst (v := 1) dX12_part_40 (by decide) ?_
      refine x_iadd dX12_part_41 ?_
      refine xm_puti dX12_part_42 lp_X12_189 vmq_29 vmn_29 vmf_29 ?_
      rw [pS_inc]
      refine x_aload_n dX12_part_45 rfl rfl ?_
      refine x_cV0 dX12_part_46 lv_X12_257 mm_obj rfl rfl rfl  (hU.2 _ _ (show sk b n q + 1 ≤ n by omega) ?_)
      refine ⟨fun q1 ds hok q2 hq2 hsk2 => ?_, fun x' herr w a e' hw => ?_⟩
      · rw [hok] at hgA
        obtain ⟨g1, g2, g3, g4, g5⟩ := hgA.1 q1 ds rfl
        have hJ : isJn (lk b n q) := by rw [hc]; unfold isJn; decide
        rw [hok, pBind_ok] at hq
        have hv : jn 38 (vl L cs) (vl L ds) = vl L (cs ++ ds ++ [-lk b n q]) := by
          rw [vl_jn hJ h5 g5, hc]
        rw [and_01 h4 g4] at hv
        have hih := ih q1 q2 p0 _ hq2 hsk2 (Gd_st hg hgA hJ (by rw [hc]; exact jn_and h4 g4)) (by omega) hq
        rw [← hv] at hih
        refine x_istore dX12_part_49 (by decide) ?_
        refine x_iload_n dX12_part_51 rfl rfl ?_
        refine x_if_eq (tgt := 64) dX12_part_52 (by decide) (fun h52 => ?_) (fun h52 => ?_)
        · refine x_iconst (v := 0) dX12_part_64 (by decide) ?_
          refine x_istore_n dX12_part_65 rfl (by decide) ?_
          refine x_goto (tgt := 18) dX12_part_66 (by decide) ?_
          refine x_loc _ (?_ : lle _ _) hih
          refine ⟨rfl, ?_, trivial⟩
          show some (Value.int _) = some (Value.int _)
          first
          | rw [if_pos h52]
          | rw [if_neg h52, if_pos h57]
          | rw [if_neg h52, if_neg h57]
        · refine x_iload dX12_part_55 rfl ?_
          refine x_if_eq (tgt := 64) dX12_part_57 (by decide) (fun h57 => ?_) (fun h57 => ?_)
          · refine x_iconst (v := 0) dX12_part_64 (by decide) ?_
            refine x_istore_n dX12_part_65 rfl (by decide) ?_
            refine x_goto (tgt := 18) dX12_part_66 (by decide) ?_
            refine x_loc _ (?_ : lle _ _) hih
            refine ⟨rfl, ?_, trivial⟩
            show some (Value.int _) = some (Value.int _)
            first
            | rw [if_pos h52]
            | rw [if_neg h52, if_pos h57]
            | rw [if_neg h52, if_neg h57]
          · refine x_iconst (v := 1) dX12_part_60 (by decide) ?_
            refine x_goto (tgt := 65) dX12_part_61 (by decide) ?_
            refine x_istore_n dX12_part_65 rfl (by decide) ?_
            refine x_goto (tgt := 18) dX12_part_66 (by decide) ?_
            refine x_loc _ (?_ : lle _ _) hih
            refine ⟨rfl, ?_, trivial⟩
            show some (Value.int _) = some (Value.int _)
            first
            | rw [if_pos h52]
            | rw [if_neg h52, if_pos h57]
            | rw [if_neg h52, if_neg h57]
      · rw [herr, pBind_er] at hq
        have hne := nI_n1 (x := x') (by have := hgA.2 x' herr; omega)
        refine x_istore dX12_part_49 (by decide) ?_
        refine x_iload_n dX12_part_51 rfl rfl ?_
        refine x_if_eq (tgt := 64) dX12_part_52 (by decide) (fun h52 => ?_) (fun h52 => ?_)
        · refine x_iconst (v := 0) dX12_part_64 (by decide) ?_
          refine x_istore_n dX12_part_65 rfl (by decide) ?_
          refine x_goto (tgt := 18) dX12_part_66 (by decide) ?_
          refine x_aload_n dX12_part_18 rfl rfl ?_
          refine xm_geti dX12_part_19 lf_X12_198 vmi_30 ?_
          refine x_iconst (v := -1) dX12_part_22 (by decide) ?_
          refine x_icmp_ne (tgt := 69) dX12_part_23 (by decide) (fun _ => ?_) (fun z => absurd z hne)
          refine x_iload_n dX12_part_69 rfl rfl ?_
          exact x_ireturn dX12_part_70 rfl rfl (hq.2 x' rfl _ _ _ (by first | exact v0 | exact v1))
        · refine x_iload dX12_part_55 rfl ?_
          refine x_if_eq (tgt := 64) dX12_part_57 (by decide) (fun h57 => ?_) (fun h57 => ?_)
          · refine x_iconst (v := 0) dX12_part_64 (by decide) ?_
            refine x_istore_n dX12_part_65 rfl (by decide) ?_
            refine x_goto (tgt := 18) dX12_part_66 (by decide) ?_
            refine x_aload_n dX12_part_18 rfl rfl ?_
            refine xm_geti dX12_part_19 lf_X12_198 vmi_30 ?_
            refine x_iconst (v := -1) dX12_part_22 (by decide) ?_
            refine x_icmp_ne (tgt := 69) dX12_part_23 (by decide) (fun _ => ?_) (fun z => absurd z hne)
            refine x_iload_n dX12_part_69 rfl rfl ?_
            exact x_ireturn dX12_part_70 rfl rfl (hq.2 x' rfl _ _ _ (by first | exact v0 | exact v1))
          · refine x_iconst (v := 1) dX12_part_60 (by decide) ?_
            refine x_goto (tgt := 65) dX12_part_61 (by decide) ?_
            refine x_istore_n dX12_part_65 rfl (by decide) ?_
            refine x_goto (tgt := 18) dX12_part_66 (by decide) ?_
            refine x_aload_n dX12_part_18 rfl rfl ?_
            refine xm_geti dX12_part_19 lf_X12_198 vmi_30 ?_
            refine x_iconst (v := -1) dX12_part_22 (by decide) ?_
            refine x_icmp_ne (tgt := 69) dX12_part_23 (by decide) (fun _ => ?_) (fun z => absurd z hne)
            refine x_iload_n dX12_part_69 rfl rfl ?_
            exact x_ireturn dX12_part_70 rfl rfl (hq.2 x' rfl _ _ _ (by first | exact v0 | exact v1))
theorem c_part0 {U : Nat → PR} (hR : RdC G ad σ b n L) (hU : UnC G (d + 26) ad σ b n L v h e U) (hp : p ≤ n) (hq : PQb ad σ b n L v h e (pPart1 b n U p) Q) : CT G (d + 27) (0, 0) MX12_part [.ref (ad 99), .int 0, .int 0] (mm ad (pS σ (nI p) (-1) e v h)) Q := by
  refine CT.of rfl (Nat.le_of_ble_eq_true rfl) ?_
  have hn3 := hR.2.1.n31
  have hgA := hU.1 p hp
  unfold pPart1 at hq
  refine x_iload_n dX12_part_0 rfl rfl ?_
  refine x_if_eq (tgt := 13) dX12_part_1 (by decide) (fun _ => ?_) (fun z => absurd rfl z)
  refine x_aload_n dX12_part_13 rfl rfl ?_
  refine x_cV0 dX12_part_14 lv_X12_257 mm_obj rfl rfl rfl  (hU.2 _ _ hp ?_)
  refine ⟨fun q1 ds hok q2 hq2 hsk2 => ?_, fun x' herr w a e' hw => ?_⟩
  · rw [hok] at hgA
    rw [hok, pBind_ok] at hq
    refine x_istore_n dX12_part_17 rfl (by decide) ?_
    refine x_loc _ (?_ : lle _ _) (part_loop hR hU n q1 q2 p ds hq2 hsk2 hgA (by omega) hq)
    exact ⟨rfl, rfl, trivial⟩
  · rw [herr, pBind_er] at hq
    have hne := nI_n1 (x := x') (by have := hgA.2 x' herr; omega)
    refine x_istore_n dX12_part_17 rfl (by decide) ?_
    refine x_aload_n dX12_part_18 rfl rfl ?_
    refine xm_geti dX12_part_19 lf_X12_198 vmi_30 ?_
    refine x_iconst (v := -1) dX12_part_22 (by decide) ?_
    refine x_icmp_ne (tgt := 69) dX12_part_23 (by decide) (fun _ => ?_) (fun z => absurd z hne)
    refine x_iload_n dX12_part_69 rfl rfl ?_
    exact x_ireturn dX12_part_70 rfl (v01_nar hw) (hq.2 x' rfl _ _ _ hw)
theorem c_part1 {U : Nat → PR} {q q0 p0 : Nat} {cs : List Int32} (hR : RdC G ad σ b n L) (hU : UnC G (d + 26) ad σ b n L v h e U) (hk : k ≤ 6) (he : e = nI (6 - k)) (hq0 : q0 ≤ n) (hsk : sk b n q0 = sk b n q) (hg : Gd n L bd6 p0 (.ok (q, cs))) (hq : PQb ad σ b n L v h e (pBind (pRel b n (pSum b n k) q cs) (pUnits b n U)) Q) : CT G (d + 27) (0, 0) MX12_part [.ref (ad 99), .int 1, .int (vl L cs)] (mm ad (pS σ (nI q0) (-1) e v h)) Q := by
  refine CT.of rfl (Nat.le_of_ble_eq_true rfl) ?_
  have hn3 := hR.2.1.n31
  have hgA := Gd_rel (b := b) (S := pSum b n k) (fun p hp => Gd_sum (b := b) hR.2.2.2.1 k hp) hg
  refine x_iload_n dX12_part_0 rfl rfl ?_
  refine x_if_eq (tgt := 13) dX12_part_1 (by decide) (fun z => absurd z (by decide)) (fun _ => ?_)
  refine x_aload_n dX12_part_4 rfl rfl ?_
  refine x_iconst (v := 1) dX12_part_5 (by decide) ?_
  refine x_iload_n dX12_part_6 rfl rfl ?_
  refine x_cV2 dX12_part_7 lv_X12_264 mm_obj rfl rfl rfl  (c_compares1 hR hk he hq0 hsk hg ?_)
  refine ⟨fun q1 ds hok q2 hq2 hsk2 => ?_, fun x' herr w a e' hw => ?_⟩
  · rw [hok] at hgA
    rw [hok, pBind_ok] at hq
    have hq10 := (hgA.1 q1 ds rfl).2.1
    refine x_goto (tgt := 17) dX12_part_10 (by decide) ?_
    refine x_istore_n dX12_part_17 rfl (by decide) ?_
    refine x_loc _ (?_ : lle _ _) (part_loop hR hU n q1 q2 p0 ds hq2 hsk2 hgA (by omega) hq)
    exact ⟨rfl, rfl, trivial⟩
  · rw [herr, pBind_er] at hq
    have hne := nI_n1 (x := x') (by have := hgA.2 x' herr; omega)
    refine x_goto (tgt := 17) dX12_part_10 (by decide) ?_
    refine x_istore_n dX12_part_17 rfl (by decide) ?_
    refine x_aload_n dX12_part_18 rfl rfl ?_
    refine xm_geti dX12_part_19 lf_X12_198 vmi_30 ?_
    refine x_iconst (v := -1) dX12_part_22 (by decide) ?_
    refine x_icmp_ne (tgt := 69) dX12_part_23 (by decide) (fun _ => ?_) (fun z => absurd z hne)
    refine x_iload_n dX12_part_69 rfl rfl ?_
    exact x_ireturn dX12_part_70 rfl (v01_nar hw) (hq.2 x' rfl _ _ _ hw)
theorem cond_loop {U : Nat → PR} (hR : RdC G ad σ b n L) (hU : UnC G (d + 26) ad σ b n L v h e U) : ∀ (f q q0 p0 : Nat) (cs : List Int32), q0 ≤ n → sk b n q0 = sk b n q → Gd n L v01 p0 (.ok (q, cs)) → n ≤ q + f → PQb ad σ b n L v h e (pMore b n (pPart1 b n U) 124 124 f q cs) Q → XJ G (d + 28) (0, 0) MX12_condition (mm ad (pS σ (nI q0) (-1) e v h)) [(0, .ref (ad 99)), (3, .int (vl L cs))] [] 7 Q := by
  intro f
  induction f with
  | zero =>
    intro q q0 p0 cs hq0 hsk hg hf hq
    obtain ⟨hi, hx, -, hbd, -, -, -⟩ := hR
    obtain ⟨h1, hqn, h3, h4, h5⟩ := hg.1 q cs rfl
    rcases more_or (A := pPart1 b n U) (s := 124) (t := 124) (b := b) (cs := cs) (by decide) (by decide) hqn hf with ⟨hn1, hn2, he⟩ | ⟨f', hf', -⟩
    · rw [he] at hq
      have hlk := lk_of hsk
      refine x_aload_n dX12_condition_7 rfl rfl ?_
      refine xm_geti dX12_condition_8 lf_X12_198 vmi_30 ?_
      refine x_iconst (v := -1) dX12_condition_11 (by decide) ?_
      refine x_icmp_ne (tgt := 60) dX12_condition_12 (by decide) (fun z => absurd rfl z) (fun _ => ?_)
      refine x_aload_n dX12_condition_15 rfl rfl ?_
      refine x_cV0 dX12_condition_16 lv_X12_208 mm_obj rfl rfl rfl  (c_X12_look hi hx hq0 ?_)
      rw [hlk, hsk]
      refine x_bipush (v := 124) dX12_condition_19 (by decide) ?_
      refine x_icmp_ne (tgt := 60) dX12_condition_21 (by decide) (fun _ => ?_) (fun z => absurd z hn1)
      refine x_iload_n dX12_condition_60 rfl rfl ?_
      exact x_ireturn dX12_condition_61 rfl (v01_nar h4) (hq.1 q cs rfl _ (sk_le hqn) (sk_sk hqn))
    · exact absurd hf' (by omega)
  | succ f ih =>
    intro q q0 p0 cs hq0 hsk hg hf hq
    have hR' := hR
    obtain ⟨hi, hx, -, hbd, -, -, -⟩ := hR
    have hn3 := hx.n31
    obtain ⟨h1, hqn, h3, h4, h5⟩ := hg.1 q cs rfl
    have hlk := lk_of hsk
    rcases more_or (A := pPart1 b n U) (s := 124) (t := 124) (b := b) (cs := cs) (by decide) (by decide) hqn hf with ⟨hn1, hn2, he⟩ | ⟨f', hf', hf2, hst, hlt, he⟩
    · rw [he] at hq
      refine x_aload_n dX12_condition_7 rfl rfl ?_
      refine xm_geti dX12_condition_8 lf_X12_198 vmi_30 ?_
      refine x_iconst (v := -1) dX12_condition_11 (by decide) ?_
      refine x_icmp_ne (tgt := 60) dX12_condition_12 (by decide) (fun z => absurd rfl z) (fun _ => ?_)
      refine x_aload_n dX12_condition_15 rfl rfl ?_
      refine x_cV0 dX12_condition_16 lv_X12_208 mm_obj rfl rfl rfl  (c_X12_look hi hx hq0 ?_)
      rw [hlk, hsk]
      refine x_bipush (v := 124) dX12_condition_19 (by decide) ?_
      refine x_icmp_ne (tgt := 60) dX12_condition_21 (by decide) (fun _ => ?_) (fun z => absurd z hn1)
      refine x_iload_n dX12_condition_60 rfl rfl ?_
      exact x_ireturn dX12_condition_61 rfl (v01_nar h4) (hq.1 q cs rfl _ (sk_le hqn) (sk_sk hqn))
    · obtain rfl : f = f' := by omega
      rw [he] at hq
      have hgA := Gd_part1 (b := b) hU.1 (show sk b n q + 1 ≤ n by omega)
      have hc : lk b n q = 124 := by rcases hst with z | z <;> exact z
      refine x_aload_n dX12_condition_7 rfl rfl ?_
      refine xm_geti dX12_condition_8 lf_X12_198 vmi_30 ?_
      refine x_iconst (v := -1) dX12_condition_11 (by decide) ?_
      refine x_icmp_ne (tgt := 60) dX12_condition_12 (by decide) (fun z => absurd rfl z) (fun _ => ?_)
      refine x_aload_n dX12_condition_15 rfl rfl ?_
      refine x_cV0 dX12_condition_16 lv_X12_208 mm_obj rfl rfl rfl  (c_X12_look hi hx hq0 ?_)
      rw [hlk, hsk]
      refine x_bipush (v := 124) dX12_condition_19 (by decide) ?_
      refine x_icmp_ne (tgt := 60) dX12_condition_21 (by decide) (fun z => absurd hc z) (fun _ => ?_)
      refine x_aload_n dX12_condition_24 rfl rfl ?_
      refine x_dup dX12_condition_25 rfl ?_
      refine xm_geti dX12_condition_26 lf_X12_189 vmi_29 ?_
      refine x_iconst (v := 1) dX12_condition_29 (by decide) ?_
      refine x_iadd dX12_condition_30 ?_
      refine xm_puti dX12_condition_31 lp_X12_189 vmq_29 vmn_29 vmf_29 ?_
      rw [pS_inc]
      refine x_aload_n dX12_condition_34 rfl rfl ?_
      refine x_iconst (v := 0) dX12_condition_35 (by decide) ?_
      refine x_iconst (v := 0) dX12_condition_36 (by decide) ?_
      refine x_cV2 dX12_condition_37 lv_X12_267 mm_obj rfl rfl rfl  (c_part0 hR' hU (show sk b n q + 1 ≤ n by omega) ?_)
      refine ⟨fun q1 ds hok q2 hq2 hsk2 => ?_, fun x' herr w a e' hw => ?_⟩
      · rw [hok] at hgA
        obtain ⟨g1, g2, g3, g4, g5⟩ := hgA.1 q1 ds rfl
        have hJ : isJn (lk b n q) := by rw [hc]; unfold isJn; decide
        rw [hok, pBind_ok] at hq
        have hv : jn 124 (vl L cs) (vl L ds) = vl L (cs ++ ds ++ [-lk b n q]) := by
          rw [vl_jn hJ h5 g5, hc]
        rw [or_01 h4 g4] at hv
        have hih := ih q1 q2 p0 _ hq2 hsk2 (Gd_st hg hgA hJ (by rw [hc]; exact jn_or h4 g4)) (by omega) hq
        rw [← hv] at hih
        refine x_istore dX12_condition_40 (by decide) ?_
        refine x_iload_n dX12_condition_42 rfl rfl ?_
        refine x_if_ne (tgt := 51) dX12_condition_43 (by decide) (fun h43 => ?_) (fun h43 => ?_)
        · refine x_iconst (v := 1) dX12_condition_51 (by decide) ?_
          refine x_goto (tgt := 56) dX12_condition_52 (by decide) ?_
          refine x_istore_n dX12_condition_56 rfl (by decide) ?_
          refine x_goto (tgt := 7) dX12_condition_57 (by decide) ?_
          refine x_loc _ (?_ : lle _ _) hih
          refine ⟨rfl, ?_, trivial⟩
          show some (Value.int _) = some (Value.int _)
          first
          | rw [if_neg h43]
          | rw [if_pos h43, if_pos h48]
          | rw [if_pos h43, if_neg h48]
          | rw [if_pos (Classical.byContradiction h43), if_pos h48]
          | rw [if_pos (Classical.byContradiction h43), if_neg h48]
        · refine x_iload dX12_condition_46 rfl ?_
          refine x_if_eq (tgt := 55) dX12_condition_48 (by decide) (fun h48 => ?_) (fun h48 => ?_)
          · refine x_iconst (v := 0) dX12_condition_55 (by decide) ?_
            refine x_istore_n dX12_condition_56 rfl (by decide) ?_
            refine x_goto (tgt := 7) dX12_condition_57 (by decide) ?_
            refine x_loc _ (?_ : lle _ _) hih
            refine ⟨rfl, ?_, trivial⟩
            show some (Value.int _) = some (Value.int _)
            first
            | rw [if_neg h43]
            | rw [if_pos h43, if_pos h48]
            | rw [if_pos h43, if_neg h48]
            | rw [if_pos (Classical.byContradiction h43), if_pos h48]
            | rw [if_pos (Classical.byContradiction h43), if_neg h48]
          · refine x_iconst (v := 1) dX12_condition_51 (by decide) ?_
            refine x_goto (tgt := 56) dX12_condition_52 (by decide) ?_
            refine x_istore_n dX12_condition_56 rfl (by decide) ?_
            refine x_goto (tgt := 7) dX12_condition_57 (by decide) ?_
            refine x_loc _ (?_ : lle _ _) hih
            refine ⟨rfl, ?_, trivial⟩
            show some (Value.int _) = some (Value.int _)
            first
            | rw [if_neg h43]
            | rw [if_pos h43, if_pos h48]
            | rw [if_pos h43, if_neg h48]
            | rw [if_pos (Classical.byContradiction h43), if_pos h48]
            | rw [if_pos (Classical.byContradiction h43), if_neg h48]
      · rw [herr, pBind_er] at hq
        have hne := nI_n1 (x := x') (by have := hgA.2 x' herr; omega)
        refine x_istore dX12_condition_40 (by decide) ?_
        refine x_iload_n dX12_condition_42 rfl rfl ?_
        refine x_if_ne (tgt := 51) dX12_condition_43 (by decide) (fun h43 => ?_) (fun h43 => ?_)
        · refine x_iconst (v := 1) dX12_condition_51 (by decide) ?_
          refine x_goto (tgt := 56) dX12_condition_52 (by decide) ?_
          refine x_istore_n dX12_condition_56 rfl (by decide) ?_
          refine x_goto (tgt := 7) dX12_condition_57 (by decide) ?_
          refine x_aload_n dX12_condition_7 rfl rfl ?_
          refine xm_geti dX12_condition_8 lf_X12_198 vmi_30 ?_
          refine x_iconst (v := -1) dX12_condition_11 (by decide) ?_
          refine x_icmp_ne (tgt := 60) dX12_condition_12 (by decide) (fun _ => ?_) (fun z => absurd z hne)
          refine x_iload_n dX12_condition_60 rfl rfl ?_
          exact x_ireturn dX12_condition_61 rfl rfl (hq.2 x' rfl _ _ _ (by first | exact v0 | exact v1))
        · refine x_iload dX12_condition_46 rfl ?_
          refine x_if_eq (tgt := 55) dX12_condition_48 (by decide) (fun h48 => ?_) (fun h48 => ?_)
          · refine x_iconst (v := 0) dX12_condition_55 (by decide) ?_
            refine x_istore_n dX12_condition_56 rfl (by decide) ?_
            refine x_goto (tgt := 7) dX12_condition_57 (by decide) ?_
            refine x_aload_n dX12_condition_7 rfl rfl ?_
            refine xm_geti dX12_condition_8 lf_X12_198 vmi_30 ?_
            refine x_iconst (v := -1) dX12_condition_11 (by decide) ?_
            refine x_icmp_ne (tgt := 60) dX12_condition_12 (by decide) (fun _ => ?_) (fun z => absurd z hne)
            refine x_iload_n dX12_condition_60 rfl rfl ?_
            exact x_ireturn dX12_condition_61 rfl rfl (hq.2 x' rfl _ _ _ (by first | exact v0 | exact v1))
          · refine x_iconst (v := 1) dX12_condition_51 (by decide) ?_
            refine x_goto (tgt := 56) dX12_condition_52 (by decide) ?_
            refine x_istore_n dX12_condition_56 rfl (by decide) ?_
            refine x_goto (tgt := 7) dX12_condition_57 (by decide) ?_
            refine x_aload_n dX12_condition_7 rfl rfl ?_
            refine xm_geti dX12_condition_8 lf_X12_198 vmi_30 ?_
            refine x_iconst (v := -1) dX12_condition_11 (by decide) ?_
            refine x_icmp_ne (tgt := 60) dX12_condition_12 (by decide) (fun _ => ?_) (fun z => absurd z hne)
            refine x_iload_n dX12_condition_60 rfl rfl ?_
            exact x_ireturn dX12_condition_61 rfl rfl (hq.2 x' rfl _ _ _ (by first | exact v0 | exact v1))
theorem c_cond0 {U : Nat → PR} (hR : RdC G ad σ b n L) (hU : UnC G (d + 26) ad σ b n L v h e U) (hp : p ≤ n) (hq : PQb ad σ b n L v h e (pCond1 b n U p) Q) : CT G (d + 28) (0, 0) MX12_condition [.ref (ad 99), .int 0, .int 0] (mm ad (pS σ (nI p) (-1) e v h)) Q := by
  refine CT.of rfl (Nat.le_of_ble_eq_true rfl) ?_
  have hn3 := hR.2.1.n31
  have hgA := Gd_part1 (b := b) hU.1 hp
  unfold pCond1 at hq
  refine x_aload_n dX12_condition_0 rfl rfl ?_
  refine x_iload_n dX12_condition_1 rfl rfl ?_
  refine x_iload_n dX12_condition_2 rfl rfl ?_
  refine x_cV2 dX12_condition_3 lv_X12_267 mm_obj rfl rfl rfl  (c_part0 hR hU hp ?_)
  refine ⟨fun q1 ds hok q2 hq2 hsk2 => ?_, fun x' herr w a e' hw => ?_⟩
  · rw [hok] at hgA
    rw [hok, pBind_ok] at hq
    refine x_istore_n dX12_condition_6 rfl (by decide) ?_
    refine x_loc _ (?_ : lle _ _) (cond_loop hR hU n q1 q2 p ds hq2 hsk2 hgA (by omega) hq)
    exact ⟨rfl, rfl, trivial⟩
  · rw [herr, pBind_er] at hq
    have hne := nI_n1 (x := x') (by have := hgA.2 x' herr; omega)
    refine x_istore_n dX12_condition_6 rfl (by decide) ?_
    refine x_aload_n dX12_condition_7 rfl rfl ?_
    refine xm_geti dX12_condition_8 lf_X12_198 vmi_30 ?_
    refine x_iconst (v := -1) dX12_condition_11 (by decide) ?_
    refine x_icmp_ne (tgt := 60) dX12_condition_12 (by decide) (fun _ => ?_) (fun z => absurd z hne)
    refine x_iload_n dX12_condition_60 rfl rfl ?_
    exact x_ireturn dX12_condition_61 rfl (v01_nar hw) (hq.2 x' rfl _ _ _ hw)
theorem c_cond1 {U : Nat → PR} {q q0 p0 : Nat} {cs : List Int32} (hR : RdC G ad σ b n L) (hU : UnC G (d + 26) ad σ b n L v h e U) (hk : k ≤ 6) (he : e = nI (6 - k)) (hq0 : q0 ≤ n) (hsk : sk b n q0 = sk b n q) (hg : Gd n L bd6 p0 (.ok (q, cs))) (hq : PQb ad σ b n L v h e (pBind (pBind (pRel b n (pSum b n k) q cs) (pUnits b n U)) (pParts b n U)) Q) : CT G (d + 28) (0, 0) MX12_condition [.ref (ad 99), .int 1, .int (vl L cs)] (mm ad (pS σ (nI q0) (-1) e v h)) Q := by
  refine CT.of rfl (Nat.le_of_ble_eq_true rfl) ?_
  have hn3 := hR.2.1.n31
  have hgA := Gd_bind (Gd_rel (b := b) (S := pSum b n k) (fun p hp => Gd_sum (b := b) hR.2.2.2.1 k hp) hg) (fun q cs hg _ _ => Gd_units (b := b) hU.1 hg)
  refine x_aload_n dX12_condition_0 rfl rfl ?_
  refine x_iload_n dX12_condition_1 rfl rfl ?_
  refine x_iload_n dX12_condition_2 rfl rfl ?_
  refine x_cV2 dX12_condition_3 lv_X12_267 mm_obj rfl rfl rfl  (c_part1 hR hU hk he hq0 hsk hg ?_)
  refine ⟨fun q1 ds hok q2 hq2 hsk2 => ?_, fun x' herr w a e' hw => ?_⟩
  · rw [hok] at hgA
    rw [hok, pBind_ok] at hq
    have hq10 := (hgA.1 q1 ds rfl).2.1
    refine x_istore_n dX12_condition_6 rfl (by decide) ?_
    refine x_loc _ (?_ : lle _ _) (cond_loop hR hU n q1 q2 p0 ds hq2 hsk2 hgA (by omega) hq)
    exact ⟨rfl, rfl, trivial⟩
  · rw [herr, pBind_er] at hq
    have hne := nI_n1 (x := x') (by have := hgA.2 x' herr; omega)
    refine x_istore_n dX12_condition_6 rfl (by decide) ?_
    refine x_aload_n dX12_condition_7 rfl rfl ?_
    refine xm_geti dX12_condition_8 lf_X12_198 vmi_30 ?_
    refine x_iconst (v := -1) dX12_condition_11 (by decide) ?_
    refine x_icmp_ne (tgt := 60) dX12_condition_12 (by decide) (fun _ => ?_) (fun z => absurd z hne)
    refine x_iload_n dX12_condition_60 rfl rfl ?_
    exact x_ireturn dX12_condition_61 rfl (v01_nar hw) (hq.2 x' rfl _ _ _ hw)
theorem UCk (hR : RdC G ad σ b n L) : ∀ (k d : Nat) (e : Int32), k ≤ 6 → e = nI (6 - k) → UnC G (d + 3 * k + 26) ad σ b n L v h e (pUC b n k).1
  | 0, d, e, hk, he => by
    refine ⟨(Gd_UC (b := b) hR.2.2.2.1 0).1, fun p' Q' hp' hq' => ?_⟩
    rw [pUC_0] at hq'
    exact c_X12_unit1 hR hk he hp' (Or.inl ⟨rfl, he⟩) hq'
  | k + 1, d, e, hk, he => by
    have he6 : ¬ e = 6 := by
      intro z
      rw [he] at z
      have := (nI_eq (a := 6 - (k + 1)) (b := 6) (by omega) (by decide)).mp z
      omega
    have he1 : e + 1 = nI (6 - k) := by rw [he, nI_1, show 6 - (k + 1) + 1 = 6 - k by omega]
    have ih := fun d => UCk hR k d (e + 1) (by omega) he1
    refine ⟨(Gd_UC (b := b) hR.2.2.2.1 (k + 1)).1, fun p' Q' hp' hq' => ?_⟩
    rw [pUC_s] at hq'
    refine c_X12_unit1 (d := d + 3 * (k + 1)) hR hk he hp' (Or.inr ⟨pUC b n k, rfl, he6, (Gd_UC (b := b) hR.2.2.2.1 k).1, (Gd_UC (b := b) hR.2.2.2.1 k).2, fun p2 Q2 hp2 hq2 => ?_, fun p2 Q2 hp2 hq2 => ?_⟩) hq'
    · have := (ih (d + 2)).2 p2 Q2 hp2 hq2
      rw [show d + 2 + 3 * k + 26 = d + 3 * (k + 1) + 25 by omega] at this
      exact this
    · rw [pUC2_eq] at hq2
      have := c_cond0 (d := d + 3 * k) hR (ih d) hp2 hq2
      rw [show d + 3 * k + 28 = d + 3 * (k + 1) + 25 by omega] at this
      exact this
theorem UC6 (hR : RdC G ad σ b n L) (d : Nat) : UnC G (d + 44) ad σ b n L v h 0 (pUC b n 6).1 := UCk hR 6 d 0 (Nat.le_refl _) rfl
end MDQ
