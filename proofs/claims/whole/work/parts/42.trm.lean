/-! the model's methods, 15: terms and sums -/
theorem pBind_ok {q : Nat} {cs : List Int32} {f : Nat → List Int32 → PR} : pBind (.ok (q, cs)) f = f q cs := rfl
theorem pBind_er {e : Nat} {f : Nat → List Int32 → PR} : pBind (.error e) f = .error e := rfl
section PU2
variable {b : Nat → Int32} {n : Nat} {L : Int32 → Int32}
theorem vl_jn {c : Int32} {cs ds : List Int32} (hc : isJn c) (h1 : ∀ st, rnL L cs st = vl L cs :: st) (h2 : ∀ st, rnL L ds st = vl L ds :: st) : vl L (cs ++ ds ++ [-c]) = jn c (vl L cs) (vl L ds) := by
  have : rnL L (cs ++ ds ++ [-c]) [] = [jn c (vl L cs) (vl L ds)] := by
    rw [rnL_app, rnL_app, h1, h2]
    exact stp_jn L hc _ _ _
  show (rnL L (cs ++ ds ++ [-c]) []).headD 0 = _
  rw [this]; rfl
theorem Gd_st {V : Int32 → Prop} {p q q1 : Nat} {cs ds : List Int32} {c : Int32} (h : Gd n L V p (.ok (q, cs))) (hd : Gd n L V (sk b n q + 1) (.ok (q1, ds))) (hJ : isJn c) (hV : V (jn c (vl L cs) (vl L ds))) : Gd n L V p (.ok (q1, cs ++ ds ++ [-c])) := by
  obtain ⟨h1, h2, h3, h4, h5⟩ := h.1 q cs rfl
  obtain ⟨g1, g2, g3, g4, g5⟩ := hd.1 q1 ds rfl
  have hge := sk_ge (b := b) (n := n) (p := q)
  refine Gd_ok (w := jn c (vl L cs) (vl L ds)) ?_ g2 ?_ hV ?_
  · rw [List.length_append, List.length_append, List.length_singleton]; omega
  · intro x hx
    rcases List.mem_append.mp hx with hx | hx
    · rcases List.mem_append.mp hx with hx | hx
      · exact h3 x hx
      · exact g3 x hx
    · rw [List.mem_singleton.mp hx]; exact okc_jn hJ
  · intro st
    rw [rnL_app, rnL_app, h5, g5]
    exact stp_jn L hJ _ _ _
theorem more_or {A : Nat → PR} {s t : Int32} (hs : ¬ s = -1) (ht : ¬ t = -1) {f q : Nat} {cs : List Int32} (hq : q ≤ n) (hf : n ≤ q + f) :
    (¬ lk b n q = s ∧ ¬ lk b n q = t ∧ pMore b n A s t f q cs = .ok (q, cs)) ∨ ∃ f', f = f' + 1 ∧ n ≤ sk b n q + 1 + f' ∧ (lk b n q = s ∨ lk b n q = t) ∧ sk b n q < n ∧ pMore b n A s t f q cs = pBind (A (sk b n q + 1)) (fun q' ds => pMore b n A s t f' q' (cs ++ ds ++ [-lk b n q])) := by
  cases f with
  | zero =>
    have e : q = n := by omega
    subst e
    have e2 : lk b q q = -1 := by unfold lk; rw [sk_end, if_neg (Nat.lt_irrefl _)]
    exact Or.inl ⟨by rw [e2]; exact fun z => hs z.symm, by rw [e2]; exact fun z => ht z.symm, rfl⟩
  | succ f =>
    by_cases z : (pSee b n q s || pSee b n q t) = true
    · have hst : lk b n q = s ∨ lk b n q = t := by
        rcases Bool.or_eq_true_iff.mp z with y | y
        · exact Or.inl (see_eq.mp y)
        · exact Or.inr (see_eq.mp y)
      have hlt : sk b n q < n := lk_lt (by rcases hst with y | y <;> rw [y] <;> assumption)
      have hge := sk_ge (b := b) (n := n) (p := q)
      refine Or.inr ⟨f, rfl, by omega, hst, hlt, ?_⟩
      show (if (pSee b n q s || pSee b n q t) = true then _ else _) = _
      rw [if_pos z]
    · refine Or.inl ⟨fun y => z (Bool.or_eq_true_iff.mpr (Or.inl (see_eq.mpr y))), fun y => z (Bool.or_eq_true_iff.mpr (Or.inr (see_eq.mpr y))), ?_⟩
      show (if (pSee b n q s || pSee b n q t) = true then _ else _) = _
      rw [if_neg z]
theorem pAtom_of {S : Option (Nat → PR)} {p q : Nat} (h : sk b n p = sk b n q) : pAtom b n S p = pAtom b n S q := by
  unfold pAtom pSee
  rw [lk_of h, h]
theorem pSum_of {p q : Nat} (h : sk b n p = sk b n q) : ∀ k, pSum b n k p = pSum b n k q
  | 0 => by
    show pBind (pBind (pAtom b n none p) _) _ = pBind (pBind (pAtom b n none q) _) _
    rw [pAtom_of h]
  | k + 1 => by
    show pBind (pBind (pAtom b n (some (pSum b n k)) p) _) _ = pBind (pBind (pAtom b n (some (pSum b n k)) q) _) _
    rw [pAtom_of h]
end PU2
section MDP
variable {G : Gam} {d : Nat} {k : Nat × Nat} {Y : MR} {ad : Nat → Nat} {σ σ0 : MS} {M : Mem} {lv : Lv} {st : List Value} {pc : Nat} {Q : Option Value → Mem → Prop} {b : Nat → Int32} {n p : Nat} {L : Int32 → Int32} {e v h : Int32}
theorem term_loop {S : Option (Nat → PR)} (hR : RdC G ad σ b n L) (hS : SumC G d ad σ b n L v h e S) : ∀ (f q q0 p0 : Nat) (cs : List Int32), q0 ≤ n → sk b n q0 = sk b n q → Gd n L bd6 p0 (.ok (q, cs)) → n ≤ q + f → PQ ad σ b n L v h e (pMore b n (pAtom b n S) 42 47 f q cs) Q → XJ G (d + 5) (0, 0) MX12_term (mm ad (pS σ (nI q0) (-1) e v h)) [(0, .ref (ad 99)), (1, .int (vl L cs))] [] 5 Q := by
  intro f
  induction f with
  | zero =>
    intro q q0 p0 cs hq0 hsk hg hf hq
    obtain ⟨hi, hx, -, hbd, -, -, -⟩ := hR
    have hqn := (hg.1 q cs rfl).2.1
    rcases more_or (A := pAtom b n S) (s := 42) (t := 47) (b := b) (cs := cs) (by decide) (by decide) hqn hf with ⟨hn1, hn2, he⟩ | ⟨f', hf', -⟩
    · rw [he] at hq
      have hlk := lk_of hsk
      refine x_aload_n dX12_term_5 rfl rfl ?_
      refine xm_geti dX12_term_6 lf_X12_198 vmi_30 ?_
      refine x_iconst (v := -1) dX12_term_9 (by decide) ?_
      refine x_icmp_ne (tgt := 94) dX12_term_10 (by decide) (fun z => absurd rfl z) (fun _ => ?_)
      refine x_aload_n dX12_term_13 rfl rfl ?_
      refine x_cV0 dX12_term_14 lv_X12_208 mm_obj rfl rfl rfl  (c_X12_look hi hx (by first | exact hq0 | exact sk_le hqn) ?_)
      rw [hlk, hsk]
      refine x_bipush (v := 42) dX12_term_17 (by decide) ?_
      refine x_icmp_eq (tgt := 31) dX12_term_19 (by decide) (fun z => absurd z hn1) (fun _ => ?_)
      refine x_aload_n dX12_term_22 rfl rfl ?_
      refine x_cV0 dX12_term_23 lv_X12_208 mm_obj rfl rfl rfl  (c_X12_look hi hx (by first | exact hq0 | exact sk_le hqn) ?_)
      rw [lk_sk hqn, sk_sk hqn]
      refine x_bipush (v := 47) dX12_term_26 (by decide) ?_
      refine x_icmp_ne (tgt := 94) dX12_term_28 (by decide) (fun _ => ?_) (fun z => absurd z hn2)
      refine x_iload_n dX12_term_94 rfl rfl ?_
      exact x_ireturn dX12_term_95 rfl rfl (hq.1 q cs rfl _ (sk_le hqn) (sk_sk hqn))
    · exact absurd hf' (by omega)
  | succ f ih =>
    intro q q0 p0 cs hq0 hsk hg hf hq
    have hR' := hR
    obtain ⟨hi, hx, -, hbd, -, -, -⟩ := hR
    have hn3 := hx.n31
    have hqn := (hg.1 q cs rfl).2.1
    have hlk := lk_of hsk
    rcases more_or (A := pAtom b n S) (s := 42) (t := 47) (b := b) (cs := cs) (by decide) (by decide) hqn hf with ⟨hn1, hn2, he⟩ | ⟨f', hf', hf2, hst, hlt, he⟩
    · rw [he] at hq
      refine x_aload_n dX12_term_5 rfl rfl ?_
      refine xm_geti dX12_term_6 lf_X12_198 vmi_30 ?_
      refine x_iconst (v := -1) dX12_term_9 (by decide) ?_
      refine x_icmp_ne (tgt := 94) dX12_term_10 (by decide) (fun z => absurd rfl z) (fun _ => ?_)
      refine x_aload_n dX12_term_13 rfl rfl ?_
      refine x_cV0 dX12_term_14 lv_X12_208 mm_obj rfl rfl rfl  (c_X12_look hi hx (by first | exact hq0 | exact sk_le hqn) ?_)
      rw [hlk, hsk]
      refine x_bipush (v := 42) dX12_term_17 (by decide) ?_
      refine x_icmp_eq (tgt := 31) dX12_term_19 (by decide) (fun z => absurd z hn1) (fun _ => ?_)
      refine x_aload_n dX12_term_22 rfl rfl ?_
      refine x_cV0 dX12_term_23 lv_X12_208 mm_obj rfl rfl rfl  (c_X12_look hi hx (by first | exact hq0 | exact sk_le hqn) ?_)
      rw [lk_sk hqn, sk_sk hqn]
      refine x_bipush (v := 47) dX12_term_26 (by decide) ?_
      refine x_icmp_ne (tgt := 94) dX12_term_28 (by decide) (fun _ => ?_) (fun z => absurd z hn2)
      refine x_iload_n dX12_term_94 rfl rfl ?_
      exact x_ireturn dX12_term_95 rfl rfl (hq.1 q cs rfl _ (sk_le hqn) (sk_sk hqn))
    · obtain rfl : f = f' := by omega
      rw [he] at hq
      have hgA := Gd_atom (b := b) hbd hS.gd (show sk b n q + 1 ≤ n by omega)
      obtain ⟨h1, h2, h3, h4, h5⟩ := hg.1 q cs rfl
      rcases hst with hc | hc
      · refine x_aload_n dX12_term_5 rfl rfl ?_
        refine xm_geti dX12_term_6 lf_X12_198 vmi_30 ?_
        refine x_iconst (v := -1) dX12_term_9 (by decide) ?_
        refine x_icmp_ne (tgt := 94) dX12_term_10 (by decide) (fun z => absurd rfl z) (fun _ => ?_)
        refine x_aload_n dX12_term_13 rfl rfl ?_
        refine x_cV0 dX12_term_14 lv_X12_208 mm_obj rfl rfl rfl  (c_X12_look hi hx (by first | exact hq0 | exact sk_le hqn) ?_)
        rw [hlk, hsk]
        refine x_bipush (v := 42) dX12_term_17 (by decide) ?_
        refine x_icmp_eq (tgt := 31) dX12_term_19 (by decide) (fun _ => ?_) (fun z => absurd hc z)
        refine x_aload_n dX12_term_31 rfl rfl ?_
        refine x_cV0 dX12_term_32 lv_X12_208 mm_obj rfl rfl rfl  (c_X12_look hi hx (by first | exact hq0 | exact sk_le hqn) ?_)
        rw [lk_sk hqn, sk_sk hqn]
        refine x_bipush (v := 42) dX12_term_35 (by decide) ?_
        refine x_icmp_ne (tgt := 44) dX12_term_37 (by decide) (fun z => absurd hc z) (fun _ => ?_)
        refine x_iconst (v := 1) dX12_term_40 (by decide) ?_
        refine x_goto (tgt := 45) dX12_term_41 (by decide) ?_
        refine x_istore_n dX12_term_45 rfl (by decide) ?_
        refine x_aload_n dX12_term_46 rfl rfl ?_
        refine x_dup dX12_term_47 rfl ?_
        refine xm_geti dX12_term_48 lf_X12_189 vmi_29 ?_
        refine x_iconst (v := 1) dX12_term_51 (by decide) ?_
        refine x_iadd dX12_term_52 ?_
        refine xm_puti dX12_term_53 lp_X12_189 vmq_29 vmn_29 vmf_29 ?_
        rw [pS_inc]
        refine x_aload_n dX12_term_56 rfl rfl ?_
        refine x_cV0 dX12_term_57 lv_X12_244 mm_obj rfl rfl rfl  (c_X12_atom hR' (show sk b n q + 1 ≤ n by omega) hS ?_)
        refine ⟨fun q1 ds hok q2 hq2 hsk2 => ?_, fun x' herr w a e' => ?_⟩
        · rw [hok] at hgA
          obtain ⟨g1, g2, g3, g4, g5⟩ := hgA.1 q1 ds rfl
          have hJ : isJn (lk b n q) := by rw [hc]; unfold isJn; decide
          rw [hok, pBind_ok] at hq
          have hv : lBound ((vl L cs).toInt64 * (vl L ds).toInt64) = vl L (cs ++ ds ++ [-lk b n q]) := by
            rw [vl_jn hJ h5 g5, hc]; rfl
          refine x_i2l dX12_term_60 ?_
          refine x_lstore_n dX12_term_61 rfl (by decide) ?_
          refine x_iload_n dX12_term_62 rfl rfl ?_
          refine x_if_eq (tgt := 73) dX12_term_63 (by decide) (fun z => absurd z (by decide)) (fun _ => ?_)
          refine x_iload_n dX12_term_66 rfl rfl ?_
          refine x_i2l dX12_term_67 ?_
          refine x_lload_n dX12_term_68 rfl rfl ?_
          refine x_lmul dX12_term_69 ?_
          refine x_goto (tgt := 87) dX12_term_70 (by decide) ?_
          refine x_cS1 dX12_term_87 ls_X12_247 rfl  (c_X12_bound ?_)
          refine x_istore_n dX12_term_90 rfl (by decide) ?_
          refine x_goto (tgt := 5) dX12_term_91 (by decide) ?_
          refine x_loc _ (?_ : lle _ _) (ih q1 q2 p0 _ hq2 hsk2 (Gd_st hg hgA hJ (jn_ar (by rw [hc]; unfold isAr; decide))) (by omega) hq)
          refine ⟨rfl, ?_, trivial⟩
          show some (Value.int _) = some (Value.int _)
          rw [hv]
        · rw [herr, pBind_er] at hq
          have hne := nI_n1 (x := x') (by have := hgA.2 x' herr; omega)
          refine x_i2l dX12_term_60 ?_
          refine x_lstore_n dX12_term_61 rfl (by decide) ?_
          refine x_iload_n dX12_term_62 rfl rfl ?_
          refine x_if_eq (tgt := 73) dX12_term_63 (by decide) (fun z => absurd z (by decide)) (fun _ => ?_)
          refine x_iload_n dX12_term_66 rfl rfl ?_
          refine x_i2l dX12_term_67 ?_
          refine x_lload_n dX12_term_68 rfl rfl ?_
          refine x_lmul dX12_term_69 ?_
          refine x_goto (tgt := 87) dX12_term_70 (by decide) ?_
          refine x_cS1 dX12_term_87 ls_X12_247 rfl  (c_X12_bound ?_)
          refine x_istore_n dX12_term_90 rfl (by decide) ?_
          refine x_goto (tgt := 5) dX12_term_91 (by decide) ?_
          refine x_aload_n dX12_term_5 rfl rfl ?_
          refine xm_geti dX12_term_6 lf_X12_198 vmi_30 ?_
          refine x_iconst (v := -1) dX12_term_9 (by decide) ?_
          refine x_icmp_ne (tgt := 94) dX12_term_10 (by decide) (fun _ => ?_) (fun z => absurd z hne)
          refine x_iload_n dX12_term_94 rfl rfl ?_
          exact x_ireturn dX12_term_95 rfl rfl (hq.2 x' rfl _ _ _)
      · have hc1 : ¬ lk b n q = 42 := by rw [hc]; decide
        refine x_aload_n dX12_term_5 rfl rfl ?_
        refine xm_geti dX12_term_6 lf_X12_198 vmi_30 ?_
        refine x_iconst (v := -1) dX12_term_9 (by decide) ?_
        refine x_icmp_ne (tgt := 94) dX12_term_10 (by decide) (fun z => absurd rfl z) (fun _ => ?_)
        refine x_aload_n dX12_term_13 rfl rfl ?_
        refine x_cV0 dX12_term_14 lv_X12_208 mm_obj rfl rfl rfl  (c_X12_look hi hx (by first | exact hq0 | exact sk_le hqn) ?_)
        rw [hlk, hsk]
        refine x_bipush (v := 42) dX12_term_17 (by decide) ?_
        refine x_icmp_eq (tgt := 31) dX12_term_19 (by decide) (fun z => absurd z hc1) (fun _ => ?_)
        refine x_aload_n dX12_term_22 rfl rfl ?_
        refine x_cV0 dX12_term_23 lv_X12_208 mm_obj rfl rfl rfl  (c_X12_look hi hx (by first | exact hq0 | exact sk_le hqn) ?_)
        rw [lk_sk hqn, sk_sk hqn]
        refine x_bipush (v := 47) dX12_term_26 (by decide) ?_
        refine x_icmp_ne (tgt := 94) dX12_term_28 (by decide) (fun z => absurd hc z) (fun _ => ?_)
        refine x_aload_n dX12_term_31 rfl rfl ?_
        refine x_cV0 dX12_term_32 lv_X12_208 mm_obj rfl rfl rfl  (c_X12_look hi hx (by first | exact hq0 | exact sk_le hqn) ?_)
        rw [lk_sk hqn, sk_sk hqn]
        refine x_bipush (v := 42) dX12_term_35 (by decide) ?_
        refine x_icmp_ne (tgt := 44) dX12_term_37 (by decide) (fun _ => ?_) (fun z => absurd z hc1)
        refine x_iconst (v := 0) dX12_term_44 (by decide) ?_
        refine x_istore_n dX12_term_45 rfl (by decide) ?_
        refine x_aload_n dX12_term_46 rfl rfl ?_
        refine x_dup dX12_term_47 rfl ?_
        refine xm_geti dX12_term_48 lf_X12_189 vmi_29 ?_
        refine x_iconst (v := 1) dX12_term_51 (by decide) ?_
        refine x_iadd dX12_term_52 ?_
        refine xm_puti dX12_term_53 lp_X12_189 vmq_29 vmn_29 vmf_29 ?_
        rw [pS_inc]
        refine x_aload_n dX12_term_56 rfl rfl ?_
        refine x_cV0 dX12_term_57 lv_X12_244 mm_obj rfl rfl rfl  (c_X12_atom hR' (show sk b n q + 1 ≤ n by omega) hS ?_)
        refine ⟨fun q1 ds hok q2 hq2 hsk2 => ?_, fun x' herr w a e' => ?_⟩
        · rw [hok] at hgA
          obtain ⟨g1, g2, g3, g4, g5⟩ := hgA.1 q1 ds rfl
          have hJ : isJn (lk b n q) := by rw [hc]; unfold isJn; decide
          rw [hok, pBind_ok] at hq
          have hv : jn 47 (vl L cs) (vl L ds) = vl L (cs ++ ds ++ [-lk b n q]) := by
            rw [vl_jn hJ h5 g5, hc]
          have hjn : jn 47 (vl L cs) (vl L ds) = lBound (if lg_cmp (vl L ds).toInt64 0 = 0 then 0 else (vl L cs).toInt64 / (vl L ds).toInt64) := (div_64 h4).symm
          refine x_i2l dX12_term_60 ?_
          refine x_lstore_n dX12_term_61 rfl (by decide) ?_
          refine x_iload_n dX12_term_62 rfl rfl ?_
          refine x_if_eq (tgt := 73) dX12_term_63 (by decide) (fun _ => ?_) (fun z => absurd (by decide) z)
          refine x_lload_n dX12_term_73 rfl rfl ?_
          refine x_lconst (v := 0) dX12_term_74 (by decide) ?_
          refine x_lcmp dX12_term_75 ?_
          refine x_if_ne (tgt := 83) dX12_term_76 (by decide) (fun h76 => ?_) (fun h76 => ?_)
          · refine x_iload_n dX12_term_83 rfl rfl ?_
            refine x_i2l dX12_term_84 ?_
            refine x_lload_n dX12_term_85 rfl rfl ?_
            refine x_ldiv dX12_term_86 (fun z => h76 ((lg_cmp_eq _ _).mpr z)) ?_
            refine x_cS1 dX12_term_87 ls_X12_247 rfl  (c_X12_bound ?_)
            refine x_istore_n dX12_term_90 rfl (by decide) ?_
            refine x_goto (tgt := 5) dX12_term_91 (by decide) ?_
            refine x_loc _ (?_ : lle _ _) (ih q1 q2 p0 _ hq2 hsk2 (Gd_st hg hgA hJ (jn_ar (by rw [hc]; unfold isAr; decide))) (by omega) hq)
            refine ⟨rfl, ?_, trivial⟩
            show some (Value.int _) = some (Value.int _)
            rw [← hv, hjn]
            first
            | rw [if_neg (show ¬ lg_cmp (vl L ds).toInt64 0 = 0 from h76)]
            | rw [if_pos (show lg_cmp (vl L ds).toInt64 0 = 0 from h76)]
          · refine x_lconst (v := 0) dX12_term_79 (by decide) ?_
            refine x_goto (tgt := 87) dX12_term_80 (by decide) ?_
            refine x_cS1 dX12_term_87 ls_X12_247 rfl  (c_X12_bound ?_)
            refine x_istore_n dX12_term_90 rfl (by decide) ?_
            refine x_goto (tgt := 5) dX12_term_91 (by decide) ?_
            refine x_loc _ (?_ : lle _ _) (ih q1 q2 p0 _ hq2 hsk2 (Gd_st hg hgA hJ (jn_ar (by rw [hc]; unfold isAr; decide))) (by omega) hq)
            refine ⟨rfl, ?_, trivial⟩
            show some (Value.int _) = some (Value.int _)
            rw [← hv, hjn]
            first
            | rw [if_neg (show ¬ lg_cmp (vl L ds).toInt64 0 = 0 from h76)]
            | rw [if_pos (show lg_cmp (vl L ds).toInt64 0 = 0 from h76)]
        · rw [herr, pBind_er] at hq
          have hne := nI_n1 (x := x') (by have := hgA.2 x' herr; omega)
          refine x_i2l dX12_term_60 ?_
          refine x_lstore_n dX12_term_61 rfl (by decide) ?_
          refine x_iload_n dX12_term_62 rfl rfl ?_
          refine x_if_eq (tgt := 73) dX12_term_63 (by decide) (fun _ => ?_) (fun z => absurd (by decide) z)
          refine x_lload_n dX12_term_73 rfl rfl ?_
          refine x_lconst (v := 0) dX12_term_74 (by decide) ?_
          refine x_lcmp dX12_term_75 ?_
          refine x_if_ne (tgt := 83) dX12_term_76 (by decide) (fun h76 => ?_) (fun h76 => ?_)
          · refine x_iload_n dX12_term_83 rfl rfl ?_
            refine x_i2l dX12_term_84 ?_
            refine x_lload_n dX12_term_85 rfl rfl ?_
            refine x_ldiv dX12_term_86 (fun z => h76 ((lg_cmp_eq _ _).mpr z)) ?_
            refine x_cS1 dX12_term_87 ls_X12_247 rfl  (c_X12_bound ?_)
            refine x_istore_n dX12_term_90 rfl (by decide) ?_
            refine x_goto (tgt := 5) dX12_term_91 (by decide) ?_
            refine x_aload_n dX12_term_5 rfl rfl ?_
            refine xm_geti dX12_term_6 lf_X12_198 vmi_30 ?_
            refine x_iconst (v := -1) dX12_term_9 (by decide) ?_
            refine x_icmp_ne (tgt := 94) dX12_term_10 (by decide) (fun _ => ?_) (fun z => absurd z hne)
            refine x_iload_n dX12_term_94 rfl rfl ?_
            exact x_ireturn dX12_term_95 rfl rfl (hq.2 x' rfl _ _ _)
          · refine x_lconst (v := 0) dX12_term_79 (by decide) ?_
            refine x_goto (tgt := 87) dX12_term_80 (by decide) ?_
            refine x_cS1 dX12_term_87 ls_X12_247 rfl  (c_X12_bound ?_)
            refine x_istore_n dX12_term_90 rfl (by decide) ?_
            refine x_goto (tgt := 5) dX12_term_91 (by decide) ?_
            refine x_aload_n dX12_term_5 rfl rfl ?_
            refine xm_geti dX12_term_6 lf_X12_198 vmi_30 ?_
            refine x_iconst (v := -1) dX12_term_9 (by decide) ?_
            refine x_icmp_ne (tgt := 94) dX12_term_10 (by decide) (fun _ => ?_) (fun z => absurd z hne)
            refine x_iload_n dX12_term_94 rfl rfl ?_
            exact x_ireturn dX12_term_95 rfl rfl (hq.2 x' rfl _ _ _)
theorem c_X12_term {S : Option (Nat → PR)} (hR : RdC G ad σ b n L) (hp : p ≤ n) (hS : SumC G d ad σ b n L v h e S) (hq : PQ ad σ b n L v h e (pTerm b n S p) Q) : CT G (d + 5) (0, 0) MX12_term [.ref (ad 99)] (mm ad (pS σ (nI p) (-1) e v h)) Q := by
  refine CT.of rfl (Nat.le_of_ble_eq_true rfl) ?_
  have hn3 := hR.2.1.n31
  have hgA := Gd_atom (b := b) hR.2.2.2.1 hS.gd hp
  unfold pTerm at hq
  refine x_aload_n dX12_term_0 rfl rfl ?_
  refine x_cV0 dX12_term_1 lv_X12_244 mm_obj rfl rfl rfl  (c_X12_atom hR hp hS ?_)
  refine ⟨fun q1 ds hok q2 hq2 hsk2 => ?_, fun x' herr w a e' => ?_⟩
  · rw [hok] at hgA
    rw [hok, pBind_ok] at hq
    refine x_istore_n dX12_term_4 rfl (by decide) ?_
    refine x_loc _ (?_ : lle _ _) (term_loop hR hS n q1 q2 p ds hq2 hsk2 hgA (by omega) hq)
    exact ⟨rfl, rfl, trivial⟩
  · rw [herr, pBind_er] at hq
    have hne := nI_n1 (x := x') (by have := hgA.2 x' herr; omega)
    refine x_istore_n dX12_term_4 rfl (by decide) ?_
    refine x_aload_n dX12_term_5 rfl rfl ?_
    refine xm_geti dX12_term_6 lf_X12_198 vmi_30 ?_
    refine x_iconst (v := -1) dX12_term_9 (by decide) ?_
    refine x_icmp_ne (tgt := 94) dX12_term_10 (by decide) (fun _ => ?_) (fun z => absurd z hne)
    refine x_iload_n dX12_term_94 rfl rfl ?_
    exact x_ireturn dX12_term_95 rfl rfl (hq.2 x' rfl _ _ _)

theorem sum_loop {S : Option (Nat → PR)} (hR : RdC G ad σ b n L) (hS : SumC G d ad σ b n L v h e S) : ∀ (f q q0 p0 : Nat) (cs : List Int32), q0 ≤ n → sk b n q0 = sk b n q → Gd n L bd6 p0 (.ok (q, cs)) → n ≤ q + f → PQ ad σ b n L v h e (pMore b n (pTerm b n S) 43 45 f q cs) Q → XJ G (d + 6) (0, 0) MX12_sum (mm ad (pS σ (nI q0) (-1) e v h)) [(0, .ref (ad 99)), (1, .int (vl L cs))] [] 5 Q := by
  intro f
  induction f with
  | zero =>
    intro q q0 p0 cs hq0 hsk hg hf hq
    obtain ⟨hi, hx, -, hbd, -, -, -⟩ := hR
    have hqn := (hg.1 q cs rfl).2.1
    rcases more_or (A := pTerm b n S) (s := 43) (t := 45) (b := b) (cs := cs) (by decide) (by decide) hqn hf with ⟨hn1, hn2, he⟩ | ⟨f', hf', -⟩
    · rw [he] at hq
      have hlk := lk_of hsk
      refine x_aload_n dX12_sum_5 rfl rfl ?_
      refine xm_geti dX12_sum_6 lf_X12_198 vmi_30 ?_
      refine x_iconst (v := -1) dX12_sum_9 (by decide) ?_
      refine x_icmp_ne (tgt := 84) dX12_sum_10 (by decide) (fun z => absurd rfl z) (fun _ => ?_)
      refine x_aload_n dX12_sum_13 rfl rfl ?_
      refine x_cV0 dX12_sum_14 lv_X12_208 mm_obj rfl rfl rfl  (c_X12_look hi hx (by first | exact hq0 | exact sk_le hqn) ?_)
      rw [hlk, hsk]
      refine x_bipush (v := 43) dX12_sum_17 (by decide) ?_
      refine x_icmp_eq (tgt := 31) dX12_sum_19 (by decide) (fun z => absurd z hn1) (fun _ => ?_)
      refine x_aload_n dX12_sum_22 rfl rfl ?_
      refine x_cV0 dX12_sum_23 lv_X12_208 mm_obj rfl rfl rfl  (c_X12_look hi hx (by first | exact hq0 | exact sk_le hqn) ?_)
      rw [lk_sk hqn, sk_sk hqn]
      refine x_bipush (v := 45) dX12_sum_26 (by decide) ?_
      refine x_icmp_ne (tgt := 84) dX12_sum_28 (by decide) (fun _ => ?_) (fun z => absurd z hn2)
      refine x_iload_n dX12_sum_84 rfl rfl ?_
      exact x_ireturn dX12_sum_85 rfl rfl (hq.1 q cs rfl _ (sk_le hqn) (sk_sk hqn))
    · exact absurd hf' (by omega)
  | succ f ih =>
    intro q q0 p0 cs hq0 hsk hg hf hq
    have hR' := hR
    obtain ⟨hi, hx, -, hbd, -, -, -⟩ := hR
    have hn3 := hx.n31
    have hqn := (hg.1 q cs rfl).2.1
    have hlk := lk_of hsk
    rcases more_or (A := pTerm b n S) (s := 43) (t := 45) (b := b) (cs := cs) (by decide) (by decide) hqn hf with ⟨hn1, hn2, he⟩ | ⟨f', hf', hf2, hst, hlt, he⟩
    · rw [he] at hq
      refine x_aload_n dX12_sum_5 rfl rfl ?_
      refine xm_geti dX12_sum_6 lf_X12_198 vmi_30 ?_
      refine x_iconst (v := -1) dX12_sum_9 (by decide) ?_
      refine x_icmp_ne (tgt := 84) dX12_sum_10 (by decide) (fun z => absurd rfl z) (fun _ => ?_)
      refine x_aload_n dX12_sum_13 rfl rfl ?_
      refine x_cV0 dX12_sum_14 lv_X12_208 mm_obj rfl rfl rfl  (c_X12_look hi hx (by first | exact hq0 | exact sk_le hqn) ?_)
      rw [hlk, hsk]
      refine x_bipush (v := 43) dX12_sum_17 (by decide) ?_
      refine x_icmp_eq (tgt := 31) dX12_sum_19 (by decide) (fun z => absurd z hn1) (fun _ => ?_)
      refine x_aload_n dX12_sum_22 rfl rfl ?_
      refine x_cV0 dX12_sum_23 lv_X12_208 mm_obj rfl rfl rfl  (c_X12_look hi hx (by first | exact hq0 | exact sk_le hqn) ?_)
      rw [lk_sk hqn, sk_sk hqn]
      refine x_bipush (v := 45) dX12_sum_26 (by decide) ?_
      refine x_icmp_ne (tgt := 84) dX12_sum_28 (by decide) (fun _ => ?_) (fun z => absurd z hn2)
      refine x_iload_n dX12_sum_84 rfl rfl ?_
      exact x_ireturn dX12_sum_85 rfl rfl (hq.1 q cs rfl _ (sk_le hqn) (sk_sk hqn))
    · obtain rfl : f = f' := by omega
      rw [he] at hq
      have hgA := Gd_term (b := b) hbd hS.gd (show sk b n q + 1 ≤ n by omega)
      obtain ⟨h1, h2, h3, h4, h5⟩ := hg.1 q cs rfl
      rcases hst with hc | hc
      · refine x_aload_n dX12_sum_5 rfl rfl ?_
        refine xm_geti dX12_sum_6 lf_X12_198 vmi_30 ?_
        refine x_iconst (v := -1) dX12_sum_9 (by decide) ?_
        refine x_icmp_ne (tgt := 84) dX12_sum_10 (by decide) (fun z => absurd rfl z) (fun _ => ?_)
        refine x_aload_n dX12_sum_13 rfl rfl ?_
        refine x_cV0 dX12_sum_14 lv_X12_208 mm_obj rfl rfl rfl  (c_X12_look hi hx (by first | exact hq0 | exact sk_le hqn) ?_)
        rw [hlk, hsk]
        refine x_bipush (v := 43) dX12_sum_17 (by decide) ?_
        refine x_icmp_eq (tgt := 31) dX12_sum_19 (by decide) (fun _ => ?_) (fun z => absurd hc z)
        refine x_aload_n dX12_sum_31 rfl rfl ?_
        refine x_cV0 dX12_sum_32 lv_X12_208 mm_obj rfl rfl rfl  (c_X12_look hi hx (by first | exact hq0 | exact sk_le hqn) ?_)
        rw [lk_sk hqn, sk_sk hqn]
        refine x_bipush (v := 43) dX12_sum_35 (by decide) ?_
        refine x_icmp_ne (tgt := 44) dX12_sum_37 (by decide) (fun z => absurd hc z) (fun _ => ?_)
        refine x_iconst (v := 1) dX12_sum_40 (by decide) ?_
        refine x_goto (tgt := 45) dX12_sum_41 (by decide) ?_
        refine x_istore_n dX12_sum_45 rfl (by decide) ?_
        refine x_aload_n dX12_sum_46 rfl rfl ?_
        refine x_dup dX12_sum_47 rfl ?_
        refine xm_geti dX12_sum_48 lf_X12_189 vmi_29 ?_
        refine x_iconst (v := 1) dX12_sum_51 (by decide) ?_
        refine x_iadd dX12_sum_52 ?_
        refine xm_puti dX12_sum_53 lp_X12_189 vmq_29 vmn_29 vmf_29 ?_
        rw [pS_inc]
        refine x_aload_n dX12_sum_56 rfl rfl ?_
        refine x_cV0 dX12_sum_57 lv_X12_251 mm_obj rfl rfl rfl  (c_X12_term hR' (show sk b n q + 1 ≤ n by omega) hS ?_)
        refine ⟨fun q1 ds hok q2 hq2 hsk2 => ?_, fun x' herr w a e' => ?_⟩
        · rw [hok] at hgA
          obtain ⟨g1, g2, g3, g4, g5⟩ := hgA.1 q1 ds rfl
          have hJ : isJn (lk b n q) := by rw [hc]; unfold isJn; decide
          rw [hok, pBind_ok] at hq
          have hv : lBound ((vl L cs).toInt64 + (vl L ds).toInt64) = vl L (cs ++ ds ++ [-lk b n q]) := by
            rw [vl_jn hJ h5 g5, hc]; rfl
          refine x_i2l dX12_sum_60 ?_
          refine x_lstore_n dX12_sum_61 rfl (by decide) ?_
          refine x_iload_n dX12_sum_62 rfl rfl ?_
          refine x_if_eq (tgt := 73) dX12_sum_63 (by decide) (fun z => absurd z (by decide)) (fun _ => ?_)
          refine x_iload_n dX12_sum_66 rfl rfl ?_
          refine x_i2l dX12_sum_67 ?_
          refine x_lload_n dX12_sum_68 rfl rfl ?_
          refine x_ladd dX12_sum_69 ?_
          refine x_goto (tgt := 77) dX12_sum_70 (by decide) ?_
          refine x_cS1 dX12_sum_77 ls_X12_247 rfl  (c_X12_bound ?_)
          refine x_istore_n dX12_sum_80 rfl (by decide) ?_
          refine x_goto (tgt := 5) dX12_sum_81 (by decide) ?_
          refine x_loc _ (?_ : lle _ _) (ih q1 q2 p0 _ hq2 hsk2 (Gd_st hg hgA hJ (jn_ar (by rw [hc]; unfold isAr; decide))) (by omega) hq)
          refine ⟨rfl, ?_, trivial⟩
          show some (Value.int _) = some (Value.int _)
          rw [hv]
        · rw [herr, pBind_er] at hq
          have hne := nI_n1 (x := x') (by have := hgA.2 x' herr; omega)
          refine x_i2l dX12_sum_60 ?_
          refine x_lstore_n dX12_sum_61 rfl (by decide) ?_
          refine x_iload_n dX12_sum_62 rfl rfl ?_
          refine x_if_eq (tgt := 73) dX12_sum_63 (by decide) (fun z => absurd z (by decide)) (fun _ => ?_)
          refine x_iload_n dX12_sum_66 rfl rfl ?_
          refine x_i2l dX12_sum_67 ?_
          refine x_lload_n dX12_sum_68 rfl rfl ?_
          refine x_ladd dX12_sum_69 ?_
          refine x_goto (tgt := 77) dX12_sum_70 (by decide) ?_
          refine x_cS1 dX12_sum_77 ls_X12_247 rfl  (c_X12_bound ?_)
          refine x_istore_n dX12_sum_80 rfl (by decide) ?_
          refine x_goto (tgt := 5) dX12_sum_81 (by decide) ?_
          refine x_aload_n dX12_sum_5 rfl rfl ?_
          refine xm_geti dX12_sum_6 lf_X12_198 vmi_30 ?_
          refine x_iconst (v := -1) dX12_sum_9 (by decide) ?_
          refine x_icmp_ne (tgt := 84) dX12_sum_10 (by decide) (fun _ => ?_) (fun z => absurd z hne)
          refine x_iload_n dX12_sum_84 rfl rfl ?_
          exact x_ireturn dX12_sum_85 rfl rfl (hq.2 x' rfl _ _ _)
      · have hc1 : ¬ lk b n q = 43 := by rw [hc]; decide
        refine x_aload_n dX12_sum_5 rfl rfl ?_
        refine xm_geti dX12_sum_6 lf_X12_198 vmi_30 ?_
        refine x_iconst (v := -1) dX12_sum_9 (by decide) ?_
        refine x_icmp_ne (tgt := 84) dX12_sum_10 (by decide) (fun z => absurd rfl z) (fun _ => ?_)
        refine x_aload_n dX12_sum_13 rfl rfl ?_
        refine x_cV0 dX12_sum_14 lv_X12_208 mm_obj rfl rfl rfl  (c_X12_look hi hx (by first | exact hq0 | exact sk_le hqn) ?_)
        rw [hlk, hsk]
        refine x_bipush (v := 43) dX12_sum_17 (by decide) ?_
        refine x_icmp_eq (tgt := 31) dX12_sum_19 (by decide) (fun z => absurd z hc1) (fun _ => ?_)
        refine x_aload_n dX12_sum_22 rfl rfl ?_
        refine x_cV0 dX12_sum_23 lv_X12_208 mm_obj rfl rfl rfl  (c_X12_look hi hx (by first | exact hq0 | exact sk_le hqn) ?_)
        rw [lk_sk hqn, sk_sk hqn]
        refine x_bipush (v := 45) dX12_sum_26 (by decide) ?_
        refine x_icmp_ne (tgt := 84) dX12_sum_28 (by decide) (fun z => absurd hc z) (fun _ => ?_)
        refine x_aload_n dX12_sum_31 rfl rfl ?_
        refine x_cV0 dX12_sum_32 lv_X12_208 mm_obj rfl rfl rfl  (c_X12_look hi hx (by first | exact hq0 | exact sk_le hqn) ?_)
        rw [lk_sk hqn, sk_sk hqn]
        refine x_bipush (v := 43) dX12_sum_35 (by decide) ?_
        refine x_icmp_ne (tgt := 44) dX12_sum_37 (by decide) (fun _ => ?_) (fun z => absurd z hc1)
        refine x_iconst (v := 0) dX12_sum_44 (by decide) ?_
        refine x_istore_n dX12_sum_45 rfl (by decide) ?_
        refine x_aload_n dX12_sum_46 rfl rfl ?_
        refine x_dup dX12_sum_47 rfl ?_
        refine xm_geti dX12_sum_48 lf_X12_189 vmi_29 ?_
        refine x_iconst (v := 1) dX12_sum_51 (by decide) ?_
        refine x_iadd dX12_sum_52 ?_
        refine xm_puti dX12_sum_53 lp_X12_189 vmq_29 vmn_29 vmf_29 ?_
        rw [pS_inc]
        refine x_aload_n dX12_sum_56 rfl rfl ?_
        refine x_cV0 dX12_sum_57 lv_X12_251 mm_obj rfl rfl rfl  (c_X12_term hR' (show sk b n q + 1 ≤ n by omega) hS ?_)
        refine ⟨fun q1 ds hok q2 hq2 hsk2 => ?_, fun x' herr w a e' => ?_⟩
        · rw [hok] at hgA
          obtain ⟨g1, g2, g3, g4, g5⟩ := hgA.1 q1 ds rfl
          have hJ : isJn (lk b n q) := by rw [hc]; unfold isJn; decide
          rw [hok, pBind_ok] at hq
          have hv : jn 45 (vl L cs) (vl L ds) = vl L (cs ++ ds ++ [-lk b n q]) := by
            rw [vl_jn hJ h5 g5, hc]
          have hjn : jn 45 (vl L cs) (vl L ds) = lBound ((vl L cs).toInt64 - (vl L ds).toInt64) := rfl
          refine x_i2l dX12_sum_60 ?_
          refine x_lstore_n dX12_sum_61 rfl (by decide) ?_
          refine x_iload_n dX12_sum_62 rfl rfl ?_
          refine x_if_eq (tgt := 73) dX12_sum_63 (by decide) (fun _ => ?_) (fun z => absurd (by decide) z)
          refine x_iload_n dX12_sum_73 rfl rfl ?_
          refine x_i2l dX12_sum_74 ?_
          refine x_lload_n dX12_sum_75 rfl rfl ?_
          refine x_lsub dX12_sum_76 ?_
          refine x_cS1 dX12_sum_77 ls_X12_247 rfl  (c_X12_bound ?_)
          refine x_istore_n dX12_sum_80 rfl (by decide) ?_
          refine x_goto (tgt := 5) dX12_sum_81 (by decide) ?_
          refine x_loc _ (?_ : lle _ _) (ih q1 q2 p0 _ hq2 hsk2 (Gd_st hg hgA hJ (jn_ar (by rw [hc]; unfold isAr; decide))) (by omega) hq)
          refine ⟨rfl, ?_, trivial⟩
          show some (Value.int _) = some (Value.int _)
          rw [← hv, hjn]
        · rw [herr, pBind_er] at hq
          have hne := nI_n1 (x := x') (by have := hgA.2 x' herr; omega)
          refine x_i2l dX12_sum_60 ?_
          refine x_lstore_n dX12_sum_61 rfl (by decide) ?_
          refine x_iload_n dX12_sum_62 rfl rfl ?_
          refine x_if_eq (tgt := 73) dX12_sum_63 (by decide) (fun _ => ?_) (fun z => absurd (by decide) z)
          refine x_iload_n dX12_sum_73 rfl rfl ?_
          refine x_i2l dX12_sum_74 ?_
          refine x_lload_n dX12_sum_75 rfl rfl ?_
          refine x_lsub dX12_sum_76 ?_
          refine x_cS1 dX12_sum_77 ls_X12_247 rfl  (c_X12_bound ?_)
          refine x_istore_n dX12_sum_80 rfl (by decide) ?_
          refine x_goto (tgt := 5) dX12_sum_81 (by decide) ?_
          refine x_aload_n dX12_sum_5 rfl rfl ?_
          refine xm_geti dX12_sum_6 lf_X12_198 vmi_30 ?_
          refine x_iconst (v := -1) dX12_sum_9 (by decide) ?_
          refine x_icmp_ne (tgt := 84) dX12_sum_10 (by decide) (fun _ => ?_) (fun z => absurd z hne)
          refine x_iload_n dX12_sum_84 rfl rfl ?_
          exact x_ireturn dX12_sum_85 rfl rfl (hq.2 x' rfl _ _ _)
theorem c_X12_sum1 {S : Option (Nat → PR)} (hR : RdC G ad σ b n L) (hp : p ≤ n) (hS : SumC G d ad σ b n L v h e S) (hq : PQ ad σ b n L v h e (pSum1 b n S p) Q) : CT G (d + 6) (0, 0) MX12_sum [.ref (ad 99)] (mm ad (pS σ (nI p) (-1) e v h)) Q := by
  refine CT.of rfl (Nat.le_of_ble_eq_true rfl) ?_
  have hn3 := hR.2.1.n31
  have hgA := Gd_term (b := b) hR.2.2.2.1 hS.gd hp
  unfold pSum1 at hq
  refine x_aload_n dX12_sum_0 rfl rfl ?_
  refine x_cV0 dX12_sum_1 lv_X12_251 mm_obj rfl rfl rfl  (c_X12_term hR hp hS ?_)
  refine ⟨fun q1 ds hok q2 hq2 hsk2 => ?_, fun x' herr w a e' => ?_⟩
  · rw [hok] at hgA
    rw [hok, pBind_ok] at hq
    refine x_istore_n dX12_sum_4 rfl (by decide) ?_
    refine x_loc _ (?_ : lle _ _) (sum_loop hR hS n q1 q2 p ds hq2 hsk2 hgA (by omega) hq)
    exact ⟨rfl, rfl, trivial⟩
  · rw [herr, pBind_er] at hq
    have hne := nI_n1 (x := x') (by have := hgA.2 x' herr; omega)
    refine x_istore_n dX12_sum_4 rfl (by decide) ?_
    refine x_aload_n dX12_sum_5 rfl rfl ?_
    refine xm_geti dX12_sum_6 lf_X12_198 vmi_30 ?_
    refine x_iconst (v := -1) dX12_sum_9 (by decide) ?_
    refine x_icmp_ne (tgt := 84) dX12_sum_10 (by decide) (fun _ => ?_) (fun z => absurd z hne)
    refine x_iload_n dX12_sum_84 rfl rfl ?_
    exact x_ireturn dX12_sum_85 rfl rfl (hq.2 x' rfl _ _ _)
theorem c_X12_sumk (hR : RdC G ad σ b n L) : ∀ (k d : Nat) (e : Int32) (p : Nat) (Q : Option Value → Mem → Prop), k ≤ 6 → e = nI (6 - k) → p ≤ n → PQ ad σ b n L v h e (pSum b n k p) Q → CT G (d + 3 * k + 6) (0, 0) MX12_sum [.ref (ad 99)] (mm ad (pS σ (nI p) (-1) e v h)) Q
  | 0, d, e, p, Q, _, he, hp, hq => c_X12_sum1 hR hp (Or.inl ⟨rfl, he⟩) hq
  | k + 1, d, e, p, Q, hk, he, hp, hq => by
    have he6 : ¬ e = 6 := by
      intro z
      rw [he] at z
      have := (nI_eq (a := 6 - (k + 1)) (b := 6) (by omega) (by decide)).mp z
      omega
    refine c_X12_sum1 (d := d + 3 * (k + 1)) hR hp (Or.inr ⟨pSum b n k, rfl, he6, fun p hp => Gd_sum hR.2.2.2.1 k hp, fun p' Q' hp' hq' => ?_⟩) hq
    exact c_X12_sumk hR k d (e + 1) p' Q' (by omega) (by rw [he, nI_1, show 6 - (k + 1) + 1 = 6 - k by omega]) hp' hq'
theorem c_X12_sum {k : Nat} (hR : RdC G ad σ b n L) (hk : k ≤ 6) (he : e = nI (6 - k)) (hp : p ≤ n) (hq : PQ ad σ b n L v h e (pSum b n k p) Q) : CT G (d + 24) (0, 0) MX12_sum [.ref (ad 99)] (mm ad (pS σ (nI p) (-1) e v h)) Q := by
  have h1 := c_X12_sumk (d := d + 3 * (6 - k)) hR k e p Q hk he hp hq
  rw [show d + 3 * (6 - k) + 3 * k + 6 = d + 24 by omega] at h1
  exact h1
end MDP
