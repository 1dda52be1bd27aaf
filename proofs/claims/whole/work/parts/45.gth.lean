/-! the model's methods, 18: a whole text read; fault, rule -/
theorem pS_self {σ : MS} : pS σ (σ.1 29) (σ.1 30) (σ.1 31) (σ.1 33) (σ.1 34) = σ := by
  refine Prod.ext (funext fun k => ?_) rfl
  show (bif Nat.beq k 29 then σ.1 29 else bif Nat.beq k 30 then σ.1 30 else bif Nat.beq k 31 then σ.1 31 else bif Nat.beq k 33 then σ.1 33 else bif Nat.beq k 34 then σ.1 34 else σ.1 k) = σ.1 k
  cases h1 : Nat.beq k 29 with
  | true => rw [Nat.eq_of_beq_eq_true h1]; rfl
  | false =>
    cases h2 : Nat.beq k 30 with
    | true => rw [Nat.eq_of_beq_eq_true h2]; rfl
    | false =>
      cases h3 : Nat.beq k 31 with
      | true => rw [Nat.eq_of_beq_eq_true h3]; rfl
      | false =>
        cases h4 : Nat.beq k 33 with
        | true => rw [Nat.eq_of_beq_eq_true h4]; rfl
        | false =>
          cases h5 : Nat.beq k 34 with
          | true => rw [Nat.eq_of_beq_eq_true h5]; rfl
          | false => rfl
theorem gt_ini {σ : MS} : seti (seti (seti (seti (seti σ 29 0) 30 (-1)) 31 0) 34 0) 33 0 = pS σ 0 (-1) 0 0 0 := by
  have h : seti (seti (seti (seti (seti (pS σ (σ.1 29) (σ.1 30) (σ.1 31) (σ.1 33) (σ.1 34)) 29 0) 30 (-1)) 31 0) 34 0) 33 0 = pS σ 0 (-1) 0 0 0 := by rw [pS_29, pS_30, pS_31, pS_34, pS_33]
  rw [pS_self] at h
  exact h
/-- a state in which a text is read: it lies in array j from b0 on, n bytes, for a label -/
def gtS (σ : MS) (j b0 n : Nat) (lb : Int32) : MS := seti (seti (seti (seti σ 26 (nI j)) 27 (nI b0)) 28 (nI n)) 32 lb
theorem gt_f {σ : MS} {j b0 n : Nat} {lb : Int32} : seti (seti (seti (seti (seti (seti (seti (seti (seti σ 26 (nI j)) 27 (nI b0)) 28 (nI n)) 32 lb) 29 0) 30 (-1)) 31 0) 34 0) 33 0 = pS (gtS σ j b0 n lb) (nI 0) (-1) 0 0 0 := by rw [nI_0]; exact gt_ini
def SXm (G : Gam) : Prop := ZCom G ∧ Lit G RX12 225 pLetters ∧ Lit G RX12 270 pLabels
def LetOK (σ : MS) : Prop := ∀ c, isLet c = true → bd6 (σ.2 23 c.toNatClampNeg)
def LSg (σ : MS) (c : Int32) : Int32 := if isLet c = true then σ.2 23 c.toNatClampNeg else 0
theorem LSg_bd {σ : MS} (h : LetOK σ) : ∀ c, bd6 (LSg σ c) := by
  intro c
  unfold LSg
  by_cases z : isLet c = true
  · rw [if_pos z]; exact h c z
  · rw [if_neg z]; exact ⟨by decide, by decide⟩
theorem RdC_gt {G : Gam} {ad : Nat → Nat} {σ : MS} {b : Nat → Int32} {j N b0 n : Nat} {lb : Int32} (hi : adOK ad) (hS : SXm G) (hl : LetOK σ) (hj : mFind mArr j = some (101, N)) (hb : b0 + n ≤ N) (hN : N ≤ 3200) (hv : ∀ i, i < n → σ.2 j (b0 + i) = b i) : RdC G ad (gtS σ j b0 n lb) b n (LSg σ) := by
  have hj99 : j < 99 := mArr_lt _ (mFind_mem hj)
  have e26 : ((gtS σ j b0 n lb).1 26).toNatClampNeg = j := by
    show (nI j).toNatClampNeg = j
    exact nI_clamp (by omega)
  refine ⟨hi, ⟨N, b0, by rw [e26]; exact hj, rfl, rfl, hb, hN, fun i hi => ?_⟩, fun c hc => ?_, LSg_bd hl, hS.1, hS.2.1, hS.2.2⟩
  · rw [e26]; exact hv i hi
  · show σ.2 23 c.toNatClampNeg = LSg σ c
    unfold LSg
    rw [if_pos hc]
/-- the same but for what is scratch -/
def Sim (σ σ' : MS) : Prop := (∀ k, ¬ k = 23 → ¬ k = 35 → σ'.2 k = σ.2 k) ∧ (∀ k, k < 26 ∨ 37 < k → σ'.1 k = σ.1 k) ∧ LetOK σ'
theorem Sim.rf {σ : MS} (h : LetOK σ) : Sim σ σ := ⟨fun _ _ _ => rfl, fun _ _ => rfl, h⟩
theorem Sim.tr {a b c : MS} (h1 : Sim a b) (h2 : Sim b c) : Sim a c := ⟨fun k x y => (h2.1 k x y).trans (h1.1 k x y), fun k x => (h2.2.1 k x).trans (h1.2.1 k x), h2.2.2⟩
theorem beq_f {k j : Nat} (h : ¬ k = j) : Nat.beq k j = false := by
  cases z : Nat.beq k j with
  | false => rfl
  | true => exact absurd (Nat.eq_of_beq_eq_true z) h
theorem seti_ne {σ : MS} {k j : Nat} {v : Int32} (h : ¬ k = j) : (seti σ j v).1 k = σ.1 k := updB_ne h
theorem pS_ne {σ : MS} {a f e v h : Int32} {k : Nat} (hk : k < 29 ∨ 34 < k) : (pS σ a f e v h).1 k = σ.1 k := by
  show (bif Nat.beq k 29 then a else bif Nat.beq k 30 then f else bif Nat.beq k 31 then e else bif Nat.beq k 33 then v else bif Nat.beq k 34 then h else σ.1 k) = σ.1 k
  rw [beq_f (by omega), beq_f (by omega), beq_f (by omega), beq_f (by omega), beq_f (by omega)]
  rfl
theorem Sim_pS {σ : MS} {j b0 n : Nat} {lb a f e v h : Int32} (hl : LetOK σ) : Sim σ (pS (gtS σ j b0 n lb) a f e v h) := by
  refine ⟨fun _ _ _ => rfl, fun k hk => ?_, hl⟩
  rw [pS_ne (by omega)]
  unfold gtS
  rw [seti_ne (by omega), seti_ne (by omega), seti_ne (by omega), seti_ne (by omega)]
def RQ (ad : Nat → Nat) (σ : MS) (L : Int32 → Int32) (x : PR) (Q : Option Value → Mem → Prop) : Prop :=
  (∀ q cs, x = .ok (q, cs) → ∀ a, Q none (mm ad (pS σ a (-1) 0 (clE (wRO L (σ.1 32) cs false []) 0 0).1 (clE (wRO L (σ.1 32) cs false []) 0 0).2))) ∧ (∀ x', x = .error x' → ∀ a e' v h, Q none (mm ad (pS σ a (nI x') e' v h)))
/-- nothing may stand behind -/
def pEnd2 (b : Nat → Int32) (n : Nat) (x : PR) : PR := pBind x (fun p cs => if pSee b n p (-1) then .ok (p, cs) else .error (sk b n p))
theorem pRule_eq {b : Nat → Int32} {n : Nat} : pRule b n = pEnd2 b n (pBind (pClause b n 0) (pClauses b n n)) := rfl
section MDS
variable {G : Gam} {d : Nat} {Y : MR} {ad : Nat → Nat} {σ σ0 : MS} {M : Mem} {lv : Lv} {st : List Value} {pc : Nat} {Q : Option Value → Mem → Prop} {b : Nat → Int32} {n p k : Nat} {L : Int32 → Int32} {e v h : Int32}
theorem xm_putt {k : Nat × Nat} {idx j : Nat} (hd : decode Y.2.1 pc = .ok (.putfield idx, 3)) (hlk : LkP Y.1.cls idx 13 26) (hj : j < 2 ^ 31) (kk : XJ G d k Y (mm ad (seti σ 26 (nI j))) lv st (pc + 3) Q) : XJ G d k Y (mm ad σ) lv (.ref (ad j) :: .ref (ad 99) :: st) pc Q := by
  refine x_putf hd hlk mm_obj rfl rfl ?_
  rw [mm_setx hj]
  exact kk
theorem gt_err {a f e v h : Int32} (hf : ¬ f = -1) (hq : Q none (mm ad (pS σ a f e v h))) : XJ G d (0, 0) MX12_goThrough (mm ad (pS σ a f e v h)) [(0, .ref (ad 99))] [] 50 Q := by
  refine x_aload_n dX12_goThrough_50 rfl rfl ?_
  refine xm_geti dX12_goThrough_51 lf_X12_198 vmi_30 ?_
  refine x_iconst (v := -1) dX12_goThrough_54 (by decide) ?_
  refine x_icmp_ne (tgt := 84) dX12_goThrough_55 (by decide) (fun _ => ?_) (fun z => absurd z hf)
  refine x_aload_n dX12_goThrough_84 rfl rfl ?_
  refine xm_geti dX12_goThrough_85 lf_X12_198 vmi_30 ?_
  refine x_iconst (v := -1) dX12_goThrough_88 (by decide) ?_
  refine x_icmp_ne (tgt := 105) dX12_goThrough_89 (by decide) (fun _ => ?_) (fun z => absurd z hf)
  exact x_return dX12_goThrough_105 rfl (hq)
theorem gt_stop {q q0 : Nat} {cs : List Int32} (hR : RdC G ad σ b n L) (hq0 : q0 ≤ n) (hsk : sk b n q0 = sk b n q) (hqn : q ≤ n) (hne : ¬ lk b n q = 59) (hq : RQ ad σ L (pEnd2 b n (.ok (q, cs))) Q) : XJ G (d + 1) (0, 0) MX12_goThrough (mm ad (pS σ (nI q0) (-1) 0 (clE (wRO L (σ.1 32) cs false []) 0 0).1 (clE (wRO L (σ.1 32) cs false []) 0 0).2)) [(0, .ref (ad 99))] [] 50 Q := by
  obtain ⟨hi, hx, -, -, -, -, -⟩ := hR
  have hlk := lk_of hsk
  unfold pEnd2 at hq
  rw [pBind_ok] at hq
  by_cases he : lk b n q = -1
  · rw [if_pos (see_eq.mpr he)] at hq
    refine x_aload_n dX12_goThrough_50 rfl rfl ?_
    refine xm_geti dX12_goThrough_51 lf_X12_198 vmi_30 ?_
    refine x_iconst (v := -1) dX12_goThrough_54 (by decide) ?_
    refine x_icmp_ne (tgt := 84) dX12_goThrough_55 (by decide) (fun z => absurd rfl z) (fun _ => ?_)
    refine x_aload_n dX12_goThrough_58 rfl rfl ?_
    refine x_cV0 dX12_goThrough_59 lv_X12_208 mm_obj rfl rfl rfl  (c_X12_look hi hx (by first | exact hq0 | exact sk_le hqn) ?_)
    rw [hlk, hsk]
    refine x_bipush (v := 59) dX12_goThrough_62 (by decide) ?_
    refine x_icmp_ne (tgt := 84) dX12_goThrough_64 (by decide) (fun _ => ?_) (fun z => absurd z hne)
    refine x_aload_n dX12_goThrough_84 rfl rfl ?_
    refine xm_geti dX12_goThrough_85 lf_X12_198 vmi_30 ?_
    refine x_iconst (v := -1) dX12_goThrough_88 (by decide) ?_
    refine x_icmp_ne (tgt := 105) dX12_goThrough_89 (by decide) (fun z => absurd rfl z) (fun _ => ?_)
    refine x_aload_n dX12_goThrough_92 rfl rfl ?_
    refine x_cV0 dX12_goThrough_93 lv_X12_208 mm_obj rfl rfl rfl  (c_X12_look hi hx (by first | exact hq0 | exact sk_le hqn) ?_)
    rw [lk_sk hqn, sk_sk hqn]
    refine x_iconst (v := -1) dX12_goThrough_96 (by decide) ?_
    refine x_icmp_eq (tgt := 105) dX12_goThrough_97 (by decide) (fun _ => ?_) (fun z => absurd he z)
    exact x_return dX12_goThrough_105 rfl (hq.1 q cs rfl _)
  · rw [if_neg (fun z => he (see_eq.mp z))] at hq
    refine x_aload_n dX12_goThrough_50 rfl rfl ?_
    refine xm_geti dX12_goThrough_51 lf_X12_198 vmi_30 ?_
    refine x_iconst (v := -1) dX12_goThrough_54 (by decide) ?_
    refine x_icmp_ne (tgt := 84) dX12_goThrough_55 (by decide) (fun z => absurd rfl z) (fun _ => ?_)
    refine x_aload_n dX12_goThrough_58 rfl rfl ?_
    refine x_cV0 dX12_goThrough_59 lv_X12_208 mm_obj rfl rfl rfl  (c_X12_look hi hx (by first | exact hq0 | exact sk_le hqn) ?_)
    rw [hlk, hsk]
    refine x_bipush (v := 59) dX12_goThrough_62 (by decide) ?_
    refine x_icmp_ne (tgt := 84) dX12_goThrough_64 (by decide) (fun _ => ?_) (fun z => absurd z hne)
    refine x_aload_n dX12_goThrough_84 rfl rfl ?_
    refine xm_geti dX12_goThrough_85 lf_X12_198 vmi_30 ?_
    refine x_iconst (v := -1) dX12_goThrough_88 (by decide) ?_
    refine x_icmp_ne (tgt := 105) dX12_goThrough_89 (by decide) (fun z => absurd rfl z) (fun _ => ?_)
    refine x_aload_n dX12_goThrough_92 rfl rfl ?_
    refine x_cV0 dX12_goThrough_93 lv_X12_208 mm_obj rfl rfl rfl  (c_X12_look hi hx (by first | exact hq0 | exact sk_le hqn) ?_)
    rw [lk_sk hqn, sk_sk hqn]
    refine x_iconst (v := -1) dX12_goThrough_96 (by decide) ?_
    refine x_icmp_eq (tgt := 105) dX12_goThrough_97 (by decide) (fun z => absurd z he) (fun _ => ?_)
    refine x_aload_n dX12_goThrough_100 rfl rfl ?_
    refine x_cV0 dX12_goThrough_101 lv_X12_204 mm_obj rfl rfl rfl  (c_X12_fails ?_)
    rw [ff_1]
    refine x_pop dX12_goThrough_104 rfl ?_
    exact x_return dX12_goThrough_105 rfl (hq.2 _ rfl _ _ _ _)
theorem gt_loop (hR : RdC G ad σ b n L) : ∀ (f q q0 : Nat) (cs : List Int32), q0 ≤ n → sk b n q0 = sk b n q → Gc n L (σ.1 32) 0 (.ok (q, cs)) → n ≤ q + f → RQ ad σ L (pEnd2 b n (pClauses b n f q cs)) Q → XJ G (d + 48) (0, 0) MX12_goThrough (mm ad (pS σ (nI q0) (-1) 0 (clE (wRO L (σ.1 32) cs false []) 0 0).1 (clE (wRO L (σ.1 32) cs false []) 0 0).2)) [(0, .ref (ad 99))] [] 50 Q := by
  intro f
  induction f with
  | zero =>
    intro q q0 cs hq0 hsk hg hf hq
    obtain ⟨h1, hqn, h3⟩ := hg.1 q cs rfl
    rcases clauses_or (b := b) (cs := cs) hqn hf with ⟨hn1, he⟩ | ⟨f', hf', -⟩
    · rw [he] at hq
      exact gt_stop (d := d + 47) hR hq0 hsk hqn hn1 hq
    · exact absurd hf' (by omega)
  | succ f ih =>
    intro q q0 cs hq0 hsk hg hf hq
    obtain ⟨h1, hqn, h3⟩ := hg.1 q cs rfl
    have hR' := hR
    obtain ⟨hi, hx, -, hbd, -, -, -⟩ := hR
    have hn3 := hx.n31
    have hlk := lk_of hsk
    rcases clauses_or (b := b) (cs := cs) hqn hf with ⟨hn1, he⟩ | ⟨f', hf', hf2, hc, hlt, he⟩
    · rw [he] at hq
      exact gt_stop (d := d + 47) hR' hq0 hsk hqn hn1 hq
    · obtain rfl : f = f' := by omega
      rw [he] at hq
      have hge := sk_ge (b := b) (n := n) (p := q)
      have hgA := Gc_clause (b := b) (lb := σ.1 32) hbd (show sk b n q + 1 ≤ n by omega)
      refine x_aload_n dX12_goThrough_50 rfl rfl ?_
      refine xm_geti dX12_goThrough_51 lf_X12_198 vmi_30 ?_
      refine x_iconst (v := -1) dX12_goThrough_54 (by decide) ?_
      refine x_icmp_ne (tgt := 84) dX12_goThrough_55 (by decide) (fun z => absurd rfl z) (fun _ => ?_)
      refine x_aload_n dX12_goThrough_58 rfl rfl ?_
      refine x_cV0 dX12_goThrough_59 lv_X12_208 mm_obj rfl rfl rfl  (c_X12_look hi hx hq0 ?_)
      rw [hlk, hsk]
      refine x_bipush (v := 59) dX12_goThrough_62 (by decide) ?_
      refine x_icmp_ne (tgt := 84) dX12_goThrough_64 (by decide) (fun z => absurd hc z) (fun _ => ?_)
      refine x_aload_n dX12_goThrough_67 rfl rfl ?_
      refine x_dup dX12_goThrough_68 rfl ?_
      refine xm_geti dX12_goThrough_69 lf_X12_189 vmi_29 ?_
      refine x_iconst (v := 1) dX12_goThrough_72 (by decide) ?_
      refine x_iadd dX12_goThrough_73 ?_
      refine xm_puti dX12_goThrough_74 lp_X12_189 vmq_29 vmn_29 vmf_29 ?_
      rw [pS_inc]
      refine x_aload_n dX12_goThrough_77 rfl rfl ?_
      refine x_cV0 dX12_goThrough_78 lv_X12_282 mm_obj rfl rfl rfl  (c_X12_clause hR' (show sk b n q + 1 ≤ n by omega) ?_)
      refine ⟨fun q1 ds hok q2 hq2 hsk2 => ?_, fun x' herr a e' => ?_⟩
      · rw [hok] at hgA
        obtain ⟨g1, g2, g3⟩ := hgA.1 q1 ds rfl
        rw [hok, pBind_ok] at hq
        have hih := ih q1 q2 (cs ++ ds) hq2 hsk2 (Gc_ok (by rw [List.length_append]; omega) g2 (Cp_app h3 g3)) (by omega) hq
        rw [h3 ds false [], clE_or] at hih
        refine x_goto (tgt := 50) dX12_goThrough_81 (by decide) ?_
        exact hih
      · rw [herr, pBind_er] at hq
        have hne := nI_n1 (x := x') (by have := hgA.2 x' herr; omega)
        refine x_goto (tgt := 50) dX12_goThrough_81 (by decide) ?_
        exact gt_err hne (hq.2 x' rfl _ _ _ _)
theorem c_X12_goThrough {j b0 : Nat} {lb : Int32} (hj : j < 2 ^ 31) (hR : RdC G ad (gtS σ j b0 n lb) b n L) (hq : RQ ad (gtS σ j b0 n lb) L (pRule b n) Q) : CT G (d + 48) (0, 0) MX12_goThrough [.ref (ad 99), .ref (ad j), .int (nI b0), .int (nI n), .int lb] (mm ad σ) Q := by
  refine CT.of rfl (Nat.le_of_ble_eq_true rfl) ?_
  have hn3 := hR.2.1.n31
  have hgA := Gc_clause (b := b) (lb := (gtS σ j b0 n lb).1 32) hR.2.2.2.1 (Nat.zero_le n)
  rw [pRule_eq] at hq
  refine x_aload_n dX12_goThrough_0 rfl rfl ?_
  refine x_aload_n dX12_goThrough_1 rfl rfl ?_
  refine xm_putt dX12_goThrough_2 lp_X12_68 hj ?_
  refine x_aload_n dX12_goThrough_5 rfl rfl ?_
  refine x_iload_n dX12_goThrough_6 rfl rfl ?_
  refine xm_puti dX12_goThrough_7 lp_X12_195 vmq_27 vmn_27 vmf_27 ?_
  refine x_aload_n dX12_goThrough_10 rfl rfl ?_
  refine x_iload_n dX12_goThrough_11 rfl rfl ?_
  refine xm_puti dX12_goThrough_12 lp_X12_192 vmq_28 vmn_28 vmf_28 ?_
  refine x_aload_n dX12_goThrough_15 rfl rfl ?_
  refine x_iload dX12_goThrough_16 rfl ?_
  refine xm_puti dX12_goThrough_18 lp_X12_276 vmq_32 vmn_32 vmf_32 ?_
  refine x_aload_n dX12_goThrough_21 rfl rfl ?_
  refine x_iconst (v := 0) dX12_goThrough_22 (by decide) ?_
  refine xm_puti dX12_goThrough_23 lp_X12_189 vmq_29 vmn_29 vmf_29 ?_
  refine x_aload_n dX12_goThrough_26 rfl rfl ?_
  refine x_iconst (v := -1) dX12_goThrough_27 (by decide) ?_
  refine xm_puti dX12_goThrough_28 lp_X12_198 vmq_30 vmn_30 vmf_30 ?_
  refine x_aload_n dX12_goThrough_31 rfl rfl ?_
  refine x_iconst (v := 0) dX12_goThrough_32 (by decide) ?_
  refine xm_puti dX12_goThrough_33 lp_X12_201 vmq_31 vmn_31 vmf_31 ?_
  refine x_aload_n dX12_goThrough_36 rfl rfl ?_
  refine x_iconst (v := 0) dX12_goThrough_37 (by decide) ?_
  refine xm_puti dX12_goThrough_38 lp_X12_272 vmq_34 rfl rfl ?_
  refine x_aload_n dX12_goThrough_41 rfl rfl ?_
  refine x_iconst (v := 0) dX12_goThrough_42 (by decide) ?_
  refine xm_puti dX12_goThrough_43 lp_X12_279 vmq_33 vmn_33 vmf_33 ?_
  rw [gt_f]
  refine x_aload_n dX12_goThrough_46 rfl rfl ?_
  refine x_cV0 dX12_goThrough_47 lv_X12_282 mm_obj rfl rfl rfl  (c_X12_clause hR (Nat.zero_le n) ?_)
  refine ⟨fun q1 ds hok q2 hq2 hsk2 => ?_, fun x' herr a e' => ?_⟩
  · rw [hok] at hgA
    rw [hok, pBind_ok] at hq
    refine x_loc _ (?_ : lle _ _) (gt_loop hR n q1 q2 ds hq2 hsk2 hgA (by omega) hq)
    exact ⟨rfl, trivial⟩
  · rw [herr, pBind_er] at hq
    have hne := nI_n1 (x := x') (by have := hgA.2 x' herr; omega)
    refine x_loc _ (?_ : lle _ _) (gt_err hne (hq.2 x' rfl a e' 0 0))
    exact ⟨rfl, trivial⟩
/-- FAULT of a text -/
def aFau (b : Nat → Int32) (n : Nat) : Int32 := match pRule b n with
  | .ok _ => -1
  | .error x => nI x
theorem aFau_ok {b : Nat → Int32} {n q : Nat} {cs : List Int32} (h : pRule b n = .ok (q, cs)) : aFau b n = -1 := by unfold aFau; rw [h]
theorem aFau_er {b : Nat → Int32} {n x : Nat} (h : pRule b n = .error x) : aFau b n = nI x := by unfold aFau; rw [h]
theorem gt_fault {j b0 : Nat} {lb : Int32} (hl : LetOK σ) (hj : j < 2 ^ 31) (hR : RdC G ad (gtS σ j b0 n lb) b n L) (hq : ∀ σ', Sim σ σ' → σ'.1 30 = aFau b n → Q none (mm ad σ')) : CT G (d + 48) (0, 0) MX12_goThrough [.ref (ad 99), .ref (ad j), .int (nI b0), .int (nI n), .int lb] (mm ad σ) Q := by
  refine c_X12_goThrough hj hR ⟨fun q cs hok a => ?_, fun x' herr a e' v h => ?_⟩
  · exact hq _ (Sim_pS hl) (aFau_ok hok).symm
  · exact hq _ (Sim_pS hl) (aFau_er herr).symm
def mTape : mFind mArr 18 = some (101, 160) := rfl
theorem c_X12_fault (hi : adOK ad) (h0 : seti σ 0 0 = σ0) (hc : Cnt σ0) (hS : SXm G) (hl : LetOK σ0) (hq : ∀ σ', Sim σ0 σ' → Q (some (.int (aFau (σ0.2 18) (cn σ0 24)))) (mm ad σ')) : CT G (d + 49) (0, 0) MX12_fault [.ref (ad 99)] (mm ad σ) Q := by
  obtain ⟨hl1, hl2⟩ := hc.b 24 (b := 160) (by decide)
  refine CT.of rfl (Nat.le_of_ble_eq_true rfl) ?_
  have hR := RdC_gt (G := G) (ad := ad) (σ := σ0) (b := σ0.2 18) (j := 18) (N := 160) (b0 := 0) (n := cn σ0 24) (lb := 0) hi hS hl rfl (by omega) (by decide) (fun i _ => by rw [Nat.zero_add])
  refine x_aload_n dX12_fault_0 rfl rfl ?_
  refine x_iconst (v := 0) dX12_fault_1 (by decide) ?_
  refine xm_puti dX12_fault_2 lp_X12_138 vmq_0 vmn_0 vmf_0 ?_
  rw [h0]
  refine x_aload_n dX12_fault_5 rfl rfl ?_
  refine x_aload_n dX12_fault_6 rfl rfl ?_
  refine xm_geta dX12_fault_7 lf_X12_49 vma_18 ?_
  refine x_iconst (v := 0) dX12_fault_10 (by decide) ?_
  refine x_aload_n dX12_fault_11 rfl rfl ?_
  refine xm_geti dX12_fault_12 lf_X12_178 vmi_24 ?_
  rw [hl1]
  refine x_iconst (v := 0) dX12_fault_15 (by decide) ?_
  refine x_cV4 dX12_fault_16 lv_X12_285 mm_obj rfl rfl rfl  (gt_fault (j := 18) (b0 := 0) (n := cn σ0 24) (lb := 0) hl (by decide) hR ?_)
  intro σ' hs hf
  refine x_aload_n dX12_fault_19 rfl rfl ?_
  refine xm_geti dX12_fault_20 lf_X12_198 vmi_30 ?_
  rw [hf]
  exact x_ireturn dX12_fault_23 rfl rfl (hq σ' hs)
/-- the tape's bytes are bytes -/
def BytOK (σ : MS) : Prop := ∀ i, (σ.2 18 i).toInt8.toInt32 = σ.2 18 i
def cpyT (σ : MS) (n : Nat) : MS := fold (fun i s => seta s 19 (160 * cn σ 25 + i) (σ.2 18 i)) σ n
theorem cpyT_s (σ : MS) (i : Nat) : cpyT σ (i + 1) = seta (cpyT σ i) 19 (160 * cn σ 25 + i) (σ.2 18 i) := rfl
theorem cpyT_1 (σ : MS) : ∀ n, (cpyT σ n).1 = σ.1
  | 0 => rfl
  | n + 1 => cpyT_1 σ n
theorem cpyT_k (σ : MS) {k : Nat} (h : ¬ k = 19) : ∀ n, (cpyT σ n).2 k = σ.2 k
  | 0 => rfl
  | n + 1 => by rw [cpyT_s, seta_ne h, cpyT_k σ h n]
theorem cpyT_19 (σ : MS) : ∀ (n i : Nat), (cpyT σ n).2 19 i = if 160 * cn σ 25 ≤ i ∧ i < 160 * cn σ 25 + n then σ.2 18 (i - 160 * cn σ 25) else σ.2 19 i
  | 0, i => by rw [if_neg (by omega)]; rfl
  | n + 1, i => by
    rw [cpyT_s, seta_eq]
    by_cases e : i = 160 * cn σ 25 + n
    · subst e
      rw [updB_eq, if_pos (by omega), show 160 * cn σ 25 + n - 160 * cn σ 25 = n by omega]
    · rw [updB_ne e, cpyT_19 σ n i]
      by_cases e2 : 160 * cn σ 25 ≤ i ∧ i < 160 * cn σ 25 + n
      · rw [if_pos e2, if_pos (by omega)]
      · rw [if_neg e2, if_neg (by omega)]
def pRuleT (σ : MS) (fr : Int32) : Prop := aFau (σ.2 18) (cn σ 24) = -1 ∧ ¬ σ.1 25 = 20 ∧ isD fr
noncomputable def aRule (σ : MS) (fr : Int32) : Int32 := cI (pRuleT σ fr) (σ.1 25) (-1)
/-- a rule more -/
def oRule (σ : MS) (fr : Int32) : MS := seti (seti (seta (seta (seta (cpyT σ (cn σ 24)) 20 (cn σ 25) (σ.1 24)) 21 (cn σ 25) fr) 22 (cn σ 25) (σ.1 1)) 25 (σ.1 25 + 1)) 24 0
noncomputable def nRule (σ : MS) (fr : Int32) : MS := cI (pRuleT σ fr) (oRule σ fr) σ
theorem nI_mul (a b : Nat) : nI a * nI b = nI (a * b) := (Int32.ofNat_mul a b).symm
theorem cn_of {σ σ' : MS} {k : Nat} (h : σ'.1 k = σ.1 k) : cn σ' k = cn σ k := by unfold cn; rw [h]
theorem c_X12_rule {fr : Int32} (hi : adOK ad) (h0 : seti σ 0 0 = σ0) (hc : Cnt σ0) (hS : SXm G) (hl : LetOK σ0) (hb : BytOK σ0) (hq : ∀ σ', Sim (nRule σ0 fr) σ' → Q (some (.int (aRule σ0 fr))) (mm ad σ')) : CT G (d + 49) (0, 0) MX12_rule [.ref (ad 99), .int fr] (mm ad σ) Q := by
  obtain ⟨hl1, hl2⟩ := hc.b 24 (b := 160) (by decide)
  obtain ⟨hr1, hr2⟩ := hc.b 25 (b := 20) (by decide)
  refine CT.of rfl (Nat.le_of_ble_eq_true rfl) ?_
  have hR := RdC_gt (G := G) (ad := ad) (σ := σ0) (b := σ0.2 18) (j := 18) (N := 160) (b0 := 0) (n := cn σ0 24) (lb := 0) hi hS hl rfl (by omega) (by decide) (fun i _ => by rw [Nat.zero_add])
  refine x_aload_n dX12_rule_0 rfl rfl ?_
  refine x_iconst (v := 0) dX12_rule_1 (by decide) ?_
  refine xm_puti dX12_rule_2 lp_X12_138 vmq_0 vmn_0 vmf_0 ?_
  rw [h0]
  refine x_aload_n dX12_rule_5 rfl rfl ?_
  refine x_aload_n dX12_rule_6 rfl rfl ?_
  refine xm_geta dX12_rule_7 lf_X12_49 vma_18 ?_
  refine x_iconst (v := 0) dX12_rule_10 (by decide) ?_
  refine x_aload_n dX12_rule_11 rfl rfl ?_
  refine xm_geti dX12_rule_12 lf_X12_178 vmi_24 ?_
  rw [hl1]
  refine x_iconst (v := 0) dX12_rule_15 (by decide) ?_
  refine x_cV4 dX12_rule_16 lv_X12_285 mm_obj rfl rfl rfl  (gt_fault (j := 18) (b0 := 0) (n := cn σ0 24) (lb := 0) hl (by decide) hR ?_)
  intro σ' hs hf
  have e25 := hs.2.1 25 (Or.inl (by decide))
  have e24 := hs.2.1 24 (Or.inl (by decide))
  have e1 := hs.2.1 1 (Or.inl (by decide))
  have hn : ¬ pRuleT σ0 fr → Q (some (.int (-1))) (mm ad σ') := fun z => by
    have := hq σ'
    unfold nRule aRule at this
    rw [cI_f z, cI_f z] at this
    exact this hs
  refine x_aload_n dX12_rule_19 rfl rfl ?_
  refine xm_geti dX12_rule_20 lf_X12_198 vmi_30 ?_
  rw [hf]
  refine x_iconst (v := -1) dX12_rule_23 (by decide) ?_
  refine x_icmp_ne (tgt := 43) dX12_rule_24 (by decide) (fun h24 => ?_) (fun h24 => ?_)
  · refine x_iconst (v := -1) dX12_rule_43 (by decide) ?_
    exact x_ireturn dX12_rule_44 rfl rfl (hn (fun z => by
first
| exact h24 z.1
| exact z.2.1 h33
| exact h40 z.2.2))
  · refine x_aload_n dX12_rule_27 rfl rfl ?_
    refine xm_geti dX12_rule_28 lf_X12_289 vmi_25 ?_
    rw [e25]
    refine x_bipush (v := 20) dX12_rule_31 (by decide) ?_
    refine x_icmp_eq (tgt := 43) dX12_rule_33 (by decide) (fun h33 => ?_) (fun h33 => ?_)
    · refine x_iconst (v := -1) dX12_rule_43 (by decide) ?_
      exact x_ireturn dX12_rule_44 rfl rfl (hn (fun z => by
first
| exact h24 z.1
| exact z.2.1 h33
| exact h40 z.2.2))
    · refine x_iload_n dX12_rule_36 rfl rfl ?_
      refine x_cS1 dX12_rule_37 ls_X12_175 rfl  (c_X12_isDay ?_)
      refine x_if_ne_b (tgt := 45) dX12_rule_40 (by decide) (fun h40 => ?_) (fun h40 => ?_)
      · have hp : pRuleT σ0 fr := ⟨h24, h33, h40⟩
        have hq2 : ∀ σ2, Sim (oRule σ0 fr) σ2 → Q (some (.int (σ0.1 25))) (mm ad σ2) := fun σ2 h2 => by
          have := hq σ2
          unfold nRule aRule at this
          rw [cI_t hp, cI_t hp] at this
          exact this h2
        have hr3 : cn σ0 25 < 20 := by
          have : ¬ cn σ0 25 = 20 := fun z => h33 (by rw [hr1, z]; rfl)
          omega
        have hin25 : vp_in (σ0.1 25) 20 := by rw [hr1]; exact vp_in_nI hr3 (by decide)
        have ec25 := cn_of e25
        have ec24 := cn_of e24
        have H : ∀ m i, i + m = cn σ0 24 → XJ G (d + 49) (0, 0) MX12_rule (mm ad (cpyT σ' i)) [(0, .ref (ad 99)), (1, .int fr), (2, .int (nI i))] [] 47 Q := by
          intro m
          induction m with
          | zero =>
            intro i hi2
            obtain rfl : i = cn σ0 24 := by omega
            have f24 : (cpyT σ' (cn σ0 24)).1 24 = σ0.1 24 := by rw [cpyT_1]; exact e24
            have f25 : (cpyT σ' (cn σ0 24)).1 25 = σ0.1 25 := by rw [cpyT_1]; exact e25
            have f1 : (cpyT σ' (cn σ0 24)).1 1 = σ0.1 1 := by rw [cpyT_1]; exact e1
            have hcl : (σ0.1 25).toNatClampNeg = cn σ0 25 := rfl
            refine x_iload_n dX12_rule_47 rfl rfl ?_
            refine x_aload_n dX12_rule_48 rfl rfl ?_
            refine xm_geti dX12_rule_49 lf_X12_178 vmi_24 ?_
            rw [f24]
            refine x_icmp_ge (tgt := 82) dX12_rule_52 (by decide) (fun _ => ?_) (fun z => absurd (by rw [hl1]; exact Int32.le_refl _) z)
            refine x_aload_n dX12_rule_82 rfl rfl ?_
            refine xm_geta dX12_rule_83 lf_X12_56 vma_20 ?_
            refine x_aload_n dX12_rule_86 rfl rfl ?_
            refine xm_geti dX12_rule_87 lf_X12_289 vmi_25 ?_
            rw [f25]
            refine x_aload_n dX12_rule_90 rfl rfl ?_
            refine xm_geti dX12_rule_91 lf_X12_178 vmi_24 ?_
            rw [f24]
            refine xm_iast 20 dX12_rule_94 mf_20 hi hin25 hcl ?_
            refine x_aload_n dX12_rule_95 rfl rfl ?_
            refine xm_geta dX12_rule_96 lf_X12_59 vma_21 ?_
            refine x_aload_n dX12_rule_99 rfl rfl ?_
            refine xm_geti dX12_rule_100 lf_X12_289 vmi_25 ?_
            rw [show (seta (cpyT σ' (cn σ0 24)) 20 (cn σ0 25) (σ0.1 24)).1 25 = σ0.1 25 from f25]
            refine x_iload_n dX12_rule_103 rfl rfl ?_
            refine xm_iast 21 dX12_rule_104 mf_21 hi hin25 hcl ?_
            refine x_aload_n dX12_rule_105 rfl rfl ?_
            refine xm_geta dX12_rule_106 lf_X12_62 vma_22 ?_
            refine x_aload_n dX12_rule_109 rfl rfl ?_
            refine xm_geti dX12_rule_110 lf_X12_289 vmi_25 ?_
            rw [show (seta (seta (cpyT σ' (cn σ0 24)) 20 (cn σ0 25) (σ0.1 24)) 21 (cn σ0 25) fr).1 25 = σ0.1 25 from f25]
            refine x_aload_n dX12_rule_113 rfl rfl ?_
            refine xm_geti dX12_rule_114 lf_X12_142 vmi_1 ?_
            rw [show (seta (seta (cpyT σ' (cn σ0 24)) 20 (cn σ0 25) (σ0.1 24)) 21 (cn σ0 25) fr).1 1 = σ0.1 1 from f1]
            refine xm_iast 22 dX12_rule_117 mf_22 hi hin25 hcl ?_
            refine x_aload_n dX12_rule_118 rfl rfl ?_
            refine x_dup dX12_rule_119 rfl ?_
            refine xm_geti dX12_rule_120 lf_X12_289 vmi_25 ?_
            rw [show (seta (seta (seta (cpyT σ' (cn σ0 24)) 20 (cn σ0 25) (σ0.1 24)) 21 (cn σ0 25) fr) 22 (cn σ0 25) (σ0.1 1)).1 25 = σ0.1 25 from f25]
            refine x_iconst (v := 1) dX12_rule_123 (by decide) ?_
            refine x_iadd dX12_rule_124 ?_
            refine xm_puti dX12_rule_125 lp_X12_289 vmq_25 vmn_25 vmf_25 ?_
            refine x_aload_n dX12_rule_128 rfl rfl ?_
            refine x_iconst (v := 0) dX12_rule_129 (by decide) ?_
            refine xm_puti dX12_rule_130 lp_X12_178 vmq_24 vmn_24 vmf_24 ?_
            refine x_aload_n dX12_rule_133 rfl rfl ?_
            refine xm_geti dX12_rule_134 lf_X12_289 vmi_25 ?_
            refine x_iconst (v := 1) dX12_rule_137 (by decide) ?_
            refine x_isub dX12_rule_138 ?_
            exact x_ireturn dX12_rule_139 rfl rfl (by
rw [show ∀ s : MS, (seti (seti s 25 (σ0.1 25 + 1)) 24 0).1 25 - 1 = σ0.1 25 from fun s => add_sub1 _]
refine hq2 _ ⟨fun k h1 h2 => ?_, fun k hk => ?_, ?_⟩
· show (seta (seta (seta (cpyT σ' (cn σ0 24)) 20 (cn σ0 25) (σ0.1 24)) 21 (cn σ0 25) fr) 22 (cn σ0 25) (σ0.1 1)).2 k = (seta (seta (seta (cpyT σ0 (cn σ0 24)) 20 (cn σ0 25) (σ0.1 24)) 21 (cn σ0 25) fr) 22 (cn σ0 25) (σ0.1 1)).2 k
  have ec : (cpyT σ' (cn σ0 24)).2 k = (cpyT σ0 (cn σ0 24)).2 k := by
    by_cases y : k = 19
    · subst y
      funext i
      rw [cpyT_19, cpyT_19, ec25, hs.1 18 (by decide) (by decide), hs.1 19 (by decide) (by decide)]
    · rw [cpyT_k _ y, cpyT_k _ y, hs.1 k h1 h2]
  have es : ∀ (s t : MS) (a i : Nat) (x : Int32), s.2 k = t.2 k → (seta s a i x).2 k = (seta t a i x).2 k := by
    intro s t a i x hst
    by_cases y : k = a
    · subst y; rw [seta_eq, seta_eq, hst]
    · rw [seta_ne y, seta_ne y, hst]
  exact es _ _ _ _ _ (es _ _ _ _ _ (es _ _ _ _ _ ec))
· have ei : ∀ (s t : MS) (a : Nat) (x : Int32), s.1 k = t.1 k → (seti s a x).1 k = (seti t a x).1 k := by
    intro s t a x hst
    by_cases y : k = a
    · subst y; rw [show (seti s k x).1 k = x from updB_eq, show (seti t k x).1 k = x from updB_eq]
    · rw [seti_ne y, seti_ne y, hst]
  refine ei _ _ _ _ (ei _ _ _ _ ?_)
  show (cpyT σ' (cn σ0 24)).1 k = (cpyT σ0 (cn σ0 24)).1 k
  rw [cpyT_1, cpyT_1]
  exact hs.2.1 k hk
· intro c hc2
  show bd6 ((cpyT σ' (cn σ0 24)).2 23 c.toNatClampNeg)
  rw [cpyT_k _ (by decide)]
  exact hs.2.2 c hc2)
          | succ m ih =>
            intro i hi2
            have hlt : i < cn σ0 24 := by omega
            have f24 : (cpyT σ' i).1 24 = σ0.1 24 := by rw [cpyT_1]; exact e24
            have f25 : (cpyT σ' i).1 25 = σ0.1 25 := by rw [cpyT_1]; exact e25
            have f18 : (cpyT σ' i).2 18 i = σ0.2 18 i := by rw [cpyT_k _ (by decide), hs.1 18 (by decide) (by decide)]
            have hx1 : nI 160 * nI (cn σ0 25) + nI i = nI (160 * cn σ0 25 + i) := by rw [nI_mul, nI_add]
            have hin : vp_in (160 * σ0.1 25 + nI i) 3200 := by
              rw [hr1, show (160 : Int32) = nI 160 from rfl, hx1]
              exact vp_in_nI (by omega) (by decide)
            have hcl : (160 * σ0.1 25 + nI i).toNatClampNeg = 160 * cn σ' 25 + i := by
              rw [hr1, show (160 : Int32) = nI 160 from rfl, hx1, ec25]
              exact nI_clamp (by omega)
            have hin2 : vp_in (nI i) 160 := vp_in_nI (by omega) (by decide)
            have hcl2 : (nI i).toNatClampNeg = i := nI_clamp (by omega)
            refine x_iload_n dX12_rule_47 rfl rfl ?_
            refine x_aload_n dX12_rule_48 rfl rfl ?_
            refine xm_geti dX12_rule_49 lf_X12_178 vmi_24 ?_
            rw [f24]
            refine x_icmp_ge (tgt := 82) dX12_rule_52 (by decide) (fun z => absurd z (by rw [hl1]; exact nI_ge hlt (by omega))) (fun _ => ?_)
            refine x_aload_n dX12_rule_55 rfl rfl ?_
            refine xm_geta dX12_rule_56 lf_X12_53 vma_19 ?_
            refine x_sipush (v := 160) dX12_rule_59 (by decide) ?_
            refine x_aload_n dX12_rule_62 rfl rfl ?_
            refine xm_geti dX12_rule_63 lf_X12_289 vmi_25 ?_
            rw [f25]
            refine x_imul dX12_rule_66 ?_
            refine x_iload_n dX12_rule_67 rfl rfl ?_
            refine x_iadd dX12_rule_68 ?_
            refine x_aload_n dX12_rule_69 rfl rfl ?_
            refine xm_geta dX12_rule_70 lf_X12_49 vma_18 ?_
            refine x_iload_n dX12_rule_73 rfl rfl ?_
            refine xm_bald 18 dX12_rule_74 mf_18 hi hin2 hcl2 ?_
            refine xm_bast 19 dX12_rule_75 mf_19 hi hin hcl ?_
            rw [f18, hb i]
            refine x_iinc (c := 1) dX12_rule_76 rfl (by decide) ?_
            refine x_goto (tgt := 47) dX12_rule_79 (by decide) ?_
            have e18 : σ0.2 18 i = σ'.2 18 i := by rw [hs.1 18 (by decide) (by decide)]
            rw [e18, ← cpyT_s]
            refine x_loc _ (?_ : lle _ _) (ih (i + 1) (by omega))
            refine ⟨rfl, rfl, ?_, trivial⟩
            show some (Value.int _) = some (Value.int (nI (i + 1)))
            rw [← nI_1]
        refine x_iconst (v := 0) dX12_rule_45 (by decide) ?_
        refine x_istore_n dX12_rule_46 rfl (by decide) ?_
        refine x_loc _ (?_ : lle _ _) (H (cn σ0 24) 0 (by omega))
        exact ⟨rfl, rfl, rfl, trivial⟩
      · refine x_iconst (v := -1) dX12_rule_43 (by decide) ?_
        exact x_ireturn dX12_rule_44 rfl rfl (hn (fun z => by
first
| exact h24 z.1
| exact z.2.1 h33
| exact h40 z.2.2))
end MDS
