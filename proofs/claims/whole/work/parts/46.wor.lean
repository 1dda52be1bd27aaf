/-! the model's methods, 19: worth, asked, shown, digests, left: the model is done but for its constructor -/
/-- every rule's text is one -/
def RulOK (σ : MS) : Prop := ∀ r, r < cn σ 25 → ∃ n q cs, σ.2 20 r = nI n ∧ n ≤ 160 ∧ pRule (fun i => σ.2 19 (160 * r + i)) n = .ok (q, cs)
/-- the codes of rule r -/
def codS (σ : MS) (r : Nat) : List Int32 := match pRule (fun i => σ.2 19 (160 * r + i)) (σ.2 20 r).toNatClampNeg with
  | .ok a => a.2
  | .error _ => []
def wrth (σ : MS) (L : Int32 → Int32) (day q lb : Int32) : Int32 := if spRule σ day q (cn σ 25) = -1 then 0 else (wRO L lb (codS σ (spRule σ day q (cn σ 25)).toNatClampNeg) false []).getD 0
/-- the letters -/
def lt8 (a p w t k m e r : Int32) (c : Int32) : Int32 := if c = 97 then a else if c = 112 then p else if c = 119 then w else if c = 116 then t else if c = 107 then k else if c = 109 then m else if c = 101 then e else if c = 114 then r else 0
theorem spRule_cases {σ : MS} {day q : Int32} : ∀ n, spRule σ day q n = -1 ∨ ∃ j, j < n ∧ spRule σ day q n = nI j
  | 0 => Or.inl rfl
  | n + 1 => by
    have e : spRule σ day q (n + 1) = if σ.2 22 n ≤ q ∧ σ.2 21 n ≤ day ∧ (spRule σ day q n = -1 ∨ σ.2 21 (spRule σ day q n).toNatClampNeg ≤ σ.2 21 n) then nI n else spRule σ day q n := rfl
    rw [e]
    split
    · exact Or.inr ⟨n, by omega, rfl⟩
    · rcases spRule_cases (σ := σ) (day := day) (q := q) n with h | ⟨j, h1, h2⟩
      · exact Or.inl h
      · exact Or.inr ⟨j, by omega, h2⟩
theorem spRule_sim {σ σ' : MS} (h : Sim σ σ') (day q : Int32) (n : Nat) : spRule σ' day q n = spRule σ day q n := by
  have h22 := h.1 22 (by decide) (by decide)
  have h21 := h.1 21 (by decide) (by decide)
  unfold spRule
  rw [h22, h21]
theorem cn_sim {σ σ' : MS} (h : Sim σ σ') {k : Nat} (hk : k < 26 ∨ 37 < k) : cn σ' k = cn σ k := cn_of (h.2.1 k hk)
theorem codS_sim {σ σ' : MS} (h : Sim σ σ') (r : Nat) : codS σ' r = codS σ r := by
  unfold codS
  rw [h.1 19 (by decide) (by decide), h.1 20 (by decide) (by decide)]
theorem wrth_sim {σ σ' : MS} (h : Sim σ σ') (L : Int32 → Int32) (day q lb : Int32) : wrth σ' L day q lb = wrth σ L day q lb := by
  unfold wrth
  rw [cn_sim h (Or.inl (by decide)), spRule_sim h, codS_sim h]
theorem Cnt_sim {σ σ' : MS} (h : Sim σ σ') (hc : Cnt σ) : Cnt σ' := by
  intro q hq
  have h1 := hc q hq
  have h2 : ∀ q ∈ mBnd, q.1 < 26 ∨ 37 < q.1 := by decide
  have h3 := h.2.1 q.1 (h2 q hq)
  unfold Bnd cn at *
  rw [h3]; exact h1
theorem RulOK_sim {σ σ' : MS} (h : Sim σ σ') (hr : RulOK σ) : RulOK σ' := by
  intro r hr2
  rw [cn_sim h (Or.inl (by decide))] at hr2
  rw [h.1 19 (by decide) (by decide), h.1 20 (by decide) (by decide)]
  exact hr r hr2
theorem clE_0 (o : Option Int32) : (clE o 0 0).1 = o.getD 0 := by cases o <;> rfl
theorem pg_ne {σ : MS} {j b0 n : Nat} {lb a f e v h : Int32} {k : Nat} (hk : 34 < k) : (pS (gtS σ j b0 n lb) a f e v h).1 k = σ.1 k := by
  rw [pS_ne (by omega)]
  unfold gtS
  rw [seti_ne (by omega), seti_ne (by omega), seti_ne (by omega), seti_ne (by omega)]
section MDT
variable {G : Gam} {d : Nat} {Y : MR} {ad : Nat → Nat} {σ σ0 : MS} {M : Mem} {lv : Lv} {st : List Value} {pc : Nat} {Q : Option Value → Mem → Prop}
theorem c_X12_worth {day q lb : Int32} {L : Int32 → Int32} (hi : adOK ad) (hc : Cnt σ) (hS : SXm G) (hl : LetOK σ) (hr : RulOK σ) (hL : LSg σ = L) (hq : ∀ σ', Sim σ σ' → σ'.2 = σ.2 → (∀ k, 34 < k → σ'.1 k = σ.1 k) → Q (some (.int (wrth σ L day q lb))) (mm ad σ')) : CT G (d + 49) (0, 0) MX12_worth [.ref (ad 99), .int day, .int q, .int lb] (mm ad σ) Q := by
  refine CT.of rfl (Nat.le_of_ble_eq_true rfl) ?_
  unfold wrth at hq
  rcases spRule_cases (σ := σ) (day := day) (q := q) (cn σ 25) with h1 | ⟨r, hr1, h1⟩
  · have hq2 := hq σ (Sim.rf hl) rfl (fun _ _ => rfl)
    rw [if_pos h1] at hq2
    refine x_aload_n dX12_worth_0 rfl rfl ?_
    refine x_iload_n dX12_worth_1 rfl rfl ?_
    refine x_iload_n dX12_worth_2 rfl rfl ?_
    refine x_cV2 dX12_worth_3 lv_X12_292 mm_obj rfl rfl rfl  (c_X12_ruleOn hi hc ?_)
    refine x_istore dX12_worth_6 (by decide) ?_
    refine x_iload dX12_worth_8 rfl ?_
    refine x_iconst (v := -1) dX12_worth_10 (by decide) ?_
    refine x_icmp_ne (tgt := 16) dX12_worth_11 (by decide) (fun z => absurd h1 z) (fun _ => ?_)
    refine x_iconst (v := 0) dX12_worth_14 (by decide) ?_
    exact x_ireturn dX12_worth_15 rfl rfl (hq2)
  · obtain ⟨hl1, hl2⟩ := hc.b 25 (b := 20) (by decide)
    have hne : ¬ spRule σ day q (cn σ 25) = -1 := by rw [h1]; exact nI_n1 (by omega)
    have hcl0 : (nI r).toNatClampNeg = r := nI_clamp (by omega)
    obtain ⟨n, q1, cs, hn, hn2, hp⟩ := hr r hr1
    have hcod : codS σ r = cs := by
      unfold codS
      rw [hn, nI_clamp (by omega), hp]
    have hin : vp_in (nI r) 20 := vp_in_nI (by omega) (by decide)
    have hR := RdC_gt (G := G) (ad := ad) (σ := σ) (b := fun i => σ.2 19 (160 * r + i)) (j := 19) (N := 3200) (b0 := 160 * r) (n := n) (lb := lb) hi hS hl rfl (by omega) (by decide) (fun i _ => rfl)
    refine x_aload_n dX12_worth_0 rfl rfl ?_
    refine x_iload_n dX12_worth_1 rfl rfl ?_
    refine x_iload_n dX12_worth_2 rfl rfl ?_
    refine x_cV2 dX12_worth_3 lv_X12_292 mm_obj rfl rfl rfl  (c_X12_ruleOn hi hc ?_)
    rw [h1]
    refine x_istore dX12_worth_6 (by decide) ?_
    refine x_iload dX12_worth_8 rfl ?_
    refine x_iconst (v := -1) dX12_worth_10 (by decide) ?_
    refine x_icmp_ne (tgt := 16) dX12_worth_11 (by decide) (fun _ => ?_) (fun z => absurd z (nI_n1 (by omega)))
    refine x_aload_n dX12_worth_16 rfl rfl ?_
    refine x_aload_n dX12_worth_17 rfl rfl ?_
    refine xm_geta dX12_worth_18 lf_X12_53 vma_19 ?_
    refine x_sipush (v := 160) dX12_worth_21 (by decide) ?_
    refine x_iload dX12_worth_24 rfl ?_
    refine x_imul dX12_worth_26 ?_
    rw [show (160 : Int32) = nI 160 from rfl, nI_mul]
    refine x_aload_n dX12_worth_27 rfl rfl ?_
    refine xm_geta dX12_worth_28 lf_X12_56 vma_20 ?_
    refine x_iload dX12_worth_31 rfl ?_
    refine xm_iald 20 dX12_worth_33 mf_20 hi hin hcl0 ?_
    rw [hn]
    refine x_iload_n dX12_worth_34 rfl rfl ?_
    refine x_cV4 dX12_worth_35 lv_X12_285 mm_obj rfl rfl rfl  (c_X12_goThrough (j := 19) (b0 := 160 * r) (n := n) (by decide) hR ?_)
    refine ⟨fun q2 cs2 hok a => ?_, fun x' herr => ?_⟩
    · rw [hp] at hok
      cases hok
      have hq2 := hq (pS (gtS σ 19 (160 * r) n lb) a (-1) 0 (clE (wRO (LSg σ) ((gtS σ 19 (160 * r) n lb).1 32) cs false []) 0 0).1 (clE (wRO (LSg σ) ((gtS σ 19 (160 * r) n lb).1 32) cs false []) 0 0).2) (Sim_pS hl) rfl (fun k hk => pg_ne hk)
      rw [if_neg hne, h1, hcl0, hcod, ← hL, ← clE_0] at hq2
      refine x_aload_n dX12_worth_38 rfl rfl ?_
      refine xm_geti dX12_worth_39 lf_X12_279 vmi_33 ?_
      exact x_ireturn dX12_worth_42 rfl rfl (hq2)
    · rw [hp] at herr
      cases herr
/-- persons' and lines' numbers are within their bounds -/
def PerOK (σ : MS) : Prop := ∀ p, p < cn σ 15 → bd6 (σ.2 2 p) ∧ bd6 (σ.2 3 p) ∧ bd6 (σ.2 4 p)
def LnB (σ : MS) : Prop := ∀ l, l < cn σ 16 → isD (σ.2 9 l) ∧ bd6 (σ.2 10 l) ∧ bd6 (σ.2 11 l)
theorem isD_bd {x : Int32} (h : isD x) : bd6 x := ⟨Int32.le_trans (by decide) h.1, Int32.le_trans h.2 (by decide)⟩
theorem isS_bd {x : Int32} (h : isS x) : bd6 x := ⟨Int32.le_trans (by decide) h.1, Int32.le_trans h.2 (by decide)⟩
theorem isD_i {x : Int32} (h : isD x) : 0 ≤ x.toInt ∧ x.toInt ≤ 1000 := ⟨Int32.le_iff_toInt_le.mp h.1, Int32.le_iff_toInt_le.mp h.2⟩
theorem sub_bd {x y : Int32} (hx : isD x) (hy : isD y) : bd6 (x - y) := by
  have h1 := isD_i hx
  have h2 := isD_i hy
  obtain ⟨a, ha⟩ : ∃ a : Nat, x = nI a := ⟨x.toInt.toNat, by rw [← Int32.toInt_inj, nI_toInt (by omega)]; omega⟩
  rw [bd6_i, Int32.toInt_sub]
  have e8 : ((2 ^ 32 : Nat) : Int) = 4294967296 := rfl
  simp only [Int.bmod, e8]
  split <;> omega
/-- the letters of a person, and more -/
def perL (σ : MS) (p : Nat) (t k m e r : Int32) : Int32 → Int32 := lt8 (σ.2 3 p) (σ.2 2 p) (σ.2 4 p) t k m e r
theorem lt8_n {a p w t k m e r c : Int32} (h : ¬ isLet c = true) : lt8 a p w t k m e r c = 0 := by
  have h2 : ∀ x ∈ pLetters, ¬ c = x := by
    intro x hx e
    subst e
    apply h
    unfold isLet
    exact List.any_eq_true.mpr ⟨c, hx, decide_eq_true rfl⟩
  unfold lt8
  rw [if_neg (h2 97 (by decide)), if_neg (h2 112 (by decide)), if_neg (h2 119 (by decide)), if_neg (h2 116 (by decide)), if_neg (h2 107 (by decide)), if_neg (h2 109 (by decide)), if_neg (h2 101 (by decide)), if_neg (h2 114 (by decide))]
theorem lt8_bd {a p w t k m e r : Int32} (ha : bd6 a) (hp : bd6 p) (hw : bd6 w) (ht : bd6 t) (hk : bd6 k) (hm : bd6 m) (he : bd6 e) (hr : bd6 r) (c : Int32) (hc : isLet c = true) : bd6 (lt8 a p w t k m e r c) := by
  rcases let_mem hc with h | h | h | h | h | h | h | h <;> subst h <;> assumption
/-- a state whose row of letters is these -/
def LetIs (σ' : MS) (L : Int32 → Int32) : Prop := ∀ c, isLet c = true → σ'.2 23 c.toNatClampNeg = L c
theorem LetIs.eq {σ' : MS} {a p w t k m e r : Int32} (h : LetIs σ' (lt8 a p w t k m e r)) : LSg σ' = lt8 a p w t k m e r := by
  funext c
  unfold LSg
  by_cases z : isLet c = true
  · rw [if_pos z]; exact h c z
  · rw [if_neg z, lt8_n z]
theorem LetIs.ok {σ' : MS} {L : Int32 → Int32} (h : LetIs σ' L) (hb : ∀ c, isLet c = true → bd6 (L c)) : LetOK σ' := fun c hc => by rw [h c hc]; exact hb c hc
noncomputable def aAsk (σ : MS) (p day sort q : Int32) : Int32 := cI (isP σ p ∧ isD day ∧ isS sort ∧ isK σ q) (if wrth σ (perL σ p.toNatClampNeg day sort 0 0 0) day q 113 = 0 then 0 else 1) (-1)
theorem z6 : bd6 0 := ⟨by decide, by decide⟩
theorem c_X12_asked {p day sort q : Int32} (hi : adOK ad) (h0 : seti σ 0 0 = σ0) (hc : Cnt σ0) (hS : SXm G) (hl : LetOK σ0) (hr : RulOK σ0) (hp : PerOK σ0) (hq : ∀ σ', Sim σ0 σ' → Q (some (.int (aAsk σ0 p day sort q))) (mm ad σ')) : CT G (d + 50) (0, 0) MX12_asked [.ref (ad 99), .int p, .int day, .int sort, .int q] (mm ad σ) Q := by
  obtain ⟨hl1, hl2⟩ := hc.b 15 (b := 24) (by decide)
  refine CT.of rfl (Nat.le_of_ble_eq_true rfl) ?_
  have hn : ¬ (isP σ0 p ∧ isD day ∧ isS sort ∧ isK σ0 q) → Q (some (.int (-1))) (mm ad σ0) := fun z => by
    have := hq σ0 (Sim.rf hl)
    unfold aAsk at this
    rw [cI_f z] at this
    exact this
  refine x_aload_n dX12_asked_0 rfl rfl ?_
  refine x_iconst (v := 0) dX12_asked_1 (by decide) ?_
  refine xm_puti dX12_asked_2 lp_X12_138 vmq_0 vmn_0 vmf_0 ?_
  rw [h0]
  refine x_aload_n dX12_asked_5 rfl rfl ?_
  refine x_iload_n dX12_asked_6 rfl rfl ?_
  refine x_cV1 dX12_asked_7 lv_X12_165 mm_obj rfl rfl rfl  (c_X12_isPerson ?_)
  refine x_if_eq_b (tgt := 36) dX12_asked_10 (by decide) (fun h10 => ?_) (fun h10 => ?_)
  · refine x_iconst (v := -1) dX12_asked_36 (by decide) ?_
    exact x_ireturn dX12_asked_37 rfl rfl (hn (fun z => by first | exact h10 z.1 | exact h17 z.2.1 | exact h24 z.2.2.1 | exact h33 z.2.2.2))
  · refine x_iload_n dX12_asked_13 rfl rfl ?_
    refine x_cS1 dX12_asked_14 ls_X12_175 rfl  (c_X12_isDay ?_)
    refine x_if_eq_b (tgt := 36) dX12_asked_17 (by decide) (fun h17 => ?_) (fun h17 => ?_)
    · refine x_iconst (v := -1) dX12_asked_36 (by decide) ?_
      exact x_ireturn dX12_asked_37 rfl rfl (hn (fun z => by first | exact h10 z.1 | exact h17 z.2.1 | exact h24 z.2.2.1 | exact h33 z.2.2.2))
    · refine x_iload_n dX12_asked_20 rfl rfl ?_
      refine x_cS1 dX12_asked_21 ls_X12_168 rfl  (c_X12_isSort ?_)
      refine x_if_eq_b (tgt := 36) dX12_asked_24 (by decide) (fun h24 => ?_) (fun h24 => ?_)
      · refine x_iconst (v := -1) dX12_asked_36 (by decide) ?_
        exact x_ireturn dX12_asked_37 rfl rfl (hn (fun z => by first | exact h10 z.1 | exact h17 z.2.1 | exact h24 z.2.2.1 | exact h33 z.2.2.2))
      · refine x_aload_n dX12_asked_27 rfl rfl ?_
        refine x_iload dX12_asked_28 rfl ?_
        refine x_cV1 dX12_asked_30 lv_X12_159 mm_obj rfl rfl rfl  (c_X12_isKnown ?_)
        refine x_if_ne_b (tgt := 38) dX12_asked_33 (by decide) (fun h33 => ?_) (fun h33 => ?_)
        · obtain ⟨j, hj, rfl⟩ := of_lt h10.1 h10.2 hl1 (by omega)
          have hcl : (nI j).toNatClampNeg = j := nI_clamp (by omega)
          obtain ⟨b1, b2, b3⟩ := hp j hj
          have hLet : LetIs (seta (seta (nPer (zL σ0 128) j) 23 116 day) 23 107 sort) (perL σ0 j day sort 0 0 0) := by
            intro c hc
            rcases let_mem hc with h | h | h | h | h | h | h | h <;> subst h <;> rfl
          have hsim : Sim σ0 (seta (seta (nPer (zL σ0 128) j) 23 116 day) 23 107 sort) := by
            refine ⟨fun k h1 h2 => ?_, fun k _ => rfl, hLet.ok (lt8_bd b2 b1 b3 (isD_bd h17) (isS_bd h24) z6 z6 z6)⟩
            rw [seta_ne h1, seta_ne h1]
            unfold nPer
            rw [seta_ne h1, seta_ne h1, seta_ne h1]
            show (bif Nat.beq k 23 then _ else σ0.2 k) = σ0.2 k
            rw [beq_f h1]; rfl
          refine x_aload_n dX12_asked_38 rfl rfl ?_
          refine x_cV0 dX12_asked_39 lv_X12_295 mm_obj rfl rfl rfl  (c_X12_noLetters hi ?_)
          refine x_aload_n dX12_asked_42 rfl rfl ?_
          refine x_iload_n dX12_asked_43 rfl rfl ?_
          refine x_cV1 dX12_asked_44 lv_X12_298 mm_obj rfl rfl rfl  (c_X12_letPerson (p := j) hi (by omega) ?_)
          refine x_aload_n dX12_asked_47 rfl rfl ?_
          refine xm_geta dX12_asked_48 lf_X12_65 vma_23 ?_
          refine x_bipush (v := 116) dX12_asked_51 (by decide) ?_
          refine x_iload_n dX12_asked_53 rfl rfl ?_
          refine xm_iast 23 dX12_asked_54 mf_23 hi (show vp_in (nI 116) 128 from vp_in_nI (by decide) (by decide)) (show (116 : Int32).toNatClampNeg = 116 from rfl) ?_
          refine x_aload_n dX12_asked_55 rfl rfl ?_
          refine xm_geta dX12_asked_56 lf_X12_65 vma_23 ?_
          refine x_bipush (v := 107) dX12_asked_59 (by decide) ?_
          refine x_iload_n dX12_asked_61 rfl rfl ?_
          refine xm_iast 23 dX12_asked_62 mf_23 hi (show vp_in (nI 107) 128 from vp_in_nI (by decide) (by decide)) (show (107 : Int32).toNatClampNeg = 107 from rfl) ?_
          refine x_aload_n dX12_asked_63 rfl rfl ?_
          refine x_iload_n dX12_asked_64 rfl rfl ?_
          refine x_iload dX12_asked_65 rfl ?_
          refine x_bipush (v := 113) dX12_asked_67 (by decide) ?_
          refine x_cV3 dX12_asked_69 lv_X12_301 mm_obj rfl rfl rfl  (c_X12_worth (L := perL σ0 j day sort 0 0 0) hi (Cnt_sim hsim hc) hS hsim.2.2 (RulOK_sim hsim hr) hLet.eq ?_)
          intro σ' hs' _ _
          have hq2 := hq σ' (hsim.tr hs')
          unfold aAsk at hq2
          rw [cI_t ⟨h10, h17, h24, h33⟩, hcl] at hq2
          rw [wrth_sim hsim]
          refine x_if_eq (tgt := 79) dX12_asked_72 (by decide) (fun h72 => ?_) (fun h72 => ?_)
          · refine x_iconst (v := 0) dX12_asked_79 (by decide) ?_
            exact x_ireturn dX12_asked_80 rfl rfl (by first | (rw [if_pos h72] at hq2; exact hq2) | (rw [if_neg h72] at hq2; exact hq2) | (rw [if_neg (fun z => h72 z)] at hq2; exact hq2))
          · refine x_iconst (v := 1) dX12_asked_75 (by decide) ?_
            refine x_goto (tgt := 80) dX12_asked_76 (by decide) ?_
            exact x_ireturn dX12_asked_80 rfl rfl (by first | (rw [if_pos h72] at hq2; exact hq2) | (rw [if_neg h72] at hq2; exact hq2) | (rw [if_neg (fun z => h72 z)] at hq2; exact hq2))
        · refine x_iconst (v := -1) dX12_asked_36 (by decide) ?_
          exact x_ireturn dX12_asked_37 rfl rfl (hn (fun z => by first | exact h10 z.1 | exact h17 z.2.1 | exact h24 z.2.2.1 | exact h33 z.2.2.2))
/-- the letters of a line shown on a day to a rank -/
def linL (σ : MS) (l : Nat) (day rank : Int32) : Int32 → Int32 := perL σ (σ.2 8 l).toNatClampNeg day (σ.2 10 l) (σ.2 11 l) (day - σ.2 9 l) rank
def shw (σ : MS) (l : Nat) (day rank q : Int32) : Prop := ¬ wrth σ (linL σ l day rank) day q 115 = 0
theorem linL_sim {σ σ' : MS} (h : Sim σ σ') (l : Nat) (day rank : Int32) : linL σ' l day rank = linL σ l day rank := by
  unfold linL perL
  rw [h.1 8 (by decide) (by decide), h.1 9 (by decide) (by decide), h.1 10 (by decide) (by decide), h.1 11 (by decide) (by decide), h.1 2 (by decide) (by decide), h.1 3 (by decide) (by decide), h.1 4 (by decide) (by decide)]
theorem shw_sim {σ σ' : MS} (h : Sim σ σ') (l : Nat) (day rank q : Int32) : shw σ' l day rank q ↔ shw σ l day rank q := by
  unfold shw
  rw [wrth_sim h, linL_sim h]
theorem LinP_sim {σ σ' : MS} (h : Sim σ σ') (hp : LinP σ) : LinP σ' := by
  intro l hl
  rw [cn_sim h (Or.inl (by decide))] at hl
  rw [h.1 8 (by decide) (by decide), h.2.1 15 (Or.inl (by decide))]
  exact hp l hl
theorem PerOK_sim {σ σ' : MS} (h : Sim σ σ') (hp : PerOK σ) : PerOK σ' := by
  intro l hl
  rw [cn_sim h (Or.inl (by decide))] at hl
  rw [h.1 2 (by decide) (by decide), h.1 3 (by decide) (by decide), h.1 4 (by decide) (by decide)]
  exact hp l hl
theorem LnB_sim {σ σ' : MS} (h : Sim σ σ') (hp : LnB σ) : LnB σ' := by
  intro l hl
  rw [cn_sim h (Or.inl (by decide))] at hl
  rw [h.1 9 (by decide) (by decide), h.1 10 (by decide) (by decide), h.1 11 (by decide) (by decide)]
  exact hp l hl
theorem c_X12_mayShow {l : Nat} {day rank q : Int32} (hi : adOK ad) (hc : Cnt σ) (hS : SXm G) (hr : RulOK σ) (hp : PerOK σ) (hL : LinP σ) (hB : LnB σ) (hl : l < cn σ 16) (hd : isD day) (hrk : isS rank) (hq : ∀ σ', Sim σ σ' → σ'.2 35 = σ.2 35 → (∀ k, 34 < k → σ'.1 k = σ.1 k) → Q (some (.int (bI (shw σ l day rank q)))) (mm ad σ')) : CT G (d + 50) (0, 0) MX12_mayShow [.ref (ad 99), .int (nI l), .int day, .int rank, .int q] (mm ad σ) Q := by
  obtain ⟨hl1, hl2⟩ := hc.b 16 (b := 200) (by decide)
  obtain ⟨hp1, hp2⟩ := hc.b 15 (b := 24) (by decide)
  have hin : vp_in (nI l) 200 := vp_in_nI (by omega) (by decide)
  have hcl : (nI l).toNatClampNeg = l := nI_clamp (by omega)
  obtain ⟨j, hj, hpj⟩ := of_lt (hL l hl).1 (hL l hl).2 hp1 (by omega)
  have hclj : (nI j).toNatClampNeg = j := nI_clamp (by omega)
  obtain ⟨b1, b2, b3⟩ := hp j hj
  obtain ⟨l1, l2, l3⟩ := hB l hl
  have hLet : LetIs (seta (seta (seta (seta (seta (nPer (zL σ 128) j) 23 116 day) 23 107 (σ.2 10 l)) 23 109 (σ.2 11 l)) 23 101 (day - σ.2 9 l)) 23 114 rank) (linL σ l day rank) := by
    intro c hc
    unfold linL
    rw [hpj, hclj]
    rcases let_mem hc with h | h | h | h | h | h | h | h <;> subst h <;> rfl
  have hLeq : LSg (seta (seta (seta (seta (seta (nPer (zL σ 128) j) 23 116 day) 23 107 (σ.2 10 l)) 23 109 (σ.2 11 l)) 23 101 (day - σ.2 9 l)) 23 114 rank) = linL σ l day rank := LetIs.eq hLet
  have hsim : Sim σ (seta (seta (seta (seta (seta (nPer (zL σ 128) j) 23 116 day) 23 107 (σ.2 10 l)) 23 109 (σ.2 11 l)) 23 101 (day - σ.2 9 l)) 23 114 rank) := by
    refine ⟨fun k h1 h2 => ?_, fun k _ => rfl, hLet.ok (by
      unfold linL
      rw [hpj, hclj]
      exact lt8_bd b2 b1 b3 (isD_bd hd) l2 l3 (sub_bd hd l1) (isS_bd hrk))⟩
    rw [seta_ne h1, seta_ne h1, seta_ne h1, seta_ne h1, seta_ne h1]
    unfold nPer
    rw [seta_ne h1, seta_ne h1, seta_ne h1]
    show (bif Nat.beq k 23 then _ else σ.2 k) = σ.2 k
    rw [beq_f h1]; rfl
  refine CT.of rfl (Nat.le_of_ble_eq_true rfl) ?_
  refine x_aload_n dX12_mayShow_0 rfl rfl ?_
  refine x_cV0 dX12_mayShow_1 lv_X12_295 mm_obj rfl rfl rfl  (c_X12_noLetters hi ?_)
  refine x_aload_n dX12_mayShow_4 rfl rfl ?_
  refine x_aload_n dX12_mayShow_5 rfl rfl ?_
  refine xm_geta dX12_mayShow_6 lf_X12_28 vma_8 ?_
  refine x_iload_n dX12_mayShow_9 rfl rfl ?_
  refine xm_iald 8 dX12_mayShow_10 mf_8 hi hin hcl ?_
  rw [show (zL σ 128).2 8 l = nI j from hpj]
  refine x_cV1 dX12_mayShow_11 lv_X12_298 mm_obj rfl rfl rfl  (c_X12_letPerson (p := j) hi (by omega) ?_)
  refine x_aload_n dX12_mayShow_14 rfl rfl ?_
  refine xm_geta dX12_mayShow_15 lf_X12_65 vma_23 ?_
  refine x_bipush (v := 116) dX12_mayShow_18 (by decide) ?_
  refine x_iload_n dX12_mayShow_20 rfl rfl ?_
  refine xm_iast 23 dX12_mayShow_21 mf_23 hi (show vp_in (nI 116) 128 from vp_in_nI (by decide) (by decide)) (show (116 : Int32).toNatClampNeg = 116 from rfl) ?_
  refine x_aload_n dX12_mayShow_22 rfl rfl ?_
  refine xm_geta dX12_mayShow_23 lf_X12_65 vma_23 ?_
  refine x_bipush (v := 107) dX12_mayShow_26 (by decide) ?_
  refine x_aload_n dX12_mayShow_28 rfl rfl ?_
  refine xm_geta dX12_mayShow_29 lf_X12_34 vma_10 ?_
  refine x_iload_n dX12_mayShow_32 rfl rfl ?_
  refine xm_iald 10 dX12_mayShow_33 mf_10 hi hin hcl ?_
  refine xm_iast 23 dX12_mayShow_34 mf_23 hi (show vp_in (nI 107) 128 from vp_in_nI (by decide) (by decide)) (show (107 : Int32).toNatClampNeg = 107 from rfl) ?_
  refine x_aload_n dX12_mayShow_35 rfl rfl ?_
  refine xm_geta dX12_mayShow_36 lf_X12_65 vma_23 ?_
  refine x_bipush (v := 109) dX12_mayShow_39 (by decide) ?_
  refine x_aload_n dX12_mayShow_41 rfl rfl ?_
  refine xm_geta dX12_mayShow_42 lf_X12_37 vma_11 ?_
  refine x_iload_n dX12_mayShow_45 rfl rfl ?_
  refine xm_iald 11 dX12_mayShow_46 mf_11 hi hin hcl ?_
  refine xm_iast 23 dX12_mayShow_47 mf_23 hi (show vp_in (nI 109) 128 from vp_in_nI (by decide) (by decide)) (show (109 : Int32).toNatClampNeg = 109 from rfl) ?_
  refine x_aload_n dX12_mayShow_48 rfl rfl ?_
  refine xm_geta dX12_mayShow_49 lf_X12_65 vma_23 ?_
  refine x_bipush (v := 101) dX12_mayShow_52 (by decide) ?_
  refine x_iload_n dX12_mayShow_54 rfl rfl ?_
  refine x_aload_n dX12_mayShow_55 rfl rfl ?_
  refine xm_geta dX12_mayShow_56 lf_X12_31 vma_9 ?_
  refine x_iload_n dX12_mayShow_59 rfl rfl ?_
  refine xm_iald 9 dX12_mayShow_60 mf_9 hi hin hcl ?_
  refine x_isub dX12_mayShow_61 ?_
  refine xm_iast 23 dX12_mayShow_62 mf_23 hi (show vp_in (nI 101) 128 from vp_in_nI (by decide) (by decide)) (show (101 : Int32).toNatClampNeg = 101 from rfl) ?_
  refine x_aload_n dX12_mayShow_63 rfl rfl ?_
  refine xm_geta dX12_mayShow_64 lf_X12_65 vma_23 ?_
  refine x_bipush (v := 114) dX12_mayShow_67 (by decide) ?_
  refine x_iload_n dX12_mayShow_69 rfl rfl ?_
  refine xm_iast 23 dX12_mayShow_70 mf_23 hi (show vp_in (nI 114) 128 from vp_in_nI (by decide) (by decide)) (show (114 : Int32).toNatClampNeg = 114 from rfl) ?_
  refine x_aload_n dX12_mayShow_71 rfl rfl ?_
  refine x_iload_n dX12_mayShow_72 rfl rfl ?_
  refine x_iload dX12_mayShow_73 rfl ?_
  refine x_bipush (v := 115) dX12_mayShow_75 (by decide) ?_
  refine x_cV3 dX12_mayShow_77 lv_X12_301 mm_obj rfl rfl rfl  (c_X12_worth (σ := (seta (seta (seta (seta (seta (nPer (zL σ 128) j) 23 116 day) 23 107 (σ.2 10 l)) 23 109 (σ.2 11 l)) 23 101 (day - σ.2 9 l)) 23 114 rank)) (L := linL σ l day rank) hi (Cnt_sim hsim hc) hS hsim.2.2 (RulOK_sim hsim hr) hLeq ?_)
  intro σ' hs' he he2
  have hq2 := hq σ' (hsim.tr hs') (by rw [he]; rfl) (fun k hk => by rw [he2 k hk]; rfl)
  rw [wrth_sim hsim]
  refine x_if_eq (tgt := 87) dX12_mayShow_80 (by decide) (fun h80 => ?_) (fun h80 => ?_)
  · refine x_iconst (v := 0) dX12_mayShow_87 (by decide) ?_
    exact x_ireturn dX12_mayShow_88 rfl rfl (fin hq2 (by first | exact bI_t (show shw σ l day rank q from h80) | exact bI_f (fun z => z h80)))
  · refine x_iconst (v := 1) dX12_mayShow_83 (by decide) ?_
    refine x_goto (tgt := 88) dX12_mayShow_84 (by decide) ?_
    exact x_ireturn dX12_mayShow_88 rfl rfl (fin hq2 (by first | exact bI_t (show shw σ l day rank q from h80) | exact bI_f (fun z => z h80)))
noncomputable def aShown (σ : MS) (l day rank q : Int32) : Int32 := cI (isLB σ l q ∧ (σ.2 9 l.toNatClampNeg ≤ day ∧ day ≤ 1000) ∧ isS rank) (bI (shw σ l.toNatClampNeg day rank q)) (-1)
theorem c_X12_shown {l day rank q : Int32} (hi : adOK ad) (h0 : seti σ 0 0 = σ0) (hc : Cnt σ0) (hS : SXm G) (hl : LetOK σ0) (hr : RulOK σ0) (hp : PerOK σ0) (hL : LinP σ0) (hB : LnB σ0) (hq : ∀ σ', Sim σ0 σ' → Q (some (.int (aShown σ0 l day rank q))) (mm ad σ')) : CT G (d + 51) (0, 0) MX12_shown [.ref (ad 99), .int l, .int day, .int rank, .int q] (mm ad σ) Q := by
  obtain ⟨hl1, hl2⟩ := hc.b 16 (b := 200) (by decide)
  refine CT.of rfl (Nat.le_of_ble_eq_true rfl) ?_
  have hn : ¬ (isLB σ0 l q ∧ (σ0.2 9 l.toNatClampNeg ≤ day ∧ day ≤ 1000) ∧ isS rank) → Q (some (.int (-1))) (mm ad σ0) := fun z => by
    have := hq σ0 (Sim.rf hl)
    unfold aShown at this
    rw [cI_f z] at this
    exact this
  refine x_aload_n dX12_shown_0 rfl rfl ?_
  refine x_iconst (v := 0) dX12_shown_1 (by decide) ?_
  refine xm_puti dX12_shown_2 lp_X12_138 vmq_0 vmn_0 vmf_0 ?_
  rw [h0]
  refine x_aload_n dX12_shown_5 rfl rfl ?_
  refine x_iload_n dX12_shown_6 rfl rfl ?_
  refine x_iload dX12_shown_7 rfl ?_
  refine x_cV2 dX12_shown_9 lv_X12_305 mm_obj rfl rfl rfl  (c_X12_isLineBy hi hc ?_)
  refine x_if_eq_b (tgt := 41) dX12_shown_12 (by decide) (fun h12 => ?_) (fun h12 => ?_)
  · refine x_iconst (v := -1) dX12_shown_41 (by decide) ?_
    refine x_goto (tgt := 62) dX12_shown_42 (by decide) ?_
    exact x_ireturn dX12_shown_62 rfl rfl (hn (fun z => by first | exact h12 z.1 | exact h28 z.2.1 | exact h38 z.2.2))
  · refine x_iload_n dX12_shown_15 rfl rfl ?_
    refine x_aload_n dX12_shown_16 rfl rfl ?_
    refine xm_geta dX12_shown_17 lf_X12_31 vma_9 ?_
    refine x_iload_n dX12_shown_20 rfl rfl ?_
    refine xm_iald 9 dX12_shown_21 mf_9 hi (in_lt h12.1.1 h12.1.2 hl1 hl2 (by decide)) rfl ?_
    refine x_sipush (v := 1000) dX12_shown_22 (by decide) ?_
    refine x_cS3 dX12_shown_25 ls_X12_145 rfl  (c_X12_isIn ?_)
    refine x_if_eq_b (tgt := 41) dX12_shown_28 (by decide) (fun h28 => ?_) (fun h28 => ?_)
    · refine x_iconst (v := -1) dX12_shown_41 (by decide) ?_
      refine x_goto (tgt := 62) dX12_shown_42 (by decide) ?_
      exact x_ireturn dX12_shown_62 rfl rfl (hn (fun z => by first | exact h12 z.1 | exact h28 z.2.1 | exact h38 z.2.2))
    · refine x_iload_n dX12_shown_31 rfl rfl ?_
      refine x_iconst (v := 0) dX12_shown_32 (by decide) ?_
      refine x_bipush (v := 9) dX12_shown_33 (by decide) ?_
      refine x_cS3 dX12_shown_35 ls_X12_145 rfl  (c_X12_isIn ?_)
      refine x_if_ne_b (tgt := 45) dX12_shown_38 (by decide) (fun h38 => ?_) (fun h38 => ?_)
      · obtain ⟨j, hj, rfl⟩ := of_lt h12.1.1 h12.1.2 hl1 (by omega)
        have hcl : (nI j).toNatClampNeg = j := nI_clamp (by omega)
        have hd : isD day := ⟨Int32.le_trans (by have := (hB j hj).1.1; rw [← hcl] at this; exact this) h28.1, h28.2⟩
        refine x_aload_n dX12_shown_45 rfl rfl ?_
        refine x_iload_n dX12_shown_46 rfl rfl ?_
        refine x_iload_n dX12_shown_47 rfl rfl ?_
        refine x_iload_n dX12_shown_48 rfl rfl ?_
        refine x_iload dX12_shown_49 rfl ?_
        refine x_cV4 dX12_shown_51 lv_X12_309 mm_obj rfl rfl rfl  (c_X12_mayShow (l := j) hi hc hS hr hp hL hB hj hd h38 ?_)
        intro σ' hs' _ _
        have hq2 := hq σ' hs'
        unfold aShown at hq2
        rw [cI_t ⟨h12, h28, h38⟩, hcl] at hq2
        refine x_if_eq_b (tgt := 61) dX12_shown_54 (by decide) (fun h54 => ?_) (fun h54 => ?_)
        · refine x_iconst (v := 0) dX12_shown_61 (by decide) ?_
          exact x_ireturn dX12_shown_62 rfl rfl (by first | (rw [bI_t h54] at hq2; exact hq2) | (rw [bI_f h54] at hq2; exact hq2))
        · refine x_iconst (v := 1) dX12_shown_57 (by decide) ?_
          refine x_goto (tgt := 62) dX12_shown_58 (by decide) ?_
          exact x_ireturn dX12_shown_62 rfl rfl (by first | (rw [bI_t h54] at hq2; exact hq2) | (rw [bI_f h54] at hq2; exact hq2))
      · refine x_iconst (v := -1) dX12_shown_41 (by decide) ?_
        refine x_goto (tgt := 62) dX12_shown_42 (by decide) ?_
        exact x_ireturn dX12_shown_62 rfl rfl (hn (fun z => by first | exact h12 z.1 | exact h28 z.2.1 | exact h38 z.2.2))
end MDT
