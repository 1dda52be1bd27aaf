/-! the model's methods, 20: digests -/
def keyM (σ : MS) (l : Nat) : Int32 := iabs (σ.2 11 l)
/-- the place of x behind all that are no weaker, from place j downwards -/
def posF (key : Nat → Int32) (x : Nat) (L : List Nat) : Nat → Nat
  | 0 => 0
  | j + 1 => if key (L.getD j 0) < key x then posF key x L j else j + 1
theorem posF_le (key : Nat → Int32) (x : Nat) (L : List Nat) : ∀ j, posF key x L j ≤ j
  | 0 => Nat.le_refl 0
  | j + 1 => by
    unfold posF
    have := posF_le key x L j
    split <;> omega
def insB (key : Nat → Int32) (x : Nat) (L : List Nat) : List Nat := L.take (posF key x L L.length) ++ x :: L.drop (posF key x L L.length)
theorem insB_len (key : Nat → Int32) (x : Nat) (L : List Nat) : (insB key x L).length = L.length + 1 := by
  have := posF_le key x L L.length
  unfold insB
  rw [List.length_append, List.length_take, List.length_cons, List.length_drop]
  omega
theorem insB_get (key : Nat → Int32) (x : Nat) (L : List Nat) {k : Nat} (hk : k ≤ L.length) : (insB key x L).getD k 0 = if k < posF key x L L.length then L.getD k 0 else if k = posF key x L L.length then x else L.getD (k - 1) 0 := by
  have hp := posF_le key x L L.length
  unfold insB
  rw [List.getD_eq_getElem?_getD, List.getD_eq_getElem?_getD, List.getD_eq_getElem?_getD, List.getElem?_append, List.length_take]
  by_cases h1 : k < posF key x L L.length
  · rw [if_pos (by omega), if_pos h1, List.getElem?_take, if_pos h1]
  · rw [if_neg (by omega), if_neg h1]
    by_cases h2 : k = posF key x L L.length
    · rw [if_pos h2, show k - min (posF key x L L.length) L.length = 0 by omega]
      rfl
    · rw [if_neg h2, show k - min (posF key x L L.length) L.length = (k - 1 - posF key x L L.length) + 1 by omega, List.getElem?_cons_succ, List.getElem?_drop, show posF key x L L.length + (k - 1 - posF key x L L.length) = k - 1 by omega]
theorem insB_mem (key : Nat → Int32) (x : Nat) (L : List Nat) {y : Nat} (h : y ∈ insB key x L) : y = x ∨ y ∈ L := by
  unfold insB at h
  rcases List.mem_append.mp h with h | h
  · exact Or.inr (List.mem_of_mem_take h)
  · rcases List.mem_cons.mp h with h | h
    · exact Or.inl h
    · exact Or.inr (List.mem_of_mem_drop h)
/-- LINES for a DAY that may be shown, the strongest ahead; how many there are -/
noncomputable def digS (σ : MS) (of day rank q : Int32) (n : Nat) : List Nat × Int32 := fold (fun i s => cI (σ.2 9 i = of ∧ σ.2 14 i ≤ q) (cI (shw σ i day rank q) (insB (keyM σ) i s.1) s.1, s.2 + 1) s) ([], 0) n
theorem digS_s (σ : MS) (of day rank q : Int32) (i : Nat) : digS σ of day rank q (i + 1) = cI (σ.2 9 i = of ∧ σ.2 14 i ≤ q) (cI (shw σ i day rank q) (insB (keyM σ) i (digS σ of day rank q i).1) (digS σ of day rank q i).1, (digS σ of day rank q i).2 + 1) (digS σ of day rank q i) := rfl
theorem digS_ok (σ : MS) (of day rank q : Int32) : ∀ n, (digS σ of day rank q n).1.length ≤ n ∧ ∀ y ∈ (digS σ of day rank q n).1, y < n
  | 0 => ⟨Nat.le_refl 0, fun y hy => by cases hy⟩
  | n + 1 => by
    obtain ⟨h1, h2⟩ := digS_ok σ of day rank q n
    rw [digS_s]
    by_cases z : σ.2 9 n = of ∧ σ.2 14 n ≤ q
    · rw [cI_t z]
      by_cases y : shw σ n day rank q
      · rw [cI_t y]
        refine ⟨by rw [insB_len]; omega, fun a ha => ?_⟩
        rcases insB_mem _ _ _ ha with h | h
        · omega
        · have := h2 a h; omega
      · rw [cI_f y]
        exact ⟨by show (digS σ of day rank q n).1.length ≤ _; omega, fun a ha => by have := h2 a ha; omega⟩
    · rw [cI_f z]
      exact ⟨by omega, fun a ha => by have := h2 a ha; omega⟩
theorem getD_lt {L : List Nat} {n k : Nat} (h : ∀ y ∈ L, y < n) (hk : k < L.length) : L.getD k 0 < n := by
  rw [List.getD_eq_getElem?_getD, List.getElem?_eq_getElem hk]
  exact h _ (List.getElem_mem hk)
def clip (w : Int32) : Int32 := if 0 < (if w < 20 then w else 20) then (if w < 20 then w else 20) else 0
def digM (σ : MS) (day rank q : Int32) : Int32 := clip (wrth σ (lt8 0 0 0 day 0 0 0 rank) day q 100)
noncomputable def digC (σ : MS) (of day rank q : Int32) : Int32 := if digM σ day rank q < nI (digS σ of day rank q (cn σ 16)).1.length then digM σ day rank q else nI (digS σ of day rank q (cn σ 16)).1.length
def pDig (σ : MS) (of day rank q : Int32) : Prop := isD of ∧ (of ≤ day ∧ day ≤ 1000) ∧ isS rank ∧ isK σ q
theorem Sim.s35 {σ σ' : MS} (h : Sim σ σ') (i : Nat) (v : Int32) : Sim σ (seta σ' 35 i v) := ⟨fun k h1 h2 => (congrFun (congrArg _ rfl) _).trans ((seta_ne h2).trans (h.1 k h1 h2)), h.2.1, h.2.2⟩
theorem Sim.si {σ σ' : MS} (h : Sim σ σ') {k : Nat} (hk : 26 ≤ k ∧ k ≤ 37) (v : Int32) : Sim σ (seti σ' k v) := ⟨h.1, fun j hj => (seti_ne (by omega)).trans (h.2.1 j hj), h.2.2⟩
section MDU
variable {G : Gam} {d : Nat} {Y : MR} {ad : Nat → Nat} {σ σ0 : MS} {M : Mem} {lv : Lv} {st : List Value} {pc : Nat} {Q : Option Value → Mem → Prop}
theorem dig_in {L : List Nat} {i : Nat} {a1 a2 a3 a4 a5 c : Int32} (hi : adOK ad) (hn : i < 200) (hL : ∀ y ∈ L, y < i) (hs : L.length ≤ i)
    (K : ∀ σe, Sim σ0 σe → (∀ k, k < L.length + 1 → σe.2 35 k = nI ((insB (keyM σ0) i L).getD k 0)) → σe.1 37 = c → XJ G (d + 1) (0, 0) MX12_digests (mm ad σe) [(0, .ref (ad 99)), (1, .int a1), (2, .int a2), (3, .int a3), (4, .int a4), (5, .int a5), (6, .int (nI (L.length + 1))), (7, .int (nI i))] [] 234 Q) :
    ∀ (j : Nat) (σd : MS), j ≤ L.length → Sim σ0 σd → (∀ k, k < j → σd.2 35 k = nI (L.getD k 0)) → (∀ k, j < k → k ≤ L.length → σd.2 35 k = nI (L.getD (k - 1) 0)) → posF (keyM σ0) i L L.length = posF (keyM σ0) i L j → σd.1 37 = c → XJ G (d + 1) (0, 0) MX12_digests (mm ad σd) [(0, .ref (ad 99)), (1, .int a1), (2, .int a2), (3, .int a3), (4, .int a4), (5, .int a5), (6, .int (nI L.length)), (7, .int (nI i)), (8, .int (nI j))] [] 165 Q := by
  have E : ∀ (j : Nat) (σd : MS), j ≤ L.length → Sim σ0 σd → (∀ k, k < j → σd.2 35 k = nI (L.getD k 0)) → (∀ k, j < k → k ≤ L.length → σd.2 35 k = nI (L.getD (k - 1) 0)) → posF (keyM σ0) i L L.length = j → σd.1 37 = c → XJ G (d + 1) (0, 0) MX12_digests (mm ad σd) [(0, .ref (ad 99)), (1, .int a1), (2, .int a2), (3, .int a3), (4, .int a4), (5, .int a5), (6, .int (nI L.length)), (7, .int (nI i)), (8, .int (nI j))] [] 222 Q := by
    intro j σd hj hsim h1 h2 hpos h37
    have hin : vp_in (nI j) 200 := vp_in_nI (by omega) (by decide)
    have hcl : (nI j).toNatClampNeg = j := nI_clamp (by omega)
    refine x_aload_n dX12_digests_222 rfl rfl ?_
    refine xm_geta dX12_digests_223 lf_X12_71 vma_35 ?_
    refine x_iload dX12_digests_226 rfl ?_
    refine x_iload dX12_digests_228 rfl ?_
    refine xm_iast 35 dX12_digests_230 mf_35 hi hin hcl ?_
    refine x_iinc (c := 1) dX12_digests_231 rfl (by decide) ?_
    refine x_loc _ (?_ : lle _ _) (K (seta σd 35 j (nI i)) (hsim.s35 _ _) (fun k hk => ?_) h37)
    · refine ⟨rfl, rfl, rfl, rfl, rfl, rfl, ?_, rfl, trivial⟩
      show some (Value.int (nI L.length + 1)) = some (Value.int (nI (L.length + 1)))
      rw [nI_1]
    · rw [seta_eq, insB_get _ _ _ (by omega), hpos]
      by_cases z : k = j
      · subst z
        rw [updB_eq, if_neg (Nat.lt_irrefl _), if_pos rfl]
      · rw [updB_ne z]
        by_cases y : k < j
        · rw [if_pos y]; exact h1 k y
        · rw [if_neg y, if_neg z]; exact h2 k (by omega) (by omega)
  intro j
  induction j with
  | zero =>
    intro σd hj hsim h1 h2 hpos h37
    refine x_iload dX12_digests_165 rfl ?_
    refine x_if_le (tgt := 222) dX12_digests_167 (by decide) (fun _ => ?_) (fun z => absurd (by decide) z)
    exact E 0 σd hj hsim h1 h2 hpos h37
  | succ j ih =>
    intro σd hj hsim h1 h2 hpos h37
    have hLj := getD_lt hL (show j < L.length by omega)
    have hinj : vp_in (nI j) 200 := vp_in_nI (by omega) (by decide)
    have hclj : (nI j).toNatClampNeg = j := nI_clamp (by omega)
    have hinL : vp_in (nI (L.getD j 0)) 200 := vp_in_nI (by omega) (by decide)
    have hclL : (nI (L.getD j 0)).toNatClampNeg = L.getD j 0 := nI_clamp (by omega)
    have hini : vp_in (nI i) 200 := vp_in_nI (by omega) (by decide)
    have hcli : (nI i).toNatClampNeg = i := nI_clamp (by omega)
    have hinj1 : vp_in (nI (j + 1)) 200 := vp_in_nI (by omega) (by decide)
    have hclj1 : (nI (j + 1)).toNatClampNeg = j + 1 := nI_clamp (by omega)
    have e11 := hsim.1 11 (by decide) (by decide)
    have hrow := h1 j (by omega)
    refine x_iload dX12_digests_165 rfl ?_
    refine x_if_le (tgt := 222) dX12_digests_167 (by decide) (fun z => absurd z (nI_nle (by omega) (by omega))) (fun _ => ?_)
    refine x_aload_n dX12_digests_170 rfl rfl ?_
    refine xm_geta dX12_digests_171 lf_X12_37 vma_11 ?_
    refine x_aload_n dX12_digests_174 rfl rfl ?_
    refine xm_geta dX12_digests_175 lf_X12_71 vma_35 ?_
    refine x_iload dX12_digests_178 rfl ?_
    refine x_iconst (v := 1) dX12_digests_180 (by decide) ?_
    refine x_isub dX12_digests_181 ?_
    rw [nI_pred]
    refine xm_iald 35 dX12_digests_182 mf_35 hi hinj hclj ?_
    rw [hrow]
    refine xm_iald 11 dX12_digests_183 mf_11 hi hinL hclL ?_
    rw [e11]
    refine x_cS1 dX12_digests_184 ls_X12_323 rfl  (c_J9_abs_0f7a4 ?_)
    refine x_aload_n dX12_digests_187 rfl rfl ?_
    refine xm_geta dX12_digests_188 lf_X12_37 vma_11 ?_
    refine x_iload dX12_digests_191 rfl ?_
    refine xm_iald 11 dX12_digests_193 mf_11 hi hini hcli ?_
    rw [e11]
    refine x_cS1 dX12_digests_194 ls_X12_323 rfl  (c_J9_abs_0f7a4 ?_)
    refine x_icmp_ge (tgt := 222) dX12_digests_197 (by decide) (fun h197 => ?_) (fun h197 => ?_)
    · refine x_loc _ (?_ : lle _ _) (E (j + 1) σd hj hsim h1 h2 (hpos.trans ?_) h37)
      · exact ⟨rfl, rfl, rfl, rfl, rfl, rfl, rfl, rfl, rfl, trivial⟩
      · unfold posF
        rw [if_neg (show ¬ keyM σ0 (L.getD j 0) < keyM σ0 i from Int32.not_lt.mpr h197)]
    · refine x_aload_n dX12_digests_200 rfl rfl ?_
      refine xm_geta dX12_digests_201 lf_X12_71 vma_35 ?_
      refine x_iload dX12_digests_204 rfl ?_
      refine x_aload_n dX12_digests_206 rfl rfl ?_
      refine xm_geta dX12_digests_207 lf_X12_71 vma_35 ?_
      refine x_iload dX12_digests_210 rfl ?_
      refine x_iconst (v := 1) dX12_digests_212 (by decide) ?_
      refine x_isub dX12_digests_213 ?_
      rw [nI_pred]
      refine xm_iald 35 dX12_digests_214 mf_35 hi hinj hclj ?_
      rw [hrow]
      refine xm_iast 35 dX12_digests_215 mf_35 hi hinj1 hclj1 ?_
      refine x_iinc (c := -1) dX12_digests_216 rfl (by decide) ?_
      refine x_goto (tgt := 165) dX12_digests_219 (by decide) ?_
      have hp2 : posF (keyM σ0) i L L.length = posF (keyM σ0) i L j := by
        rw [hpos]
        show (if keyM σ0 (L.getD j 0) < keyM σ0 i then _ else _) = _
        rw [if_pos (show keyM σ0 (L.getD j 0) < keyM σ0 i from Int32.not_le.mp h197)]
      refine x_loc _ (?_ : lle _ _) (ih (seta σd 35 (j + 1) (nI (L.getD j 0))) (by omega) (hsim.s35 _ _) (fun k hk => ?_) (fun k hk hk2 => ?_) hp2 h37)
      · refine ⟨rfl, rfl, rfl, rfl, rfl, rfl, rfl, rfl, ?_, trivial⟩
        show some (Value.int (nI (j + 1) + -1)) = some (Value.int (nI j))
        rw [← Int32.sub_eq_add_neg, nI_pred]
      · rw [seta_eq, updB_ne (by omega)]
        exact h1 k (by omega)
      · rw [seta_eq]
        by_cases z : k = j + 1
        · subst z
          rw [updB_eq]; rfl
        · rw [updB_ne z]
          exact h2 k (by omega) hk2
/-- what a model's state needs for rules -/
def RulI (G : Gam) (σ : MS) : Prop := Cnt σ ∧ SXm G ∧ LetOK σ ∧ RulOK σ ∧ PerOK σ ∧ LinP σ ∧ LnB σ
theorem RulI.sim {σ σ' : MS} (h : RulI G σ) (hs : Sim σ σ') : RulI G σ' := ⟨Cnt_sim hs h.1, h.2.1, hs.2.2, RulOK_sim hs h.2.2.2.1, PerOK_sim hs h.2.2.2.2.1, LinP_sim hs h.2.2.2.2.2.1, LnB_sim hs h.2.2.2.2.2.2⟩
theorem dig_loop {of day rank q m : Int32} (hi : adOK ad) (hI : RulI G σ0) (hd : isD day) (hrk : isS rank)
    (K : ∀ σe, Sim σ0 σe → (∀ k, k < (digS σ0 of day rank q (cn σ0 16)).1.length → σe.2 35 k = nI ((digS σ0 of day rank q (cn σ0 16)).1.getD k 0)) → σe.1 37 = (digS σ0 of day rank q (cn σ0 16)).2 → XJ G (d + 51) (0, 0) MX12_digests (mm ad σe) [(0, .ref (ad 99)), (5, .int m), (6, .int (nI (digS σ0 of day rank q (cn σ0 16)).1.length))] [] 240 Q) :
    ∀ (f i : Nat) (σc : MS), i + f = cn σ0 16 → Sim σ0 σc → (∀ k, k < (digS σ0 of day rank q i).1.length → σc.2 35 k = nI ((digS σ0 of day rank q i).1.getD k 0)) → σc.1 37 = (digS σ0 of day rank q i).2 → XJ G (d + 51) (0, 0) MX12_digests (mm ad σc) [(0, .ref (ad 99)), (1, .int of), (2, .int day), (3, .int rank), (4, .int q), (5, .int m), (6, .int (nI (digS σ0 of day rank q i).1.length)), (7, .int (nI i))] [] 100 Q := by
  obtain ⟨hl1, hl2⟩ := hI.1.b 16 (b := 200) (by decide)
  intro f
  induction f with
  | zero =>
    intro i σc hfi hsim hrow h37
    obtain rfl : i = cn σ0 16 := by omega
    have e16 := hsim.2.1 16 (Or.inl (by decide))
    refine x_iload dX12_digests_100 rfl ?_
    refine x_aload_n dX12_digests_102 rfl rfl ?_
    refine xm_geti dX12_digests_103 lf_X12_152 vmi_16 ?_
    rw [e16]
    refine x_icmp_ge (tgt := 240) dX12_digests_106 (by decide) (fun _ => ?_) (fun z => absurd (by rw [hl1]; exact Int32.le_refl _) z)
    refine x_loc _ (?_ : lle _ _) (K σc hsim hrow h37)
    exact ⟨rfl, rfl, rfl, trivial⟩
  | succ f ih =>
    intro i σc hfi hsim hrow h37
    have hlt : i < cn σ0 16 := by omega
    have e16 := hsim.2.1 16 (Or.inl (by decide))
    have e9 := hsim.1 9 (by decide) (by decide)
    have e14 := hsim.1 14 (by decide) (by decide)
    have hini : vp_in (nI i) 200 := vp_in_nI (by omega) (by decide)
    have hcli : (nI i).toNatClampNeg = i := nI_clamp (by omega)
    obtain ⟨hs1, hs2⟩ := digS_ok σ0 of day rank q i
    have hno : ¬ (σ0.2 9 i = of ∧ σ0.2 14 i ≤ q) → digS σ0 of day rank q (i + 1) = digS σ0 of day rank q i := fun z => by rw [digS_s, cI_f z]
    have hn2 : ∀ s : List Nat × Int32, digS σ0 of day rank q (i + 1) = s → ∀ σe, Sim σ0 σe → (∀ k, k < s.1.length → σe.2 35 k = nI (s.1.getD k 0)) → σe.1 37 = s.2 → XJ G (d + 51) (0, 0) MX12_digests (mm ad σe) [(0, .ref (ad 99)), (1, .int of), (2, .int day), (3, .int rank), (4, .int q), (5, .int m), (6, .int (nI s.1.length)), (7, .int (nI i))] [] 234 Q := by
      intro s hs σe hse hrowe h37e
      subst hs
      refine x_iinc (c := 1) dX12_digests_234 rfl (by decide) ?_
      refine x_goto (tgt := 100) dX12_digests_237 (by decide) ?_
      refine x_loc _ (?_ : lle _ _) (ih (i + 1) σe (by omega) hse hrowe h37e)
      refine ⟨rfl, rfl, rfl, rfl, rfl, rfl, rfl, ?_, trivial⟩
      show some (Value.int (nI i + 1)) = some (Value.int (nI (i + 1)))
      rw [nI_1]
    refine x_iload dX12_digests_100 rfl ?_
    refine x_aload_n dX12_digests_102 rfl rfl ?_
    refine xm_geti dX12_digests_103 lf_X12_152 vmi_16 ?_
    rw [e16]
    refine x_icmp_ge (tgt := 240) dX12_digests_106 (by decide) (fun z => absurd z (by rw [hl1]; exact nI_ge hlt (by omega))) (fun _ => ?_)
    refine x_aload_n dX12_digests_109 rfl rfl ?_
    refine xm_geta dX12_digests_110 lf_X12_31 vma_9 ?_
    refine x_iload dX12_digests_113 rfl ?_
    refine xm_iald 9 dX12_digests_115 mf_9 hi hini hcli ?_
    rw [e9]
    refine x_iload_n dX12_digests_116 rfl rfl ?_
    refine x_icmp_ne (tgt := 234) dX12_digests_117 (by decide) (fun h117 => ?_) (fun h117 => ?_)
    · refine x_loc _ (?_ : lle _ _) (hn2 _ (hno (fun z => by first | exact h117 z.1 | exact h129 z.2)) σc hsim hrow h37)
      exact ⟨rfl, rfl, rfl, rfl, rfl, rfl, rfl, rfl, trivial⟩
    · refine x_aload_n dX12_digests_120 rfl rfl ?_
      refine xm_geta dX12_digests_121 lf_X12_46 vma_14 ?_
      refine x_iload dX12_digests_124 rfl ?_
      refine xm_iald 14 dX12_digests_126 mf_14 hi hini hcli ?_
      rw [e14]
      refine x_iload dX12_digests_127 rfl ?_
      refine x_icmp_le (tgt := 135) dX12_digests_129 (by decide) (fun h129 => ?_) (fun h129 => ?_)
      · have hyes : σ0.2 9 i = of ∧ σ0.2 14 i ≤ q := ⟨h117, h129⟩
        have hsim2 : Sim σ0 (seti σc 37 (σc.1 37 + 1)) := hsim.si (by decide) _
        have hI2 := hI.sim hsim2
        obtain ⟨c1, c2, c3, c4, c5, c6, c7⟩ := hI2
        have c16 := cn_sim hsim2 (k := 16) (Or.inl (by decide))
        refine x_aload_n dX12_digests_135 rfl rfl ?_
        refine x_dup dX12_digests_136 rfl ?_
        refine xm_geti dX12_digests_137 lf_X12_320 vmi_37 ?_
        refine x_iconst (v := 1) dX12_digests_140 (by decide) ?_
        refine x_iadd dX12_digests_141 ?_
        refine xm_puti dX12_digests_142 lp_X12_320 vmq_37 vmn_37 vmf_37 ?_
        refine x_aload_n dX12_digests_145 rfl rfl ?_
        refine x_iload dX12_digests_146 rfl ?_
        refine x_iload_n dX12_digests_148 rfl rfl ?_
        refine x_iload_n dX12_digests_149 rfl rfl ?_
        refine x_iload dX12_digests_150 rfl ?_
        refine x_cV4 dX12_digests_152 lv_X12_309 mm_obj rfl rfl rfl  (c_X12_mayShow (l := i) hi c1 c2 c4 c5 c6 c7 (by rw [c16]; exact hlt) hd hrk ?_)
        intro σ' hs' e35 e37
        have hsim3 := hsim2.tr hs'
        rw [bI_c (shw_sim hsim2 i day rank q)]
        have h37' : σ'.1 37 = (digS σ0 of day rank q i).2 + 1 := by
          rw [e37 37 (by decide)]
          show updB σc.1 37 (σc.1 37 + 1) 37 = _
          rw [updB_eq, h37]
        have hrow' : ∀ k, k < (digS σ0 of day rank q i).1.length → σ'.2 35 k = nI ((digS σ0 of day rank q i).1.getD k 0) := fun k hk => by
          rw [e35]; exact hrow k hk
        refine x_if_ne_b (tgt := 161) dX12_digests_155 (by decide) (fun h155 => ?_) (fun h155 => ?_)
        · refine x_iload dX12_digests_161 rfl ?_
          refine x_istore dX12_digests_163 (by decide) ?_
          have hs : digS σ0 of day rank q (i + 1) = (insB (keyM σ0) i (digS σ0 of day rank q i).1, (digS σ0 of day rank q i).2 + 1) := by rw [digS_s, cI_t hyes, cI_t h155]
          refine x_loc _ (?_ : lle _ _) (dig_in (d := d + 50) (L := (digS σ0 of day rank q i).1) (i := i) (a1 := of) (a2 := day) (a3 := rank) (a4 := q) (a5 := m) (c := (digS σ0 of day rank q i).2 + 1) hi (by omega) hs2 hs1 (fun σe hse hrowe h37e => ?_) (digS σ0 of day rank q i).1.length σ' (Nat.le_refl _) hsim3 hrow' (fun k h1 h2 => by omega) rfl h37')
          · exact ⟨rfl, rfl, rfl, rfl, rfl, rfl, rfl, rfl, rfl, trivial⟩
          · have hk := hn2 _ hs σe hse (fun k hk => hrowe k (by rw [insB_len] at hk; exact hk)) h37e
            rw [insB_len] at hk
            exact hk
        · refine x_goto (tgt := 234) dX12_digests_158 (by decide) ?_
          have hs : digS σ0 of day rank q (i + 1) = ((digS σ0 of day rank q i).1, (digS σ0 of day rank q i).2 + 1) := by rw [digS_s, cI_t hyes, cI_f h155]
          refine x_loc _ (?_ : lle _ _) (hn2 _ hs σ' hsim3 hrow' h37')
          exact ⟨rfl, rfl, rfl, rfl, rfl, rfl, rfl, rfl, trivial⟩
      · refine x_goto (tgt := 234) dX12_digests_132 (by decide) ?_
        refine x_loc _ (?_ : lle _ _) (hn2 _ (hno (fun z => by first | exact h117 z.1 | exact h129 z.2)) σc hsim hrow h37)
        exact ⟨rfl, rfl, rfl, rfl, rfl, rfl, rfl, rfl, trivial⟩
theorem c_X12_digests {of day rank q : Int32} (hi : adOK ad) (h0 : seti σ 0 0 = σ0) (hI : RulI G σ0) (hn : ¬ pDig σ0 of day rank q → Q (some (.int 0)) (mm ad σ0)) (hq : pDig σ0 of day rank q → ∀ σ', Sim σ0 σ' → (∀ k, k < (digS σ0 of day rank q (cn σ0 16)).1.length → σ'.2 35 k = nI ((digS σ0 of day rank q (cn σ0 16)).1.getD k 0)) → σ'.1 36 = digC σ0 of day rank q → σ'.1 37 = (digS σ0 of day rank q (cn σ0 16)).2 → Q (some (.int 1)) (mm ad σ')) : CT G (d + 51) (0, 0) MX12_digests [.ref (ad 99), .int of, .int day, .int rank, .int q] (mm ad σ) Q := by
  have hI' := hI
  obtain ⟨hc, hS, hl, hr, hp, hL, hB⟩ := hI
  refine CT.of rfl (Nat.le_of_ble_eq_true rfl) ?_
  refine x_aload_n dX12_digests_0 rfl rfl ?_
  refine x_iconst (v := 0) dX12_digests_1 (by decide) ?_
  refine xm_puti dX12_digests_2 lp_X12_138 vmq_0 vmn_0 vmf_0 ?_
  rw [h0]
  refine x_iload_n dX12_digests_5 rfl rfl ?_
  refine x_cS1 dX12_digests_6 ls_X12_175 rfl  (c_X12_isDay ?_)
  refine x_if_eq_b (tgt := 42) dX12_digests_9 (by decide) (fun h9 => ?_) (fun h9 => ?_)
  · refine x_iconst (v := 0) dX12_digests_42 (by decide) ?_
    exact x_ireturn dX12_digests_43 rfl rfl (hn (fun z => by first | exact h9 z.1 | exact h20 z.2.1 | exact h30 z.2.2.1 | exact h39 z.2.2.2))
  · refine x_iload_n dX12_digests_12 rfl rfl ?_
    refine x_iload_n dX12_digests_13 rfl rfl ?_
    refine x_sipush (v := 1000) dX12_digests_14 (by decide) ?_
    refine x_cS3 dX12_digests_17 ls_X12_145 rfl  (c_X12_isIn ?_)
    refine x_if_eq_b (tgt := 42) dX12_digests_20 (by decide) (fun h20 => ?_) (fun h20 => ?_)
    · refine x_iconst (v := 0) dX12_digests_42 (by decide) ?_
      exact x_ireturn dX12_digests_43 rfl rfl (hn (fun z => by first | exact h9 z.1 | exact h20 z.2.1 | exact h30 z.2.2.1 | exact h39 z.2.2.2))
    · refine x_iload_n dX12_digests_23 rfl rfl ?_
      refine x_iconst (v := 0) dX12_digests_24 (by decide) ?_
      refine x_bipush (v := 9) dX12_digests_25 (by decide) ?_
      refine x_cS3 dX12_digests_27 ls_X12_145 rfl  (c_X12_isIn ?_)
      refine x_if_eq_b (tgt := 42) dX12_digests_30 (by decide) (fun h30 => ?_) (fun h30 => ?_)
      · refine x_iconst (v := 0) dX12_digests_42 (by decide) ?_
        exact x_ireturn dX12_digests_43 rfl rfl (hn (fun z => by first | exact h9 z.1 | exact h20 z.2.1 | exact h30 z.2.2.1 | exact h39 z.2.2.2))
      · refine x_aload_n dX12_digests_33 rfl rfl ?_
        refine x_iload dX12_digests_34 rfl ?_
        refine x_cV1 dX12_digests_36 lv_X12_159 mm_obj rfl rfl rfl  (c_X12_isKnown ?_)
        refine x_if_ne_b (tgt := 44) dX12_digests_39 (by decide) (fun h39 => ?_) (fun h39 => ?_)
        · have hpd : pDig σ0 of day rank q := ⟨h9, h20, h30, h39⟩
          have hd : isD day := ⟨Int32.le_trans h9.1 h20.1, h20.2⟩
          have hLet : LetIs (seta (seta (zL σ0 128) 23 116 day) 23 114 rank) (lt8 0 0 0 day 0 0 0 rank) := by
            intro c hc
            rcases let_mem hc with h | h | h | h | h | h | h | h <;> subst h <;> rfl
          have hsim : Sim σ0 (seta (seta (zL σ0 128) 23 116 day) 23 114 rank) := by
            refine ⟨fun k h1 h2 => ?_, fun k _ => rfl, hLet.ok (lt8_bd z6 z6 z6 (isD_bd hd) z6 z6 z6 (isS_bd h30))⟩
            rw [seta_ne h1, seta_ne h1]
            show (bif Nat.beq k 23 then _ else σ0.2 k) = σ0.2 k
            rw [beq_f h1]; rfl
          refine x_aload_n dX12_digests_44 rfl rfl ?_
          refine x_cV0 dX12_digests_45 lv_X12_295 mm_obj rfl rfl rfl  (c_X12_noLetters hi ?_)
          refine x_aload_n dX12_digests_48 rfl rfl ?_
          refine xm_geta dX12_digests_49 lf_X12_65 vma_23 ?_
          refine x_bipush (v := 116) dX12_digests_52 (by decide) ?_
          refine x_iload_n dX12_digests_54 rfl rfl ?_
          refine xm_iast 23 dX12_digests_55 mf_23 hi (show vp_in (nI 116) 128 from vp_in_nI (by decide) (by decide)) (show (116 : Int32).toNatClampNeg = 116 from rfl) ?_
          refine x_aload_n dX12_digests_56 rfl rfl ?_
          refine xm_geta dX12_digests_57 lf_X12_65 vma_23 ?_
          refine x_bipush (v := 114) dX12_digests_60 (by decide) ?_
          refine x_iload_n dX12_digests_62 rfl rfl ?_
          refine xm_iast 23 dX12_digests_63 mf_23 hi (show vp_in (nI 114) 128 from vp_in_nI (by decide) (by decide)) (show (114 : Int32).toNatClampNeg = 114 from rfl) ?_
          refine x_iconst (v := 0) dX12_digests_64 (by decide) ?_
          refine x_bipush (v := 20) dX12_digests_65 (by decide) ?_
          refine x_aload_n dX12_digests_67 rfl rfl ?_
          refine x_iload_n dX12_digests_68 rfl rfl ?_
          refine x_iload dX12_digests_69 rfl ?_
          refine x_bipush (v := 100) dX12_digests_71 (by decide) ?_
          refine x_cV3 dX12_digests_73 lv_X12_301 mm_obj rfl rfl rfl  (c_X12_worth (L := lt8 0 0 0 day 0 0 0 rank) hi (Cnt_sim hsim hc) hS hsim.2.2 (RulOK_sim hsim hr) hLet.eq ?_)
          intro σ' hs' _ _
          have hsim2 := hsim.tr hs'
          rw [wrth_sim hsim]
          refine x_cS2 dX12_digests_76 ls_X12_313 rfl  (c_J9_min_7cf53 ?_)
          refine x_cS2 dX12_digests_79 ls_X12_315 rfl  (c_J9_max_7cf53 ?_)
          refine x_istore dX12_digests_82 (by decide) ?_
          refine x_aload_n dX12_digests_84 rfl rfl ?_
          refine x_iconst (v := 0) dX12_digests_85 (by decide) ?_
          refine xm_puti dX12_digests_86 lp_X12_317 vmq_36 vmn_36 vmf_36 ?_
          refine x_aload_n dX12_digests_89 rfl rfl ?_
          refine x_iconst (v := 0) dX12_digests_90 (by decide) ?_
          refine xm_puti dX12_digests_91 lp_X12_320 vmq_37 vmn_37 vmf_37 ?_
          refine x_iconst (v := 0) dX12_digests_94 (by decide) ?_
          refine x_istore dX12_digests_95 (by decide) ?_
          refine x_iconst (v := 0) dX12_digests_97 (by decide) ?_
          refine x_istore dX12_digests_98 (by decide) ?_
          have hsim3 : Sim σ0 (seti (seti σ' 36 0) 37 0) := (hsim2.si (k := 36) (by decide) 0).si (k := 37) (by decide) 0
          refine x_loc _ (?_ : lle _ _) (dig_loop (d := d) (of := of) (day := day) (rank := rank) (q := q) (m := digM σ0 day rank q) hi hI' hd h30 (fun σe hse hrowe h37e => ?_) (cn σ0 16) 0 _ (by omega) hsim3 (fun k hk => absurd hk (Nat.not_lt_zero k)) rfl)
          · exact ⟨rfl, rfl, rfl, rfl, rfl, rfl, rfl, rfl, trivial⟩
          · refine x_aload_n dX12_digests_240 rfl rfl ?_
            refine x_iload dX12_digests_241 rfl ?_
            refine x_iload dX12_digests_243 rfl ?_
            refine x_cS2 dX12_digests_245 ls_X12_313 rfl  (c_J9_min_7cf53 ?_)
            refine xm_puti dX12_digests_248 lp_X12_317 vmq_36 vmn_36 vmf_36 ?_
            refine x_iconst (v := 1) dX12_digests_251 (by decide) ?_
            exact x_ireturn dX12_digests_252 rfl rfl (by
refine hq hpd _ (hse.si (k := 36) (by decide) _) hrowe ?_ ((seti_ne (by decide)).trans h37e)
show updB σe.1 36 _ 36 = digC σ0 of day rank q
rw [updB_eq]
rfl)
        · refine x_iconst (v := 0) dX12_digests_42 (by decide) ?_
          exact x_ireturn dX12_digests_43 rfl rfl (hn (fun z => by first | exact h9 z.1 | exact h20 z.2.1 | exact h30 z.2.2.1 | exact h39 z.2.2.2))
noncomputable def aDig (σ : MS) (of day rank q i : Int32) : Int32 := cI (pDig σ of day rank q) (if i = -1 then digC σ of day rank q else cI (0 ≤ i ∧ i ≤ digC σ of day rank q - 1) (nI ((digS σ of day rank q (cn σ 16)).1.getD i.toNatClampNeg 0)) (-1)) (-1)
noncomputable def aLeft (σ : MS) (of day rank q : Int32) : Int32 := cI (pDig σ of day rank q) ((digS σ of day rank q (cn σ 16)).2 - digC σ of day rank q) (-1)
/-- the digest's size as a number -/
theorem clip_n (w : Int32) : ∃ j : Nat, j ≤ 20 ∧ clip w = nI j := by
  unfold clip
  by_cases h1 : w < 20
  · rw [if_pos h1]
    by_cases h2 : 0 < w
    · rw [if_pos h2]
      rw [Int32.lt_iff_toInt_lt] at h1 h2
      have e1 : (20 : Int32).toInt = 20 := rfl
      have e2 : (0 : Int32).toInt = 0 := rfl
      refine ⟨w.toInt.toNat, by omega, ?_⟩
      rw [← Int32.toInt_inj, nI_toInt (by omega)]; omega
    · rw [if_neg h2]; exact ⟨0, by omega, rfl⟩
  · rw [if_neg h1, if_pos (by decide)]; exact ⟨20, Nat.le_refl _, rfl⟩
theorem digC_n (σ : MS) (of day rank q : Int32) (hn : cn σ 16 ≤ 200) : ∃ j : Nat, j ≤ 20 ∧ j ≤ (digS σ of day rank q (cn σ 16)).1.length ∧ digC σ of day rank q = nI j := by
  obtain ⟨j, hj, e⟩ := clip_n (wrth σ (lt8 0 0 0 day 0 0 0 rank) day q 100)
  have hs := (digS_ok σ of day rank q (cn σ 16)).1
  unfold digC digM
  rw [e]
  by_cases h : nI j < nI (digS σ of day rank q (cn σ 16)).1.length
  · rw [if_pos h]
    exact ⟨j, hj, by have := (nI_ltI (by omega) (by omega)).mp h; omega, rfl⟩
  · rw [if_neg h]
    refine ⟨_, ?_, Nat.le_refl _, rfl⟩
    rcases Nat.lt_or_ge j (digS σ of day rank q (cn σ 16)).1.length with y | y
    · exact absurd ((nI_ltI (by omega) (by omega)).mpr y) h
    · omega
theorem c_X12_digest {of day rank q i : Int32} (hi : adOK ad) (h0 : seti σ 0 0 = σ0) (hI : RulI G σ0) (hq : ∀ σ', Sim σ0 σ' → Q (some (.int (aDig σ0 of day rank q i))) (mm ad σ')) : CT G (d + 52) (0, 0) MX12_digest [.ref (ad 99), .int of, .int day, .int rank, .int q, .int i] (mm ad σ) Q := by
  have hl2 := (hI.1.b 16 (b := 200) (by decide)).2
  refine CT.of rfl (Nat.le_of_ble_eq_true rfl) ?_
  unfold aDig at hq
  refine x_aload_n dX12_digest_0 rfl rfl ?_
  refine x_iload_n dX12_digest_1 rfl rfl ?_
  refine x_iload_n dX12_digest_2 rfl rfl ?_
  refine x_iload_n dX12_digest_3 rfl rfl ?_
  refine x_iload dX12_digest_4 rfl ?_
  refine x_cV4 dX12_digest_6 lv_X12_326 mm_obj rfl rfl rfl  (c_X12_digests hi h0 hI ?_ ?_)
  · intro z
    have hq2 := hq σ0 (Sim.rf hI.2.2.1)
    rw [cI_f z] at hq2
    refine x_if_ne (tgt := 14) dX12_digest_9 (by decide) (fun z => absurd rfl z) (fun _ => ?_)
    refine x_iconst (v := -1) dX12_digest_12 (by decide) ?_
    exact x_ireturn dX12_digest_13 rfl rfl (hq2)
  · intro z σ' hs hrow h36 h37
    have hq2 := hq σ' hs
    rw [cI_t z] at hq2
    obtain ⟨j, hj, hj2, hC⟩ := digC_n σ0 of day rank q hl2
    refine x_if_ne (tgt := 14) dX12_digest_9 (by decide) (fun _ => ?_) (fun z => absurd z (by decide))
    refine x_iload dX12_digest_14 rfl ?_
    refine x_iconst (v := -1) dX12_digest_16 (by decide) ?_
    refine x_icmp_ne (tgt := 27) dX12_digest_17 (by decide) (fun h17 => ?_) (fun h17 => ?_)
    · refine x_iload dX12_digest_27 rfl ?_
      refine x_iconst (v := 0) dX12_digest_29 (by decide) ?_
      refine x_aload_n dX12_digest_30 rfl rfl ?_
      refine xm_geti dX12_digest_31 lf_X12_317 vmi_36 ?_
      rw [h36]
      refine x_iconst (v := 1) dX12_digest_34 (by decide) ?_
      refine x_isub dX12_digest_35 ?_
      refine x_cS3 dX12_digest_36 ls_X12_145 rfl  (c_X12_isIn ?_)
      refine x_if_eq_b (tgt := 52) dX12_digest_39 (by decide) (fun h39 => ?_) (fun h39 => ?_)
      · refine x_iconst (v := -1) dX12_digest_52 (by decide) ?_
        exact x_ireturn dX12_digest_53 rfl rfl (by
first
| (rw [if_pos h17] at hq2; exact hq2)
| (rw [if_neg h17, cI_f h39] at hq2; exact hq2)
| (rw [if_neg h17, cI_t h39, hcl] at hq2; exact hq2))
      · obtain ⟨i', hi', rfl⟩ := of_le (n := j - 1) h39.1 h39.2 (by
          rw [hC]
          have hj1 : 1 ≤ j := by
            have := Int32.le_trans h39.1 h39.2
            rw [hC, show j = j by rfl] at this
            rcases Nat.eq_zero_or_pos j with y | y
            · rw [y] at this; exact absurd this (by decide)
            · exact y
          obtain ⟨j', rfl⟩ : ∃ j', j = j' + 1 := ⟨j - 1, by omega⟩
          rw [nI_pred]; rfl) (by omega)
        have hj1 : 1 ≤ j := by
          have := Int32.le_trans h39.1 h39.2
          rw [hC] at this
          rcases Nat.eq_zero_or_pos j with y | y
          · rw [y] at this; exact absurd this (by decide)
          · exact y
        have hcl : (nI i').toNatClampNeg = i' := nI_clamp (by omega)
        refine x_aload_n dX12_digest_42 rfl rfl ?_
        refine xm_geta dX12_digest_43 lf_X12_71 vma_35 ?_
        refine x_iload dX12_digest_46 rfl ?_
        refine xm_iald 35 dX12_digest_48 mf_35 hi (vp_in_nI (by omega) (by decide)) hcl ?_
        rw [hrow i' (by omega)]
        refine x_goto (tgt := 53) dX12_digest_49 (by decide) ?_
        exact x_ireturn dX12_digest_53 rfl rfl (by
first
| (rw [if_pos h17] at hq2; exact hq2)
| (rw [if_neg h17, cI_f h39] at hq2; exact hq2)
| (rw [if_neg h17, cI_t h39, hcl] at hq2; exact hq2))
    · refine x_aload_n dX12_digest_20 rfl rfl ?_
      refine xm_geti dX12_digest_21 lf_X12_317 vmi_36 ?_
      rw [h36]
      refine x_goto (tgt := 53) dX12_digest_24 (by decide) ?_
      exact x_ireturn dX12_digest_53 rfl rfl (by
first
| (rw [if_pos h17] at hq2; exact hq2)
| (rw [if_neg h17, cI_f h39] at hq2; exact hq2)
| (rw [if_neg h17, cI_t h39, hcl] at hq2; exact hq2))
theorem c_X12_left {of day rank q : Int32} (hi : adOK ad) (h0 : seti σ 0 0 = σ0) (hI : RulI G σ0) (hq : ∀ σ', Sim σ0 σ' → Q (some (.int (aLeft σ0 of day rank q))) (mm ad σ')) : CT G (d + 52) (0, 0) MX12_left [.ref (ad 99), .int of, .int day, .int rank, .int q] (mm ad σ) Q := by
  refine CT.of rfl (Nat.le_of_ble_eq_true rfl) ?_
  unfold aLeft at hq
  refine x_aload_n dX12_left_0 rfl rfl ?_
  refine x_iload_n dX12_left_1 rfl rfl ?_
  refine x_iload_n dX12_left_2 rfl rfl ?_
  refine x_iload_n dX12_left_3 rfl rfl ?_
  refine x_iload dX12_left_4 rfl ?_
  refine x_cV4 dX12_left_6 lv_X12_326 mm_obj rfl rfl rfl  (c_X12_digests hi h0 hI ?_ ?_)
  · intro z
    have hq2 := hq σ0 (Sim.rf hI.2.2.1)
    rw [cI_f z] at hq2
    refine x_if_eq (tgt := 24) dX12_left_9 (by decide) (fun _ => ?_) (fun z => absurd rfl z)
    refine x_iconst (v := -1) dX12_left_24 (by decide) ?_
    exact x_ireturn dX12_left_25 rfl rfl (hq2)
  · intro z σ' hs hrow h36 h37
    have hq2 := hq σ' hs
    rw [cI_t z] at hq2
    refine x_if_eq (tgt := 24) dX12_left_9 (by decide) (fun z => absurd z (by decide)) (fun _ => ?_)
    refine x_aload_n dX12_left_12 rfl rfl ?_
    refine xm_geti dX12_left_13 lf_X12_320 vmi_37 ?_
    rw [h37]
    refine x_aload_n dX12_left_16 rfl rfl ?_
    refine xm_geti dX12_left_17 lf_X12_317 vmi_36 ?_
    rw [h36]
    refine x_isub dX12_left_20 ?_
    refine x_goto (tgt := 25) dX12_left_21 (by decide) ?_
    exact x_ireturn dX12_left_25 rfl rfl (hq2)
end MDU
