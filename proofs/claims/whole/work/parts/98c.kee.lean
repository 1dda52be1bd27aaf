/-! what every step keeps, 2: each step -/
section KEE
variable {σ : MS}
/-- a count goes up -/
theorem up_n {σ σ' : MS} {k b : Nat} (hc : σ.1 k = nI (cn σ k) ∧ cn σ k ≤ b) (hb : b ≤ 4000) (h : σ'.1 k = σ.1 k + 1) : cn σ' k = cn σ k + 1 ∧ σ'.1 k = nI (cn σ k + 1) := by
  have e : σ'.1 k = nI (cn σ k + 1) := by rw [h, hc.1]; exact nI_1 _
  refine ⟨?_, e⟩
  show (σ'.1 k).toNatClampNeg = _
  rw [e]
  exact nI_clamp (by omega)
theorem up_c {P : Nat → Prop} {n i : Nat} (h : ∀ i, i < n → P i) (hi : i < n + 1) : (i ≠ n ∧ P i) ∨ i = n := by
  by_cases e : i = n
  · exact Or.inr e
  · exact Or.inl ⟨e, h i (by omega)⟩
theorem ne_lt {σ : MS} {k b : Nat} (hc : σ.1 k = nI (cn σ k) ∧ cn σ k ≤ b) (hn : ¬ σ.1 k = nI b) : cn σ k + 1 ≤ b := by
  rcases Nat.lt_or_ge (cn σ k) b with h | h
  · exact h
  · exact absurd (by rw [hc.1]; congr 1; omega) hn
theorem bd6_of {x a b : Int32} (h1 : a ≤ x) (h2 : x ≤ b) (ha : -1000000 ≤ a) (hb : b ≤ 1000000) : bd6 x := ⟨Int32.le_trans ha h1, Int32.le_trans h2 hb⟩
theorem Cnt_u {σ' : MS} {k b : Nat} (hc : Cnt σ) (hm : (k, b) ∈ mBnd) (hn : ¬ σ.1 k = nI b) (h : ∀ j, ¬ j = k → σ'.1 j = σ.1 j) (hv : σ'.1 k = σ.1 k + 1) : Cnt σ' := by
  have hb : b ≤ 4000 := (by decide : ∀ q ∈ mBnd, q.2 ≤ 4000) _ hm
  have h1 := hc.b k hm
  have h3 := ne_lt h1 hn
  refine Cnt_up hc h (up_n h1 hb hv).2 (fun q hq e => ?_) (by omega)
  have : q.2 = b := by
    have u : ∀ q ∈ mBnd, ∀ q' ∈ mBnd, q.1 = q'.1 → q.2 = q'.2 := by decide
    exact u q hq (k, b) hm e
  omega
theorem seti_u {σ0 : MS} {k : Nat} {v : Int32} (h : σ0.1 = σ.1) : ∀ j, ¬ j = k → (seti σ0 k v).1 j = σ.1 j := fun j hj => by
  show updB σ0.1 k v j = _
  rw [updB_ne hj, h]
theorem ex_nI {x : Int32} (h : 0 ≤ x) : ∃ m : Nat, x = nI m ∧ m < 2 ^ 31 := by
  have i0 := Int32.le_iff_toInt_le.mp h
  have z0 : (0 : Int32).toInt = 0 := rfl
  have hu := Int32.toInt_lt x
  have hm : x.toInt.toNat < 2 ^ 31 := by omega
  exact ⟨x.toInt.toNat, by rw [← Int32.toInt_inj, nI_toInt hm]; omega, hm⟩
theorem le_nI {m b : Nat} (hm : m < 2 ^ 31) (hb : b < 2 ^ 31) (h : nI m ≤ nI b) : m ≤ b := by
  have := Int32.le_iff_toInt_le.mp h
  rw [nI_toInt hm, nI_toInt hb] at this
  omega
theorem nI_le' {m b : Nat} (hm : m ≤ b) (hb : b < 2 ^ 31) : nI m ≤ nI b := by
  rw [Int32.le_iff_toInt_le, nI_toInt (by omega), nI_toInt hb]; omega
theorem K_days {n : Int32} (hc : Cnt σ) (hS : Sb σ) : Cnt (nDays σ n) ∧ Sb (nDays σ n) := by
  unfold nDays
  by_cases hp : pDays σ n
  · rw [cI_t hp]
    obtain ⟨⟨h0, h4⟩, h1⟩ := hp
    obtain ⟨e1, e2⟩ := hc.b 1 (b := 1000) (by decide)
    obtain ⟨m, rfl, hm⟩ := ex_nI h0
    have h4' := le_nI hm (by decide) (b := 400) h4
    have e3 : σ.1 1 + nI m = nI (cn σ 1 + m) := by rw [e1]; exact (Int32.ofNat_add _ _).symm
    rw [e3] at h1
    have h1' := le_nI (by omega) (by decide) (b := 1000) h1
    refine ⟨Cnt_up (m := cn σ 1 + m) hc (seti_u rfl) (by rw [← e3]; exact seti_at) (fun q hq e => ?_) (by omega), ⟨⟨hS.1.1, hS.1.2.1, hS.1.2.2.1, hS.1.2.2.2.1, fun l hl => ?_⟩, hS.2⟩⟩
    · have u : ∀ q ∈ mBnd, q.1 = 1 → q.2 = 1000 := by decide
      rw [u q hq e]; exact h1'
    · have h2 := hS.1.2.2.2.2 l hl
      show σ.2 14 l ≤ σ.1 1 + nI m
      rw [e3]
      rw [e1] at h2
      exact Int32.le_trans h2 (nI_le' (by omega) (by omega))
  · rw [cI_f hp]; exact ⟨hc, hS⟩
theorem K_person {a b c : Int32} (hc : Cnt σ) (hS : Sb σ) : Cnt (nPerson σ a b c) ∧ Sb (nPerson σ a b c) := by
  unfold nPerson
  by_cases hp : pPerson σ a b c
  · rw [cI_t hp]
    obtain ⟨h0, ha, hb, hd⟩ := hp
    obtain ⟨e1, e2⟩ := hc.b 15 (b := 24) (by decide)
    obtain ⟨hL, hR, hP, hM⟩ := hS
    obtain ⟨u1, u2⟩ := up_n (σ' := seti (seta (seta (seta σ 2 (cn σ 15) a) 3 (cn σ 15) b) 4 (cn σ 15) c) 15 (σ.1 15 + 1)) ⟨e1, e2⟩ (by decide) rfl
    have hlt : ∀ x : Int32, x < σ.1 15 → x < σ.1 15 + 1 := fun x hx => by
      have i1 := Int32.lt_iff_toInt_lt.mp hx
      rw [Int32.lt_iff_toInt_lt]
      rw [e1] at i1 ⊢
      rw [nI_1, nI_toInt (by omega)]
      rw [nI_toInt (by omega)] at i1
      omega
    refine ⟨Cnt_u hc (by decide) h0 (seti_u rfl) rfl, ⟨fun l hl => ⟨(hL.1 l hl).1, hlt _ (hL.1 l hl).2⟩, fun l hl => ?_, hL.2.2⟩, hR, fun p hp => ?_, hM⟩
    · rcases hL.2.1 l hl with h | ⟨h, h'⟩
      · exact Or.inl h
      · exact Or.inr ⟨h, hlt _ h'⟩
    · rw [u1] at hp
      rcases up_c hP hp with ⟨hi, h⟩ | rfl
      · show bd6 (updB (σ.2 2) (cn σ 15) a p) ∧ bd6 (updB (σ.2 3) (cn σ 15) b p) ∧ bd6 (updB (σ.2 4) (cn σ 15) c p)
        rw [updB_ne hi, updB_ne hi, updB_ne hi]; exact h
      · show bd6 (updB (σ.2 2) (cn σ 15) a (cn σ 15)) ∧ bd6 (updB (σ.2 3) (cn σ 15) b (cn σ 15)) ∧ bd6 (updB (σ.2 4) (cn σ 15) c (cn σ 15))
        rw [updB_eq, updB_eq, updB_eq]
        exact ⟨bd6_of ha.1 ha.2 (by decide) (by decide), bd6_of hb.1 hb.2 (by decide) (by decide), bd6_of hd.1 hd.2 (by decide) (by decide)⟩
  · rw [cI_f hp]; exact ⟨hc, hS⟩
theorem K_stop {a b : Int32} (hc : Cnt σ) (hS : Sb σ) : Cnt (nStop σ a b) ∧ Sb (nStop σ a b) := by
  unfold nStop
  by_cases hp : pStop σ a b
  · rw [cI_t hp]
    exact ⟨Cnt_u hc (k := 17) (by decide) hp.1 (seti_u rfl) rfl, hS⟩
  · rw [cI_f hp]; exact ⟨hc, hS⟩
theorem K_happen {a b c z : Int32} (hc : Cnt σ) (hS : Sb σ) : Cnt (nHappen σ a b c z) ∧ Sb (nHappen σ a b c z) := by
  unfold nHappen
  by_cases hp : pHappen σ a b c
  · rw [cI_t hp]
    exact ⟨Cnt_u hc (k := 44) (by decide) hp.1 (seti_u rfl) rfl, hS⟩
  · rw [cI_f hp]; exact ⟨hc, hS⟩
theorem K_watch {a b : Int32} (hc : Cnt σ) (hS : Sb σ) : Cnt (nWatch σ a b) ∧ Sb (nWatch σ a b) := by
  unfold nWatch
  by_cases hp : pWatch σ a b
  · rw [cI_t hp]
    exact ⟨Cnt_u hc (k := 59) (by decide) hp.1 (seti_u rfl) rfl, hS⟩
  · rw [cI_f hp]; exact ⟨hc, hS⟩
theorem K_want {a b : Int32} (hc : Cnt σ) (hS : Sb σ) : Cnt (nWant σ a b) ∧ Sb (nWant σ a b) := by
  unfold nWant
  by_cases hp : pWant σ a b
  · rw [cI_t hp]
    obtain ⟨u1, u2⟩ := up_n (σ' := seti (seta (seta σ 55 (cn σ 60) a) 56 (cn σ 60) b) 60 (σ.1 60 + 1)) (hc.b 60 (b := 8) (by decide)) (by decide) rfl
    refine ⟨Cnt_u hc (k := 60) (by decide) hp.1 (seti_u rfl) rfl, hS.1, hS.2.1, hS.2.2.1, hS.2.2.2.1, hS.2.2.2.2.1, hS.2.2.2.2.2.1, hS.2.2.2.2.2.2.1, fun i hi => ?_⟩
    rw [u1] at hi
    rcases up_c hS.2.2.2.2.2.2.2 hi with ⟨hi, h⟩ | rfl
    · show 0 ≤ updB (σ.2 56) (cn σ 60) b i ∧ updB (σ.2 56) (cn σ 60) b i ≤ 23
      rw [updB_ne hi]; exact h
    · show 0 ≤ updB (σ.2 56) (cn σ 60) b (cn σ 60) ∧ updB (σ.2 56) (cn σ 60) b (cn σ 60) ≤ 23
      rw [updB_eq]; exact hp.2.2
  · rw [cI_f hp]; exact ⟨hc, hS⟩
theorem K_quest {a b : Int32} (hc : Cnt σ) (hS : Sb σ) : Cnt (nQuest σ a b) ∧ Sb (nQuest σ a b) := by
  unfold nQuest
  by_cases hp : pQuest σ a b
  · rw [cI_t hp]
    obtain ⟨u1, u2⟩ := up_n (σ' := seti (seta (seta σ 62 (cn σ 65) a) 63 (cn σ 65) b) 65 (σ.1 65 + 1)) (hc.b 65 (b := 8) (by decide)) (by decide) rfl
    refine ⟨Cnt_u hc (k := 65) (by decide) hp.1 (seti_u rfl) rfl, hS.1, hS.2.1, hS.2.2.1, hS.2.2.2.1, hS.2.2.2.2.1, fun i hi => ?_, hS.2.2.2.2.2.2.1, hS.2.2.2.2.2.2.2⟩
    rw [u1] at hi
    rcases up_c hS.2.2.2.2.2.1 hi with ⟨hi, h⟩ | rfl
    · show 1 ≤ updB (σ.2 62) (cn σ 65) a i ∧ updB (σ.2 62) (cn σ 65) a i ≤ 50
      rw [updB_ne hi]; exact h
    · show 1 ≤ updB (σ.2 62) (cn σ 65) a (cn σ 65) ∧ updB (σ.2 62) (cn σ 65) a (cn σ 65) ≤ 50
      rw [updB_eq]; exact hp.2.1
  · rw [cI_f hp]; exact ⟨hc, hS⟩
theorem K_mark {r l v : Int32} (hc : Cnt σ) (hS : Sb σ) : Cnt (nMark σ r l v) ∧ Sb (nMark σ r l v) := by
  unfold nMark
  by_cases hp : pMark σ r l v
  · rw [cI_t hp]
    obtain ⟨u1, u2⟩ := up_n (σ' := seti (seta (seta (seta (seta σ 45 (cn σ 49) r) 46 (cn σ 49) l) 47 (cn σ 49) v) 48 (cn σ 49) (σ.1 1)) 49 (σ.1 49 + 1)) (hc.b 49 (b := 200) (by decide)) (by decide) rfl
    refine ⟨Cnt_u hc (k := 49) (by decide) hp.1 (seti_u rfl) rfl, hS.1, hS.2.1, hS.2.2.1, fun i hi => ?_, hS.2.2.2.2⟩
    rw [u1] at hi
    rcases up_c hS.2.2.2.1 hi with ⟨hi, h⟩ | rfl
    · show isR (updB (σ.2 45) (cn σ 49) r i) ∧ isL σ (updB (σ.2 46) (cn σ 49) l i) ∧ σ.2 14 (updB (σ.2 46) (cn σ 49) l i).toNatClampNeg ≤ updB (σ.2 48) (cn σ 49) (σ.1 1) i
      rw [updB_ne hi, updB_ne hi, updB_ne hi]; exact h
    · show isR (updB (σ.2 45) (cn σ 49) r (cn σ 49)) ∧ isL σ (updB (σ.2 46) (cn σ 49) l (cn σ 49)) ∧ σ.2 14 (updB (σ.2 46) (cn σ 49) l (cn σ 49)).toNatClampNeg ≤ updB (σ.2 48) (cn σ 49) (σ.1 1) (cn σ 49)
      rw [updB_eq, updB_eq, updB_eq]
      refine ⟨hp.2.1, hp.2.2.1, ?_⟩
      obtain ⟨e1, e2⟩ := hc.b 16 (b := 200) (by decide)
      obtain ⟨m, rfl, hm⟩ := ex_nI hp.2.2.1.1
      refine hS.1.2.2.2.2 _ ?_
      have hlt := Int32.lt_iff_toInt_lt.mp hp.2.2.1.2
      rw [e1, nI_toInt hm, nI_toInt (by omega)] at hlt
      rw [nI_clamp hm]
      omega
  · rw [cI_f hp]; exact ⟨hc, hS⟩
theorem K_land {a b c : Int32} (hc : Cnt σ) (hS : Sb σ) : Cnt (nLand σ a b c) ∧ Sb (nLand σ a b c) := by
  unfold nLand
  by_cases hp : pLand a b c
  · rw [cI_t hp]
    refine ⟨hc, hS.1, hS.2.1, hS.2.2.1, hS.2.2.2.1, hS.2.2.2.2.1, hS.2.2.2.2.2.1, fun k hk => ?_, hS.2.2.2.2.2.2.2⟩
    show 0 ≤ updB (σ.2 50) (4 * a + b).toNatClampNeg c k ∧ updB (σ.2 50) (4 * a + b).toNatClampNeg c k ≤ 9999
    by_cases e : k = (4 * a + b).toNatClampNeg
    · subst e; rw [updB_eq]; exact hp.2.2
    · rw [updB_ne e]; exact hS.2.2.2.2.2.2.1 k hk
  · rw [cI_f hp]; exact ⟨hc, hS⟩
theorem K_end {n : Int32} (hc : Cnt σ) (hS : Sb σ) : Cnt (nEnd σ n) ∧ Sb (nEnd σ n) := by
  unfold nEnd
  by_cases hp : pEnd σ n
  · rw [cI_t hp]
    obtain ⟨e1, e2⟩ := hc.b 24 (b := 160) (by decide)
    obtain ⟨m, rfl, hm⟩ := ex_nI hp.1
    have h1 := hp.2
    rw [e1] at h1
    have h2 := le_nI hm (by omega) h1
    refine ⟨Cnt_up (m := m) hc (seti_u rfl) seti_at (fun q hq e => ?_) hm, hS⟩
    have u : ∀ q ∈ mBnd, q.1 = 24 → q.2 = 160 := by decide
    rw [u q hq e]; omega
  · rw [cI_f hp]; exact ⟨hc, hS⟩
theorem K_line {p day sort mood say src : Int32} (hc : Cnt σ) (hS : Sb σ) : Cnt (nLine σ p day sort mood say src) ∧ Sb (nLine σ p day sort mood say src) := by
  unfold nLine
  by_cases hp : pLine σ p day sort mood say src
  · rw [cI_t hp]
    obtain ⟨h0, hP, hD, hso, hmo, hsy, hsr, -⟩ := hp
    obtain ⟨e1, e2⟩ := hc.b 16 (b := 200) (by decide)
    obtain ⟨d1, d2⟩ := hc.b 1 (b := 1000) (by decide)
    obtain ⟨u1, u2⟩ := up_n (σ' := seti (seta (seta (seta (seta (seta (seta (seta σ 8 (cn σ 16) p) 9 (cn σ 16) day) 10 (cn σ 16) sort) 11 (cn σ 16) mood) 12 (cn σ 16) say) 13 (cn σ 16) src) 14 (cn σ 16) (σ.1 1)) 16 (σ.1 16 + 1)) ⟨e1, e2⟩ (by decide) rfl
    have hday : isD day := ⟨hD.1, Int32.le_trans hD.2 (by rw [d1]; exact nI_le' (b := 1000) d2 (by decide))⟩
    have hn : ¬ (-9 : Int32) = 0 := by decide
    refine ⟨Cnt_u hc (k := 16) (by decide) h0 (seti_u rfl) rfl, ⟨fun l hl => ?_, fun l hl => ?_, fun l hl => ?_, fun l hl => ?_, fun l hl => ?_⟩, hS.2.1, hS.2.2.1, fun i hi => ?_, hS.2.2.2.2⟩
    · rw [u1] at hl
      rcases up_c hS.1.1 hl with ⟨hi, h⟩ | rfl
      · show 0 ≤ updB (σ.2 8) (cn σ 16) p l ∧ updB (σ.2 8) (cn σ 16) p l < σ.1 15
        rw [updB_ne hi]; exact h
      · show 0 ≤ updB (σ.2 8) (cn σ 16) p (cn σ 16) ∧ updB (σ.2 8) (cn σ 16) p (cn σ 16) < σ.1 15
        rw [updB_eq]; exact hP
    · rw [u1] at hl
      rcases up_c hS.1.2.1 hl with ⟨hi, h⟩ | rfl
      · show updB (σ.2 13) (cn σ 16) src l = -1 ∨ (0 ≤ updB (σ.2 13) (cn σ 16) src l ∧ updB (σ.2 13) (cn σ 16) src l < σ.1 15)
        rw [updB_ne hi]; exact h
      · show updB (σ.2 13) (cn σ 16) src (cn σ 16) = -1 ∨ (0 ≤ updB (σ.2 13) (cn σ 16) src (cn σ 16) ∧ updB (σ.2 13) (cn σ 16) src (cn σ 16) < σ.1 15)
        rw [updB_eq]
        rcases hsr with h | h
        · exact Or.inl h
        · exact Or.inr h.1
    · rw [u1] at hl
      rcases up_c hS.1.2.2.1 hl with ⟨hi, h⟩ | rfl
      · show isD (updB (σ.2 9) (cn σ 16) day l) ∧ bd6 (updB (σ.2 10) (cn σ 16) sort l) ∧ bd6 (updB (σ.2 11) (cn σ 16) mood l)
        rw [updB_ne hi, updB_ne hi, updB_ne hi]; exact h
      · show isD (updB (σ.2 9) (cn σ 16) day (cn σ 16)) ∧ bd6 (updB (σ.2 10) (cn σ 16) sort (cn σ 16)) ∧ bd6 (updB (σ.2 11) (cn σ 16) mood (cn σ 16))
        rw [updB_eq, updB_eq, updB_eq]
        exact ⟨hday, bd6_of hso.1 hso.2 (by decide) (by decide), bd6_of hmo.1 hmo.2 (by decide) (by decide)⟩
    · rw [u1] at hl
      rcases up_c hS.1.2.2.2.1 hl with ⟨hi, h⟩ | rfl
      · show -9 ≤ updB (σ.2 11) (cn σ 16) mood l ∧ updB (σ.2 11) (cn σ 16) mood l ≤ 9
        rw [updB_ne hi]; exact h
      · show -9 ≤ updB (σ.2 11) (cn σ 16) mood (cn σ 16) ∧ updB (σ.2 11) (cn σ 16) mood (cn σ 16) ≤ 9
        rw [updB_eq]; exact hmo
    · rw [u1] at hl
      rcases up_c hS.1.2.2.2.2 hl with ⟨hi, h⟩ | rfl
      · show updB (σ.2 14) (cn σ 16) (σ.1 1) l ≤ σ.1 1
        rw [updB_ne hi]; exact h
      · show updB (σ.2 14) (cn σ 16) (σ.1 1) (cn σ 16) ≤ σ.1 1
        rw [updB_eq]; exact Int32.le_refl _
    · obtain ⟨h1, ⟨h2, h3⟩, h4⟩ := hS.2.2.2.1 i hi
      obtain ⟨m, hm, hmb⟩ := ex_nI h2
      have hlt := Int32.lt_iff_toInt_lt.mp h3
      rw [hm, e1, nI_toInt hmb, nI_toInt (by omega)] at hlt
      refine ⟨h1, ⟨h2, ?_⟩, ?_⟩
      · show σ.2 46 i < σ.1 16 + 1
        rw [hm, e1, nI_1]
        rw [Int32.lt_iff_toInt_lt, nI_toInt hmb, nI_toInt (by omega)]
        omega
      · show updB (σ.2 14) (cn σ 16) (σ.1 1) (σ.2 46 i).toNatClampNeg ≤ σ.2 48 i
        rw [updB_ne ?_]
        · exact h4
        · rw [hm, nI_clamp hmb]; omega
  · rw [cI_f hp]; exact ⟨hc, hS⟩
end KEE
