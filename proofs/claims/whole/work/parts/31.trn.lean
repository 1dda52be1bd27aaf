/-! the model's methods, 9: the turn of moods -/
def kno (σ : MS) (q : Int32) (d : Int32) (l : Nat) : Bool := decide (σ.2 9 l = d ∧ σ.2 14 l ≤ q)
/-- a day's known lines, of the first n -/
def dayL (σ : MS) (q d : Int32) (n : Nat) : List Nat := (List.range n).filter (kno σ q d)
/-- the lines of m days from a on, by days, then numbers -/
def tAll (σ : MS) (a : Nat) (q : Int32) : Nat → List Nat
  | 0 => []
  | m + 1 => tAll σ a q m ++ dayL σ q (nI (a + m)) (cn σ 16)
theorem dayL_s (σ : MS) (q d : Int32) (n : Nat) : dayL σ q d (n + 1) = if kno σ q d n = true then dayL σ q d n ++ [n] else dayL σ q d n := by
  unfold dayL
  rw [List.range_succ, List.filter_append]
  cases h : kno σ q d n <;> simp [h]
/-- lines known for days from a on, ahead of a + m: of the first n -/
def inD (σ : MS) (a : Nat) (q : Int32) (m : Nat) (l : Nat) : Bool := (List.range m).any (fun i => kno σ q (nI (a + i)) l)
theorem inD_s (σ : MS) (a : Nat) (q : Int32) (m l : Nat) : inD σ a q (m + 1) l = (inD σ a q m l || kno σ q (nI (a + m)) l) := by
  unfold inD
  rw [List.range_succ, List.any_append]; simp
theorem inD_no {σ : MS} {a : Nat} {q : Int32} {m l : Nat} (hm : a + m < 5000) (h : kno σ q (nI (a + m)) l = true) : inD σ a q m l = false := by
  unfold inD
  rw [List.any_eq_false]
  intro i hi hk
  have hi := List.mem_range.mp hi
  unfold kno at h hk
  have h1 := (of_decide_eq_true h).1
  have h2 := (of_decide_eq_true hk).1
  have := (nI_eq (by omega) (by omega)).mp (h1.symm.trans h2)
  omega
theorem tAll_len (σ : MS) (a : Nat) (q : Int32) : ∀ m, a + m < 5000 → (tAll σ a q m).length = (List.range (cn σ 16)).countP (inD σ a q m)
  | 0, _ => by
    show 0 = _
    rw [eq_comm, List.countP_eq_zero]
    intro l _
    simp [inD]
  | m + 1, h => by
    show (tAll σ a q m ++ dayL σ q (nI (a + m)) (cn σ 16)).length = _
    rw [List.length_append, tAll_len σ a q m (by omega)]
    unfold dayL
    rw [← List.countP_eq_length_filter]
    generalize List.range (cn σ 16) = L
    induction L with
    | nil => rfl
    | cons x t ih =>
      rw [List.countP_cons, List.countP_cons, List.countP_cons, inD_s]
      cases h1 : kno σ q (nI (a + m)) x with
      | false => simp only [Bool.or_false]; simp; omega
      | true => rw [inD_no (by omega) h1]; simp; omega
theorem dayL_len (σ : MS) (q d : Int32) (n : Nat) : (dayL σ q d n).length = (List.range n).countP (kno σ q d) := by
  unfold dayL; rw [List.countP_eq_length_filter]
theorem tAll_le (σ : MS) (a : Nat) (q : Int32) {m : Nat} (h : a + m < 5000) : (tAll σ a q m).length ≤ cn σ 16 := by
  rw [tAll_len σ a q m h]
  exact Nat.le_trans List.countP_le_length (by rw [List.length_range]; exact Nat.le_refl _)
theorem dayL_mono (σ : MS) (q d : Int32) {n n' : Nat} (h : n ≤ n') : (dayL σ q d n).length ≤ (dayL σ q d n').length := by
  induction h with
  | refl => exact Nat.le_refl _
  | step _ ih =>
    refine Nat.le_trans ih ?_
    rw [dayL_s]
    split
    · rw [List.length_append]; omega
    · exact Nat.le_refl _
/-- both sums of N moods moved on by b: ahead of f, from f on -/
def spAp (ms : Nat → Int32) (N f b : Nat) (n : Nat) : Int64 × Int64 := fold (fun k s => if k < f then (s.1 + (ms ((k + b) % N)).toInt64, s.2) else (s.1, s.2 + (ms ((k + b) % N)).toInt64)) (0, 0) n
def spApart (ms : Nat → Int32) (N f b : Nat) : Int64 := labs ((spAp ms N f b N).1 * (nI N - nI f).toInt64 - (spAp ms N f b N).2 * (nI f).toInt64)
def tMs (σ : MS) (a : Nat) (q : Int32) (m : Nat) (i : Nat) : Int32 := σ.2 11 ((tAll σ a q m).getD i 0)
/-- the best day and how many lines stand ahead of it: of n days behind the first of m -/
noncomputable def spTurn (σ : MS) (a : Nat) (q : Int32) (m : Nat) (n : Nat) : Int32 × Nat := fold (fun j s =>
  cI (¬ (tAll σ a q (j + 1)).length = 0 ∧ ¬ (tAll σ a q (j + 1)).length = (tAll σ a q m).length ∧ (s.1 = -1 ∨ 0 < lg_cmp (spApart (tMs σ a q m) (tAll σ a q m).length (tAll σ a q (j + 1)).length 0 * (nI s.2).toInt64 * (nI (tAll σ a q m).length - nI s.2).toInt64) (spApart (tMs σ a q m) (tAll σ a q m).length s.2 0 * (nI (tAll σ a q (j + 1)).length).toInt64 * (nI (tAll σ a q m).length - nI (tAll σ a q (j + 1)).length).toInt64)))
    (nI (a + (j + 1)), (tAll σ a q (j + 1)).length) s) (-1, 0) n
def spChance (ms : Nat → Int32) (N f : Nat) (n : Nat) : Int32 := fold (fun b c => if 0 ≤ lg_cmp (spApart ms N f b) (spApart ms N f 0) then c + 1 else c) 0 n
def pTurn (σ : MS) (a b q what : Int32) : Prop := isD a ∧ isD b ∧ a < b ∧ isK σ q ∧ (0 ≤ what ∧ what ≤ 1)
noncomputable def aTurn (σ : MS) (a b q what : Int32) : Int32 := cI (pTurn σ a b q what)
  (let A := a.toNatClampNeg
   let m := b.toNatClampNeg - A
   let r := spTurn σ A q (m + 1) m
   if r.1 = -1 ∨ what = 0 then r.1 else spChance (tMs σ A q (m + 1)) (tAll σ A q (m + 1)).length r.2 (tAll σ A q (m + 1)).length) (-1)
/-- nothing but moods' scratch is another -/
def tKeep (σ σ' : MS) : Prop := (∀ k, k ≠ 52 → σ'.1 k = σ.1 k) ∧ ∀ k, k ≠ 51 → σ'.2 k = σ.2 k
theorem tKeep.i {σ σ' : MS} {v : Int32} (h : tKeep σ σ') : tKeep σ (seti σ' 52 v) := ⟨fun k hk => (updB_ne hk).trans (h.1 k hk), h.2⟩
theorem tKeep.a {σ σ' : MS} {i : Nat} {v : Int32} (h : tKeep σ σ') : tKeep σ (seta σ' 51 i v) := ⟨h.1, fun k hk => (seta_ne hk).trans (h.2 k hk)⟩
section MDJ
variable {G : Gam} {d : Nat} {k : Nat × Nat} {ad : Nat → Nat} {σ σ0 : MS} {M : Mem} {Q : Option Value → Mem → Prop}
theorem spAp_c {ms ms' : Nat → Int32} {N f b : Nat} (hN : 0 < N) (h : ∀ i, i < N → ms' i = ms i) : ∀ n, spAp ms' N f b n = spAp ms N f b n
  | 0 => rfl
  | n + 1 => by
    have e : ∀ ms, spAp ms N f b (n + 1) = if n < f then ((spAp ms N f b n).1 + (ms ((n + b) % N)).toInt64, (spAp ms N f b n).2) else ((spAp ms N f b n).1, (spAp ms N f b n).2 + (ms ((n + b) % N)).toInt64) := fun _ => rfl
    rw [e, e, spAp_c hN h n, h _ (Nat.mod_lt _ hN)]
theorem c_X12_apart {f b N : Nat} {ms : Nat → Int32} {v : Int64} (hi : adOK ad) (hN : σ.1 52 = nI N) (hN1 : N ≤ 200) (hN0 : 0 < N) (hf : f ≤ 200) (hb : b ≤ 200) (hms : ∀ i, i < N → σ.2 51 i = ms i) (hv : spApart ms N f b = v) (hq : Q (some (.long v)) (mm ad σ)) : CT G (d + 1) (0, 0) MX12_apart [.ref (ad 99), .int (nI f), .int (nI b)] (mm ad σ) Q := by
  subst hv
  refine CT.of rfl (Nat.le_of_ble_eq_true rfl) ?_
  refine x_lconst (v := 0) dX12_apart_0 (by decide) ?_
  refine x_lstore_n dX12_apart_1 rfl (by decide) ?_
  refine x_lconst (v := 0) dX12_apart_2 (by decide) ?_
  refine x_lstore dX12_apart_3 (by decide) ?_
  refine x_iconst (v := 0) dX12_apart_5 (by decide) ?_
  refine x_istore dX12_apart_6 (by decide) ?_
  refine x_loc [(0, .ref (ad 99)), (1, .int (nI f)), (2, .int (nI b)), (3, .long (spAp ms N f b 0).1), (5, .long (spAp ms N f b 0).2), (7, .int (nI 0))] ⟨rfl, rfl, rfl, rfl, rfl, rfl, trivial⟩ ?_
  refine loop_up (P := fun i => XJ G (d + 1) (0, 0) MX12_apart (mm ad σ) [(0, .ref (ad 99)), (1, .int (nI f)), (2, .int (nI b)), (3, .long (spAp ms N f b i).1), (5, .long (spAp ms N f b i).2), (7, .int (nI i))] [] 8 Q) (n := N) ?_ ?_ 0 (Nat.zero_le _)
  · refine x_iload dX12_apart_8 rfl ?_
    refine x_aload_n dX12_apart_10 rfl rfl ?_
    refine xm_geti dX12_apart_11 lf_X12_353 vmi_52 ?_
    refine x_icmp_ge (tgt := 62) dX12_apart_14 (by decide) (fun _ => ?_) (fun z => absurd (loopT hN) z)
    refine x_lload_n dX12_apart_62 rfl rfl ?_
    refine x_aload_n dX12_apart_63 rfl rfl ?_
    refine xm_geti dX12_apart_64 lf_X12_353 vmi_52 ?_
    refine x_iload_n dX12_apart_67 rfl rfl ?_
    refine x_isub dX12_apart_68 ?_
    refine x_i2l dX12_apart_69 ?_
    refine x_lmul dX12_apart_70 ?_
    refine x_lload dX12_apart_71 rfl ?_
    refine x_iload_n dX12_apart_73 rfl rfl ?_
    refine x_i2l dX12_apart_74 ?_
    refine x_lmul dX12_apart_75 ?_
    refine x_lsub dX12_apart_76 ?_
    refine x_cS1 dX12_apart_77 ls_X12_356 rfl  (c_J9_abs_067f4 ?_)
    exact x_lreturn dX12_apart_80 rfl (by unfold spApart at hq; rw [← hN] at hq; exact hq)
  · intro i hlt ih
    have hidx : (nI i + nI b) - (nI i + nI b) / σ.1 52 * σ.1 52 = nI ((i + b) % N) := by rw [hN, nI_add, pk_rem (by omega) hN0 (by omega)]
    have hml : (i + b) % N < N := Nat.mod_lt _ hN0
    have hin : vp_in ((nI i + nI b) - (nI i + nI b) / σ.1 52 * σ.1 52) 200 := by rw [hidx]; exact vp_in_nI (by omega) (by decide)
    have hcl : ((nI i + nI b) - (nI i + nI b) / σ.1 52 * σ.1 52).toNatClampNeg = (i + b) % N := by rw [hidx]; exact nI_clamp (by omega)
    have hst : spAp ms N f b (i + 1) = if i < f then ((spAp ms N f b i).1 + (ms ((i + b) % N)).toInt64, (spAp ms N f b i).2) else ((spAp ms N f b i).1, (spAp ms N f b i).2 + (ms ((i + b) % N)).toInt64) := rfl
    have hm := hms _ hml
    refine x_iload dX12_apart_8 rfl ?_
    refine x_aload_n dX12_apart_10 rfl rfl ?_
    refine xm_geti dX12_apart_11 lf_X12_353 vmi_52 ?_
    refine x_icmp_ge (tgt := 62) dX12_apart_14 (by decide) (fun z => absurd z (loopF hN hlt (by omega))) (fun _ => ?_)
    refine x_aload_n dX12_apart_17 rfl rfl ?_
    refine xm_geta dX12_apart_18 lf_X12_108 vma_51 ?_
    refine x_iload dX12_apart_21 rfl ?_
    refine x_iload_n dX12_apart_23 rfl rfl ?_
    refine x_iadd dX12_apart_24 ?_
    refine x_aload_n dX12_apart_25 rfl rfl ?_
    refine xm_geti dX12_apart_26 lf_X12_353 vmi_52 ?_
    refine x_irem dX12_apart_29 (by rw [hN]; exact nI_ne0 hN0 (by omega)) ?_
    refine xm_iald 51 dX12_apart_30 mf_51 hi hin hcl ?_
    refine x_istore dX12_apart_31 (by decide) ?_
    refine x_iload dX12_apart_33 rfl ?_
    refine x_iload_n dX12_apart_35 rfl rfl ?_
    refine x_icmp_ge (tgt := 48) dX12_apart_36 (by decide) (fun h36 => ?_) (fun h36 => ?_)
    · refine x_lload dX12_apart_48 rfl ?_
      refine x_iload dX12_apart_50 rfl ?_
      refine x_i2l dX12_apart_52 ?_
      refine x_ladd dX12_apart_53 ?_
      refine x_lstore dX12_apart_54 (by decide) ?_
      refine x_iinc (c := 1) dX12_apart_56 rfl (by decide) ?_
      refine x_goto (tgt := 8) dX12_apart_59 (by decide) ?_
      refine x_loc _ (?_ : lle _ _) ih
      rw [hst]
      first
      | (have hif : i < f := Nat.not_le.mp (fun z => h36 (nI_le z (by omega)))
         rw [if_pos hif, ← hm]
         exact ⟨rfl, rfl, rfl, rfl, rfl, congrArg some (congrArg Value.int (nI_1 _)), trivial⟩)
      | (have hif : ¬ i < f := fun z => absurd h36 (nI_ge z (by omega))
         rw [if_neg hif, ← hm]
         exact ⟨rfl, rfl, rfl, rfl, rfl, congrArg some (congrArg Value.int (nI_1 _)), trivial⟩)
    · refine x_lload_n dX12_apart_39 rfl rfl ?_
      refine x_iload dX12_apart_40 rfl ?_
      refine x_i2l dX12_apart_42 ?_
      refine x_ladd dX12_apart_43 ?_
      refine x_lstore_n dX12_apart_44 rfl (by decide) ?_
      refine x_goto (tgt := 56) dX12_apart_45 (by decide) ?_
      refine x_iinc (c := 1) dX12_apart_56 rfl (by decide) ?_
      refine x_goto (tgt := 8) dX12_apart_59 (by decide) ?_
      refine x_loc _ (?_ : lle _ _) ih
      rw [hst]
      first
      | (have hif : i < f := Nat.not_le.mp (fun z => h36 (nI_le z (by omega)))
         rw [if_pos hif, ← hm]
         exact ⟨rfl, rfl, rfl, rfl, rfl, congrArg some (congrArg Value.int (nI_1 _)), trivial⟩)
      | (have hif : ¬ i < f := fun z => absurd h36 (nI_ge z (by omega))
         rw [if_neg hif, ← hm]
         exact ⟨rfl, rfl, rfl, rfl, rfl, congrArg some (congrArg Value.int (nI_1 _)), trivial⟩)
end MDJ
