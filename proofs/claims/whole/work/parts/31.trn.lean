/-! the model's methods, 9: the turn of moods -/
def kno (σ : MS) (q : Int32) (d : Int32) (l : Nat) : Bool := decide (σ.2 9 l = d ∧ σ.2 14 l ≤ q)
/-- a day's known lines, of the first n -/
def dayL (σ : MS) (q d : Int32) (n : Nat) : List Nat := (List.range n).filter (kno σ q d)
/-- the lines of m days from a on, by days, then numbers -/
def tAll (σ : MS) (a : Nat) (q : Int32) : Nat → List Nat
  | 0 => []
  | m + 1 => tAll σ a q m ++ dayL σ q (nI (a + m)) (cn σ 16)
theorem dayL_s (σ : MS) (q d : Int32) (n : Nat) : dayL σ q d (n + 1) = if kno σ q d n = true then dayL σ q d n ++ [n] else dayL σ q d n := by
  unfold dayL
  rw [List.range_succ, List.filter_append]
  cases h : kno σ q d n <;> simp [h]
/-- lines known for days from a on, ahead of a + m: of the first n -/
def inD (σ : MS) (a : Nat) (q : Int32) (m : Nat) (l : Nat) : Bool := (List.range m).any (fun i => kno σ q (nI (a + i)) l)
theorem inD_s (σ : MS) (a : Nat) (q : Int32) (m l : Nat) : inD σ a q (m + 1) l = (inD σ a q m l || kno σ q (nI (a + m)) l) := by
  unfold inD
  rw [List.range_succ, List.any_append]; simp
theorem inD_no {σ : MS} {a : Nat} {q : Int32} {m l : Nat} (hm : a + m < 5000) (h : kno σ q (nI (a + m)) l = true) : inD σ a q m l = false := by
  unfold inD
  rw [List.any_eq_false]
  intro i hi hk
  have hi := List.mem_range.mp hi
  unfold kno at h hk
  have h1 := (of_decide_eq_true h).1
  have h2 := (of_decide_eq_true hk).1
  have := (nI_eq (by omega) (by omega)).mp (h1.symm.trans h2)
  omega
theorem tAll_len (σ : MS) (a : Nat) (q : Int32) : ∀ m, a + m < 5000 → (tAll σ a q m).length = (List.range (cn σ 16)).countP (inD σ a q m)
  | 0, _ => by
    show 0 = _
    rw [eq_comm, List.countP_eq_zero]
    intro l _
    simp [inD]
  | m + 1, h => by
    show (tAll σ a q m ++ dayL σ q (nI (a + m)) (cn σ 16)).length = _
    rw [List.length_append, tAll_len σ a q m (by omega)]
    unfold dayL
    rw [← List.countP_eq_length_filter]
    generalize List.range (cn σ 16) = L
    induction L with
    | nil => rfl
    | cons x t ih =>
      rw [List.countP_cons, List.countP_cons, List.countP_cons, inD_s]
      cases h1 : kno σ q (nI (a + m)) x with
      | false => simp only [Bool.or_false]; simp; omega
      | true => rw [inD_no (by omega) h1]; simp; omega
theorem dayL_len (σ : MS) (q d : Int32) (n : Nat) : (dayL σ q d n).length = (List.range n).countP (kno σ q d) := by
  unfold dayL; rw [List.countP_eq_length_filter]
theorem tAll_le (σ : MS) (a : Nat) (q : Int32) {m : Nat} (h : a + m < 5000) : (tAll σ a q m).length ≤ cn σ 16 := by
  rw [tAll_len σ a q m h]
  exact Nat.le_trans List.countP_le_length (by rw [List.length_range]; exact Nat.le_refl _)
theorem dayL_mono (σ : MS) (q d : Int32) {n n' : Nat} (h : n ≤ n') : (dayL σ q d n).length ≤ (dayL σ q d n').length := by
  induction h with
  | refl => exact Nat.le_refl _
  | step _ ih =>
    refine Nat.le_trans ih ?_
    rw [dayL_s]
    split
    · rw [List.length_append]; omega
    · exact Nat.le_refl _
/-- both sums of N moods moved on by b: ahead of f, from f on -/
def spAp (ms : Nat → Int32) (N f b : Nat) (n : Nat) : Int64 × Int64 := fold (fun k s => if k < f then (s.1 + (ms ((k + b) % N)).toInt64, s.2) else (s.1, s.2 + (ms ((k + b) % N)).toInt64)) (0, 0) n
def spApart (ms : Nat → Int32) (N f b : Nat) : Int64 := labs ((spAp ms N f b N).1 * (nI N - nI f).toInt64 - (spAp ms N f b N).2 * (nI f).toInt64)
def tMs (σ : MS) (a : Nat) (q : Int32) (m : Nat) (i : Nat) : Int32 := σ.2 11 ((tAll σ a q m).getD i 0)
/-- the best day and how many lines stand ahead of it: of n days behind the first of m -/
noncomputable def spTurn (σ : MS) (a : Nat) (q : Int32) (m : Nat) (n : Nat) : Int32 × Nat := fold (fun j s =>
  cI (¬ (tAll σ a q (j + 1)).length = 0 ∧ ¬ (tAll σ a q (j + 1)).length = (tAll σ a q m).length ∧ (s.1 = -1 ∨ 0 < lg_cmp (spApart (tMs σ a q m) (tAll σ a q m).length (tAll σ a q (j + 1)).length 0 * (nI s.2).toInt64 * (nI (tAll σ a q m).length - nI s.2).toInt64) (spApart (tMs σ a q m) (tAll σ a q m).length s.2 0 * (nI (tAll σ a q (j + 1)).length).toInt64 * (nI (tAll σ a q m).length - nI (tAll σ a q (j + 1)).length).toInt64)))
    (nI (a + (j + 1)), (tAll σ a q (j + 1)).length) s) (-1, 0) n
def spChance (ms : Nat → Int32) (N f : Nat) (n : Nat) : Int32 := fold (fun b c => if 0 ≤ lg_cmp (spApart ms N f b) (spApart ms N f 0) then c + 1 else c) 0 n
def pTurn (σ : MS) (a b q what : Int32) : Prop := isD a ∧ isD b ∧ a < b ∧ isK σ q ∧ (0 ≤ what ∧ what ≤ 1)
noncomputable def aTurnN (σ : MS) (A m : Nat) (q what : Int32) : Int32 :=
  if (spTurn σ A q (m + 1) m).1 = -1 ∨ what = 0 then (spTurn σ A q (m + 1) m).1 else spChance (tMs σ A q (m + 1)) (tAll σ A q (m + 1)).length (spTurn σ A q (m + 1) m).2 (tAll σ A q (m + 1)).length
noncomputable def aTurn (σ : MS) (a b q what : Int32) : Int32 := cI (pTurn σ a b q what) (aTurnN σ a.toNatClampNeg (b.toNatClampNeg - a.toNatClampNeg) q what) (-1)
/-- nothing but moods' scratch is another -/
def tKeep (σ σ' : MS) : Prop := (∀ k, k ≠ 52 → σ'.1 k = σ.1 k) ∧ ∀ k, k ≠ 51 → σ'.2 k = σ.2 k
theorem tKeep.i {σ σ' : MS} {v : Int32} (h : tKeep σ σ') : tKeep σ (seti σ' 52 v) := ⟨fun k hk => (updB_ne hk).trans (h.1 k hk), h.2⟩
theorem tKeep.a {σ σ' : MS} {i : Nat} {v : Int32} (h : tKeep σ σ') : tKeep σ (seta σ' 51 i v) := ⟨h.1, fun k hk => (seta_ne hk).trans (h.2 k hk)⟩
section MDJ
variable {G : Gam} {d : Nat} {k : Nat × Nat} {ad : Nat → Nat} {σ σ0 : MS} {M : Mem} {Q : Option Value → Mem → Prop}
theorem c_X12_apart {f b N : Nat} {ms : Nat → Int32} {v : Int64} (hi : adOK ad) (hN : σ.1 52 = nI N) (hN1 : N ≤ 200) (hN0 : 0 < N) (hf : f ≤ 200) (hb : b ≤ 200) (hms : ∀ i, i < N → σ.2 51 i = ms i) (hv : spApart ms N f b = v) (hq : Q (some (.long v)) (mm ad σ)) : CT G (d + 1) (0, 0) MX12_apart [.ref (ad 99), .int (nI f), .int (nI b)] (mm ad σ) Q := by
  subst hv
  refine CT.of rfl (Nat.le_of_ble_eq_true rfl) ?_
  refine x_lconst (v := 0) dX12_apart_0 (by decide) ?_
  refine x_lstore_n dX12_apart_1 rfl (by decide) ?_
  refine x_lconst (v := 0) dX12_apart_2 (by decide) ?_
  refine x_lstore dX12_apart_3 (by decide) ?_
  refine x_iconst (v := 0) dX12_apart_5 (by decide) ?_
  refine x_istore dX12_apart_6 (by decide) ?_
  refine x_loc [(0, .ref (ad 99)), (1, .int (nI f)), (2, .int (nI b)), (3, .long (spAp ms N f b 0).1), (5, .long (spAp ms N f b 0).2), (7, .int (nI 0))] ⟨rfl, rfl, rfl, rfl, rfl, rfl, trivial⟩ ?_
  refine loop_up (P := fun i => XJ G (d + 1) (0, 0) MX12_apart (mm ad σ) [(0, .ref (ad 99)), (1, .int (nI f)), (2, .int (nI b)), (3, .long (spAp ms N f b i).1), (5, .long (spAp ms N f b i).2), (7, .int (nI i))] [] 8 Q) (n := N) ?_ ?_ 0 (Nat.zero_le _)
  · refine x_iload dX12_apart_8 rfl ?_
    refine x_aload_n dX12_apart_10 rfl rfl ?_
    refine xm_geti dX12_apart_11 lf_X12_353 vmi_52 ?_
    refine x_icmp_ge (tgt := 62) dX12_apart_14 (by decide) (fun _ => ?_) (fun z => absurd (loopT hN) z)
    refine x_lload_n dX12_apart_62 rfl rfl ?_
    refine x_aload_n dX12_apart_63 rfl rfl ?_
    refine xm_geti dX12_apart_64 lf_X12_353 vmi_52 ?_
    refine x_iload_n dX12_apart_67 rfl rfl ?_
    refine x_isub dX12_apart_68 ?_
    refine x_i2l dX12_apart_69 ?_
    refine x_lmul dX12_apart_70 ?_
    refine x_lload dX12_apart_71 rfl ?_
    refine x_iload_n dX12_apart_73 rfl rfl ?_
    refine x_i2l dX12_apart_74 ?_
    refine x_lmul dX12_apart_75 ?_
    refine x_lsub dX12_apart_76 ?_
    refine x_cS1 dX12_apart_77 ls_X12_356 rfl  (c_J9_abs_067f4 ?_)
    exact x_lreturn dX12_apart_80 rfl (by unfold spApart at hq; rw [← hN] at hq; exact hq)
  · intro i hlt ih
    have hidx : (nI i + nI b) - (nI i + nI b) / σ.1 52 * σ.1 52 = nI ((i + b) % N) := by rw [hN, nI_add, pk_rem (by omega) hN0 (by omega)]
    have hml : (i + b) % N < N := Nat.mod_lt _ hN0
    have hin : vp_in ((nI i + nI b) - (nI i + nI b) / σ.1 52 * σ.1 52) 200 := by rw [hidx]; exact vp_in_nI (by omega) (by decide)
    have hcl : ((nI i + nI b) - (nI i + nI b) / σ.1 52 * σ.1 52).toNatClampNeg = (i + b) % N := by rw [hidx]; exact nI_clamp (by omega)
    have hst : spAp ms N f b (i + 1) = if i < f then ((spAp ms N f b i).1 + (ms ((i + b) % N)).toInt64, (spAp ms N f b i).2) else ((spAp ms N f b i).1, (spAp ms N f b i).2 + (ms ((i + b) % N)).toInt64) := rfl
    have hm := hms _ hml
    refine x_iload dX12_apart_8 rfl ?_
    refine x_aload_n dX12_apart_10 rfl rfl ?_
    refine xm_geti dX12_apart_11 lf_X12_353 vmi_52 ?_
    refine x_icmp_ge (tgt := 62) dX12_apart_14 (by decide) (fun z => absurd z (loopF hN hlt (by omega))) (fun _ => ?_)
    refine x_aload_n dX12_apart_17 rfl rfl ?_
    refine xm_geta dX12_apart_18 lf_X12_108 vma_51 ?_
    refine x_iload dX12_apart_21 rfl ?_
    refine x_iload_n dX12_apart_23 rfl rfl ?_
    refine x_iadd dX12_apart_24 ?_
    refine x_aload_n dX12_apart_25 rfl rfl ?_
    refine xm_geti dX12_apart_26 lf_X12_353 vmi_52 ?_
    refine x_irem dX12_apart_29 (by rw [hN]; exact nI_ne0 hN0 (by omega)) ?_
    refine xm_iald 51 dX12_apart_30 mf_51 hi hin hcl ?_
    refine x_istore dX12_apart_31 (by decide) ?_
    refine x_iload dX12_apart_33 rfl ?_
    refine x_iload_n dX12_apart_35 rfl rfl ?_
    refine x_icmp_ge (tgt := 48) dX12_apart_36 (by decide) (fun h36 => ?_) (fun h36 => ?_)
    · refine x_lload dX12_apart_48 rfl ?_
      refine x_iload dX12_apart_50 rfl ?_
      refine x_i2l dX12_apart_52 ?_
      refine x_ladd dX12_apart_53 ?_
      refine x_lstore dX12_apart_54 (by decide) ?_
      refine x_iinc (c := 1) dX12_apart_56 rfl (by decide) ?_
      refine x_goto (tgt := 8) dX12_apart_59 (by decide) ?_
      refine x_loc _ (?_ : lle _ _) ih
      rw [hst]
      first
      | (have hif : i < f := Nat.not_le.mp (fun z => h36 (nI_le z (by omega)))
         rw [if_pos hif, ← hm]
         exact ⟨rfl, rfl, rfl, rfl, rfl, congrArg some (congrArg Value.int (nI_1 _)), trivial⟩)
      | (have hif : ¬ i < f := fun z => absurd h36 (nI_ge z (by omega))
         rw [if_neg hif, ← hm]
         exact ⟨rfl, rfl, rfl, rfl, rfl, congrArg some (congrArg Value.int (nI_1 _)), trivial⟩)
    · refine x_lload_n dX12_apart_39 rfl rfl ?_
      refine x_iload dX12_apart_40 rfl ?_
      refine x_i2l dX12_apart_42 ?_
      refine x_ladd dX12_apart_43 ?_
      refine x_lstore_n dX12_apart_44 rfl (by decide) ?_
      refine x_goto (tgt := 56) dX12_apart_45 (by decide) ?_
      refine x_iinc (c := 1) dX12_apart_56 rfl (by decide) ?_
      refine x_goto (tgt := 8) dX12_apart_59 (by decide) ?_
      refine x_loc _ (?_ : lle _ _) ih
      rw [hst]
      first
      | (have hif : i < f := Nat.not_le.mp (fun z => h36 (nI_le z (by omega)))
         rw [if_pos hif, ← hm]
         exact ⟨rfl, rfl, rfl, rfl, rfl, congrArg some (congrArg Value.int (nI_1 _)), trivial⟩)
      | (have hif : ¬ i < f := fun z => absurd h36 (nI_ge z (by omega))
         rw [if_neg hif, ← hm]
         exact ⟨rfl, rfl, rfl, rfl, rfl, congrArg some (congrArg Value.int (nI_1 _)), trivial⟩)
theorem tAll_mono (σ : MS) (a : Nat) (q : Int32) {n n' : Nat} (h : n ≤ n') : (tAll σ a q n).length ≤ (tAll σ a q n').length := by
  induction h with
  | refl => exact Nat.le_refl _
  | @step m _ ih => exact Nat.le_trans ih (by show _ ≤ (tAll σ a q m ++ dayL σ q (nI (a + m)) (cn σ 16)).length; rw [List.length_append]; omega)
theorem spTurn_le (σ : MS) (a : Nat) (q : Int32) (m : Nat) : ∀ n, a + n < 5000 → (spTurn σ a q m n).2 ≤ cn σ 16
  | 0, _ => Nat.zero_le _
  | n + 1, h => by
    show (cI _ _ (spTurn σ a q m n)).2 ≤ _
    unfold cI
    split
    · exact tAll_le σ a q (by omega)
    · exact spTurn_le σ a q m n (by omega)
theorem getD_app {L : List Nat} {x : Nat} {i : Nat} : (L ++ [x]).getD i 0 = if i < L.length then L.getD i 0 else if i = L.length then x else 0 := by
  rw [List.getD_eq_getElem?_getD, List.getD_eq_getElem?_getD]
  split
  · rw [List.getElem?_append_left (by assumption)]
  · split
    · subst i; simp
    · rw [List.getElem?_eq_none (by simp; omega)]; rfl
/-- the moods laid so far are those of a list -/
def mIs (σ σ' : MS) (L : List Nat) : Prop := tKeep σ σ' ∧ σ'.1 52 = nI L.length ∧ ∀ i, i < L.length → σ'.2 51 i = σ.2 11 (L.getD i 0)
theorem mIs.add {σ σ' : MS} {L : List Nat} {l : Nat} (h : mIs σ σ' L) (hL : L.length < 200) : mIs σ (seti (seta σ' 51 L.length (σ.2 11 l)) 52 (nI L.length + 1)) (L ++ [l]) := by
  refine ⟨h.1.a.i, ?_, fun i hi => ?_⟩
  · rw [List.length_append]
    show updB σ'.1 52 (nI L.length + 1) 52 = nI (L.length + 1)
    rw [updB_eq, nI_1]
  · rw [List.length_append] at hi
    have hi : i < L.length + 1 := hi
    show (seta σ' 51 L.length (σ.2 11 l)).2 51 i = _
    rw [seta_eq, getD_app]
    by_cases e : i = L.length
    · subst e
      rw [updB_eq, if_neg (Nat.lt_irrefl _), if_pos rfl]
    · rw [updB_ne e, if_pos (by omega)]
      exact h.2.2 i (by omega)
theorem fold_s {α : Type} (f : Nat → α → α) (a : α) (n : Nat) : fold f a (n + 1) = f n (fold f a n) := rfl
theorem chance_s (ms : Nat → Int32) (N f i : Nat) : spChance ms N f (i + 1) = if 0 ≤ lg_cmp (spApart ms N f i) (spApart ms N f 0) then spChance ms N f i + 1 else spChance ms N f i := by
  unfold spChance
  rw [fold_s]
theorem turn_s (σ : MS) (a : Nat) (q : Int32) (m j : Nat) : spTurn σ a q m (j + 1) = cI (¬ (tAll σ a q (j + 1)).length = 0 ∧ ¬ (tAll σ a q (j + 1)).length = (tAll σ a q m).length ∧ ((spTurn σ a q m j).1 = -1 ∨ 0 < lg_cmp (spApart (tMs σ a q m) (tAll σ a q m).length (tAll σ a q (j + 1)).length 0 * (nI (spTurn σ a q m j).2).toInt64 * (nI (tAll σ a q m).length - nI (spTurn σ a q m j).2).toInt64) (spApart (tMs σ a q m) (tAll σ a q m).length (spTurn σ a q m j).2 0 * (nI (tAll σ a q (j + 1)).length).toInt64 * (nI (tAll σ a q m).length - nI (tAll σ a q (j + 1)).length).toInt64)))
    (nI (a + (j + 1)), (tAll σ a q (j + 1)).length) (spTurn σ a q m j) := rfl
theorem turn_3 {N f : Nat} {ms : Nat → Int32} (hi : adOK ad) (hn1 : σ.1 52 = nI N) (hN : N ≤ 200) (hf : f ≤ 200) (hms : ∀ i, i < N → σ.2 51 i = ms i) (hq : Q (some (.int (spChance ms N f N))) (mm ad σ)) : XJ G (d + 2) (0, 0) MX12_turn (mm ad σ) [(0, .ref (ad 99)), (6, .int (nI f)), (8, .int 0), (9, .int 0)] [] 311 Q := by
  refine x_loc [(0, .ref (ad 99)), (6, .int (nI f)), (8, .int (spChance ms N f 0)), (9, .int (nI 0))] ⟨rfl, rfl, rfl, rfl, trivial⟩ ?_
  refine loop_up (P := fun i => XJ G (d + 2) (0, 0) MX12_turn (mm ad σ) [(0, .ref (ad 99)), (6, .int (nI f)), (8, .int (spChance ms N f i)), (9, .int (nI i))] [] 311 Q) (n := N) ?_ ?_ 0 (Nat.zero_le _)
  · refine x_iload dX12_turn_311 rfl ?_
    refine x_aload_n dX12_turn_313 rfl rfl ?_
    refine xm_geti dX12_turn_314 lf_X12_353 vmi_52 ?_
    refine x_icmp_ge (tgt := 355) dX12_turn_317 (by decide) (fun _ => ?_) (fun z => absurd (loopT hn1) z)
    refine x_iload dX12_turn_355 rfl ?_
    exact x_ireturn dX12_turn_357 rfl rfl (hq)
  · intro i hlt ih
    have hst := chance_s ms N f i
    refine x_iload dX12_turn_311 rfl ?_
    refine x_aload_n dX12_turn_313 rfl rfl ?_
    refine xm_geti dX12_turn_314 lf_X12_353 vmi_52 ?_
    refine x_icmp_ge (tgt := 355) dX12_turn_317 (by decide) (fun z => absurd z (loopF hn1 hlt (by omega))) (fun _ => ?_)
    refine x_iload dX12_turn_320 rfl ?_
    refine x_aload_n dX12_turn_322 rfl rfl ?_
    refine x_iload dX12_turn_323 rfl ?_
    refine x_iload dX12_turn_325 rfl ?_
    refine x_cV2 dX12_turn_327 lv_X12_359 mm_obj rfl rfl rfl  (c_X12_apart hi hn1 (by omega) (by omega) (by omega) (by omega) hms rfl ?_)
    refine x_aload_n dX12_turn_330 rfl rfl ?_
    refine x_iload dX12_turn_331 rfl ?_
    refine x_iconst (v := 0) dX12_turn_333 (by decide) ?_
    refine x_cV2 dX12_turn_334 lv_X12_359 mm_obj rfl rfl rfl  (c_X12_apart hi hn1 (by omega) (by omega) (by omega) (by decide) hms rfl ?_)
    refine x_lcmp dX12_turn_337 ?_
    refine x_if_lt (tgt := 345) dX12_turn_338 (by decide) (fun h338 => ?_) (fun h338 => ?_)
    · refine x_iconst (v := 0) dX12_turn_345 (by decide) ?_
      refine x_iadd dX12_turn_346 ?_
      refine x_istore dX12_turn_347 (by decide) ?_
      refine x_iinc (c := 1) dX12_turn_349 rfl (by decide) ?_
      refine x_goto (tgt := 311) dX12_turn_352 (by decide) ?_
      refine x_loc _ (?_ : lle _ _) ih
      refine ⟨rfl, rfl, ?_, ?_, trivial⟩
      · skip
        rw [hst]
        first
        | (rw [if_pos (Int32.not_lt.mp h338)]; rfl)
        | (rw [if_neg (Int32.not_le.mpr h338)]; exact congrArg some (congrArg Value.int (Int32.add_zero _)))
      · show some (Value.int _) = some (Value.int (nI (i + 1)))
        rw [← nI_1]
    · refine x_iconst (v := 1) dX12_turn_341 (by decide) ?_
      refine x_goto (tgt := 346) dX12_turn_342 (by decide) ?_
      refine x_iadd dX12_turn_346 ?_
      refine x_istore dX12_turn_347 (by decide) ?_
      refine x_iinc (c := 1) dX12_turn_349 rfl (by decide) ?_
      refine x_goto (tgt := 311) dX12_turn_352 (by decide) ?_
      refine x_loc _ (?_ : lle _ _) ih
      refine ⟨rfl, rfl, ?_, ?_, trivial⟩
      · skip
        rw [hst]
        first
        | (rw [if_pos (Int32.not_lt.mp h338)]; rfl)
        | (rw [if_neg (Int32.not_le.mpr h338)]; exact congrArg some (congrArg Value.int (Int32.add_zero _)))
      · show some (Value.int _) = some (Value.int (nI (i + 1)))
        rw [← nI_1]
theorem c_X12_turn {a b q what : Int32} (hi : adOK ad) (h0 : seti σ 0 0 = σ0) (hc : Cnt σ0) (hq : ∀ σ', tKeep σ0 σ' → Q (some (.int (aTurn σ0 a b q what))) (mm ad σ')) : CT G (d + 2) (0, 0) MX12_turn [.ref (ad 99), .int a, .int b, .int q, .int what] (mm ad σ) Q := by
  obtain ⟨hl1, hl2⟩ := hc.b 16 (b := 200) (by decide)
  have hs : tKeep σ0 σ0 := ⟨fun _ _ => rfl, fun _ _ => rfl⟩
  refine CT.of rfl (Nat.le_of_ble_eq_true rfl) ?_
  refine x_aload_n dX12_turn_0 rfl rfl ?_
  refine x_iconst (v := 0) dX12_turn_1 (by decide) ?_
  refine xm_puti dX12_turn_2 lp_X12_138 vmq_0 vmn_0 vmf_0 ?_
  rw [h0]
  refine x_iload_n dX12_turn_5 rfl rfl ?_
  refine x_cS1 dX12_turn_6 ls_X12_175 rfl  (c_X12_isDay ?_)
  refine x_if_eq_b (tgt := 42) dX12_turn_9 (by decide) (fun h9 => ?_) (fun h9 => ?_)
  · refine x_iconst (v := -1) dX12_turn_42 (by decide) ?_
    exact x_ireturn dX12_turn_43 rfl rfl (fan_f (hq _ hs) (fun z => by first | exact h9 z.1 | exact h16 z.2.1 | exact absurd z.2.2.1 (Int32.not_lt.mpr h21) | exact h29 z.2.2.2.1 | exact h39 z.2.2.2.2))
  · refine x_iload_n dX12_turn_12 rfl rfl ?_
    refine x_cS1 dX12_turn_13 ls_X12_175 rfl  (c_X12_isDay ?_)
    refine x_if_eq_b (tgt := 42) dX12_turn_16 (by decide) (fun h16 => ?_) (fun h16 => ?_)
    · refine x_iconst (v := -1) dX12_turn_42 (by decide) ?_
      exact x_ireturn dX12_turn_43 rfl rfl (fan_f (hq _ hs) (fun z => by first | exact h9 z.1 | exact h16 z.2.1 | exact absurd z.2.2.1 (Int32.not_lt.mpr h21) | exact h29 z.2.2.2.1 | exact h39 z.2.2.2.2))
    · refine x_iload_n dX12_turn_19 rfl rfl ?_
      refine x_iload_n dX12_turn_20 rfl rfl ?_
      refine x_icmp_le (tgt := 42) dX12_turn_21 (by decide) (fun h21 => ?_) (fun h21 => ?_)
      · refine x_iconst (v := -1) dX12_turn_42 (by decide) ?_
        exact x_ireturn dX12_turn_43 rfl rfl (fan_f (hq _ hs) (fun z => by first | exact h9 z.1 | exact h16 z.2.1 | exact absurd z.2.2.1 (Int32.not_lt.mpr h21) | exact h29 z.2.2.2.1 | exact h39 z.2.2.2.2))
      · refine x_aload_n dX12_turn_24 rfl rfl ?_
        refine x_iload_n dX12_turn_25 rfl rfl ?_
        refine x_cV1 dX12_turn_26 lv_X12_159 mm_obj rfl rfl rfl  (c_X12_isKnown ?_)
        refine x_if_eq_b (tgt := 42) dX12_turn_29 (by decide) (fun h29 => ?_) (fun h29 => ?_)
        · refine x_iconst (v := -1) dX12_turn_42 (by decide) ?_
          exact x_ireturn dX12_turn_43 rfl rfl (fan_f (hq _ hs) (fun z => by first | exact h9 z.1 | exact h16 z.2.1 | exact absurd z.2.2.1 (Int32.not_lt.mpr h21) | exact h29 z.2.2.2.1 | exact h39 z.2.2.2.2))
        · refine x_iload dX12_turn_32 rfl ?_
          refine x_iconst (v := 0) dX12_turn_34 (by decide) ?_
          refine x_iconst (v := 1) dX12_turn_35 (by decide) ?_
          refine x_cS3 dX12_turn_36 ls_X12_145 rfl  (c_X12_isIn ?_)
          refine x_if_ne_b (tgt := 44) dX12_turn_39 (by decide) (fun h39 => ?_) (fun h39 => ?_)
          · have hab : a < b := by first | exact h21 | exact Int32.not_le.mp h21
            have hq := fun σ' hk => fan_t (hq σ' hk) ⟨h9, h16, hab, h29, h39⟩
            obtain ⟨A, hA, rfl⟩ := of_le (n := 1000) (c := 1000) h9.1 h9.2 rfl (by omega)
            obtain ⟨B, hB, rfl⟩ := of_le (n := 1000) (c := 1000) h16.1 h16.2 rfl (by omega)
            have hAB : A < B := (nI_ltI (by omega) (by omega)).mp hab
            obtain ⟨m, rfl⟩ : ∃ m, B = A + m := ⟨B - A, by omega⟩
            rw [nI_clamp (by omega), nI_clamp (by omega), Nat.add_sub_cancel_left] at hq
            refine x_aload_n dX12_turn_44 rfl rfl ?_
            refine x_iconst (v := 0) dX12_turn_45 (by decide) ?_
            refine xm_puti dX12_turn_46 lp_X12_353 vmq_52 vmn_52 vmf_52 ?_
            refine x_iload_n dX12_turn_49 rfl rfl ?_
            refine x_istore dX12_turn_50 (by decide) ?_
            refine x_loc [(0, .ref (ad 99)), (1, .int (nI A)), (2, .int (nI (A + m))), (3, .int q), (4, .int what), (5, .int (nI (A + 0)))] ⟨rfl, rfl, rfl, rfl, rfl, rfl, trivial⟩ ?_
            refine loop_up (P := fun j => ∀ σ', mIs σ0 σ' (tAll σ0 A q j) → XJ G (d + 2) (0, 0) MX12_turn (mm ad σ') [(0, .ref (ad 99)), (1, .int (nI A)), (2, .int (nI (A + m))), (3, .int q), (4, .int what), (5, .int (nI (A + j)))] [] 52 Q) (n := m + 1) ?_ ?_ 0 (Nat.zero_le _) _ ⟨hs.i, (updB_eq (f := σ0.1) (k := 52) (v := 0)), fun i h => absurd h (Nat.not_lt_zero _)⟩
            · intro σ1 h1
              have hq := hq σ1 h1.1
              refine x_iload dX12_turn_52 rfl ?_
              refine x_iload_n dX12_turn_54 rfl rfl ?_
              refine x_icmp_gt (tgt := 134) dX12_turn_55 (by decide) (fun _ => ?_) (fun z => absurd (nI_lt (by omega) (by omega)) z)
              have hN2 := tAll_le σ0 A q (m := m + 1) (by omega)
              have hN2' : (tAll σ0 A q (m + 1)).length ≤ 200 := by omega
              have hb2 := spTurn_le σ0 A q (m + 1) m (by omega)
              obtain ⟨hk1, hn1, hm1⟩ := h1
              have hms : ∀ i, i < (tAll σ0 A q (m + 1)).length → σ1.2 51 i = tMs σ0 A q (m + 1) i := hm1
              have k9 : σ1.2 9 = σ0.2 9 := hk1.2 9 (by decide)
              have k14 : σ1.2 14 = σ0.2 14 := hk1.2 14 (by decide)
              have k16 : σ1.1 16 = nI (cn σ0 16) := by rw [hk1.1 16 (by decide)]; exact hl1
              unfold aTurnN at hq
              refine x_iconst (v := -1) dX12_turn_134 (by decide) ?_
              refine x_istore dX12_turn_135 (by decide) ?_
              refine x_iconst (v := 0) dX12_turn_137 (by decide) ?_
              refine x_istore dX12_turn_138 (by decide) ?_
              refine x_iconst (v := 0) dX12_turn_140 (by decide) ?_
              refine x_istore dX12_turn_141 (by decide) ?_
              refine x_iload_n dX12_turn_143 rfl rfl ?_
              refine x_iconst (v := 1) dX12_turn_144 (by decide) ?_
              refine x_iadd dX12_turn_145 ?_
              refine x_istore dX12_turn_146 (by decide) ?_
              refine x_loc [(0, .ref (ad 99)), (1, .int (nI A)), (2, .int (nI (A + m))), (3, .int q), (4, .int what), (5, .int (spTurn σ0 A q (m + 1) 0).1), (6, .int (nI (spTurn σ0 A q (m + 1) 0).2)), (7, .int (nI (tAll σ0 A q 0).length)), (8, .int (nI (A + (0 + 1))))] ⟨rfl, rfl, rfl, rfl, rfl, rfl, rfl, rfl, congrArg some (congrArg Value.int (nI_1 _)), trivial⟩ ?_
              refine loop_up (P := fun j => XJ G (d + 2) (0, 0) MX12_turn (mm ad σ1) [(0, .ref (ad 99)), (1, .int (nI A)), (2, .int (nI (A + m))), (3, .int q), (4, .int what), (5, .int (spTurn σ0 A q (m + 1) j).1), (6, .int (nI (spTurn σ0 A q (m + 1) j).2)), (7, .int (nI (tAll σ0 A q j).length)), (8, .int (nI (A + (j + 1))))] [] 148 Q) (n := m) ?_ ?_ 0 (Nat.zero_le _)
              · refine x_iload dX12_turn_148 rfl ?_
                refine x_iload_n dX12_turn_150 rfl rfl ?_
                refine x_icmp_gt (tgt := 291) dX12_turn_151 (by decide) (fun _ => ?_) (fun z => absurd (nI_lt (by omega) (by omega)) z)
                refine x_iload dX12_turn_291 rfl ?_
                refine x_iconst (v := -1) dX12_turn_293 (by decide) ?_
                refine x_icmp_eq (tgt := 302) dX12_turn_294 (by decide) (fun h294 => ?_) (fun h294 => ?_)
                · refine x_iload dX12_turn_302 rfl ?_
                  exact x_ireturn dX12_turn_304 rfl rfl (by first | (rw [if_pos (Or.inl h294)] at hq; exact hq) | (rw [if_pos (Or.inr h299)] at hq; exact hq))
                · refine x_iload dX12_turn_297 rfl ?_
                  refine x_if_ne (tgt := 305) dX12_turn_299 (by decide) (fun h299 => ?_) (fun h299 => ?_)
                  · refine x_iconst (v := 0) dX12_turn_305 (by decide) ?_
                    refine x_istore dX12_turn_306 (by decide) ?_
                    refine x_iconst (v := 0) dX12_turn_308 (by decide) ?_
                    refine x_istore dX12_turn_309 (by decide) ?_
                    rw [if_neg (fun z => z.elim h294 h299)] at hq
                    refine x_loc [(0, .ref (ad 99)), (6, .int (nI (spTurn σ0 A q (m + 1) m).2)), (8, .int 0), (9, .int 0)] ⟨rfl, rfl, rfl, rfl, trivial⟩ ?_
                    exact turn_3 hi hn1 hN2' (Nat.le_trans hb2 hl2) hms hq
                  · refine x_iload dX12_turn_302 rfl ?_
                    exact x_ireturn dX12_turn_304 rfl rfl (by first | (rw [if_pos (Or.inl h294)] at hq; exact hq) | (rw [if_pos (Or.inr h299)] at hq; exact hq))
              · intro j hltj ihj
                refine x_iload dX12_turn_148 rfl ?_
                refine x_iload_n dX12_turn_150 rfl rfl ?_
                refine x_icmp_gt (tgt := 291) dX12_turn_151 (by decide) (fun z => absurd z (nI_nlt (by omega) (by omega))) (fun _ => ?_)
                refine x_iconst (v := 0) dX12_turn_154 (by decide) ?_
                refine x_istore dX12_turn_155 (by decide) ?_
                refine x_loc [(0, .ref (ad 99)), (1, .int (nI A)), (2, .int (nI (A + m))), (3, .int q), (4, .int what), (5, .int (spTurn σ0 A q (m + 1) j).1), (6, .int (nI (spTurn σ0 A q (m + 1) j).2)), (7, .int (nI ((tAll σ0 A q j).length + (dayL σ0 q (nI (A + j)) 0).length))), (8, .int (nI (A + (j + 1)))), (9, .int (nI 0))] ⟨rfl, rfl, rfl, rfl, rfl, rfl, rfl, rfl, rfl, rfl, trivial⟩ ?_
                refine loop_up (P := fun l => XJ G (d + 2) (0, 0) MX12_turn (mm ad σ1) [(0, .ref (ad 99)), (1, .int (nI A)), (2, .int (nI (A + m))), (3, .int q), (4, .int what), (5, .int (spTurn σ0 A q (m + 1) j).1), (6, .int (nI (spTurn σ0 A q (m + 1) j).2)), (7, .int (nI ((tAll σ0 A q j).length + (dayL σ0 q (nI (A + j)) l).length))), (8, .int (nI (A + (j + 1)))), (9, .int (nI l))] [] 157 Q) (n := cn σ0 16) ?_ ?_ 0 (Nat.zero_le _)
                · refine x_iload dX12_turn_157 rfl ?_
                  refine x_aload_n dX12_turn_159 rfl rfl ?_
                  refine xm_geti dX12_turn_160 lf_X12_152 vmi_16 ?_
                  refine x_icmp_ge (tgt := 207) dX12_turn_163 (by decide) (fun _ => ?_) (fun z => absurd (loopT k16) z)
                  obtain ⟨F, hF, hFl, hFs⟩ : ∃ F, (tAll σ0 A q (j + 1)).length = F ∧ F = (tAll σ0 A q j).length + (dayL σ0 q (nI (A + j)) (cn σ0 16)).length ∧ F ≤ (tAll σ0 A q (m + 1)).length := ⟨_, rfl, by rw [show tAll σ0 A q (j + 1) = tAll σ0 A q j ++ dayL σ0 q (nI (A + j)) (cn σ0 16) from rfl, List.length_append], tAll_mono σ0 A q (by omega)⟩
                  have hB := spTurn_le σ0 A q (m + 1) j (by omega)
                  have hts := turn_s σ0 A q (m + 1) j
                  rw [hF] at hts
                  rw [← hFl]
                  refine x_iload dX12_turn_207 rfl ?_
                  refine x_if_eq (tgt := 285) dX12_turn_209 (by decide) (fun h209 => ?_) (fun h209 => ?_)
                  · refine x_iinc (c := 1) dX12_turn_285 rfl (by decide) ?_
                    refine x_goto (tgt := 148) dX12_turn_288 (by decide) ?_
                    refine x_loc _ (?_ : lle _ _) ihj
                    first
                    | (rw [cI_f (fun z => by first | (exact absurd ((nI_eq (a := F) (b := 0) (by omega) (by decide)).mp h209) z.1) | (exact absurd ((nI_eq (by omega) (by omega)).mp (h218.trans hn1)) z.2.1) | (rw [hn1] at h271; exact z.2.2.elim h227 h271))] at hts
                       rw [hts]
                       exact ⟨rfl, rfl, rfl, rfl, rfl, rfl, rfl, by rw [hF]; rfl, congrArg some (congrArg Value.int (nI_1 _)), trivial⟩)
                    | (rw [cI_t ⟨Nat.pos_iff_ne_zero.mp hF0, hFN, by first | exact Or.inl h227 | (right; rw [hn1] at h271; exact h271)⟩] at hts
                       rw [hts]
                       exact ⟨rfl, rfl, rfl, rfl, rfl, rfl, rfl, by rw [hF]; rfl, congrArg some (congrArg Value.int (nI_1 _)), trivial⟩)
                  · refine x_iload dX12_turn_212 rfl ?_
                    refine x_aload_n dX12_turn_214 rfl rfl ?_
                    refine xm_geti dX12_turn_215 lf_X12_353 vmi_52 ?_
                    refine x_icmp_ne (tgt := 224) dX12_turn_218 (by decide) (fun h218 => ?_) (fun h218 => ?_)
                    · have hF0 : 0 < F := Nat.pos_of_ne_zero (fun z => h209 (by rw [z]; rfl))
                      have hFN : ¬ F = (tAll σ0 A q (m + 1)).length := fun z => h218 (by rw [hn1, z])
                      refine x_iload dX12_turn_224 rfl ?_
                      refine x_iconst (v := -1) dX12_turn_226 (by decide) ?_
                      refine x_icmp_eq (tgt := 277) dX12_turn_227 (by decide) (fun h227 => ?_) (fun h227 => ?_)
                      · refine x_iload dX12_turn_277 rfl ?_
                        refine x_istore dX12_turn_279 (by decide) ?_
                        refine x_iload dX12_turn_281 rfl ?_
                        refine x_istore dX12_turn_283 (by decide) ?_
                        refine x_iinc (c := 1) dX12_turn_285 rfl (by decide) ?_
                        refine x_goto (tgt := 148) dX12_turn_288 (by decide) ?_
                        refine x_loc _ (?_ : lle _ _) ihj
                        first
                        | (rw [cI_f (fun z => by first | (exact absurd ((nI_eq (a := F) (b := 0) (by omega) (by decide)).mp h209) z.1) | (exact absurd ((nI_eq (by omega) (by omega)).mp (h218.trans hn1)) z.2.1) | (rw [hn1] at h271; exact z.2.2.elim h227 h271))] at hts
                           rw [hts]
                           exact ⟨rfl, rfl, rfl, rfl, rfl, rfl, rfl, by rw [hF]; rfl, congrArg some (congrArg Value.int (nI_1 _)), trivial⟩)
                        | (rw [cI_t ⟨Nat.pos_iff_ne_zero.mp hF0, hFN, by first | exact Or.inl h227 | (right; rw [hn1] at h271; exact h271)⟩] at hts
                           rw [hts]
                           exact ⟨rfl, rfl, rfl, rfl, rfl, rfl, rfl, by rw [hF]; rfl, congrArg some (congrArg Value.int (nI_1 _)), trivial⟩)
                      · refine x_aload_n dX12_turn_230 rfl rfl ?_
                        refine x_iload dX12_turn_231 rfl ?_
                        refine x_iconst (v := 0) dX12_turn_233 (by decide) ?_
                        refine x_cV2 dX12_turn_234 lv_X12_359 mm_obj rfl rfl rfl  (c_X12_apart (f := F) (b := 0) hi hn1 hN2' (by omega) (by omega) (by decide) hms rfl ?_)
                        refine x_iload dX12_turn_237 rfl ?_
                        refine x_i2l dX12_turn_239 ?_
                        refine x_lmul dX12_turn_240 ?_
                        refine x_aload_n dX12_turn_241 rfl rfl ?_
                        refine xm_geti dX12_turn_242 lf_X12_353 vmi_52 ?_
                        refine x_iload dX12_turn_245 rfl ?_
                        refine x_isub dX12_turn_247 ?_
                        refine x_i2l dX12_turn_248 ?_
                        refine x_lmul dX12_turn_249 ?_
                        refine x_aload_n dX12_turn_250 rfl rfl ?_
                        refine x_iload dX12_turn_251 rfl ?_
                        refine x_iconst (v := 0) dX12_turn_253 (by decide) ?_
                        refine x_cV2 dX12_turn_254 lv_X12_359 mm_obj rfl rfl rfl  (c_X12_apart (f := (spTurn σ0 A q (m + 1) j).2) (b := 0) hi hn1 hN2' (by omega) (by omega) (by decide) hms rfl ?_)
                        refine x_iload dX12_turn_257 rfl ?_
                        refine x_i2l dX12_turn_259 ?_
                        refine x_lmul dX12_turn_260 ?_
                        refine x_aload_n dX12_turn_261 rfl rfl ?_
                        refine xm_geti dX12_turn_262 lf_X12_353 vmi_52 ?_
                        refine x_iload dX12_turn_265 rfl ?_
                        refine x_isub dX12_turn_267 ?_
                        refine x_i2l dX12_turn_268 ?_
                        refine x_lmul dX12_turn_269 ?_
                        refine x_lcmp dX12_turn_270 ?_
                        refine x_if_gt (tgt := 277) dX12_turn_271 (by decide) (fun h271 => ?_) (fun h271 => ?_)
                        · refine x_iload dX12_turn_277 rfl ?_
                          refine x_istore dX12_turn_279 (by decide) ?_
                          refine x_iload dX12_turn_281 rfl ?_
                          refine x_istore dX12_turn_283 (by decide) ?_
                          refine x_iinc (c := 1) dX12_turn_285 rfl (by decide) ?_
                          refine x_goto (tgt := 148) dX12_turn_288 (by decide) ?_
                          refine x_loc _ (?_ : lle _ _) ihj
                          first
                          | (rw [cI_f (fun z => by first | (exact absurd ((nI_eq (a := F) (b := 0) (by omega) (by decide)).mp h209) z.1) | (exact absurd ((nI_eq (by omega) (by omega)).mp (h218.trans hn1)) z.2.1) | (rw [hn1] at h271; exact z.2.2.elim h227 h271))] at hts
                             rw [hts]
                             exact ⟨rfl, rfl, rfl, rfl, rfl, rfl, rfl, by rw [hF]; rfl, congrArg some (congrArg Value.int (nI_1 _)), trivial⟩)
                          | (rw [cI_t ⟨Nat.pos_iff_ne_zero.mp hF0, hFN, by first | exact Or.inl h227 | (right; rw [hn1] at h271; exact h271)⟩] at hts
                             rw [hts]
                             exact ⟨rfl, rfl, rfl, rfl, rfl, rfl, rfl, by rw [hF]; rfl, congrArg some (congrArg Value.int (nI_1 _)), trivial⟩)
                        · refine x_goto (tgt := 285) dX12_turn_274 (by decide) ?_
                          refine x_iinc (c := 1) dX12_turn_285 rfl (by decide) ?_
                          refine x_goto (tgt := 148) dX12_turn_288 (by decide) ?_
                          refine x_loc _ (?_ : lle _ _) ihj
                          first
                          | (rw [cI_f (fun z => by first | (exact absurd ((nI_eq (a := F) (b := 0) (by omega) (by decide)).mp h209) z.1) | (exact absurd ((nI_eq (by omega) (by omega)).mp (h218.trans hn1)) z.2.1) | (rw [hn1] at h271; exact z.2.2.elim h227 h271))] at hts
                             rw [hts]
                             exact ⟨rfl, rfl, rfl, rfl, rfl, rfl, rfl, by rw [hF]; rfl, congrArg some (congrArg Value.int (nI_1 _)), trivial⟩)
                          | (rw [cI_t ⟨Nat.pos_iff_ne_zero.mp hF0, hFN, by first | exact Or.inl h227 | (right; rw [hn1] at h271; exact h271)⟩] at hts
                             rw [hts]
                             exact ⟨rfl, rfl, rfl, rfl, rfl, rfl, rfl, by rw [hF]; rfl, congrArg some (congrArg Value.int (nI_1 _)), trivial⟩)
                    · refine x_goto (tgt := 285) dX12_turn_221 (by decide) ?_
                      refine x_iinc (c := 1) dX12_turn_285 rfl (by decide) ?_
                      refine x_goto (tgt := 148) dX12_turn_288 (by decide) ?_
                      refine x_loc _ (?_ : lle _ _) ihj
                      first
                      | (rw [cI_f (fun z => by first | (exact absurd ((nI_eq (a := F) (b := 0) (by omega) (by decide)).mp h209) z.1) | (exact absurd ((nI_eq (by omega) (by omega)).mp (h218.trans hn1)) z.2.1) | (rw [hn1] at h271; exact z.2.2.elim h227 h271))] at hts
                         rw [hts]
                         exact ⟨rfl, rfl, rfl, rfl, rfl, rfl, rfl, by rw [hF]; rfl, congrArg some (congrArg Value.int (nI_1 _)), trivial⟩)
                      | (rw [cI_t ⟨Nat.pos_iff_ne_zero.mp hF0, hFN, by first | exact Or.inl h227 | (right; rw [hn1] at h271; exact h271)⟩] at hts
                         rw [hts]
                         exact ⟨rfl, rfl, rfl, rfl, rfl, rfl, rfl, by rw [hF]; rfl, congrArg some (congrArg Value.int (nI_1 _)), trivial⟩)
                · intro l hltl ihl
                  have hin : vp_in (nI l) 200 := vp_in_nI (by omega) (by decide)
                  have hcl : (nI l).toNatClampNeg = l := nI_clamp (by omega)
                  have hds := dayL_s σ0 q (nI (A + j)) l
                  have hj1 : nI (A + (j + 1)) - 1 = nI (A + j) := nI_pred (A + j)
                  refine x_iload dX12_turn_157 rfl ?_
                  refine x_aload_n dX12_turn_159 rfl rfl ?_
                  refine xm_geti dX12_turn_160 lf_X12_152 vmi_16 ?_
                  refine x_icmp_ge (tgt := 207) dX12_turn_163 (by decide) (fun z => absurd z (loopF k16 hltl (by omega))) (fun _ => ?_)
                  refine x_iload dX12_turn_166 rfl ?_
                  refine x_aload_n dX12_turn_168 rfl rfl ?_
                  refine xm_geta dX12_turn_169 lf_X12_31 vma_9 ?_
                  refine x_iload dX12_turn_172 rfl ?_
                  refine xm_iald 9 dX12_turn_174 mf_9 hi hin hcl ?_
                  refine x_iload dX12_turn_175 rfl ?_
                  refine x_iconst (v := 1) dX12_turn_177 (by decide) ?_
                  refine x_isub dX12_turn_178 ?_
                  refine x_icmp_ne (tgt := 197) dX12_turn_179 (by decide) (fun h179 => ?_) (fun h179 => ?_)
                  · refine x_iconst (v := 0) dX12_turn_197 (by decide) ?_
                    refine x_iadd dX12_turn_198 ?_
                    refine x_istore dX12_turn_199 (by decide) ?_
                    refine x_iinc (c := 1) dX12_turn_201 rfl (by decide) ?_
                    refine x_goto (tgt := 157) dX12_turn_204 (by decide) ?_
                    refine x_loc _ (?_ : lle _ _) ihl
                    refine ⟨rfl, rfl, rfl, rfl, rfl, rfl, rfl, ?_, rfl, ?_, trivial⟩
                    · skip
                      rw [hds]
                      first
                      | (have hk : kno σ0 q (nI (A + j)) l = true := decide_eq_true ⟨by rw [← k9, ← hj1]; exact h179, by rw [← k14]; exact Int32.not_lt.mp h190⟩
                         rw [if_pos hk, List.length_append]
                         exact congrArg some (congrArg Value.int (nI_1 _)))
                      | (have hk : ¬ kno σ0 q (nI (A + j)) l = true := fun z => by
                           have z := of_decide_eq_true z
                           rw [← k9, ← k14, ← hj1] at z
                           first | exact h179 z.1 | exact Int32.not_le.mpr h190 z.2
                         rw [if_neg hk]
                         exact congrArg some (congrArg Value.int (Int32.add_zero _)))
                    · show some (Value.int _) = some (Value.int (nI (l + 1)))
                      rw [← nI_1]
                  · refine x_aload_n dX12_turn_182 rfl rfl ?_
                    refine xm_geta dX12_turn_183 lf_X12_46 vma_14 ?_
                    refine x_iload dX12_turn_186 rfl ?_
                    refine xm_iald 14 dX12_turn_188 mf_14 hi hin hcl ?_
                    refine x_iload_n dX12_turn_189 rfl rfl ?_
                    refine x_icmp_gt (tgt := 197) dX12_turn_190 (by decide) (fun h190 => ?_) (fun h190 => ?_)
                    · refine x_iconst (v := 0) dX12_turn_197 (by decide) ?_
                      refine x_iadd dX12_turn_198 ?_
                      refine x_istore dX12_turn_199 (by decide) ?_
                      refine x_iinc (c := 1) dX12_turn_201 rfl (by decide) ?_
                      refine x_goto (tgt := 157) dX12_turn_204 (by decide) ?_
                      refine x_loc _ (?_ : lle _ _) ihl
                      refine ⟨rfl, rfl, rfl, rfl, rfl, rfl, rfl, ?_, rfl, ?_, trivial⟩
                      · skip
                        rw [hds]
                        first
                        | (have hk : kno σ0 q (nI (A + j)) l = true := decide_eq_true ⟨by rw [← k9, ← hj1]; exact h179, by rw [← k14]; exact Int32.not_lt.mp h190⟩
                           rw [if_pos hk, List.length_append]
                           exact congrArg some (congrArg Value.int (nI_1 _)))
                        | (have hk : ¬ kno σ0 q (nI (A + j)) l = true := fun z => by
                             have z := of_decide_eq_true z
                             rw [← k9, ← k14, ← hj1] at z
                             first | exact h179 z.1 | exact Int32.not_le.mpr h190 z.2
                           rw [if_neg hk]
                           exact congrArg some (congrArg Value.int (Int32.add_zero _)))
                      · show some (Value.int _) = some (Value.int (nI (l + 1)))
                        rw [← nI_1]
                    · refine x_iconst (v := 1) dX12_turn_193 (by decide) ?_
                      refine x_goto (tgt := 198) dX12_turn_194 (by decide) ?_
                      refine x_iadd dX12_turn_198 ?_
                      refine x_istore dX12_turn_199 (by decide) ?_
                      refine x_iinc (c := 1) dX12_turn_201 rfl (by decide) ?_
                      refine x_goto (tgt := 157) dX12_turn_204 (by decide) ?_
                      refine x_loc _ (?_ : lle _ _) ihl
                      refine ⟨rfl, rfl, rfl, rfl, rfl, rfl, rfl, ?_, rfl, ?_, trivial⟩
                      · skip
                        rw [hds]
                        first
                        | (have hk : kno σ0 q (nI (A + j)) l = true := decide_eq_true ⟨by rw [← k9, ← hj1]; exact h179, by rw [← k14]; exact Int32.not_lt.mp h190⟩
                           rw [if_pos hk, List.length_append]
                           exact congrArg some (congrArg Value.int (nI_1 _)))
                        | (have hk : ¬ kno σ0 q (nI (A + j)) l = true := fun z => by
                             have z := of_decide_eq_true z
                             rw [← k9, ← k14, ← hj1] at z
                             first | exact h179 z.1 | exact Int32.not_le.mpr h190 z.2
                           rw [if_neg hk]
                           exact congrArg some (congrArg Value.int (Int32.add_zero _)))
                      · show some (Value.int _) = some (Value.int (nI (l + 1)))
                        rw [← nI_1]
            · intro j hj ih σ1 h1
              refine x_iload dX12_turn_52 rfl ?_
              refine x_iload_n dX12_turn_54 rfl rfl ?_
              refine x_icmp_gt (tgt := 134) dX12_turn_55 (by decide) (fun z => absurd z (nI_nlt (by omega) (by omega))) (fun _ => ?_)
              refine x_iconst (v := 0) dX12_turn_58 (by decide) ?_
              refine x_istore dX12_turn_59 (by decide) ?_
              refine x_loc [(0, .ref (ad 99)), (1, .int (nI A)), (2, .int (nI (A + m))), (3, .int q), (4, .int what), (5, .int (nI (A + j))), (6, .int (nI 0))] ⟨rfl, rfl, rfl, rfl, rfl, rfl, rfl, trivial⟩ ?_
              refine loop_up (P := fun l => ∀ σ', mIs σ0 σ' (tAll σ0 A q j ++ dayL σ0 q (nI (A + j)) l) → XJ G (d + 2) (0, 0) MX12_turn (mm ad σ') [(0, .ref (ad 99)), (1, .int (nI A)), (2, .int (nI (A + m))), (3, .int q), (4, .int what), (5, .int (nI (A + j))), (6, .int (nI l))] [] 61 Q) (n := cn σ0 16) ?_ ?_ 0 (Nat.zero_le _) _ (by rw [show dayL σ0 q (nI (A + j)) 0 = [] from rfl, List.append_nil]; exact h1)
              · intro σ2 h2
                have hcnt : σ2.1 16 = nI (cn σ0 16) := by rw [h2.1.1 16 (by decide)]; exact hl1
                refine x_iload dX12_turn_61 rfl ?_
                refine x_aload_n dX12_turn_63 rfl rfl ?_
                refine xm_geti dX12_turn_64 lf_X12_152 vmi_16 ?_
                refine x_icmp_ge (tgt := 128) dX12_turn_67 (by decide) (fun _ => ?_) (fun z => absurd (by rw [hcnt]; exact Int32.le_refl _) z)
                refine x_iinc (c := 1) dX12_turn_128 rfl (by decide) ?_
                refine x_goto (tgt := 52) dX12_turn_131 (by decide) ?_
                refine x_loc _ (?_ : lle _ _) (ih σ2 h2)
                exact ⟨rfl, rfl, rfl, rfl, rfl, congrArg some (congrArg Value.int (nI_1 _)), trivial⟩
              · intro l hl ihl σ2 h2
                have hcnt : σ2.1 16 = nI (cn σ0 16) := by rw [h2.1.1 16 (by decide)]; exact hl1
                have k9 : σ2.2 9 = σ0.2 9 := h2.1.2 9 (by decide)
                have k14 : σ2.2 14 = σ0.2 14 := h2.1.2 14 (by decide)
                have k11 : σ2.2 11 = σ0.2 11 := h2.1.2 11 (by decide)
                have hin : vp_in (nI l) 200 := vp_in_nI (by omega) (by decide)
                have hcl : (nI l).toNatClampNeg = l := nI_clamp (by omega)
                have hds := dayL_s σ0 q (nI (A + j)) l
                have hlen : kno σ0 q (nI (A + j)) l = true → (tAll σ0 A q j ++ dayL σ0 q (nI (A + j)) l).length < cn σ0 16 := fun z => by
                  rw [if_pos z] at hds
                  have e1 := tAll_le σ0 A q (m := j + 1) (by omega)
                  have e2 := dayL_mono σ0 q (nI (A + j)) (n := l + 1) (n' := cn σ0 16) (by omega)
                  rw [hds, List.length_append] at e2
                  rw [show tAll σ0 A q (j + 1) = tAll σ0 A q j ++ dayL σ0 q (nI (A + j)) (cn σ0 16) from rfl, List.length_append] at e1
                  rw [List.length_append]
                  have e2 : (dayL σ0 q (nI (A + j)) l).length + 1 ≤ _ := e2
                  omega
                refine x_iload dX12_turn_61 rfl ?_
                refine x_aload_n dX12_turn_63 rfl rfl ?_
                refine xm_geti dX12_turn_64 lf_X12_152 vmi_16 ?_
                refine x_icmp_ge (tgt := 128) dX12_turn_67 (by decide) (fun z => absurd z (by rw [hcnt]; exact Int32.not_le.mpr (nI_lt hl (by omega)))) (fun _ => ?_)
                refine x_aload_n dX12_turn_70 rfl rfl ?_
                refine xm_geta dX12_turn_71 lf_X12_31 vma_9 ?_
                refine x_iload dX12_turn_74 rfl ?_
                refine xm_iald 9 dX12_turn_76 mf_9 hi hin hcl ?_
                refine x_iload dX12_turn_77 rfl ?_
                refine x_icmp_ne (tgt := 122) dX12_turn_79 (by decide) (fun h79 => ?_) (fun h79 => ?_)
                · refine x_iinc (c := 1) dX12_turn_122 rfl (by decide) ?_
                  refine x_goto (tgt := 61) dX12_turn_125 (by decide) ?_
                  first
                  | (have hk : kno σ0 q (nI (A + j)) l = true := decide_eq_true ⟨by rw [← k9]; exact h79, by rw [← k14]; exact h90⟩
                     refine x_loc _ (?_ : lle _ _) (ihl _ ?_)
                     · exact ⟨rfl, rfl, rfl, rfl, rfl, rfl, congrArg some (congrArg Value.int (nI_1 _)), trivial⟩
                     · rw [hds, if_pos hk, ← List.append_assoc]
                       have z := h2.add (l := l) (by omega)
                       rw [← k11, ← h2.2.1] at z
                       exact z)
                  | (have hk : ¬ kno σ0 q (nI (A + j)) l = true := fun z => by
                       have z := of_decide_eq_true z
                       rw [← k9, ← k14] at z
                       first | exact h79 z.1 | exact h90 z.2
                     refine x_loc _ (?_ : lle _ _) (ihl _ ?_)
                     · exact ⟨rfl, rfl, rfl, rfl, rfl, rfl, congrArg some (congrArg Value.int (nI_1 _)), trivial⟩
                     · rw [hds, if_neg hk]; exact h2)
                · refine x_aload_n dX12_turn_82 rfl rfl ?_
                  refine xm_geta dX12_turn_83 lf_X12_46 vma_14 ?_
                  refine x_iload dX12_turn_86 rfl ?_
                  refine xm_iald 14 dX12_turn_88 mf_14 hi hin hcl ?_
                  refine x_iload_n dX12_turn_89 rfl rfl ?_
                  refine x_icmp_le (tgt := 96) dX12_turn_90 (by decide) (fun h90 => ?_) (fun h90 => ?_)
                  · have hk : kno σ0 q (nI (A + j)) l = true := decide_eq_true ⟨by rw [← k9]; exact h79, by rw [← k14]; exact h90⟩
                    have hlen := hlen hk
                    have hdx : vp_in (σ2.1 52) 200 := by rw [h2.2.1]; exact vp_in_nI (by omega) (by decide)
                    have hdc : (σ2.1 52).toNatClampNeg = (tAll σ0 A q j ++ dayL σ0 q (nI (A + j)) l).length := by rw [h2.2.1]; exact nI_clamp (by omega)
                    refine x_aload_n dX12_turn_96 rfl rfl ?_
                    refine xm_geta dX12_turn_97 lf_X12_108 vma_51 ?_
                    refine x_aload_n dX12_turn_100 rfl rfl ?_
                    refine xm_geti dX12_turn_101 lf_X12_353 vmi_52 ?_
                    refine x_aload_n dX12_turn_104 rfl rfl ?_
                    refine xm_geta dX12_turn_105 lf_X12_37 vma_11 ?_
                    refine x_iload dX12_turn_108 rfl ?_
                    refine xm_iald 11 dX12_turn_110 mf_11 hi hin hcl ?_
                    refine xm_iast 51 dX12_turn_111 mf_51 hi hdx hdc ?_
                    refine x_aload_n dX12_turn_112 rfl rfl ?_
                    refine x_dup dX12_turn_113 rfl ?_
                    refine xm_geti dX12_turn_114 lf_X12_353 vmi_52 ?_
                    refine x_iconst (v := 1) dX12_turn_117 (by decide) ?_
                    refine x_iadd dX12_turn_118 ?_
                    refine xm_puti dX12_turn_119 lp_X12_353 vmq_52 vmn_52 vmf_52 ?_
                    refine x_iinc (c := 1) dX12_turn_122 rfl (by decide) ?_
                    refine x_goto (tgt := 61) dX12_turn_125 (by decide) ?_
                    first
                    | (have hk : kno σ0 q (nI (A + j)) l = true := decide_eq_true ⟨by rw [← k9]; exact h79, by rw [← k14]; exact h90⟩
                       refine x_loc _ (?_ : lle _ _) (ihl _ ?_)
                       · exact ⟨rfl, rfl, rfl, rfl, rfl, rfl, congrArg some (congrArg Value.int (nI_1 _)), trivial⟩
                       · rw [hds, if_pos hk, ← List.append_assoc]
                         have z := h2.add (l := l) (by omega)
                         rw [← k11, ← h2.2.1] at z
                         exact z)
                    | (have hk : ¬ kno σ0 q (nI (A + j)) l = true := fun z => by
                         have z := of_decide_eq_true z
                         rw [← k9, ← k14] at z
                         first | exact h79 z.1 | exact h90 z.2
                       refine x_loc _ (?_ : lle _ _) (ihl _ ?_)
                       · exact ⟨rfl, rfl, rfl, rfl, rfl, rfl, congrArg some (congrArg Value.int (nI_1 _)), trivial⟩
                       · rw [hds, if_neg hk]; exact h2)
                  · refine x_goto (tgt := 122) dX12_turn_93 (by decide) ?_
                    refine x_iinc (c := 1) dX12_turn_122 rfl (by decide) ?_
                    refine x_goto (tgt := 61) dX12_turn_125 (by decide) ?_
                    first
                    | (have hk : kno σ0 q (nI (A + j)) l = true := decide_eq_true ⟨by rw [← k9]; exact h79, by rw [← k14]; exact h90⟩
                       refine x_loc _ (?_ : lle _ _) (ihl _ ?_)
                       · exact ⟨rfl, rfl, rfl, rfl, rfl, rfl, congrArg some (congrArg Value.int (nI_1 _)), trivial⟩
                       · rw [hds, if_pos hk, ← List.append_assoc]
                         have z := h2.add (l := l) (by omega)
                         rw [← k11, ← h2.2.1] at z
                         exact z)
                    | (have hk : ¬ kno σ0 q (nI (A + j)) l = true := fun z => by
                         have z := of_decide_eq_true z
                         rw [← k9, ← k14] at z
                         first | exact h79 z.1 | exact h90 z.2
                       refine x_loc _ (?_ : lle _ _) (ihl _ ?_)
                       · exact ⟨rfl, rfl, rfl, rfl, rfl, rfl, congrArg some (congrArg Value.int (nI_1 _)), trivial⟩
                       · rw [hds, if_neg hk]; exact h2)
          · refine x_iconst (v := -1) dX12_turn_42 (by decide) ?_
            exact x_ireturn dX12_turn_43 rfl rfl (fan_f (hq _ hs) (fun z => by first | exact h9 z.1 | exact h16 z.2.1 | exact absurd z.2.2.1 (Int32.not_lt.mpr h21) | exact h29 z.2.2.2.1 | exact h39 z.2.2.2.2))
end MDJ
