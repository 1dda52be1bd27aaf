/-! the class, 32: units, parts, conditions -/
def uD (x : PR) (D : Nat) : PR := pBind x (fun q cs => .ok (q, cs ++ List.replicate D (-33)))
theorem uD_0 (x : PR) : uD x 0 = x := by
  unfold uD pBind
  rcases x with e | ⟨q, cs⟩
  · rfl
  · show Except.ok (q, cs ++ []) = _
    rw [List.append_nil]
theorem uD_s (x : PR) (D : Nat) : uD (pBind x (fun q cs => .ok (q, cs ++ [-33]))) D = uD x (D + 1) := by
  unfold uD pBind
  rcases x with e | ⟨q, cs⟩
  · rfl
  · show Except.ok (q, (cs ++ [-33]) ++ List.replicate D (-33)) = Except.ok (q, cs ++ List.replicate (D + 1) (-33))
    rw [List.append_assoc]; rfl
section UNT
variable {G : Gam} {d : Nat} {τ : Nat → Nat} {κ : MS} {Md : Mem} {M : Mem} {Q : Option Value → Mem → Prop} {b : Nat → Int32} {n p m : Nat} {f : Nat → Int32}
theorem psum_er (hT : TpB κ b n) (h : lk b n p = 33 ∨ lk b n p = 40) (k : Nat) : pSum b n k p = .error (sk b n p) := by
  have hne : ¬ lk b n p = -1 := by rcases h with h | h <;> rw [h] <;> decide
  have hlt := lk_lt hne
  have hsg := (hT.2.2 _ hlt).2
  have hlk : b (sk b n p) &&& 255 = lk b n p := by unfold lk; rw [if_pos hlt]
  have hA : ∀ S, pAtom b n S p = .error (sk b n p) := by
    intro S
    unfold pAtom
    rw [if_neg (by rcases h with h | h <;> rw [h] <;> decide), if_neg (fun z => by have z2 := see_eq.mp z; rw [z2] at h; revert h; decide), if_neg (fun z => by
      have z2 := (sgn_dg hsg).mpr z.2
      rw [hlk] at z2
      rcases h with h | h <;> rw [h] at z2 <;> exact absurd z2.1 (by decide))]
  cases k with
  | zero =>
    show pBind (pBind (pAtom b n none p) _) _ = _
    rw [hA]; rfl
  | succ k =>
    show pBind (pBind (pAtom b n (some (pSum b n k)) p) _) _ = _
    rw [hA]; rfl
theorem unit_end {e0 w : Int32} {aI : Int32} (hi : adOK τ) (hw : v01 w) {j : Nat} (hj : j ≤ 6) : ∀ (D : Nat) (c1 : List Int32) (f : Nat → Int32), D ≤ j → c1.length + D ≤ 160 → Cds f c1 → (∀ f', Cds f' (c1 ++ List.replicate D (-33)) → Q (some (.int w)) (cm τ (rS κ aI (nI (c1 ++ List.replicate D (-33)).length) f') Md)) → XJ G (d + 1) (0, 0) MX9_readUnit (cm τ (rS κ aI (nI c1.length) f) Md) [(0, .ref (τ 8)), (1, .int e0), (2, .int (nI j)), (3, .int w), (4, .int (nI (j - D)))] [] 91 Q := by
  intro D
  induction D with
  | zero =>
    intro c1 f hD hl hc hq
    have h := hq f (by rw [show List.replicate 0 (-33 : Int32) = [] from rfl, List.append_nil]; exact hc)
    rw [show List.replicate 0 (-33 : Int32) = [] from rfl, List.append_nil] at h
    refine x_iload dX9_readUnit_91 rfl ?_
    refine x_iload_n dX9_readUnit_93 rfl rfl ?_
    refine x_icmp_ge (tgt := 109) dX9_readUnit_94 (by decide) (fun _ => ?_) (fun z => absurd (Int32.le_refl _) z)
    refine x_iload_n dX9_readUnit_109 rfl rfl ?_
    exact x_ireturn dX9_readUnit_110 rfl (v01_nar hw) (h)
  | succ D ih =>
    intro c1 f hD hl hc hq
    have e : c1 ++ List.replicate (D + 1) (-33 : Int32) = (c1 ++ [-33]) ++ List.replicate D (-33) := by rw [List.append_assoc]; rfl
    have hih := ih (c1 ++ [-33]) _ (by omega) (by rw [len1]; omega) (Cds_add hc) (fun f' h => by
      have h2 := hq f' (by rw [e]; exact h)
      rw [e] at h2
      exact h2)
    rw [len1] at hih
    refine x_iload dX9_readUnit_91 rfl ?_
    refine x_iload_n dX9_readUnit_93 rfl rfl ?_
    refine x_icmp_ge (tgt := 109) dX9_readUnit_94 (by decide) (fun z => absurd z (nI_ge (by omega) (by omega))) (fun _ => ?_)
    refine x_aload_n dX9_readUnit_97 rfl rfl ?_
    refine x_bipush (v := -33) dX9_readUnit_98 (by decide) ?_
    refine x_cV1 dX9_readUnit_100 lv_X9_56 (kc hi kf_8) rfl rfl rfl  (c_addOK hi (by omega) ?_)
    refine x_iinc (c := 1) dX9_readUnit_103 rfl (by decide) ?_
    refine x_goto (tgt := 91) dX9_readUnit_106 (by decide) ?_
    refine x_loc _ (?_ : lle _ _) hih
    refine ⟨rfl, rfl, rfl, rfl, ?_, trivial⟩
    show some (Value.int (nI (j - (D + 1)) + 1)) = some (Value.int (nI (j - D)))
    rw [nI_1, show j - (D + 1) + 1 = j - D by omega]
theorem unit_ende {e0 w : Int32} {aI : Int32} (hi : adOK τ) (hw : v01 w) {j : Nat} (hj : j ≤ 6) : ∀ (D m : Nat) (f : Nat → Int32), D ≤ j → m ≤ 160 → (∀ m' f', m' ≤ 160 → Q (some (.int w)) (cm τ (rS κ aI (nI m') f') Md)) → XJ G (d + 1) (0, 0) MX9_readUnit (cm τ (rS κ aI (nI m) f) Md) [(0, .ref (τ 8)), (1, .int e0), (2, .int (nI j)), (3, .int w), (4, .int (nI (j - D)))] [] 91 Q := by
  intro D
  induction D with
  | zero =>
    intro m f hD hm hq
    refine x_iload dX9_readUnit_91 rfl ?_
    refine x_iload_n dX9_readUnit_93 rfl rfl ?_
    refine x_icmp_ge (tgt := 109) dX9_readUnit_94 (by decide) (fun _ => ?_) (fun z => absurd (Int32.le_refl _) z)
    refine x_iload_n dX9_readUnit_109 rfl rfl ?_
    exact x_ireturn dX9_readUnit_110 rfl (v01_nar hw) (hq m f hm)
  | succ D ih =>
    intro m f hD hm hq
    refine x_iload dX9_readUnit_91 rfl ?_
    refine x_iload_n dX9_readUnit_93 rfl rfl ?_
    refine x_icmp_ge (tgt := 109) dX9_readUnit_94 (by decide) (fun z => absurd z (nI_ge (by omega) (by omega))) (fun _ => ?_)
    refine x_aload_n dX9_readUnit_97 rfl rfl ?_
    refine x_bipush (v := -33) dX9_readUnit_98 (by decide) ?_
    refine x_cV1 dX9_readUnit_100 lv_X9_56 (kc hi kf_8) rfl rfl rfl  (c_addAny hi hm (fun m2 f2 hm2 => ?_))
    refine x_iinc (c := 1) dX9_readUnit_103 rfl (by decide) ?_
    have hih := ih m2 f2 (by omega) hm2 hq
    refine x_goto (tgt := 91) dX9_readUnit_106 (by decide) ?_
    refine x_loc _ (?_ : lle _ _) hih
    refine ⟨rfl, rfl, rfl, rfl, ?_, trivial⟩
    show some (Value.int (nI (j - (D + 1)) + 1)) = some (Value.int (nI (j - D)))
    rw [nI_1, show j - (D + 1) + 1 = j - D by omega]
/-- behind what a unit holds -/
theorem unit_88 {j D q1 q' : Nat} {c0 ds : List Int32} {f' : Nat → Int32} (hi : adOK τ) (hj : j ≤ 6) (hD : D ≤ j) (hl : c0.length + ds.length + D ≤ 160) (g1 : q' ≤ n) (g2 : sk b n q' = sk b n q1) (g3 : Cds f' (c0 ++ ds)) (hq : RQ9 τ κ Md b n c0 (uD (.ok (q1, ds)) D) Q) : XJ G (d + 1) (0, 0) MX9_readUnit (cm τ (rS κ (nI q') (nI (c0 ++ ds).length) f') Md) [(0, .ref (τ 8)), (1, .int (nI (j - D))), (2, .int (nI j)), (3, .int 1)] [] 88 Q := by
  have hue := unit_end (G := G) (d := d) (Q := Q) (κ := κ) (Md := Md) (e0 := nI (j - D)) (aI := nI q') hi v1 hj D (c0 ++ ds) f' hD (by rw [List.length_append]; omega) g3 (fun f2 h2 => by
    have h := hq.1 q1 _ rfl q' f2 g1 g2 (by rw [← List.append_assoc]; exact h2)
    rw [← List.append_assoc] at h
    exact h)
  refine x_iload_n dX9_readUnit_88 rfl rfl ?_
  refine x_istore dX9_readUnit_89 (by decide) ?_
  refine x_loc _ (?_ : lle _ _) hue
  exact ⟨rfl, rfl, rfl, rfl, rfl, trivial⟩
theorem unit_88e {j D x' m : Nat} {w : Int32} {c0 : List Int32} {f' : Nat → Int32} (hi : adOK τ) (hj : j ≤ 6) (hD : D ≤ j) (hm : m ≤ 160) (hw : w = 0 ∨ w = 1 ∧ isDg b n x') (hq : RQ9 τ κ Md b n c0 (.error x') Q) : XJ G (d + 1) (0, 0) MX9_readUnit (cm τ (rS κ (nI x') (nI m) f') Md) [(0, .ref (τ 8)), (1, .int (nI (j - D))), (2, .int (nI j)), (3, .int w)] [] 88 Q := by
  have hue := unit_ende (G := G) (d := d) (Q := Q) (κ := κ) (Md := Md) (e0 := nI (j - D)) (aI := nI x') hi (hw.elim Or.inl (fun z => Or.inr z.1)) hj D m f' hD hm (fun m2 f2 h2 => hq.2 x' rfl w m2 f2 h2 hw)
  refine x_iload_n dX9_readUnit_88 rfl rfl ?_
  refine x_istore dX9_readUnit_89 (by decide) ?_
  refine x_loc _ (?_ : lle _ _) hue
  exact ⟨rfl, rfl, rfl, rfl, rfl, trivial⟩
theorem c_cmp_er {x : Nat} {e mI : Int32} (hi : adOK τ) (hl : TLit G) (hT : TpB κ b n) (hd : isDg b n x) (hq : Q (some (.int 0)) (cm τ (rS κ (nI x) mI f) Md)) : CT G (d + 5) (0, 0) MX9_readComparison [.ref (τ 8), .int e] (cm τ (rS κ (nI x) mI f) Md) Q := by
  obtain ⟨hz, -, -, -, -, -, ⟨tx, sa, hlR, hlS⟩, -⟩ := hl
  refine CT.of rfl (Nat.le_of_ble_eq_true rfl) ?_
  refine x_aload_n dX9_readComparison_0 rfl rfl ?_
  refine x_ldcS dX9_readComparison_1 hlR ?_
  refine x_cV1 dX9_readComparison_3 lv_X9_49 (kc hi kf_8) rfl rfl rfl  (c_sees0 hi hz hT hlS Sg_61 (Nat.le_of_lt hd.1) (dg_no hT hd (by decide)) ?_)
  refine x_if_ne (tgt := 11) dX9_readComparison_6 (by decide) (fun z => absurd rfl z) (fun _ => ?_)
  refine x_iconst (v := 0) dX9_readComparison_9 (by decide) ?_
  rw [(dg_sk hT hd).1]
  exact x_ireturn dX9_readComparison_10 rfl rfl (hq)
theorem unit_66 {k D : Nat} {c0 : List Int32} (hi : adOK τ) (hl : TLit G) (hT : TpB κ b n) (hk : k ≤ 6) (hD : D ≤ 6 - k) (hp : p ≤ n) (hcp : c0.length + D ≤ p) (hc : Cds f c0) (hq : RQ9 τ κ Md b n c0 (uD (pBind (pSum b n k p) (pRel b n (pSum b n k))) D) Q) : XJ G (d + 28) (0, 0) MX9_readUnit (cm τ (rS κ (nI p) (nI c0.length) f) Md) [(0, .ref (τ 8)), (1, .int (nI (6 - k - D))), (2, .int (nI (6 - k)))] [] 66 Q := by
  have hn := hT.2.1
  have hgS := Gd_sum (b := b) (n := n) L0_bd k hp
  refine x_aload_n dX9_readUnit_66 rfl rfl ?_
  refine x_iload_n dX9_readUnit_67 rfl rfl ?_
  refine x_cV1 dX9_readUnit_68 lv_X9_68 (kc hi kf_8) rfl rfl rfl  (c_X9_readSum (d := d + 1) hi hl hT hk rfl hp (by omega) hc ?_)
  refine ⟨fun q cs hok q' f' g1 g2 g3 => ?_, fun x' herr w m' f' g1 g2 => ?_⟩
  · rw [hok] at hgS hq
    rw [pBind_ok] at hq
    have hgR := Gd_rel (b := b) (S := pSum b n k) (fun p hp => Gd_sum L0_bd k hp) hgS
    refine x_if_eq (tgt := 86) dX9_readUnit_71 (by decide) (fun z => absurd z (by decide)) (fun _ => ?_)
    refine x_aload_n dX9_readUnit_74 rfl rfl ?_
    refine x_iload_n dX9_readUnit_75 rfl rfl ?_
    refine x_cV1 dX9_readUnit_76 lv_X9_73 (kc hi kf_8) rfl rfl rfl  (c_X9_readComparison (d := d) (p0 := p) (q := q) (cs := cs) hi hl hT hk rfl g1 g2 (Pg_of hgS) (by omega) g3 ?_)
    refine ⟨fun q1 ds hok2 q2 f2 k1 k2 k3 => ?_, fun x' herr w m' f2 k1 k2 => ?_⟩
    · rw [hok2] at hgR hq
      obtain ⟨r1, r2, r3⟩ := (Pg_of hgR).1 q1 ds rfl
      refine x_if_eq (tgt := 86) dX9_readUnit_79 (by decide) (fun z => absurd z (by decide)) (fun _ => ?_)
      refine x_iconst (v := 1) dX9_readUnit_82 (by decide) ?_
      refine x_goto (tgt := 87) dX9_readUnit_83 (by decide) ?_
      refine x_istore_n dX9_readUnit_87 rfl (by decide) ?_
      refine x_loc _ (?_ : lle _ _) (unit_88 (d := d + 27) hi (by omega) hD (by omega) k1 k2 k3 hq)
      exact ⟨rfl, rfl, rfl, rfl, trivial⟩
    · rw [herr] at hq
      have hh := unit_88e (G := G) (d := d + 27) (f' := f2) hi (by omega) hD k1 k2 hq
      rcases k2 with k2 | ⟨k2, k3⟩
      · subst k2
        refine x_if_eq (tgt := 86) dX9_readUnit_79 (by decide) (fun _ => ?_) (fun z => absurd rfl z)
        refine x_iconst (v := 0) dX9_readUnit_86 (by decide) ?_
        refine x_istore_n dX9_readUnit_87 rfl (by decide) ?_
        refine x_loc _ (?_ : lle _ _) hh
        exact ⟨rfl, rfl, rfl, rfl, trivial⟩
      · subst k2
        refine x_if_eq (tgt := 86) dX9_readUnit_79 (by decide) (fun z => absurd z (by decide)) (fun _ => ?_)
        refine x_iconst (v := 1) dX9_readUnit_82 (by decide) ?_
        refine x_goto (tgt := 87) dX9_readUnit_83 (by decide) ?_
        refine x_istore_n dX9_readUnit_87 rfl (by decide) ?_
        refine x_loc _ (?_ : lle _ _) hh
        exact ⟨rfl, rfl, rfl, rfl, trivial⟩
  · rw [herr] at hq
    have hh := unit_88e (G := G) (d := d + 27) (w := 0) (κ := κ) (Md := Md) (x' := x') (Q := Q) (c0 := c0) (b := b) (n := n) (f' := f') hi (show 6 - k ≤ 6 by omega) hD g1 (Or.inl rfl) hq
    rcases g2 with g2 | ⟨g2, g3⟩
    · subst g2
      refine x_if_eq (tgt := 86) dX9_readUnit_71 (by decide) (fun _ => ?_) (fun z => absurd rfl z)
      refine x_iconst (v := 0) dX9_readUnit_86 (by decide) ?_
      refine x_istore_n dX9_readUnit_87 rfl (by decide) ?_
      refine x_loc _ (?_ : lle _ _) hh
      exact ⟨rfl, rfl, rfl, rfl, trivial⟩
    · subst g2
      refine x_if_eq (tgt := 86) dX9_readUnit_71 (by decide) (fun z => absurd z (by decide)) (fun _ => ?_)
      refine x_aload_n dX9_readUnit_74 rfl rfl ?_
      refine x_iload_n dX9_readUnit_75 rfl rfl ?_
      refine x_cV1 dX9_readUnit_76 lv_X9_73 (kc hi kf_8) rfl rfl rfl  (c_cmp_er (d := d + 22) hi hl hT g3 ?_)
      refine x_if_eq (tgt := 86) dX9_readUnit_79 (by decide) (fun _ => ?_) (fun z => absurd rfl z)
      refine x_iconst (v := 0) dX9_readUnit_86 (by decide) ?_
      refine x_istore_n dX9_readUnit_87 rfl (by decide) ?_
      refine x_loc _ (?_ : lle _ _) hh
      exact ⟨rfl, rfl, rfl, rfl, trivial⟩
theorem pUC_no {k : Nat} (h1 : ¬ lk b n p = 33) (h2 : ¬ lk b n p = 40) : (pUC b n k).1 p = pBind (pSum b n k p) (pRel b n (pSum b n k)) := by
  cases k with
  | zero =>
    rw [show (pUC b n 0).1 p = pUnit1 b n none (pSum b n 0) p from rfl]
    unfold pUnit1
    rw [if_neg (fun z => h1 (see_eq.mp z)), if_neg (fun z => h2 (see_eq.mp z))]
  | succ k =>
    rw [show (pUC b n (k + 1)).1 p = pUnit1 b n (some (pUC b n k)) (pSum b n (k + 1)) p from rfl]
    unfold pUnit1
    rw [if_neg (fun z => h1 (see_eq.mp z)), if_neg (fun z => h2 (see_eq.mp z))]
theorem pUC_no0 (hT : TpB κ b n) : (pUC b n 0).1 p = pBind (pSum b n 0 p) (pRel b n (pSum b n 0)) := by
  by_cases h : lk b n p = 33 ∨ lk b n p = 40
  · rw [psum_er hT h, pBind_er, show (pUC b n 0).1 p = pUnit1 b n none (pSum b n 0) p from rfl]
    unfold pUnit1
    rcases h with h | h
    · rw [if_pos (see_eq.mpr h)]
    · rw [if_neg (fun z => by rw [see_eq.mp z] at h; exact absurd h (by decide)), if_pos (see_eq.mpr h)]
  · exact pUC_no (fun z => h (Or.inl z)) (fun z => h (Or.inr z))
theorem pUC_33 {k : Nat} (h : lk b n p = 33) : (pUC b n (k + 1)).1 p = pBind ((pUC b n k).1 (sk b n p + 1)) (fun q cs => .ok (q, cs ++ [-33])) := by
  rw [show (pUC b n (k + 1)).1 p = pUnit1 b n (some (pUC b n k)) (pSum b n (k + 1)) p from rfl]
  unfold pUnit1
  rw [if_pos (see_eq.mpr h)]
theorem pUC_40 {k : Nat} (h : lk b n p = 40) : (pUC b n (k + 1)).1 p = pBind ((pUC b n k).2 (sk b n p + 1)) (fun q cs => pTake b n q 41 cs) := by
  rw [show (pUC b n (k + 1)).1 p = pUnit1 b n (some (pUC b n k)) (pSum b n (k + 1)) p from rfl]
  unfold pUnit1
  rw [if_neg (fun z => by rw [see_eq.mp z] at h; exact absurd h (by decide)), if_pos (see_eq.mpr h)]
/-- a condition one deeper -/
def CondC (G : Gam) (d : Nat) (τ : Nat → Nat) (κ : MS) (Md : Mem) (b : Nat → Int32) (n k : Nat) : Prop := ∀ p' c0 f Q', p' ≤ n → c0.length ≤ p' → Cds f c0 → RQ9 τ κ Md b n c0 ((pUC b n k).2 p') Q' → CT G d (0, 0) MX9_readCondition [.ref (τ 8), .int (nI (6 - k))] (cm τ (rS κ (nI p') (nI c0.length) f) Md) Q'
theorem unit_2 (hi : adOK τ) (hl : TLit G) (hT : TpB κ b n) : ∀ (k D p : Nat) (c0 : List Int32) (f : Nat → Int32), k ≤ 6 → (∀ k', k' < k → CondC G (d + 27) τ κ Md b n k') → D ≤ 6 - k → p ≤ n → c0.length + D ≤ p → Cds f c0 → RQ9 τ κ Md b n c0 (uD ((pUC b n k).1 p) D) Q → XJ G (d + 28) (0, 0) MX9_readUnit (cm τ (rS κ (nI p) (nI c0.length) f) Md) [(0, .ref (τ 8)), (1, .int (nI (6 - k - D))), (2, .int (nI (6 - k)))] [] 2 Q := by
  have hn := hT.2.1
  have hl0 := hl
  obtain ⟨hz, -, -, -, -, -, -, ⟨tx3, sa3, hlR3, hlS3⟩, ⟨tx4, sa4, hlR4, hlS4⟩, ⟨tx5, sa5, hlR5, hlS5⟩, -⟩ := hl
  intro k
  induction k with
  | zero =>
    intro D p c0 f hk hC hD hp hcp hc hq
    rw [pUC_no0 hT] at hq
    refine x_iload_n dX9_readUnit_2 rfl rfl ?_
    refine x_bipush (v := 6) dX9_readUnit_3 (by decide) ?_
    refine x_icmp_ge (tgt := 23) dX9_readUnit_5 (by decide) (fun _ => ?_) (fun z => absurd (Int32.le_refl _) z)
    refine x_iload_n dX9_readUnit_23 rfl rfl ?_
    refine x_bipush (v := 6) dX9_readUnit_24 (by decide) ?_
    refine x_icmp_ge (tgt := 66) dX9_readUnit_26 (by decide) (fun _ => ?_) (fun z => absurd (Int32.le_refl _) z)
    exact unit_66 (d := d) (k := 0) hi hl0 hT hk hD hp hcp hc hq
  | succ k ih =>
    intro D p c0 f hk hC hD hp hcp hc hq
    have hge := sk_ge (b := b) (n := n) (p := p)
    have hskn := sk_le (b := b) hp
    have hlt6 : ¬ (6 : Int32) ≤ nI (6 - (k + 1)) := Int32.not_le.mpr (nI_lt (b := 6) (by omega) (by decide))
    by_cases h33 : lk b n p = 33
    · rw [pUC_33 h33, uD_s] at hq
      have hlt : sk b n p < n := lk_lt (by rw [h33]; decide)
      have hih := ih (D + 1) (sk b n p + 1) c0 f (by omega) (fun k' h => hC k' (by omega)) (by omega) (by omega) (by omega) hc hq
      rw [show 6 - k - (D + 1) = 6 - (k + 1) - D by omega] at hih
      refine x_iload_n dX9_readUnit_2 rfl rfl ?_
      refine x_bipush (v := 6) dX9_readUnit_3 (by decide) ?_
      refine x_icmp_ge (tgt := 23) dX9_readUnit_5 (by decide) (fun z => absurd z hlt6) (fun _ => ?_)
      refine x_aload_n dX9_readUnit_8 rfl rfl ?_
      refine x_ldcS dX9_readUnit_9 hlR3 ?_
      refine x_cV1 dX9_readUnit_11 lv_X9_41 (kc hi kf_8) rfl rfl rfl  (c_take1 (d := d + 22) hi hz hT hlS3 Sg_33 hp (in1.mpr h33) ?_)
      refine x_if_eq (tgt := 23) dX9_readUnit_14 (by decide) (fun z => absurd z (by decide)) (fun _ => ?_)
      refine x_iinc (c := 1) dX9_readUnit_17 rfl (by decide) ?_
      refine x_goto (tgt := 2) dX9_readUnit_20 (by decide) ?_
      refine x_loc _ (?_ : lle _ _) hih
      refine ⟨rfl, rfl, ?_, trivial⟩
      show some (Value.int (nI (6 - (k + 1)) + 1)) = some (Value.int (nI (6 - k)))
      rw [nI_1, show 6 - (k + 1) + 1 = 6 - k by omega]
    · by_cases h40 : lk b n p = 40
      · rw [pUC_40 h40] at hq
        have hlt : sk b n p < n := lk_lt (by rw [h40]; decide)
        have hgC := (Gd_UC (b := b) (n := n) L0_bd k).2 (sk b n p + 1) (by omega)
        refine x_iload_n dX9_readUnit_2 rfl rfl ?_
        refine x_bipush (v := 6) dX9_readUnit_3 (by decide) ?_
        refine x_icmp_ge (tgt := 23) dX9_readUnit_5 (by decide) (fun z => absurd z hlt6) (fun _ => ?_)
        refine x_aload_n dX9_readUnit_8 rfl rfl ?_
        refine x_ldcS dX9_readUnit_9 hlR3 ?_
        refine x_cV1 dX9_readUnit_11 lv_X9_41 (kc hi kf_8) rfl rfl rfl  (c_take0 (d := d + 22) hi hz hT hlS3 Sg_33 hp (fun z => h33 (in1.mp z)) ?_)
        refine x_if_eq (tgt := 23) dX9_readUnit_14 (by decide) (fun _ => ?_) (fun z => absurd rfl z)
        refine x_iload_n dX9_readUnit_23 rfl rfl ?_
        refine x_bipush (v := 6) dX9_readUnit_24 (by decide) ?_
        refine x_icmp_ge (tgt := 66) dX9_readUnit_26 (by decide) (fun z => absurd z hlt6) (fun _ => ?_)
        refine x_aload_n dX9_readUnit_29 rfl rfl ?_
        refine x_ldcS dX9_readUnit_30 hlR4 ?_
        refine x_cV1 dX9_readUnit_32 lv_X9_41 (kc hi kf_8) rfl rfl rfl  (c_take1 (d := d + 22) hi hz hT hlS4 Sg_40 hskn (in1.mpr (by rw [lk_sk hp]; exact h40)) ?_)
        rw [sk_sk hp]
        refine x_if_eq (tgt := 66) dX9_readUnit_35 (by decide) (fun z => absurd z (by decide)) (fun _ => ?_)
        refine x_aload_n dX9_readUnit_38 rfl rfl ?_
        refine x_iload_n dX9_readUnit_39 rfl rfl ?_
        refine x_iconst (v := 1) dX9_readUnit_40 (by decide) ?_
        refine x_iadd dX9_readUnit_41 ?_
        rw [nI_1, show 6 - (k + 1) + 1 = 6 - k by omega]
        refine x_cV1 dX9_readUnit_42 lv_X9_64 (kc hi kf_8) rfl rfl rfl  (hC k (by omega) _ c0 f _ (by omega) (by omega) hc ?_)
        refine ⟨fun q cs hok q' f' g1 g2 g3 => ?_, fun x' herr w m' f' g1 g2 => ?_⟩
        · rw [hok] at hgC hq
          rw [pBind_ok] at hq
          obtain ⟨r1, r2, r3⟩ := (Pg_of hgC).1 q cs rfl
          unfold pTake at hq
          by_cases h41 : lk b n q = 41
          · rw [if_pos (see_eq.mpr h41)] at hq
            have hlt2 : sk b n q < n := lk_lt (by rw [h41]; decide)
            refine x_if_eq (tgt := 61) dX9_readUnit_45 (by decide) (fun z => absurd z (by decide)) (fun _ => ?_)
            refine x_aload_n dX9_readUnit_48 rfl rfl ?_
            refine x_ldcS dX9_readUnit_49 hlR5 ?_
            refine x_cV1 dX9_readUnit_51 lv_X9_41 (kc hi kf_8) rfl rfl rfl  (c_take1 (d := d + 22) hi hz hT hlS5 Sg_41 g1 (in1.mpr (by rw [lk_of g2]; exact h41)) ?_)
            rw [g2]
            refine x_if_eq (tgt := 61) dX9_readUnit_54 (by decide) (fun z => absurd z (by decide)) (fun _ => ?_)
            refine x_iconst (v := 1) dX9_readUnit_57 (by decide) ?_
            refine x_goto (tgt := 62) dX9_readUnit_58 (by decide) ?_
            refine x_istore_n dX9_readUnit_62 rfl (by decide) ?_
            refine x_goto (tgt := 88) dX9_readUnit_63 (by decide) ?_
            refine x_loc _ (?_ : lle _ _) (unit_88 (d := d + 27) (ds := cs) hi (by omega) hD (by omega) (by omega) rfl g3 hq)
            exact ⟨rfl, rfl, rfl, rfl, trivial⟩
          · rw [if_neg (fun z => h41 (see_eq.mp z))] at hq
            have hh := unit_88e (G := G) (d := d + 27) (w := 0) (κ := κ) (Md := Md) (x' := sk b n q) (Q := Q) (c0 := c0) (b := b) (n := n) (f' := f') (m := (c0 ++ cs).length) hi (show 6 - (k + 1) ≤ 6 by omega) hD (by rw [List.length_append]; omega) (Or.inl rfl) hq
            refine x_if_eq (tgt := 61) dX9_readUnit_45 (by decide) (fun z => absurd z (by decide)) (fun _ => ?_)
            refine x_aload_n dX9_readUnit_48 rfl rfl ?_
            refine x_ldcS dX9_readUnit_49 hlR5 ?_
            refine x_cV1 dX9_readUnit_51 lv_X9_41 (kc hi kf_8) rfl rfl rfl  (c_take0 (d := d + 22) hi hz hT hlS5 Sg_41 g1 (fun z => h41 (by rw [← lk_of g2]; exact in1.mp z)) ?_)
            rw [g2]
            refine x_if_eq (tgt := 61) dX9_readUnit_54 (by decide) (fun _ => ?_) (fun z => absurd rfl z)
            refine x_iconst (v := 0) dX9_readUnit_61 (by decide) ?_
            refine x_istore_n dX9_readUnit_62 rfl (by decide) ?_
            refine x_goto (tgt := 88) dX9_readUnit_63 (by decide) ?_
            refine x_loc _ (?_ : lle _ _) hh
            exact ⟨rfl, rfl, rfl, rfl, trivial⟩
        · rw [herr] at hq
          have hh := unit_88e (G := G) (d := d + 27) (w := 0) (κ := κ) (Md := Md) (x' := x') (Q := Q) (c0 := c0) (b := b) (n := n) (f' := f') (m := m') hi (show 6 - (k + 1) ≤ 6 by omega) hD g1 (Or.inl rfl) hq
          rcases g2 with g2 | ⟨g2, g3⟩
          · subst g2
            refine x_if_eq (tgt := 61) dX9_readUnit_45 (by decide) (fun _ => ?_) (fun z => absurd rfl z)
            refine x_iconst (v := 0) dX9_readUnit_61 (by decide) ?_
            refine x_istore_n dX9_readUnit_62 rfl (by decide) ?_
            refine x_goto (tgt := 88) dX9_readUnit_63 (by decide) ?_
            refine x_loc _ (?_ : lle _ _) hh
            exact ⟨rfl, rfl, rfl, rfl, trivial⟩
          · subst g2
            refine x_if_eq (tgt := 61) dX9_readUnit_45 (by decide) (fun z => absurd z (by decide)) (fun _ => ?_)
            refine x_aload_n dX9_readUnit_48 rfl rfl ?_
            refine x_ldcS dX9_readUnit_49 hlR5 ?_
            refine x_cV1 dX9_readUnit_51 lv_X9_41 (kc hi kf_8) rfl rfl rfl  (c_take0 (d := d + 22) hi hz hT hlS5 Sg_41 (Nat.le_of_lt g3.1) (dg_no hT g3 (by decide)) ?_)
            rw [(dg_sk hT g3).1]
            refine x_if_eq (tgt := 61) dX9_readUnit_54 (by decide) (fun _ => ?_) (fun z => absurd rfl z)
            refine x_iconst (v := 0) dX9_readUnit_61 (by decide) ?_
            refine x_istore_n dX9_readUnit_62 rfl (by decide) ?_
            refine x_goto (tgt := 88) dX9_readUnit_63 (by decide) ?_
            refine x_loc _ (?_ : lle _ _) hh
            exact ⟨rfl, rfl, rfl, rfl, trivial⟩
      · rw [pUC_no h33 h40] at hq
        have e : pBind (pSum b n (k + 1) p) (pRel b n (pSum b n (k + 1))) = pBind (pSum b n (k + 1) (sk b n p)) (pRel b n (pSum b n (k + 1))) := by rw [pSum_of (sk_sk hp)]
        rw [e] at hq
        refine x_iload_n dX9_readUnit_2 rfl rfl ?_
        refine x_bipush (v := 6) dX9_readUnit_3 (by decide) ?_
        refine x_icmp_ge (tgt := 23) dX9_readUnit_5 (by decide) (fun z => absurd z hlt6) (fun _ => ?_)
        refine x_aload_n dX9_readUnit_8 rfl rfl ?_
        refine x_ldcS dX9_readUnit_9 hlR3 ?_
        refine x_cV1 dX9_readUnit_11 lv_X9_41 (kc hi kf_8) rfl rfl rfl  (c_take0 (d := d + 22) hi hz hT hlS3 Sg_33 hp (fun z => h33 (in1.mp z)) ?_)
        refine x_if_eq (tgt := 23) dX9_readUnit_14 (by decide) (fun _ => ?_) (fun z => absurd rfl z)
        refine x_iload_n dX9_readUnit_23 rfl rfl ?_
        refine x_bipush (v := 6) dX9_readUnit_24 (by decide) ?_
        refine x_icmp_ge (tgt := 66) dX9_readUnit_26 (by decide) (fun z => absurd z hlt6) (fun _ => ?_)
        refine x_aload_n dX9_readUnit_29 rfl rfl ?_
        refine x_ldcS dX9_readUnit_30 hlR4 ?_
        refine x_cV1 dX9_readUnit_32 lv_X9_41 (kc hi kf_8) rfl rfl rfl  (c_take0 (d := d + 22) hi hz hT hlS4 Sg_40 hskn (fun z => h40 (by rw [← lk_sk hp]; exact in1.mp z)) ?_)
        rw [sk_sk hp]
        refine x_if_eq (tgt := 66) dX9_readUnit_35 (by decide) (fun _ => ?_) (fun z => absurd rfl z)
        exact unit_66 (d := d) hi hl0 hT hk hD hskn (by omega) hc hq
theorem c_unit {k : Nat} {c0 : List Int32} (hi : adOK τ) (hl : TLit G) (hT : TpB κ b n) (hk : k ≤ 6) (hC : ∀ k', k' < k → CondC G (d + 27) τ κ Md b n k') (hp : p ≤ n) (hcp : c0.length ≤ p) (hc : Cds f c0) (hq : RQ9 τ κ Md b n c0 ((pUC b n k).1 p) Q) : CT G (d + 28) (0, 0) MX9_readUnit [.ref (τ 8), .int (nI (6 - k))] (cm τ (rS κ (nI p) (nI c0.length) f) Md) Q := by
  rw [← uD_0 ((pUC b n k).1 p)] at hq
  have h := unit_2 (d := d) hi hl hT k 0 p c0 f hk hC (by omega) hp hcp hc hq
  refine CT.of rfl (Nat.le_of_ble_eq_true rfl) ?_
  refine x_iload_n dX9_readUnit_0 rfl rfl ?_
  refine x_istore_n dX9_readUnit_1 rfl (by decide) ?_
  refine x_loc _ (?_ : lle _ _) h
  exact ⟨rfl, rfl, rfl, trivial⟩
theorem c_readMoreUnits_er {x : Nat} {e : Int32} (hi : adOK τ) (hl : TLit G) (hT : TpB κ b n) (hd : isDg b n x) (hq : Q (some (.int 1)) (cm τ (rS κ (nI x) (nI m) f) Md)) : ∀ i, i ≤ 160 → XJ G (d + 5) (0, 0) MX9_readMoreUnits (cm τ (rS κ (nI x) (nI m) f) Md) [(0, .ref (τ 8)), (1, .int e), (2, .int (nI i))] [] 2 Q := by
  intro i hi2
  obtain ⟨hz, -, -, -, -, -, -, -, -, -, ⟨tx, sa, hlR, hlS⟩, -⟩ := hl
  by_cases hi3 : i < 160
  · refine x_iload_n dX9_readMoreUnits_2 rfl rfl ?_
    refine x_sipush (v := 160) dX9_readMoreUnits_3 (by decide) ?_
    refine x_icmp_ge (tgt := 45) dX9_readMoreUnits_6 (by decide) (fun z => absurd z (nI_ge (b := 160) hi3 (by decide))) (fun _ => ?_)
    refine x_aload_n dX9_readMoreUnits_9 rfl rfl ?_
    refine x_ldcS dX9_readMoreUnits_10 hlR ?_
    refine x_cV1 dX9_readMoreUnits_12 lv_X9_49 (kc hi kf_8) rfl rfl rfl  (c_sees0 hi hz hT hlS Sg_38 (Nat.le_of_lt hd.1) (dg_no hT hd (by decide)) ?_)
    refine x_if_eq (tgt := 45) dX9_readMoreUnits_15 (by decide) (fun _ => ?_) (fun z => absurd rfl z)
    refine x_iconst (v := 1) dX9_readMoreUnits_45 (by decide) ?_
    rw [(dg_sk hT hd).1]
    exact x_ireturn dX9_readMoreUnits_46 rfl rfl (hq)
  · obtain rfl : i = 160 := by omega
    refine x_iload_n dX9_readMoreUnits_2 rfl rfl ?_
    refine x_sipush (v := 160) dX9_readMoreUnits_3 (by decide) ?_
    refine x_icmp_ge (tgt := 45) dX9_readMoreUnits_6 (by decide) (fun _ => ?_) (fun z => absurd (Int32.le_refl _) z)
    refine x_iconst (v := 1) dX9_readMoreUnits_45 (by decide) ?_
    exact x_ireturn dX9_readMoreUnits_46 rfl rfl (hq)
theorem c_readMoreUnits_e0 {x : Nat} {e : Int32} (hi : adOK τ) (hl : TLit G) (hT : TpB κ b n) (hd : isDg b n x) (hq : Q (some (.int 1)) (cm τ (rS κ (nI x) (nI m) f) Md)) : CT G (d + 5) (0, 0) MX9_readMoreUnits [.ref (τ 8), .int e] (cm τ (rS κ (nI x) (nI m) f) Md) Q := by
  have h := c_readMoreUnits_er (d := d) (e := e) hi hl hT hd hq 0 (by omega)
  refine CT.of rfl (Nat.le_of_ble_eq_true rfl) ?_
  refine x_iconst (v := 0) dX9_readMoreUnits_0 (by decide) ?_
  refine x_istore_n dX9_readMoreUnits_1 rfl (by decide) ?_
  refine x_loc _ (?_ : lle _ _) h
  exact ⟨rfl, rfl, rfl, trivial⟩
theorem readMoreUnits_loop {e : Int32} {A : Nat → PR} {c0 : List Int32} (hi : adOK τ) (hl : TLit G) (hT : TpB κ b n) (hg : ∀ p, p ≤ n → Pg n p (A p)) (hA : ∀ p' c0 f Q', p' ≤ n → c0.length ≤ p' → Cds f c0 → RQ9 τ κ Md b n c0 (A p') Q' → CT G (d + 5) (0, 0) MX9_readUnit [.ref (τ 8), .int e] (cm τ (rS κ (nI p') (nI c0.length) f) Md) Q') : ∀ (g q q0 p0 i : Nat) (cs : List Int32) (f : Nat → Int32), q0 ≤ n → sk b n q0 = sk b n q → Pg n p0 (.ok (q, cs)) → c0.length ≤ p0 → i < q → n ≤ q + g → Cds f (c0 ++ cs) → RQ9 τ κ Md b n c0 (pMore b n A 38 38 g q cs) Q → XJ G (d + 6) (0, 0) MX9_readMoreUnits (cm τ (rS κ (nI q0) (nI (c0 ++ cs).length) f) Md) [(0, .ref (τ 8)), (1, .int e), (2, .int (nI i))] [] 2 Q := by
  have hn := hT.2.1
  have hl0 := hl
  obtain ⟨hz, -, -, -, -, -, -, -, -, -, ⟨tx, sa, hlR, hlS⟩, -⟩ := hl
  intro g
  induction g with
  | zero =>
    intro q q0 p0 i cs f hq0 hsk hpg hcp hiq hf hc hq
    obtain ⟨h1, h2, h3⟩ := hpg.1 q cs rfl
    rcases more_or (A := A) (s := 38) (t := 38) (b := b) (cs := cs) (by decide) (by decide) h2 hf with ⟨hn1, hn2, he⟩ | ⟨f', hf', -⟩
    · rw [he] at hq
      refine x_iload_n dX9_readMoreUnits_2 rfl rfl ?_
      refine x_sipush (v := 160) dX9_readMoreUnits_3 (by decide) ?_
      refine x_icmp_ge (tgt := 45) dX9_readMoreUnits_6 (by decide) (fun z => absurd z (nI_ge (b := 160) (by omega) (by decide))) (fun _ => ?_)
      refine x_aload_n dX9_readMoreUnits_9 rfl rfl ?_
      refine x_ldcS dX9_readMoreUnits_10 hlR ?_
      refine x_cV1 dX9_readMoreUnits_12 lv_X9_49 (kc hi kf_8) rfl rfl rfl  (c_sees0 hi hz hT hlS Sg_38 hq0 (fun z => by rw [lk_of hsk] at z; exact hn1 (in1.mp z)) ?_)
      refine x_if_eq (tgt := 45) dX9_readMoreUnits_15 (by decide) (fun _ => ?_) (fun z => absurd rfl z)
      refine x_iconst (v := 1) dX9_readMoreUnits_45 (by decide) ?_
      exact x_ireturn dX9_readMoreUnits_46 rfl rfl (hq.1 q cs rfl _ f (sk_le hq0) (by rw [sk_sk hq0, hsk]) hc)
    · exact absurd hf' (by omega)
  | succ g ih =>
    intro q q0 p0 i cs f hq0 hsk hpg hcp hiq hf hc hq
    obtain ⟨h1, h2, h3⟩ := hpg.1 q cs rfl
    rcases more_or (A := A) (s := 38) (t := 38) (b := b) (cs := cs) (by decide) (by decide) h2 hf with ⟨hn1, hn2, he⟩ | ⟨f', hf', hf2, hst, hlt, he⟩
    · rw [he] at hq
      refine x_iload_n dX9_readMoreUnits_2 rfl rfl ?_
      refine x_sipush (v := 160) dX9_readMoreUnits_3 (by decide) ?_
      refine x_icmp_ge (tgt := 45) dX9_readMoreUnits_6 (by decide) (fun z => absurd z (nI_ge (b := 160) (by omega) (by decide))) (fun _ => ?_)
      refine x_aload_n dX9_readMoreUnits_9 rfl rfl ?_
      refine x_ldcS dX9_readMoreUnits_10 hlR ?_
      refine x_cV1 dX9_readMoreUnits_12 lv_X9_49 (kc hi kf_8) rfl rfl rfl  (c_sees0 hi hz hT hlS Sg_38 hq0 (fun z => by rw [lk_of hsk] at z; exact hn1 (in1.mp z)) ?_)
      refine x_if_eq (tgt := 45) dX9_readMoreUnits_15 (by decide) (fun _ => ?_) (fun z => absurd rfl z)
      refine x_iconst (v := 1) dX9_readMoreUnits_45 (by decide) ?_
      exact x_ireturn dX9_readMoreUnits_46 rfl rfl (hq.1 q cs rfl _ f (sk_le hq0) (by rw [sk_sk hq0, hsk]) hc)
    · obtain rfl : g = f' := by omega
      rw [he] at hq
      have hge := sk_ge (b := b) (n := n) (p := q)
      have hgA := hg (sk b n q + 1) (by omega)
      have hlk : b (sk b n q) &&& 255 = lk b n q := by unfold lk; rw [if_pos hlt]
      have hlen : (c0 ++ cs).length = c0.length + cs.length := List.length_append
      refine x_iload_n dX9_readMoreUnits_2 rfl rfl ?_
      refine x_sipush (v := 160) dX9_readMoreUnits_3 (by decide) ?_
      refine x_icmp_ge (tgt := 45) dX9_readMoreUnits_6 (by decide) (fun z => absurd z (nI_ge (b := 160) (by omega) (by decide))) (fun _ => ?_)
      refine x_aload_n dX9_readMoreUnits_9 rfl rfl ?_
      refine x_ldcS dX9_readMoreUnits_10 hlR ?_
      refine x_cV1 dX9_readMoreUnits_12 lv_X9_49 (kc hi kf_8) rfl rfl rfl  (c_sees1 hi hz hT hlS Sg_38 hq0 (by rw [lk_of hsk]; exact in1.mpr (hst.elim id id)) ?_)
      refine x_if_eq (tgt := 45) dX9_readMoreUnits_15 (by decide) (fun z => absurd z (by decide)) (fun _ => ?_)
      refine x_aload_n dX9_readMoreUnits_18 rfl rfl ?_
      rw [hsk]
      refine x_cV0 dX9_readMoreUnits_19 lv_X9_52 (kc hi kf_8) rfl rfl rfl  (c_X9_takeSign hi hT hlt ?_)
      rw [hlk]
      refine x_istore_n dX9_readMoreUnits_22 rfl (by decide) ?_
      refine x_aload_n dX9_readMoreUnits_23 rfl rfl ?_
      refine x_iload_n dX9_readMoreUnits_24 rfl rfl ?_
      refine x_cV1 dX9_readMoreUnits_25 lv_X9_89 (kc hi kf_8) rfl rfl rfl  (hA _ (c0 ++ cs) f _ (by omega) (by omega) hc ?_)
      refine ⟨fun q1 ds hok q' f' g1 g2 g3 => ?_, fun x' herr w m' f' g1 g2 => ?_⟩
      · rw [hok] at hgA hq
        obtain ⟨k1, k2, k3⟩ := hgA.1 q1 ds rfl
        have hlen2 : (c0 ++ cs ++ ds).length = c0.length + cs.length + ds.length := by rw [List.length_append, hlen]
        refine x_if_ne (tgt := 33) dX9_readMoreUnits_28 (by decide) (fun _ => ?_) (fun z => absurd z (by decide))
        refine x_aload_n dX9_readMoreUnits_33 rfl rfl ?_
        refine x_iload_n dX9_readMoreUnits_34 rfl rfl ?_
        refine x_ineg dX9_readMoreUnits_35 ?_
        refine x_cV1 dX9_readMoreUnits_36 lv_X9_56 (kc hi kf_8) rfl rfl rfl  (c_addOK hi (by omega) ?_)
        have hih := ih q1 q' p0 (i + 1) (cs ++ ds ++ [-lk b n q]) _ g1 g2 (Pg_st hpg hgA) hcp (by omega) (by omega) (by rw [app3]; exact Cds_add g3) hq
        rw [app3, len1] at hih
        refine x_iinc (c := 1) dX9_readMoreUnits_39 rfl (by decide) ?_
        refine x_goto (tgt := 2) dX9_readMoreUnits_42 (by decide) ?_
        refine x_loc _ (?_ : lle _ _) hih
        refine ⟨rfl, rfl, ?_, trivial⟩
        show some (Value.int (nI i + 1)) = some (Value.int (nI (i + 1)))
        rw [nI_1]
      · rw [herr] at hq
        rcases g2 with g2 | ⟨g2, g3⟩
        · subst g2
          refine x_if_ne (tgt := 33) dX9_readMoreUnits_28 (by decide) (fun z => absurd rfl z) (fun _ => ?_)
          refine x_iconst (v := 0) dX9_readMoreUnits_31 (by decide) ?_
          exact x_ireturn dX9_readMoreUnits_32 rfl rfl (hq.2 x' rfl 0 m' f' g1 (Or.inl rfl))
        · subst g2
          refine x_if_ne (tgt := 33) dX9_readMoreUnits_28 (by decide) (fun _ => ?_) (fun z => absurd z (by decide))
          refine x_aload_n dX9_readMoreUnits_33 rfl rfl ?_
          refine x_iload_n dX9_readMoreUnits_34 rfl rfl ?_
          refine x_ineg dX9_readMoreUnits_35 ?_
          refine x_cV1 dX9_readMoreUnits_36 lv_X9_56 (kc hi kf_8) rfl rfl rfl  (c_addAny hi g1 (fun m2 f2 hm2 => ?_))
          have her := c_readMoreUnits_er (G := G) (d := d + 1) (Md := Md) (Q := Q) (f := f2) (e := e) hi hl0 hT g3 (hq.2 x' rfl 1 m2 f2 hm2 (Or.inr ⟨rfl, g3⟩)) (i + 1) (by omega)
          refine x_iinc (c := 1) dX9_readMoreUnits_39 rfl (by decide) ?_
          refine x_goto (tgt := 2) dX9_readMoreUnits_42 (by decide) ?_
          refine x_loc _ (?_ : lle _ _) her
          refine ⟨rfl, rfl, ?_, trivial⟩
          show some (Value.int (nI i + 1)) = some (Value.int (nI (i + 1)))
          rw [nI_1]
theorem c_readMoreUnits {q q0 p0 : Nat} {e : Int32} {A : Nat → PR} {c0 cs : List Int32} (hi : adOK τ) (hl : TLit G) (hT : TpB κ b n) (hg : ∀ p, p ≤ n → Pg n p (A p)) (hA : ∀ p' c0 f Q', p' ≤ n → c0.length ≤ p' → Cds f c0 → RQ9 τ κ Md b n c0 (A p') Q' → CT G (d + 5) (0, 0) MX9_readUnit [.ref (τ 8), .int e] (cm τ (rS κ (nI p') (nI c0.length) f) Md) Q') (hq0 : q0 ≤ n) (hsk : sk b n q0 = sk b n q) (hpg : Pg n p0 (.ok (q, cs))) (hcp : c0.length ≤ p0) (hc : Cds f (c0 ++ cs)) (hq : RQ9 τ κ Md b n c0 (pMore b n A 38 38 n q cs) Q) : CT G (d + 6) (0, 0) MX9_readMoreUnits [.ref (τ 8), .int e] (cm τ (rS κ (nI q0) (nI (c0 ++ cs).length) f) Md) Q := by
  obtain ⟨h1, h2, h3⟩ := hpg.1 q cs rfl
  have h := readMoreUnits_loop (d := d) hi hl hT hg hA n q q0 p0 0 cs f hq0 hsk hpg hcp (by omega) (by omega) hc hq
  refine CT.of rfl (Nat.le_of_ble_eq_true rfl) ?_
  refine x_iconst (v := 0) dX9_readMoreUnits_0 (by decide) ?_
  refine x_istore_n dX9_readMoreUnits_1 rfl (by decide) ?_
  refine x_loc _ (?_ : lle _ _) h
  exact ⟨rfl, rfl, rfl, trivial⟩
theorem c_readPart {e : Int32} {A : Nat → PR} {c0 : List Int32} (hi : adOK τ) (hl : TLit G) (hT : TpB κ b n) (hg : ∀ p, p ≤ n → Pg n p (A p)) (hA : ∀ p' c0 f Q', p' ≤ n → c0.length ≤ p' → Cds f c0 → RQ9 τ κ Md b n c0 (A p') Q' → CT G (d + 5) (0, 0) MX9_readUnit [.ref (τ 8), .int e] (cm τ (rS κ (nI p') (nI c0.length) f) Md) Q') (hA2 : ∀ p' c0 f Q', p' ≤ n → c0.length ≤ p' → Cds f c0 → RQ9 τ κ Md b n c0 (A p') Q' → CT G (d + 6) (0, 0) MX9_readUnit [.ref (τ 8), .int e] (cm τ (rS κ (nI p') (nI c0.length) f) Md) Q') (hp : p ≤ n) (hcp : c0.length ≤ p) (hc : Cds f c0) (hq : RQ9 τ κ Md b n c0 (pBind (A p) (pMore b n A 38 38 n)) Q) : CT G (d + 7) (0, 0) MX9_readPart [.ref (τ 8), .int e] (cm τ (rS κ (nI p) (nI c0.length) f) Md) Q := by
  have hgA := hg p hp
  refine CT.of rfl (Nat.le_of_ble_eq_true rfl) ?_
  refine x_aload_n dX9_readPart_0 rfl rfl ?_
  refine x_iload_n dX9_readPart_1 rfl rfl ?_
  refine x_cV1 dX9_readPart_2 lv_X9_89 (kc hi kf_8) rfl rfl rfl  (hA2 p c0 f _ hp hcp hc ?_)
  refine ⟨fun q cs hok q' f' g1 g2 g3 => ?_, fun x' herr w m' f' g1 g2 => ?_⟩
  · rw [hok] at hgA hq
    refine x_if_eq (tgt := 20) dX9_readPart_5 (by decide) (fun z => absurd z (by decide)) (fun _ => ?_)
    refine x_aload_n dX9_readPart_8 rfl rfl ?_
    refine x_iload_n dX9_readPart_9 rfl rfl ?_
    refine x_cV1 dX9_readPart_10 lv_X9_76 (kc hi kf_8) rfl rfl rfl  (c_readMoreUnits (d := d) (q := q) hi hl hT hg hA g1 g2 hgA hcp g3 ?_)
    refine ⟨fun q1 ds hok2 q2 f2 k1 k2 k3 => ?_, fun x' herr w m' f2 k1 k2 => ?_⟩
    · refine x_if_eq (tgt := 20) dX9_readPart_13 (by decide) (fun z => absurd z (by decide)) (fun _ => ?_)
      refine x_iconst (v := 1) dX9_readPart_16 (by decide) ?_
      refine x_goto (tgt := 21) dX9_readPart_17 (by decide) ?_
      exact x_ireturn dX9_readPart_21 rfl rfl (hq.1 q1 ds hok2 q2 f2 k1 k2 k3)
    · have hh := hq.2 x' herr
      rcases k2 with k2 | ⟨k2, k3⟩
      · subst k2
        refine x_if_eq (tgt := 20) dX9_readPart_13 (by decide) (fun _ => ?_) (fun z => absurd rfl z)
        refine x_iconst (v := 0) dX9_readPart_20 (by decide) ?_
        exact x_ireturn dX9_readPart_21 rfl rfl (hh 0 m' f2 k1 (Or.inl rfl))
      · subst k2
        refine x_if_eq (tgt := 20) dX9_readPart_13 (by decide) (fun z => absurd z (by decide)) (fun _ => ?_)
        refine x_iconst (v := 1) dX9_readPart_16 (by decide) ?_
        refine x_goto (tgt := 21) dX9_readPart_17 (by decide) ?_
        exact x_ireturn dX9_readPart_21 rfl rfl (hh 1 m' f2 k1 (Or.inr ⟨rfl, k3⟩))
  · rw [herr] at hq
    rcases g2 with g2 | ⟨g2, g3⟩
    · subst g2
      refine x_if_eq (tgt := 20) dX9_readPart_5 (by decide) (fun _ => ?_) (fun z => absurd rfl z)
      refine x_iconst (v := 0) dX9_readPart_20 (by decide) ?_
      exact x_ireturn dX9_readPart_21 rfl rfl (hq.2 x' rfl 0 m' f' g1 (Or.inl rfl))
    · subst g2
      refine x_if_eq (tgt := 20) dX9_readPart_5 (by decide) (fun z => absurd z (by decide)) (fun _ => ?_)
      refine x_aload_n dX9_readPart_8 rfl rfl ?_
      refine x_iload_n dX9_readPart_9 rfl rfl ?_
      refine x_cV1 dX9_readPart_10 lv_X9_76 (kc hi kf_8) rfl rfl rfl  (c_readMoreUnits_e0 (d := d + 1) hi hl hT g3 ?_)
      refine x_if_eq (tgt := 20) dX9_readPart_13 (by decide) (fun z => absurd z (by decide)) (fun _ => ?_)
      refine x_iconst (v := 1) dX9_readPart_16 (by decide) ?_
      refine x_goto (tgt := 21) dX9_readPart_17 (by decide) ?_
      exact x_ireturn dX9_readPart_21 rfl rfl (hq.2 x' rfl 1 m' f' g1 (Or.inr ⟨rfl, g3⟩))
theorem c_readMoreParts_er {x : Nat} {e : Int32} (hi : adOK τ) (hl : TLit G) (hT : TpB κ b n) (hd : isDg b n x) (hq : Q (some (.int 1)) (cm τ (rS κ (nI x) (nI m) f) Md)) : ∀ i, i ≤ 160 → XJ G (d + 5) (0, 0) MX9_readMoreParts (cm τ (rS κ (nI x) (nI m) f) Md) [(0, .ref (τ 8)), (1, .int e), (2, .int (nI i))] [] 2 Q := by
  intro i hi2
  obtain ⟨hz, -, -, -, -, -, -, -, -, -, -, ⟨tx, sa, hlR, hlS⟩, -⟩ := hl
  by_cases hi3 : i < 160
  · refine x_iload_n dX9_readMoreParts_2 rfl rfl ?_
    refine x_sipush (v := 160) dX9_readMoreParts_3 (by decide) ?_
    refine x_icmp_ge (tgt := 45) dX9_readMoreParts_6 (by decide) (fun z => absurd z (nI_ge (b := 160) hi3 (by decide))) (fun _ => ?_)
    refine x_aload_n dX9_readMoreParts_9 rfl rfl ?_
    refine x_ldcS dX9_readMoreParts_10 hlR ?_
    refine x_cV1 dX9_readMoreParts_12 lv_X9_49 (kc hi kf_8) rfl rfl rfl  (c_sees0 hi hz hT hlS Sg_124 (Nat.le_of_lt hd.1) (dg_no hT hd (by decide)) ?_)
    refine x_if_eq (tgt := 45) dX9_readMoreParts_15 (by decide) (fun _ => ?_) (fun z => absurd rfl z)
    refine x_iconst (v := 1) dX9_readMoreParts_45 (by decide) ?_
    rw [(dg_sk hT hd).1]
    exact x_ireturn dX9_readMoreParts_46 rfl rfl (hq)
  · obtain rfl : i = 160 := by omega
    refine x_iload_n dX9_readMoreParts_2 rfl rfl ?_
    refine x_sipush (v := 160) dX9_readMoreParts_3 (by decide) ?_
    refine x_icmp_ge (tgt := 45) dX9_readMoreParts_6 (by decide) (fun _ => ?_) (fun z => absurd (Int32.le_refl _) z)
    refine x_iconst (v := 1) dX9_readMoreParts_45 (by decide) ?_
    exact x_ireturn dX9_readMoreParts_46 rfl rfl (hq)
theorem c_readMoreParts_e0 {x : Nat} {e : Int32} (hi : adOK τ) (hl : TLit G) (hT : TpB κ b n) (hd : isDg b n x) (hq : Q (some (.int 1)) (cm τ (rS κ (nI x) (nI m) f) Md)) : CT G (d + 5) (0, 0) MX9_readMoreParts [.ref (τ 8), .int e] (cm τ (rS κ (nI x) (nI m) f) Md) Q := by
  have h := c_readMoreParts_er (d := d) (e := e) hi hl hT hd hq 0 (by omega)
  refine CT.of rfl (Nat.le_of_ble_eq_true rfl) ?_
  refine x_iconst (v := 0) dX9_readMoreParts_0 (by decide) ?_
  refine x_istore_n dX9_readMoreParts_1 rfl (by decide) ?_
  refine x_loc _ (?_ : lle _ _) h
  exact ⟨rfl, rfl, rfl, trivial⟩
theorem readMoreParts_loop {e : Int32} {A : Nat → PR} {c0 : List Int32} (hi : adOK τ) (hl : TLit G) (hT : TpB κ b n) (hg : ∀ p, p ≤ n → Pg n p (A p)) (hA : ∀ p' c0 f Q', p' ≤ n → c0.length ≤ p' → Cds f c0 → RQ9 τ κ Md b n c0 (A p') Q' → CT G (d + 5) (0, 0) MX9_readPart [.ref (τ 8), .int e] (cm τ (rS κ (nI p') (nI c0.length) f) Md) Q') : ∀ (g q q0 p0 i : Nat) (cs : List Int32) (f : Nat → Int32), q0 ≤ n → sk b n q0 = sk b n q → Pg n p0 (.ok (q, cs)) → c0.length ≤ p0 → i < q → n ≤ q + g → Cds f (c0 ++ cs) → RQ9 τ κ Md b n c0 (pMore b n A 124 124 g q cs) Q → XJ G (d + 6) (0, 0) MX9_readMoreParts (cm τ (rS κ (nI q0) (nI (c0 ++ cs).length) f) Md) [(0, .ref (τ 8)), (1, .int e), (2, .int (nI i))] [] 2 Q := by
  have hn := hT.2.1
  have hl0 := hl
  obtain ⟨hz, -, -, -, -, -, -, -, -, -, -, ⟨tx, sa, hlR, hlS⟩, -⟩ := hl
  intro g
  induction g with
  | zero =>
    intro q q0 p0 i cs f hq0 hsk hpg hcp hiq hf hc hq
    obtain ⟨h1, h2, h3⟩ := hpg.1 q cs rfl
    rcases more_or (A := A) (s := 124) (t := 124) (b := b) (cs := cs) (by decide) (by decide) h2 hf with ⟨hn1, hn2, he⟩ | ⟨f', hf', -⟩
    · rw [he] at hq
      refine x_iload_n dX9_readMoreParts_2 rfl rfl ?_
      refine x_sipush (v := 160) dX9_readMoreParts_3 (by decide) ?_
      refine x_icmp_ge (tgt := 45) dX9_readMoreParts_6 (by decide) (fun z => absurd z (nI_ge (b := 160) (by omega) (by decide))) (fun _ => ?_)
      refine x_aload_n dX9_readMoreParts_9 rfl rfl ?_
      refine x_ldcS dX9_readMoreParts_10 hlR ?_
      refine x_cV1 dX9_readMoreParts_12 lv_X9_49 (kc hi kf_8) rfl rfl rfl  (c_sees0 hi hz hT hlS Sg_124 hq0 (fun z => by rw [lk_of hsk] at z; exact hn1 (in1.mp z)) ?_)
      refine x_if_eq (tgt := 45) dX9_readMoreParts_15 (by decide) (fun _ => ?_) (fun z => absurd rfl z)
      refine x_iconst (v := 1) dX9_readMoreParts_45 (by decide) ?_
      exact x_ireturn dX9_readMoreParts_46 rfl rfl (hq.1 q cs rfl _ f (sk_le hq0) (by rw [sk_sk hq0, hsk]) hc)
    · exact absurd hf' (by omega)
  | succ g ih =>
    intro q q0 p0 i cs f hq0 hsk hpg hcp hiq hf hc hq
    obtain ⟨h1, h2, h3⟩ := hpg.1 q cs rfl
    rcases more_or (A := A) (s := 124) (t := 124) (b := b) (cs := cs) (by decide) (by decide) h2 hf with ⟨hn1, hn2, he⟩ | ⟨f', hf', hf2, hst, hlt, he⟩
    · rw [he] at hq
      refine x_iload_n dX9_readMoreParts_2 rfl rfl ?_
      refine x_sipush (v := 160) dX9_readMoreParts_3 (by decide) ?_
      refine x_icmp_ge (tgt := 45) dX9_readMoreParts_6 (by decide) (fun z => absurd z (nI_ge (b := 160) (by omega) (by decide))) (fun _ => ?_)
      refine x_aload_n dX9_readMoreParts_9 rfl rfl ?_
      refine x_ldcS dX9_readMoreParts_10 hlR ?_
      refine x_cV1 dX9_readMoreParts_12 lv_X9_49 (kc hi kf_8) rfl rfl rfl  (c_sees0 hi hz hT hlS Sg_124 hq0 (fun z => by rw [lk_of hsk] at z; exact hn1 (in1.mp z)) ?_)
      refine x_if_eq (tgt := 45) dX9_readMoreParts_15 (by decide) (fun _ => ?_) (fun z => absurd rfl z)
      refine x_iconst (v := 1) dX9_readMoreParts_45 (by decide) ?_
      exact x_ireturn dX9_readMoreParts_46 rfl rfl (hq.1 q cs rfl _ f (sk_le hq0) (by rw [sk_sk hq0, hsk]) hc)
    · obtain rfl : g = f' := by omega
      rw [he] at hq
      have hge := sk_ge (b := b) (n := n) (p := q)
      have hgA := hg (sk b n q + 1) (by omega)
      have hlk : b (sk b n q) &&& 255 = lk b n q := by unfold lk; rw [if_pos hlt]
      have hlen : (c0 ++ cs).length = c0.length + cs.length := List.length_append
      refine x_iload_n dX9_readMoreParts_2 rfl rfl ?_
      refine x_sipush (v := 160) dX9_readMoreParts_3 (by decide) ?_
      refine x_icmp_ge (tgt := 45) dX9_readMoreParts_6 (by decide) (fun z => absurd z (nI_ge (b := 160) (by omega) (by decide))) (fun _ => ?_)
      refine x_aload_n dX9_readMoreParts_9 rfl rfl ?_
      refine x_ldcS dX9_readMoreParts_10 hlR ?_
      refine x_cV1 dX9_readMoreParts_12 lv_X9_49 (kc hi kf_8) rfl rfl rfl  (c_sees1 hi hz hT hlS Sg_124 hq0 (by rw [lk_of hsk]; exact in1.mpr (hst.elim id id)) ?_)
      refine x_if_eq (tgt := 45) dX9_readMoreParts_15 (by decide) (fun z => absurd z (by decide)) (fun _ => ?_)
      refine x_aload_n dX9_readMoreParts_18 rfl rfl ?_
      rw [hsk]
      refine x_cV0 dX9_readMoreParts_19 lv_X9_52 (kc hi kf_8) rfl rfl rfl  (c_X9_takeSign hi hT hlt ?_)
      rw [hlk]
      refine x_istore_n dX9_readMoreParts_22 rfl (by decide) ?_
      refine x_aload_n dX9_readMoreParts_23 rfl rfl ?_
      refine x_iload_n dX9_readMoreParts_24 rfl rfl ?_
      refine x_cV1 dX9_readMoreParts_25 lv_X9_84 (kc hi kf_8) rfl rfl rfl  (hA _ (c0 ++ cs) f _ (by omega) (by omega) hc ?_)
      refine ⟨fun q1 ds hok q' f' g1 g2 g3 => ?_, fun x' herr w m' f' g1 g2 => ?_⟩
      · rw [hok] at hgA hq
        obtain ⟨k1, k2, k3⟩ := hgA.1 q1 ds rfl
        have hlen2 : (c0 ++ cs ++ ds).length = c0.length + cs.length + ds.length := by rw [List.length_append, hlen]
        refine x_if_ne (tgt := 33) dX9_readMoreParts_28 (by decide) (fun _ => ?_) (fun z => absurd z (by decide))
        refine x_aload_n dX9_readMoreParts_33 rfl rfl ?_
        refine x_iload_n dX9_readMoreParts_34 rfl rfl ?_
        refine x_ineg dX9_readMoreParts_35 ?_
        refine x_cV1 dX9_readMoreParts_36 lv_X9_56 (kc hi kf_8) rfl rfl rfl  (c_addOK hi (by omega) ?_)
        have hih := ih q1 q' p0 (i + 1) (cs ++ ds ++ [-lk b n q]) _ g1 g2 (Pg_st hpg hgA) hcp (by omega) (by omega) (by rw [app3]; exact Cds_add g3) hq
        rw [app3, len1] at hih
        refine x_iinc (c := 1) dX9_readMoreParts_39 rfl (by decide) ?_
        refine x_goto (tgt := 2) dX9_readMoreParts_42 (by decide) ?_
        refine x_loc _ (?_ : lle _ _) hih
        refine ⟨rfl, rfl, ?_, trivial⟩
        show some (Value.int (nI i + 1)) = some (Value.int (nI (i + 1)))
        rw [nI_1]
      · rw [herr] at hq
        rcases g2 with g2 | ⟨g2, g3⟩
        · subst g2
          refine x_if_ne (tgt := 33) dX9_readMoreParts_28 (by decide) (fun z => absurd rfl z) (fun _ => ?_)
          refine x_iconst (v := 0) dX9_readMoreParts_31 (by decide) ?_
          exact x_ireturn dX9_readMoreParts_32 rfl rfl (hq.2 x' rfl 0 m' f' g1 (Or.inl rfl))
        · subst g2
          refine x_if_ne (tgt := 33) dX9_readMoreParts_28 (by decide) (fun _ => ?_) (fun z => absurd z (by decide))
          refine x_aload_n dX9_readMoreParts_33 rfl rfl ?_
          refine x_iload_n dX9_readMoreParts_34 rfl rfl ?_
          refine x_ineg dX9_readMoreParts_35 ?_
          refine x_cV1 dX9_readMoreParts_36 lv_X9_56 (kc hi kf_8) rfl rfl rfl  (c_addAny hi g1 (fun m2 f2 hm2 => ?_))
          have her := c_readMoreParts_er (G := G) (d := d + 1) (Md := Md) (Q := Q) (f := f2) (e := e) hi hl0 hT g3 (hq.2 x' rfl 1 m2 f2 hm2 (Or.inr ⟨rfl, g3⟩)) (i + 1) (by omega)
          refine x_iinc (c := 1) dX9_readMoreParts_39 rfl (by decide) ?_
          refine x_goto (tgt := 2) dX9_readMoreParts_42 (by decide) ?_
          refine x_loc _ (?_ : lle _ _) her
          refine ⟨rfl, rfl, ?_, trivial⟩
          show some (Value.int (nI i + 1)) = some (Value.int (nI (i + 1)))
          rw [nI_1]
theorem c_readMoreParts {q q0 p0 : Nat} {e : Int32} {A : Nat → PR} {c0 cs : List Int32} (hi : adOK τ) (hl : TLit G) (hT : TpB κ b n) (hg : ∀ p, p ≤ n → Pg n p (A p)) (hA : ∀ p' c0 f Q', p' ≤ n → c0.length ≤ p' → Cds f c0 → RQ9 τ κ Md b n c0 (A p') Q' → CT G (d + 5) (0, 0) MX9_readPart [.ref (τ 8), .int e] (cm τ (rS κ (nI p') (nI c0.length) f) Md) Q') (hq0 : q0 ≤ n) (hsk : sk b n q0 = sk b n q) (hpg : Pg n p0 (.ok (q, cs))) (hcp : c0.length ≤ p0) (hc : Cds f (c0 ++ cs)) (hq : RQ9 τ κ Md b n c0 (pMore b n A 124 124 n q cs) Q) : CT G (d + 6) (0, 0) MX9_readMoreParts [.ref (τ 8), .int e] (cm τ (rS κ (nI q0) (nI (c0 ++ cs).length) f) Md) Q := by
  obtain ⟨h1, h2, h3⟩ := hpg.1 q cs rfl
  have h := readMoreParts_loop (d := d) hi hl hT hg hA n q q0 p0 0 cs f hq0 hsk hpg hcp (by omega) (by omega) hc hq
  refine CT.of rfl (Nat.le_of_ble_eq_true rfl) ?_
  refine x_iconst (v := 0) dX9_readMoreParts_0 (by decide) ?_
  refine x_istore_n dX9_readMoreParts_1 rfl (by decide) ?_
  refine x_loc _ (?_ : lle _ _) h
  exact ⟨rfl, rfl, rfl, trivial⟩
theorem c_readCondition {e : Int32} {A : Nat → PR} {c0 : List Int32} (hi : adOK τ) (hl : TLit G) (hT : TpB κ b n) (hg : ∀ p, p ≤ n → Pg n p (A p)) (hA : ∀ p' c0 f Q', p' ≤ n → c0.length ≤ p' → Cds f c0 → RQ9 τ κ Md b n c0 (A p') Q' → CT G (d + 5) (0, 0) MX9_readPart [.ref (τ 8), .int e] (cm τ (rS κ (nI p') (nI c0.length) f) Md) Q') (hA2 : ∀ p' c0 f Q', p' ≤ n → c0.length ≤ p' → Cds f c0 → RQ9 τ κ Md b n c0 (A p') Q' → CT G (d + 6) (0, 0) MX9_readPart [.ref (τ 8), .int e] (cm τ (rS κ (nI p') (nI c0.length) f) Md) Q') (hp : p ≤ n) (hcp : c0.length ≤ p) (hc : Cds f c0) (hq : RQ9 τ κ Md b n c0 (pBind (A p) (pMore b n A 124 124 n)) Q) : CT G (d + 7) (0, 0) MX9_readCondition [.ref (τ 8), .int e] (cm τ (rS κ (nI p) (nI c0.length) f) Md) Q := by
  have hgA := hg p hp
  refine CT.of rfl (Nat.le_of_ble_eq_true rfl) ?_
  refine x_aload_n dX9_readCondition_0 rfl rfl ?_
  refine x_iload_n dX9_readCondition_1 rfl rfl ?_
  refine x_cV1 dX9_readCondition_2 lv_X9_84 (kc hi kf_8) rfl rfl rfl  (hA2 p c0 f _ hp hcp hc ?_)
  refine ⟨fun q cs hok q' f' g1 g2 g3 => ?_, fun x' herr w m' f' g1 g2 => ?_⟩
  · rw [hok] at hgA hq
    refine x_if_eq (tgt := 20) dX9_readCondition_5 (by decide) (fun z => absurd z (by decide)) (fun _ => ?_)
    refine x_aload_n dX9_readCondition_8 rfl rfl ?_
    refine x_iload_n dX9_readCondition_9 rfl rfl ?_
    refine x_cV1 dX9_readCondition_10 lv_X9_79 (kc hi kf_8) rfl rfl rfl  (c_readMoreParts (d := d) (q := q) hi hl hT hg hA g1 g2 hgA hcp g3 ?_)
    refine ⟨fun q1 ds hok2 q2 f2 k1 k2 k3 => ?_, fun x' herr w m' f2 k1 k2 => ?_⟩
    · refine x_if_eq (tgt := 20) dX9_readCondition_13 (by decide) (fun z => absurd z (by decide)) (fun _ => ?_)
      refine x_iconst (v := 1) dX9_readCondition_16 (by decide) ?_
      refine x_goto (tgt := 21) dX9_readCondition_17 (by decide) ?_
      exact x_ireturn dX9_readCondition_21 rfl rfl (hq.1 q1 ds hok2 q2 f2 k1 k2 k3)
    · have hh := hq.2 x' herr
      rcases k2 with k2 | ⟨k2, k3⟩
      · subst k2
        refine x_if_eq (tgt := 20) dX9_readCondition_13 (by decide) (fun _ => ?_) (fun z => absurd rfl z)
        refine x_iconst (v := 0) dX9_readCondition_20 (by decide) ?_
        exact x_ireturn dX9_readCondition_21 rfl rfl (hh 0 m' f2 k1 (Or.inl rfl))
      · subst k2
        refine x_if_eq (tgt := 20) dX9_readCondition_13 (by decide) (fun z => absurd z (by decide)) (fun _ => ?_)
        refine x_iconst (v := 1) dX9_readCondition_16 (by decide) ?_
        refine x_goto (tgt := 21) dX9_readCondition_17 (by decide) ?_
        exact x_ireturn dX9_readCondition_21 rfl rfl (hh 1 m' f2 k1 (Or.inr ⟨rfl, k3⟩))
  · rw [herr] at hq
    rcases g2 with g2 | ⟨g2, g3⟩
    · subst g2
      refine x_if_eq (tgt := 20) dX9_readCondition_5 (by decide) (fun _ => ?_) (fun z => absurd rfl z)
      refine x_iconst (v := 0) dX9_readCondition_20 (by decide) ?_
      exact x_ireturn dX9_readCondition_21 rfl rfl (hq.2 x' rfl 0 m' f' g1 (Or.inl rfl))
    · subst g2
      refine x_if_eq (tgt := 20) dX9_readCondition_5 (by decide) (fun z => absurd z (by decide)) (fun _ => ?_)
      refine x_aload_n dX9_readCondition_8 rfl rfl ?_
      refine x_iload_n dX9_readCondition_9 rfl rfl ?_
      refine x_cV1 dX9_readCondition_10 lv_X9_79 (kc hi kf_8) rfl rfl rfl  (c_readMoreParts_e0 (d := d + 1) hi hl hT g3 ?_)
      refine x_if_eq (tgt := 20) dX9_readCondition_13 (by decide) (fun z => absurd z (by decide)) (fun _ => ?_)
      refine x_iconst (v := 1) dX9_readCondition_16 (by decide) ?_
      refine x_goto (tgt := 21) dX9_readCondition_17 (by decide) ?_
      exact x_ireturn dX9_readCondition_21 rfl rfl (hq.2 x' rfl 1 m' f' g1 (Or.inr ⟨rfl, g3⟩))
end UNT
