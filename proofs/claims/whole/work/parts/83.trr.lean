/-! the class, 31: terms, sums, a comparison -/
section TRR
variable {G : Gam} {d : Nat} {τ : Nat → Nat} {κ : MS} {Md : Mem} {M : Mem} {Q : Option Value → Mem → Prop} {b : Nat → Int32} {n p m : Nat} {f : Nat → Int32}
theorem app3 {c0 cs ds : List Int32} {v : Int32} : c0 ++ (cs ++ ds ++ [v]) = (c0 ++ cs ++ ds) ++ [v] := by simp only [List.append_assoc]
/-- readTerm: behind a fault -/
theorem readTerm_err {x : Nat} {e w : Int32} (hi : adOK τ) (hl : TLit G) (hT : TpB κ b n) (hm : m ≤ 160) (hw : w = 0 ∨ w = 1 ∧ isDg b n x) (hq : ∀ w m f', m ≤ 160 → (w = 0 ∨ w = 1 ∧ isDg b n x) → Q (some (.int w)) (cm τ (rS κ (nI x) (nI m) f') Md)) : ∀ i, i ≤ 160 → XJ G (d + 7) (0, 0) MX9_readTerm (cm τ (rS κ (nI x) (nI m) f) Md) [(0, .ref (τ 8)), (1, .int e), (2, .int w), (3, .int (nI i))] [] 8 Q := by
  intro i hi2
  have hn := hT.2.1
  obtain ⟨hz, -, -, -, ⟨tx, sa, hlR, hlS⟩, -⟩ := hl
  by_cases hi3 : i < 160
  · rcases hw with hw | ⟨hw, hd⟩
    · subst hw
      refine x_iload_n dX9_readTerm_8 rfl rfl ?_
      refine x_sipush (v := 160) dX9_readTerm_9 (by decide) ?_
      refine x_icmp_ge (tgt := 53) dX9_readTerm_12 (by decide) (fun z => absurd z (nI_ge (b := 160) hi3 (by decide))) (fun _ => ?_)
      refine x_iload_n dX9_readTerm_15 rfl rfl ?_
      refine x_if_eq (tgt := 53) dX9_readTerm_16 (by decide) (fun _ => ?_) (fun z => absurd rfl z)
      refine x_iload_n dX9_readTerm_53 rfl rfl ?_
      exact x_ireturn dX9_readTerm_54 rfl rfl (hq 0 m f hm (Or.inl rfl))
    · subst hw
      refine x_iload_n dX9_readTerm_8 rfl rfl ?_
      refine x_sipush (v := 160) dX9_readTerm_9 (by decide) ?_
      refine x_icmp_ge (tgt := 53) dX9_readTerm_12 (by decide) (fun z => absurd z (nI_ge (b := 160) hi3 (by decide))) (fun _ => ?_)
      refine x_iload_n dX9_readTerm_15 rfl rfl ?_
      refine x_if_eq (tgt := 53) dX9_readTerm_16 (by decide) (fun z => absurd z (by decide)) (fun _ => ?_)
      refine x_aload_n dX9_readTerm_19 rfl rfl ?_
      refine x_ldcS dX9_readTerm_20 hlR ?_
      refine x_cV1 dX9_readTerm_22 lv_X9_49 (kc hi kf_8) rfl rfl rfl  (c_sees0 hi hz hT hlS Sg_42 (Nat.le_of_lt hd.1) (dg_no hT hd (by decide)) ?_)
      refine x_if_eq (tgt := 53) dX9_readTerm_25 (by decide) (fun _ => ?_) (fun z => absurd rfl z)
      refine x_iload_n dX9_readTerm_53 rfl rfl ?_
      rw [(dg_sk hT hd).1]
      exact x_ireturn dX9_readTerm_54 rfl rfl (hq 1 m f hm (Or.inr ⟨rfl, hd⟩))
  · obtain rfl : i = 160 := by omega
    refine x_iload_n dX9_readTerm_8 rfl rfl ?_
    refine x_sipush (v := 160) dX9_readTerm_9 (by decide) ?_
    refine x_icmp_ge (tgt := 53) dX9_readTerm_12 (by decide) (fun _ => ?_) (fun z => absurd (Int32.le_refl _) z)
    refine x_iload_n dX9_readTerm_53 rfl rfl ?_
    exact x_ireturn dX9_readTerm_54 rfl (v01_nar (hw.elim Or.inl (fun z => Or.inr z.1))) (hq w m f hm hw)
theorem readTerm_loop {e : Int32} {A : Nat → PR} {c0 : List Int32} (hi : adOK τ) (hl : TLit G) (hT : TpB κ b n) (hg : ∀ p, p ≤ n → Pg n p (A p)) (hA : ∀ p' c0 f Q', p' ≤ n → c0.length ≤ p' → Cds f c0 → RQ9 τ κ Md b n c0 (A p') Q' → CT G (d + 6) (0, 0) MX9_readAtom [.ref (τ 8), .int e] (cm τ (rS κ (nI p') (nI c0.length) f) Md) Q') : ∀ (g q q0 p0 i : Nat) (cs : List Int32) (f : Nat → Int32), q0 ≤ n → sk b n q0 = sk b n q → Pg n p0 (.ok (q, cs)) → c0.length ≤ p0 → i < q → n ≤ q + g → Cds f (c0 ++ cs) → RQ9 τ κ Md b n c0 (pMore b n A 42 47 g q cs) Q → XJ G (d + 7) (0, 0) MX9_readTerm (cm τ (rS κ (nI q0) (nI (c0 ++ cs).length) f) Md) [(0, .ref (τ 8)), (1, .int e), (2, .int 1), (3, .int (nI i))] [] 8 Q := by
  have hn := hT.2.1
  have hl0 := hl
  obtain ⟨hz, -, -, -, ⟨tx, sa, hlR, hlS⟩, -⟩ := hl
  intro g
  induction g with
  | zero =>
    intro q q0 p0 i cs f hq0 hsk hpg hcp hiq hf hc hq
    obtain ⟨h1, h2, h3⟩ := hpg.1 q cs rfl
    rcases more_or (A := A) (s := 42) (t := 47) (b := b) (cs := cs) (by decide) (by decide) h2 hf with ⟨hn1, hn2, he⟩ | ⟨f', hf', -⟩
    · rw [he] at hq
      refine x_iload_n dX9_readTerm_8 rfl rfl ?_
      refine x_sipush (v := 160) dX9_readTerm_9 (by decide) ?_
      refine x_icmp_ge (tgt := 53) dX9_readTerm_12 (by decide) (fun z => absurd z (nI_ge (b := 160) (by omega) (by decide))) (fun _ => ?_)
      refine x_iload_n dX9_readTerm_15 rfl rfl ?_
      refine x_if_eq (tgt := 53) dX9_readTerm_16 (by decide) (fun z => absurd z (by decide)) (fun _ => ?_)
      refine x_aload_n dX9_readTerm_19 rfl rfl ?_
      refine x_ldcS dX9_readTerm_20 hlR ?_
      refine x_cV1 dX9_readTerm_22 lv_X9_49 (kc hi kf_8) rfl rfl rfl  (c_sees0 hi hz hT hlS Sg_42 hq0 (fun z => by rw [lk_of hsk] at z; exact (in2.mp z).elim hn1 hn2) ?_)
      refine x_if_eq (tgt := 53) dX9_readTerm_25 (by decide) (fun _ => ?_) (fun z => absurd rfl z)
      refine x_iload_n dX9_readTerm_53 rfl rfl ?_
      exact x_ireturn dX9_readTerm_54 rfl rfl (hq.1 q cs rfl _ f (sk_le hq0) (by rw [sk_sk hq0, hsk]) hc)
    · exact absurd hf' (by omega)
  | succ g ih =>
    intro q q0 p0 i cs f hq0 hsk hpg hcp hiq hf hc hq
    obtain ⟨h1, h2, h3⟩ := hpg.1 q cs rfl
    rcases more_or (A := A) (s := 42) (t := 47) (b := b) (cs := cs) (by decide) (by decide) h2 hf with ⟨hn1, hn2, he⟩ | ⟨f', hf', hf2, hst, hlt, he⟩
    · rw [he] at hq
      refine x_iload_n dX9_readTerm_8 rfl rfl ?_
      refine x_sipush (v := 160) dX9_readTerm_9 (by decide) ?_
      refine x_icmp_ge (tgt := 53) dX9_readTerm_12 (by decide) (fun z => absurd z (nI_ge (b := 160) (by omega) (by decide))) (fun _ => ?_)
      refine x_iload_n dX9_readTerm_15 rfl rfl ?_
      refine x_if_eq (tgt := 53) dX9_readTerm_16 (by decide) (fun z => absurd z (by decide)) (fun _ => ?_)
      refine x_aload_n dX9_readTerm_19 rfl rfl ?_
      refine x_ldcS dX9_readTerm_20 hlR ?_
      refine x_cV1 dX9_readTerm_22 lv_X9_49 (kc hi kf_8) rfl rfl rfl  (c_sees0 hi hz hT hlS Sg_42 hq0 (fun z => by rw [lk_of hsk] at z; exact (in2.mp z).elim hn1 hn2) ?_)
      refine x_if_eq (tgt := 53) dX9_readTerm_25 (by decide) (fun _ => ?_) (fun z => absurd rfl z)
      refine x_iload_n dX9_readTerm_53 rfl rfl ?_
      exact x_ireturn dX9_readTerm_54 rfl rfl (hq.1 q cs rfl _ f (sk_le hq0) (by rw [sk_sk hq0, hsk]) hc)
    · obtain rfl : g = f' := by omega
      rw [he] at hq
      have hge := sk_ge (b := b) (n := n) (p := q)
      have hgA := hg (sk b n q + 1) (by omega)
      have hlk : b (sk b n q) &&& 255 = lk b n q := by unfold lk; rw [if_pos hlt]
      have hlen : (c0 ++ cs).length = c0.length + cs.length := List.length_append
      refine x_iload_n dX9_readTerm_8 rfl rfl ?_
      refine x_sipush (v := 160) dX9_readTerm_9 (by decide) ?_
      refine x_icmp_ge (tgt := 53) dX9_readTerm_12 (by decide) (fun z => absurd z (nI_ge (b := 160) (by omega) (by decide))) (fun _ => ?_)
      refine x_iload_n dX9_readTerm_15 rfl rfl ?_
      refine x_if_eq (tgt := 53) dX9_readTerm_16 (by decide) (fun z => absurd z (by decide)) (fun _ => ?_)
      refine x_aload_n dX9_readTerm_19 rfl rfl ?_
      refine x_ldcS dX9_readTerm_20 hlR ?_
      refine x_cV1 dX9_readTerm_22 lv_X9_49 (kc hi kf_8) rfl rfl rfl  (c_sees1 hi hz hT hlS Sg_42 hq0 (by rw [lk_of hsk]; exact in2.mpr hst) ?_)
      refine x_if_eq (tgt := 53) dX9_readTerm_25 (by decide) (fun z => absurd z (by decide)) (fun _ => ?_)
      refine x_aload_n dX9_readTerm_28 rfl rfl ?_
      rw [hsk]
      refine x_cV0 dX9_readTerm_29 lv_X9_52 (kc hi kf_8) rfl rfl rfl  (c_X9_takeSign hi hT hlt ?_)
      rw [hlk]
      refine x_istore dX9_readTerm_32 (by decide) ?_
      refine x_aload_n dX9_readTerm_34 rfl rfl ?_
      refine x_iload_n dX9_readTerm_35 rfl rfl ?_
      refine x_cV1 dX9_readTerm_36 lv_X9_105 (kc hi kf_8) rfl rfl rfl  (hA _ (c0 ++ cs) f _ (by omega) (by omega) hc ?_)
      refine ⟨fun q1 ds hok q' f' g1 g2 g3 => ?_, fun x' herr w m' f' g1 g2 => ?_⟩
      · rw [hok] at hgA hq
        obtain ⟨k1, k2, k3⟩ := hgA.1 q1 ds rfl
        have hlen2 : (c0 ++ cs ++ ds).length = c0.length + cs.length + ds.length := by rw [List.length_append, hlen]
        refine x_istore_n dX9_readTerm_39 rfl (by decide) ?_
        refine x_aload_n dX9_readTerm_40 rfl rfl ?_
        refine x_iload dX9_readTerm_41 rfl ?_
        refine x_ineg dX9_readTerm_43 ?_
        refine x_cV1 dX9_readTerm_44 lv_X9_56 (kc hi kf_8) rfl rfl rfl  (c_addOK hi (by omega) ?_)
        have hih := ih q1 q' p0 (i + 1) (cs ++ ds ++ [-lk b n q]) _ g1 g2 (Pg_st hpg hgA) hcp (by omega) (by omega) (by rw [app3]; exact Cds_add g3) hq
        rw [app3, len1] at hih
        refine x_iinc (c := 1) dX9_readTerm_47 rfl (by decide) ?_
        refine x_goto (tgt := 8) dX9_readTerm_50 (by decide) ?_
        refine x_loc _ (?_ : lle _ _) hih
        refine ⟨rfl, rfl, rfl, ?_, trivial⟩
        show some (Value.int (nI i + 1)) = some (Value.int (nI (i + 1)))
        rw [nI_1]
      · rw [herr] at hq
        refine x_istore_n dX9_readTerm_39 rfl (by decide) ?_
        refine x_aload_n dX9_readTerm_40 rfl rfl ?_
        refine x_iload dX9_readTerm_41 rfl ?_
        refine x_ineg dX9_readTerm_43 ?_
        refine x_cV1 dX9_readTerm_44 lv_X9_56 (kc hi kf_8) rfl rfl rfl  (c_addAny hi g1 (fun m2 f2 hm2 => ?_))
        have her := readTerm_err (G := G) (d := d) (Md := Md) (Q := Q) (f := f2) (e := e) hi hl0 hT hm2 g2 (fun w m f' a b => hq.2 x' rfl w m f' a b) (i + 1) (by omega)
        refine x_iinc (c := 1) dX9_readTerm_47 rfl (by decide) ?_
        refine x_goto (tgt := 8) dX9_readTerm_50 (by decide) ?_
        refine x_loc _ (?_ : lle _ _) her
        refine ⟨rfl, rfl, rfl, ?_, trivial⟩
        show some (Value.int (nI i + 1)) = some (Value.int (nI (i + 1)))
        rw [nI_1]
theorem c_readTerm {e : Int32} {A : Nat → PR} {c0 : List Int32} (hi : adOK τ) (hl : TLit G) (hT : TpB κ b n) (hg : ∀ p, p ≤ n → Pg n p (A p)) (hA : ∀ p' c0 f Q', p' ≤ n → c0.length ≤ p' → Cds f c0 → RQ9 τ κ Md b n c0 (A p') Q' → CT G (d + 6) (0, 0) MX9_readAtom [.ref (τ 8), .int e] (cm τ (rS κ (nI p') (nI c0.length) f) Md) Q') (hc : Cds f c0) (hp : p ≤ n) (hcp : c0.length ≤ p) (hq : RQ9 τ κ Md b n c0 (pBind (A p) (pMore b n A 42 47 n)) Q) : CT G (d + 7) (0, 0) MX9_readTerm [.ref (τ 8), .int e] (cm τ (rS κ (nI p) (nI c0.length) f) Md) Q := by
  have hgA := hg p hp
  refine CT.of rfl (Nat.le_of_ble_eq_true rfl) ?_
  refine x_aload_n dX9_readTerm_0 rfl rfl ?_
  refine x_iload_n dX9_readTerm_1 rfl rfl ?_
  refine x_cV1 dX9_readTerm_2 lv_X9_105 (kc hi kf_8) rfl rfl rfl  (hA p c0 f _ hp hcp hc ?_)
  refine ⟨fun q cs hok q' f' g1 g2 g3 => ?_, fun x' herr w m' f' g1 g2 => ?_⟩
  · rw [hok] at hgA hq
    obtain ⟨k1, k2, k3⟩ := hgA.1 q cs rfl
    refine x_istore_n dX9_readTerm_5 rfl (by decide) ?_
    refine x_iconst (v := 0) dX9_readTerm_6 (by decide) ?_
    refine x_istore_n dX9_readTerm_7 rfl (by decide) ?_
    refine x_loc _ (?_ : lle _ _) (readTerm_loop (d := d) hi hl hT hg hA n q q' p 0 cs f' g1 g2 hgA hcp (by omega) (by omega) g3 hq)
    exact ⟨rfl, rfl, rfl, rfl, trivial⟩
  · rw [herr] at hq
    refine x_istore_n dX9_readTerm_5 rfl (by decide) ?_
    refine x_iconst (v := 0) dX9_readTerm_6 (by decide) ?_
    refine x_istore_n dX9_readTerm_7 rfl (by decide) ?_
    refine x_loc _ (?_ : lle _ _) (readTerm_err (G := G) (d := d) (Md := Md) (Q := Q) (e := e) hi hl hT g1 g2 (fun w m f' a b => hq.2 x' rfl w m f' a b) 0 (by omega))
    exact ⟨rfl, rfl, rfl, rfl, trivial⟩
/-- readSum: behind a fault -/
theorem readSum_err {x : Nat} {e w : Int32} (hi : adOK τ) (hl : TLit G) (hT : TpB κ b n) (hm : m ≤ 160) (hw : w = 0 ∨ w = 1 ∧ isDg b n x) (hq : ∀ w m f', m ≤ 160 → (w = 0 ∨ w = 1 ∧ isDg b n x) → Q (some (.int w)) (cm τ (rS κ (nI x) (nI m) f') Md)) : ∀ i, i ≤ 160 → XJ G (d + 8) (0, 0) MX9_readSum (cm τ (rS κ (nI x) (nI m) f) Md) [(0, .ref (τ 8)), (1, .int e), (2, .int w), (3, .int (nI i))] [] 8 Q := by
  intro i hi2
  have hn := hT.2.1
  obtain ⟨hz, -, -, -, -, ⟨tx, sa, hlR, hlS⟩, -⟩ := hl
  by_cases hi3 : i < 160
  · rcases hw with hw | ⟨hw, hd⟩
    · subst hw
      refine x_iload_n dX9_readSum_8 rfl rfl ?_
      refine x_sipush (v := 160) dX9_readSum_9 (by decide) ?_
      refine x_icmp_ge (tgt := 53) dX9_readSum_12 (by decide) (fun z => absurd z (nI_ge (b := 160) hi3 (by decide))) (fun _ => ?_)
      refine x_iload_n dX9_readSum_15 rfl rfl ?_
      refine x_if_eq (tgt := 53) dX9_readSum_16 (by decide) (fun _ => ?_) (fun z => absurd rfl z)
      refine x_iload_n dX9_readSum_53 rfl rfl ?_
      exact x_ireturn dX9_readSum_54 rfl rfl (hq 0 m f hm (Or.inl rfl))
    · subst hw
      refine x_iload_n dX9_readSum_8 rfl rfl ?_
      refine x_sipush (v := 160) dX9_readSum_9 (by decide) ?_
      refine x_icmp_ge (tgt := 53) dX9_readSum_12 (by decide) (fun z => absurd z (nI_ge (b := 160) hi3 (by decide))) (fun _ => ?_)
      refine x_iload_n dX9_readSum_15 rfl rfl ?_
      refine x_if_eq (tgt := 53) dX9_readSum_16 (by decide) (fun z => absurd z (by decide)) (fun _ => ?_)
      refine x_aload_n dX9_readSum_19 rfl rfl ?_
      refine x_ldcS dX9_readSum_20 hlR ?_
      refine x_cV1 dX9_readSum_22 lv_X9_49 (kc hi kf_8) rfl rfl rfl  (c_sees0 hi hz hT hlS Sg_43 (Nat.le_of_lt hd.1) (dg_no hT hd (by decide)) ?_)
      refine x_if_eq (tgt := 53) dX9_readSum_25 (by decide) (fun _ => ?_) (fun z => absurd rfl z)
      refine x_iload_n dX9_readSum_53 rfl rfl ?_
      rw [(dg_sk hT hd).1]
      exact x_ireturn dX9_readSum_54 rfl rfl (hq 1 m f hm (Or.inr ⟨rfl, hd⟩))
  · obtain rfl : i = 160 := by omega
    refine x_iload_n dX9_readSum_8 rfl rfl ?_
    refine x_sipush (v := 160) dX9_readSum_9 (by decide) ?_
    refine x_icmp_ge (tgt := 53) dX9_readSum_12 (by decide) (fun _ => ?_) (fun z => absurd (Int32.le_refl _) z)
    refine x_iload_n dX9_readSum_53 rfl rfl ?_
    exact x_ireturn dX9_readSum_54 rfl (v01_nar (hw.elim Or.inl (fun z => Or.inr z.1))) (hq w m f hm hw)
theorem readSum_loop {e : Int32} {A : Nat → PR} {c0 : List Int32} (hi : adOK τ) (hl : TLit G) (hT : TpB κ b n) (hg : ∀ p, p ≤ n → Pg n p (A p)) (hA : ∀ p' c0 f Q', p' ≤ n → c0.length ≤ p' → Cds f c0 → RQ9 τ κ Md b n c0 (A p') Q' → CT G (d + 7) (0, 0) MX9_readTerm [.ref (τ 8), .int e] (cm τ (rS κ (nI p') (nI c0.length) f) Md) Q') : ∀ (g q q0 p0 i : Nat) (cs : List Int32) (f : Nat → Int32), q0 ≤ n → sk b n q0 = sk b n q → Pg n p0 (.ok (q, cs)) → c0.length ≤ p0 → i < q → n ≤ q + g → Cds f (c0 ++ cs) → RQ9 τ κ Md b n c0 (pMore b n A 43 45 g q cs) Q → XJ G (d + 8) (0, 0) MX9_readSum (cm τ (rS κ (nI q0) (nI (c0 ++ cs).length) f) Md) [(0, .ref (τ 8)), (1, .int e), (2, .int 1), (3, .int (nI i))] [] 8 Q := by
  have hn := hT.2.1
  have hl0 := hl
  obtain ⟨hz, -, -, -, -, ⟨tx, sa, hlR, hlS⟩, -⟩ := hl
  intro g
  induction g with
  | zero =>
    intro q q0 p0 i cs f hq0 hsk hpg hcp hiq hf hc hq
    obtain ⟨h1, h2, h3⟩ := hpg.1 q cs rfl
    rcases more_or (A := A) (s := 43) (t := 45) (b := b) (cs := cs) (by decide) (by decide) h2 hf with ⟨hn1, hn2, he⟩ | ⟨f', hf', -⟩
    · rw [he] at hq
      refine x_iload_n dX9_readSum_8 rfl rfl ?_
      refine x_sipush (v := 160) dX9_readSum_9 (by decide) ?_
      refine x_icmp_ge (tgt := 53) dX9_readSum_12 (by decide) (fun z => absurd z (nI_ge (b := 160) (by omega) (by decide))) (fun _ => ?_)
      refine x_iload_n dX9_readSum_15 rfl rfl ?_
      refine x_if_eq (tgt := 53) dX9_readSum_16 (by decide) (fun z => absurd z (by decide)) (fun _ => ?_)
      refine x_aload_n dX9_readSum_19 rfl rfl ?_
      refine x_ldcS dX9_readSum_20 hlR ?_
      refine x_cV1 dX9_readSum_22 lv_X9_49 (kc hi kf_8) rfl rfl rfl  (c_sees0 hi hz hT hlS Sg_43 hq0 (fun z => by rw [lk_of hsk] at z; exact (in2.mp z).elim hn1 hn2) ?_)
      refine x_if_eq (tgt := 53) dX9_readSum_25 (by decide) (fun _ => ?_) (fun z => absurd rfl z)
      refine x_iload_n dX9_readSum_53 rfl rfl ?_
      exact x_ireturn dX9_readSum_54 rfl rfl (hq.1 q cs rfl _ f (sk_le hq0) (by rw [sk_sk hq0, hsk]) hc)
    · exact absurd hf' (by omega)
  | succ g ih =>
    intro q q0 p0 i cs f hq0 hsk hpg hcp hiq hf hc hq
    obtain ⟨h1, h2, h3⟩ := hpg.1 q cs rfl
    rcases more_or (A := A) (s := 43) (t := 45) (b := b) (cs := cs) (by decide) (by decide) h2 hf with ⟨hn1, hn2, he⟩ | ⟨f', hf', hf2, hst, hlt, he⟩
    · rw [he] at hq
      refine x_iload_n dX9_readSum_8 rfl rfl ?_
      refine x_sipush (v := 160) dX9_readSum_9 (by decide) ?_
      refine x_icmp_ge (tgt := 53) dX9_readSum_12 (by decide) (fun z => absurd z (nI_ge (b := 160) (by omega) (by decide))) (fun _ => ?_)
      refine x_iload_n dX9_readSum_15 rfl rfl ?_
      refine x_if_eq (tgt := 53) dX9_readSum_16 (by decide) (fun z => absurd z (by decide)) (fun _ => ?_)
      refine x_aload_n dX9_readSum_19 rfl rfl ?_
      refine x_ldcS dX9_readSum_20 hlR ?_
      refine x_cV1 dX9_readSum_22 lv_X9_49 (kc hi kf_8) rfl rfl rfl  (c_sees0 hi hz hT hlS Sg_43 hq0 (fun z => by rw [lk_of hsk] at z; exact (in2.mp z).elim hn1 hn2) ?_)
      refine x_if_eq (tgt := 53) dX9_readSum_25 (by decide) (fun _ => ?_) (fun z => absurd rfl z)
      refine x_iload_n dX9_readSum_53 rfl rfl ?_
      exact x_ireturn dX9_readSum_54 rfl rfl (hq.1 q cs rfl _ f (sk_le hq0) (by rw [sk_sk hq0, hsk]) hc)
    · obtain rfl : g = f' := by omega
      rw [he] at hq
      have hge := sk_ge (b := b) (n := n) (p := q)
      have hgA := hg (sk b n q + 1) (by omega)
      have hlk : b (sk b n q) &&& 255 = lk b n q := by unfold lk; rw [if_pos hlt]
      have hlen : (c0 ++ cs).length = c0.length + cs.length := List.length_append
      refine x_iload_n dX9_readSum_8 rfl rfl ?_
      refine x_sipush (v := 160) dX9_readSum_9 (by decide) ?_
      refine x_icmp_ge (tgt := 53) dX9_readSum_12 (by decide) (fun z => absurd z (nI_ge (b := 160) (by omega) (by decide))) (fun _ => ?_)
      refine x_iload_n dX9_readSum_15 rfl rfl ?_
      refine x_if_eq (tgt := 53) dX9_readSum_16 (by decide) (fun z => absurd z (by decide)) (fun _ => ?_)
      refine x_aload_n dX9_readSum_19 rfl rfl ?_
      refine x_ldcS dX9_readSum_20 hlR ?_
      refine x_cV1 dX9_readSum_22 lv_X9_49 (kc hi kf_8) rfl rfl rfl  (c_sees1 hi hz hT hlS Sg_43 hq0 (by rw [lk_of hsk]; exact in2.mpr hst) ?_)
      refine x_if_eq (tgt := 53) dX9_readSum_25 (by decide) (fun z => absurd z (by decide)) (fun _ => ?_)
      refine x_aload_n dX9_readSum_28 rfl rfl ?_
      rw [hsk]
      refine x_cV0 dX9_readSum_29 lv_X9_52 (kc hi kf_8) rfl rfl rfl  (c_X9_takeSign hi hT hlt ?_)
      rw [hlk]
      refine x_istore dX9_readSum_32 (by decide) ?_
      refine x_aload_n dX9_readSum_34 rfl rfl ?_
      refine x_iload_n dX9_readSum_35 rfl rfl ?_
      refine x_cV1 dX9_readSum_36 lv_X9_100 (kc hi kf_8) rfl rfl rfl  (hA _ (c0 ++ cs) f _ (by omega) (by omega) hc ?_)
      refine ⟨fun q1 ds hok q' f' g1 g2 g3 => ?_, fun x' herr w m' f' g1 g2 => ?_⟩
      · rw [hok] at hgA hq
        obtain ⟨k1, k2, k3⟩ := hgA.1 q1 ds rfl
        have hlen2 : (c0 ++ cs ++ ds).length = c0.length + cs.length + ds.length := by rw [List.length_append, hlen]
        refine x_istore_n dX9_readSum_39 rfl (by decide) ?_
        refine x_aload_n dX9_readSum_40 rfl rfl ?_
        refine x_iload dX9_readSum_41 rfl ?_
        refine x_ineg dX9_readSum_43 ?_
        refine x_cV1 dX9_readSum_44 lv_X9_56 (kc hi kf_8) rfl rfl rfl  (c_addOK hi (by omega) ?_)
        have hih := ih q1 q' p0 (i + 1) (cs ++ ds ++ [-lk b n q]) _ g1 g2 (Pg_st hpg hgA) hcp (by omega) (by omega) (by rw [app3]; exact Cds_add g3) hq
        rw [app3, len1] at hih
        refine x_iinc (c := 1) dX9_readSum_47 rfl (by decide) ?_
        refine x_goto (tgt := 8) dX9_readSum_50 (by decide) ?_
        refine x_loc _ (?_ : lle _ _) hih
        refine ⟨rfl, rfl, rfl, ?_, trivial⟩
        show some (Value.int (nI i + 1)) = some (Value.int (nI (i + 1)))
        rw [nI_1]
      · rw [herr] at hq
        refine x_istore_n dX9_readSum_39 rfl (by decide) ?_
        refine x_aload_n dX9_readSum_40 rfl rfl ?_
        refine x_iload dX9_readSum_41 rfl ?_
        refine x_ineg dX9_readSum_43 ?_
        refine x_cV1 dX9_readSum_44 lv_X9_56 (kc hi kf_8) rfl rfl rfl  (c_addAny hi g1 (fun m2 f2 hm2 => ?_))
        have her := readSum_err (G := G) (d := d) (Md := Md) (Q := Q) (f := f2) (e := e) hi hl0 hT hm2 g2 (fun w m f' a b => hq.2 x' rfl w m f' a b) (i + 1) (by omega)
        refine x_iinc (c := 1) dX9_readSum_47 rfl (by decide) ?_
        refine x_goto (tgt := 8) dX9_readSum_50 (by decide) ?_
        refine x_loc _ (?_ : lle _ _) her
        refine ⟨rfl, rfl, rfl, ?_, trivial⟩
        show some (Value.int (nI i + 1)) = some (Value.int (nI (i + 1)))
        rw [nI_1]
theorem c_readSum {e : Int32} {A : Nat → PR} {c0 : List Int32} (hi : adOK τ) (hl : TLit G) (hT : TpB κ b n) (hg : ∀ p, p ≤ n → Pg n p (A p)) (hA : ∀ p' c0 f Q', p' ≤ n → c0.length ≤ p' → Cds f c0 → RQ9 τ κ Md b n c0 (A p') Q' → CT G (d + 7) (0, 0) MX9_readTerm [.ref (τ 8), .int e] (cm τ (rS κ (nI p') (nI c0.length) f) Md) Q') (hc : Cds f c0) (hp : p ≤ n) (hcp : c0.length ≤ p) (hq : RQ9 τ κ Md b n c0 (pBind (A p) (pMore b n A 43 45 n)) Q) : CT G (d + 8) (0, 0) MX9_readSum [.ref (τ 8), .int e] (cm τ (rS κ (nI p) (nI c0.length) f) Md) Q := by
  have hgA := hg p hp
  refine CT.of rfl (Nat.le_of_ble_eq_true rfl) ?_
  refine x_aload_n dX9_readSum_0 rfl rfl ?_
  refine x_iload_n dX9_readSum_1 rfl rfl ?_
  refine x_cV1 dX9_readSum_2 lv_X9_100 (kc hi kf_8) rfl rfl rfl  (hA p c0 f _ hp hcp hc ?_)
  refine ⟨fun q cs hok q' f' g1 g2 g3 => ?_, fun x' herr w m' f' g1 g2 => ?_⟩
  · rw [hok] at hgA hq
    obtain ⟨k1, k2, k3⟩ := hgA.1 q cs rfl
    refine x_istore_n dX9_readSum_5 rfl (by decide) ?_
    refine x_iconst (v := 0) dX9_readSum_6 (by decide) ?_
    refine x_istore_n dX9_readSum_7 rfl (by decide) ?_
    refine x_loc _ (?_ : lle _ _) (readSum_loop (d := d) hi hl hT hg hA n q q' p 0 cs f' g1 g2 hgA hcp (by omega) (by omega) g3 hq)
    exact ⟨rfl, rfl, rfl, rfl, trivial⟩
  · rw [herr] at hq
    refine x_istore_n dX9_readSum_5 rfl (by decide) ?_
    refine x_iconst (v := 0) dX9_readSum_6 (by decide) ?_
    refine x_istore_n dX9_readSum_7 rfl (by decide) ?_
    refine x_loc _ (?_ : lle _ _) (readSum_err (G := G) (d := d) (Md := Md) (Q := Q) (e := e) hi hl hT g1 g2 (fun w m f' a b => hq.2 x' rfl w m f' a b) 0 (by omega))
    exact ⟨rfl, rfl, rfl, rfl, trivial⟩
theorem c_sum1 {e : Int32} {S : Option (Nat → PR)} {c0 : List Int32} (hi : adOK τ) (hl : TLit G) (hT : TpB κ b n) (hgS : ∀ s, S = some s → ∀ p, p ≤ n → Gd n L0 bd6 p (s p)) (hS : SC9 G (d + 5) τ κ Md b n e S) (hc : Cds f c0) (hp : p ≤ n) (hcp : c0.length ≤ p) (hq : RQ9 τ κ Md b n c0 (pSum1 b n S p) Q) : CT G (d + 8) (0, 0) MX9_readSum [.ref (τ 8), .int e] (cm τ (rS κ (nI p) (nI c0.length) f) Md) Q :=
  c_readSum (d := d) hi hl hT (fun p hp => Pg_of (Gd_term L0_bd hgS hp)) (fun p' c0 f Q' h1 h2 h3 h4 => c_readTerm (d := d) hi hl hT (fun p hp => Pg_of (Gd_atom L0_bd hgS hp)) (fun p' c0 f Q' h1 h2 h3 h4 => c_X9_readAtom (d := d) hi hl hT hS h3 h1 h2 h4) h3 h1 h2 h4) hc hp hcp hq
theorem c_sumk (hi : adOK τ) (hl : TLit G) (hT : TpB κ b n) : ∀ (k d p : Nat) (e : Int32) (c0 : List Int32) (f : Nat → Int32) (Q : Option Value → Mem → Prop), k ≤ 6 → e = nI (6 - k) → p ≤ n → c0.length ≤ p → Cds f c0 → RQ9 τ κ Md b n c0 (pSum b n k p) Q → CT G (d + 3 * k + 8) (0, 0) MX9_readSum [.ref (τ 8), .int e] (cm τ (rS κ (nI p) (nI c0.length) f) Md) Q
  | 0, d, p, e, c0, f, Q, _, he, hp, hcp, hc, hq => c_sum1 (d := d) hi hl hT (fun s h => by cases h) (Or.inl ⟨rfl, he⟩) hc hp hcp hq
  | k + 1, d, p, e, c0, f, Q, hk, he, hp, hcp, hc, hq => by
    rw [show d + 3 * (k + 1) + 8 = (d + 3 * k + 3) + 8 by omega]
    refine c_sum1 (d := d + 3 * k + 3) (S := some (pSum b n k)) hi hl hT (fun s h p hp => by cases h; exact Gd_sum L0_bd k hp) (Or.inr ⟨_, rfl, ?_, fun p hp => Pg_of (Gd_sum L0_bd k hp), fun p' c0 f Q' h1 h2 h3 h4 => ?_⟩) hc hp hcp hq
    · rw [he]; exact Int32.not_le.mpr (nI_lt (b := 6) (by omega) (by decide))
    · exact c_sumk hi hl hT k d p' (e + 1) c0 f Q' (by omega) (by rw [he, nI_1]; congr 1; omega) h1 h2 h3 h4
theorem c_X9_readSum {k : Nat} {e : Int32} {c0 : List Int32} (hi : adOK τ) (hl : TLit G) (hT : TpB κ b n) (hk : k ≤ 6) (he : e = nI (6 - k)) (hp : p ≤ n) (hcp : c0.length ≤ p) (hc : Cds f c0) (hq : RQ9 τ κ Md b n c0 (pSum b n k p) Q) : CT G (d + 26) (0, 0) MX9_readSum [.ref (τ 8), .int e] (cm τ (rS κ (nI p) (nI c0.length) f) Md) Q := by
  have h := c_sumk hi hl hT k (d + (18 - 3 * k)) p e c0 f Q hk he hp hcp hc hq
  rw [show d + (18 - 3 * k) + 3 * k + 8 = d + 26 by omega] at h
  exact h
theorem c_X9_readComparison {k q q0 p0 : Nat} {e : Int32} {c0 cs : List Int32} (hi : adOK τ) (hl : TLit G) (hT : TpB κ b n) (hk : k ≤ 6) (he : e = nI (6 - k)) (hq0 : q0 ≤ n) (hsk : sk b n q0 = sk b n q) (hpg : Pg n p0 (.ok (q, cs))) (hcp : c0.length ≤ p0) (hc : Cds f (c0 ++ cs)) (hq : RQ9 τ κ Md b n c0 (pRel b n (pSum b n k) q cs) Q) : CT G (d + 27) (0, 0) MX9_readComparison [.ref (τ 8), .int e] (cm τ (rS κ (nI q0) (nI (c0 ++ cs).length) f) Md) Q := by
  have hn := hT.2.1
  have hl0 := hl
  obtain ⟨hz, -, -, -, -, -, ⟨tx, sa, hlR, hlS⟩, -⟩ := hl
  obtain ⟨h1, h2, h3⟩ := hpg.1 q cs rfl
  have hlen : (c0 ++ cs).length = c0.length + cs.length := List.length_append
  have hin : lk b n q ∈ [61, 60, 62] ↔ pIsRel b n q = true := by rw [in3]; exact sg_rel
  refine CT.of rfl (Nat.le_of_ble_eq_true rfl) ?_
  unfold pRel at hq
  by_cases z : pIsRel b n q = true
  · rw [if_pos z] at hq
    have hm := hin.mpr z
    have hlt : sk b n q < n := lk_lt (fun y => by rw [y] at hm; revert hm; decide)
    have hge := sk_ge (b := b) (n := n) (p := q)
    have hlk : b (sk b n q) &&& 255 = lk b n q := by unfold lk; rw [if_pos hlt]
    have hgA := Pg_of (Gd_sum (b := b) (n := n) L0_bd k (p := sk b n q + 1) (by omega))
    refine x_aload_n dX9_readComparison_0 rfl rfl ?_
    refine x_ldcS dX9_readComparison_1 hlR ?_
    refine x_cV1 dX9_readComparison_3 lv_X9_49 (kc hi kf_8) rfl rfl rfl  (c_sees1 hi hz hT hlS Sg_61 hq0 (by rw [lk_of hsk]; exact hm) ?_)
    refine x_if_ne (tgt := 11) dX9_readComparison_6 (by decide) (fun _ => ?_) (fun z => absurd z (by decide))
    refine x_aload_n dX9_readComparison_11 rfl rfl ?_
    rw [hsk]
    refine x_cV0 dX9_readComparison_12 lv_X9_52 (kc hi kf_8) rfl rfl rfl  (c_X9_takeSign hi hT hlt ?_)
    rw [hlk]
    refine x_istore_n dX9_readComparison_15 rfl (by decide) ?_
    refine x_aload_n dX9_readComparison_16 rfl rfl ?_
    refine x_iload_n dX9_readComparison_17 rfl rfl ?_
    refine x_cV1 dX9_readComparison_18 lv_X9_68 (kc hi kf_8) rfl rfl rfl  (c_X9_readSum (d := d) (c0 := c0 ++ cs) hi hl0 hT hk he (by omega) (by omega) hc ?_)
    refine ⟨fun q1 ds hok q' f' g1 g2 g3 => ?_, fun x' herr w m' f' g1 g2 => ?_⟩
    · rw [hok] at hgA hq
      obtain ⟨k1, k2, k3⟩ := hgA.1 q1 ds rfl
      have hlen2 : (c0 ++ cs ++ ds).length = c0.length + cs.length + ds.length := by rw [List.length_append, hlen]
      refine x_if_ne (tgt := 26) dX9_readComparison_21 (by decide) (fun _ => ?_) (fun z => absurd z (by decide))
      refine x_aload_n dX9_readComparison_26 rfl rfl ?_
      refine x_iload_n dX9_readComparison_27 rfl rfl ?_
      refine x_ineg dX9_readComparison_28 ?_
      refine x_cV1 dX9_readComparison_29 lv_X9_56 (kc hi kf_8) rfl rfl rfl  (c_addOK hi (by omega) ?_)
      refine x_iconst (v := 1) dX9_readComparison_32 (by decide) ?_
      exact x_ireturn dX9_readComparison_33 rfl rfl ((by
have h := hq.1 q1 _ rfl q' _ g1 g2 (by rw [app3]; exact Cds_add g3)
rw [app3, len1] at h
exact h))
    · rw [herr] at hq
      rcases g2 with g2 | ⟨g2, g3⟩
      · subst g2
        refine x_if_ne (tgt := 26) dX9_readComparison_21 (by decide) (fun z => absurd rfl z) (fun _ => ?_)
        refine x_iconst (v := 0) dX9_readComparison_24 (by decide) ?_
        exact x_ireturn dX9_readComparison_25 rfl rfl (hq.2 x' rfl 0 m' f' g1 (Or.inl rfl))
      · subst g2
        refine x_if_ne (tgt := 26) dX9_readComparison_21 (by decide) (fun _ => ?_) (fun z => absurd z (by decide))
        refine x_aload_n dX9_readComparison_26 rfl rfl ?_
        refine x_iload_n dX9_readComparison_27 rfl rfl ?_
        refine x_ineg dX9_readComparison_28 ?_
        refine x_cV1 dX9_readComparison_29 lv_X9_56 (kc hi kf_8) rfl rfl rfl  (c_addAny hi g1 (fun m2 f2 hm2 => ?_))
        refine x_iconst (v := 1) dX9_readComparison_32 (by decide) ?_
        exact x_ireturn dX9_readComparison_33 rfl rfl (hq.2 x' rfl 1 m2 f2 hm2 (Or.inr ⟨rfl, g3⟩))
  · rw [if_neg z] at hq
    refine x_aload_n dX9_readComparison_0 rfl rfl ?_
    refine x_ldcS dX9_readComparison_1 hlR ?_
    refine x_cV1 dX9_readComparison_3 lv_X9_49 (kc hi kf_8) rfl rfl rfl  (c_sees0 hi hz hT hlS Sg_61 hq0 (by rw [lk_of hsk]; exact fun y => z (hin.mp y)) ?_)
    refine x_if_ne (tgt := 11) dX9_readComparison_6 (by decide) (fun z => absurd rfl z) (fun _ => ?_)
    refine x_iconst (v := 0) dX9_readComparison_9 (by decide) ?_
    rw [hsk]
    exact x_ireturn dX9_readComparison_10 rfl rfl (hq.2 _ rfl 0 _ _ (by omega) (Or.inl rfl))
end TRR
