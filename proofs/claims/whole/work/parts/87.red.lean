/-! the class, 35: Tape.read; fault -/
theorem wRO_59 {lb : Int32} : wRO L0 lb [-59] true [7] = some 7 := by
  unfold wRO
  rw [if_neg (by decide), if_pos ⟨rfl, rfl⟩]; rfl
theorem wRO_59f {lb : Int32} : wRO L0 lb [-59] false [7] = none := by
  unfold wRO
  rw [if_neg (by decide), if_neg (fun z => absurd z.1 (by decide)), if_neg (fun z => absurd z.1 (by decide)), if_neg (by decide)]
  rfl
theorem Cp_ne {cs : List Int32} {lb : Int32} (h : Cp L0 lb cs) : 0 < cs.length := by
  cases cs with
  | nil =>
    have h1 := h [-59] true [7]
    rw [List.nil_append, wRO_59, wRO_59f] at h1
    exact absurd h1 (fun z => by cases z)
  | cons _ _ => exact Nat.succ_pos _
theorem Pg_cl {n p : Nat} {x : PR} (h : Gc n L0 0 p x) : Pg n p x := ⟨fun q cs e => by
  obtain ⟨h1, h2, h3⟩ := h.1 q cs e
  exact ⟨h1, h2, Cp_ne h3⟩, h.2⟩
/-- what the reading of the tape leaves behind -/
def RdQ (τ : Nat → Nat) (κ : MS) (Md : Mem) (x : PR) (Q : Option Value → Mem → Prop) : Prop :=
  (∀ q cs, x = .ok (q, cs) → ∀ a f', Cds f' cs → Q (some (.int (-1))) (cm τ (rS κ a (nI cs.length) f') Md)) ∧ ∀ x', x = .error x' → ∀ a m f', m ≤ 160 → Q (some (.int (nI x'))) (cm τ (rS κ a (nI m) f') Md)
section RED
variable {G : Gam} {d : Nat} {τ : Nat → Nat} {κ : MS} {Md : Mem} {M : Mem} {Q : Option Value → Mem → Prop} {b : Nat → Int32} {n p m : Nat} {f : Nat → Int32}
theorem lk_n1 (hT : TpB κ b n) (hp : p ≤ n) : lk b n p = -1 ↔ ¬ sk b n p < n := by
  constructor
  · intro h hlt
    unfold lk at h
    rw [if_pos hlt] at h
    have := (sgn_r (hT.2.2 _ hlt).2).1
    rw [h] at this
    exact absurd this (by decide)
  · intro h
    unfold lk
    rw [if_neg h]
theorem rd_stop {q q0 i : Nat} {cs : List Int32} (hi : adOK τ) (hl : TLit G) (hT : TpB κ b n) (hq0 : q0 ≤ n) (hsk : sk b n q0 = sk b n q) (hqn : q ≤ n) (hi2 : i < 160) (hne : ¬ lk b n q = 59) (hlen : cs.length ≤ 160) (hc : Cds f cs) (hq : RdQ τ κ Md (pEnd2 b n (.ok (q, cs))) Q) : XJ G (d + 64) (0, 0) MX9_read (cm τ (rS κ (nI q0) (nI cs.length) f) Md) [(0, .ref (τ 8)), (1, .int 1), (2, .int (nI i))] [] 17 Q := by
  have hn := hT.2.1
  have hskn := sk_le (b := b) hqn
  obtain ⟨hz, -, -, -, -, -, -, -, -, -, -, -, -, -, -, -, ⟨tx, sa, hlR, hlS⟩⟩ := hl
  unfold pEnd2 at hq
  rw [pBind_ok] at hq
  by_cases he : lk b n q = -1
  · rw [if_pos (see_eq.mpr he)] at hq
    have hno := (lk_n1 hT hqn).mp he
    refine x_iload_n dX9_read_17 rfl rfl ?_
    refine x_sipush (v := 160) dX9_read_18 (by decide) ?_
    refine x_icmp_ge (tgt := 48) dX9_read_21 (by decide) (fun z => absurd z (nI_ge (b := 160) hi2 (by decide))) (fun _ => ?_)
    refine x_iload_n dX9_read_24 rfl rfl ?_
    refine x_if_eq (tgt := 48) dX9_read_25 (by decide) (fun z => absurd z (by decide)) (fun _ => ?_)
    refine x_aload_n dX9_read_28 rfl rfl ?_
    refine x_ldcS dX9_read_29 hlR ?_
    refine x_cV1 dX9_read_31 lv_X9_41 (kc hi kf_8) rfl rfl rfl  (c_take0 (d := d + 58) hi hz hT hlS Sg_59 hq0 (fun z => hne (by rw [← lk_of hsk]; exact in1.mp z)) ?_)
    refine x_if_eq (tgt := 48) dX9_read_34 (by decide) (fun _ => ?_) (fun z => absurd rfl z)
    refine x_iload_n dX9_read_48 rfl rfl ?_
    refine x_if_eq (tgt := 67) dX9_read_49 (by decide) (fun z => absurd z (by decide)) (fun _ => ?_)
    refine x_aload_n dX9_read_52 rfl rfl ?_
    refine x_getf dX9_read_53 lf_X9_32 (kc hi kf_8) kv_8_2 ?_
    rw [rS_a, hsk]
    refine x_aload_n dX9_read_56 rfl rfl ?_
    refine x_getf dX9_read_57 lf_X9_19 (kc hi kf_8) kv_8_1 ?_
    rw [rS_n hT]
    refine x_icmp_lt (tgt := 67) dX9_read_60 (by decide) (fun z => absurd z (Int32.not_lt.mpr (nI_le (by omega) (by omega)))) (fun _ => ?_)
    refine x_iconst (v := -1) dX9_read_63 (by decide) ?_
    refine x_goto (tgt := 71) dX9_read_64 (by decide) ?_
    exact x_ireturn dX9_read_71 rfl rfl (hq.1 q cs rfl _ f hc)
  · rw [if_neg (fun z => he (see_eq.mp z))] at hq
    have hlt : sk b n q < n := Classical.byContradiction (fun z => he ((lk_n1 hT hqn).mpr z))
    refine x_iload_n dX9_read_17 rfl rfl ?_
    refine x_sipush (v := 160) dX9_read_18 (by decide) ?_
    refine x_icmp_ge (tgt := 48) dX9_read_21 (by decide) (fun z => absurd z (nI_ge (b := 160) hi2 (by decide))) (fun _ => ?_)
    refine x_iload_n dX9_read_24 rfl rfl ?_
    refine x_if_eq (tgt := 48) dX9_read_25 (by decide) (fun z => absurd z (by decide)) (fun _ => ?_)
    refine x_aload_n dX9_read_28 rfl rfl ?_
    refine x_ldcS dX9_read_29 hlR ?_
    refine x_cV1 dX9_read_31 lv_X9_41 (kc hi kf_8) rfl rfl rfl  (c_take0 (d := d + 58) hi hz hT hlS Sg_59 hq0 (fun z => hne (by rw [← lk_of hsk]; exact in1.mp z)) ?_)
    refine x_if_eq (tgt := 48) dX9_read_34 (by decide) (fun _ => ?_) (fun z => absurd rfl z)
    refine x_iload_n dX9_read_48 rfl rfl ?_
    refine x_if_eq (tgt := 67) dX9_read_49 (by decide) (fun z => absurd z (by decide)) (fun _ => ?_)
    refine x_aload_n dX9_read_52 rfl rfl ?_
    refine x_getf dX9_read_53 lf_X9_32 (kc hi kf_8) kv_8_2 ?_
    rw [rS_a, hsk]
    refine x_aload_n dX9_read_56 rfl rfl ?_
    refine x_getf dX9_read_57 lf_X9_19 (kc hi kf_8) kv_8_1 ?_
    rw [rS_n hT]
    refine x_icmp_lt (tgt := 67) dX9_read_60 (by decide) (fun _ => ?_) (fun z => absurd (nI_lt hlt (by omega)) z)
    refine x_aload_n dX9_read_67 rfl rfl ?_
    refine x_getf dX9_read_68 lf_X9_32 (kc hi kf_8) kv_8_2 ?_
    rw [rS_a]
    exact x_ireturn dX9_read_71 rfl rfl (hq.2 _ rfl _ _ f hlen)
theorem rd_err {x i : Nat} {w : Int32} (hi : adOK τ) (hl : TLit G) (hT : TpB κ b n) (hm : m ≤ 160) (hw : w = 0 ∨ w = 1 ∧ isDg b n x) (hq : ∀ a m f', m ≤ 160 → Q (some (.int (nI x))) (cm τ (rS κ a (nI m) f') Md)) (hi2 : i ≤ 160) : XJ G (d + 64) (0, 0) MX9_read (cm τ (rS κ (nI x) (nI m) f) Md) [(0, .ref (τ 8)), (1, .int w), (2, .int (nI i))] [] 17 Q := by
  have hn := hT.2.1
  obtain ⟨hz, -, -, -, -, -, -, -, -, -, -, -, -, -, -, -, ⟨tx, sa, hlR, hlS⟩⟩ := hl
  rcases hw with hw | ⟨hw, hd⟩
  · subst hw
    have h48 : XJ G (d + 64) (0, 0) MX9_read (cm τ (rS κ (nI x) (nI m) f) Md) [(0, .ref (τ 8)), (1, .int 0), (2, .int (nI i))] [] 48 Q := by
      refine x_iload_n dX9_read_48 rfl rfl ?_
      refine x_if_eq (tgt := 67) dX9_read_49 (by decide) (fun _ => ?_) (fun z => absurd rfl z)
      refine x_aload_n dX9_read_67 rfl rfl ?_
      refine x_getf dX9_read_68 lf_X9_32 (kc hi kf_8) kv_8_2 ?_
      rw [rS_a]
      exact x_ireturn dX9_read_71 rfl rfl (hq _ m f hm)
    by_cases hi3 : i < 160
    · refine x_iload_n dX9_read_17 rfl rfl ?_
      refine x_sipush (v := 160) dX9_read_18 (by decide) ?_
      refine x_icmp_ge (tgt := 48) dX9_read_21 (by decide) (fun z => absurd z (nI_ge (b := 160) hi3 (by decide))) (fun _ => ?_)
      refine x_iload_n dX9_read_24 rfl rfl ?_
      refine x_if_eq (tgt := 48) dX9_read_25 (by decide) (fun _ => ?_) (fun z => absurd rfl z)
      exact h48
    · obtain rfl : i = 160 := by omega
      refine x_iload_n dX9_read_17 rfl rfl ?_
      refine x_sipush (v := 160) dX9_read_18 (by decide) ?_
      refine x_icmp_ge (tgt := 48) dX9_read_21 (by decide) (fun _ => ?_) (fun z => absurd (Int32.le_refl _) z)
      exact h48
  · subst hw
    have h48 : XJ G (d + 64) (0, 0) MX9_read (cm τ (rS κ (nI x) (nI m) f) Md) [(0, .ref (τ 8)), (1, .int 1), (2, .int (nI i))] [] 48 Q := by
      refine x_iload_n dX9_read_48 rfl rfl ?_
      refine x_if_eq (tgt := 67) dX9_read_49 (by decide) (fun z => absurd z (by decide)) (fun _ => ?_)
      refine x_aload_n dX9_read_52 rfl rfl ?_
      refine x_getf dX9_read_53 lf_X9_32 (kc hi kf_8) kv_8_2 ?_
      rw [rS_a]
      refine x_aload_n dX9_read_56 rfl rfl ?_
      refine x_getf dX9_read_57 lf_X9_19 (kc hi kf_8) kv_8_1 ?_
      rw [rS_n hT]
      refine x_icmp_lt (tgt := 67) dX9_read_60 (by decide) (fun _ => ?_) (fun z => absurd (nI_lt hd.1 (by omega)) z)
      refine x_aload_n dX9_read_67 rfl rfl ?_
      refine x_getf dX9_read_68 lf_X9_32 (kc hi kf_8) kv_8_2 ?_
      rw [rS_a]
      exact x_ireturn dX9_read_71 rfl rfl (hq _ m f hm)
    by_cases hi3 : i < 160
    · refine x_iload_n dX9_read_17 rfl rfl ?_
      refine x_sipush (v := 160) dX9_read_18 (by decide) ?_
      refine x_icmp_ge (tgt := 48) dX9_read_21 (by decide) (fun z => absurd z (nI_ge (b := 160) hi3 (by decide))) (fun _ => ?_)
      refine x_iload_n dX9_read_24 rfl rfl ?_
      refine x_if_eq (tgt := 48) dX9_read_25 (by decide) (fun z => absurd z (by decide)) (fun _ => ?_)
      refine x_aload_n dX9_read_28 rfl rfl ?_
      refine x_ldcS dX9_read_29 hlR ?_
      refine x_cV1 dX9_read_31 lv_X9_41 (kc hi kf_8) rfl rfl rfl  (c_take0 (d := d + 58) hi hz hT hlS Sg_59 (Nat.le_of_lt hd.1) (dg_no hT hd (by decide)) ?_)
      rw [(dg_sk hT hd).1]
      refine x_if_eq (tgt := 48) dX9_read_34 (by decide) (fun _ => ?_) (fun z => absurd rfl z)
      exact h48
    · obtain rfl : i = 160 := by omega
      refine x_iload_n dX9_read_17 rfl rfl ?_
      refine x_sipush (v := 160) dX9_read_18 (by decide) ?_
      refine x_icmp_ge (tgt := 48) dX9_read_21 (by decide) (fun _ => ?_) (fun z => absurd (Int32.le_refl _) z)
      exact h48
theorem rd_loop (hi : adOK τ) (hl : TLit G) (hT : TpB κ b n) : ∀ (g q q0 i : Nat) (cs : List Int32) (f : Nat → Int32), q0 ≤ n → sk b n q0 = sk b n q → Pg n 0 (.ok (q, cs)) → i < q → n ≤ q + g → Cds f cs → RdQ τ κ Md (pEnd2 b n (pClauses b n g q cs)) Q → XJ G (d + 64) (0, 0) MX9_read (cm τ (rS κ (nI q0) (nI cs.length) f) Md) [(0, .ref (τ 8)), (1, .int 1), (2, .int (nI i))] [] 17 Q := by
  have hn := hT.2.1
  have hl0 := hl
  intro g
  induction g with
  | zero =>
    intro q q0 i cs f hq0 hsk hpg hiq hf hc hq
    obtain ⟨h1, h2, h3⟩ := hpg.1 q cs rfl
    rcases clauses_or (b := b) (cs := cs) h2 hf with ⟨hne, he⟩ | ⟨f', hf', -⟩
    · rw [he] at hq
      exact rd_stop hi hl0 hT hq0 hsk h2 (by omega) hne (by omega) hc hq
    · exact absurd hf' (by omega)
  | succ g ih =>
    intro q q0 i cs f hq0 hsk hpg hiq hf hc hq
    obtain ⟨h1, h2, h3⟩ := hpg.1 q cs rfl
    rcases clauses_or (b := b) (cs := cs) h2 hf with ⟨hne, he⟩ | ⟨f', hf', hf2, hst, hlt, he⟩
    · rw [he] at hq
      exact rd_stop hi hl0 hT hq0 hsk h2 (by omega) hne (by omega) hc hq
    · obtain rfl : g = f' := by omega
      rw [he] at hq
      have hge := sk_ge (b := b) (n := n) (p := q)
      have hgA := Pg_cl (Gc_clause (b := b) (n := n) (lb := 0) L0_bd (p := sk b n q + 1) (by omega))
      obtain ⟨hz, -, -, -, -, -, -, -, -, -, -, -, -, -, -, -, ⟨tx, sa, hlR, hlS⟩⟩ := hl
      refine x_iload_n dX9_read_17 rfl rfl ?_
      refine x_sipush (v := 160) dX9_read_18 (by decide) ?_
      refine x_icmp_ge (tgt := 48) dX9_read_21 (by decide) (fun z => absurd z (nI_ge (b := 160) (by omega) (by decide))) (fun _ => ?_)
      refine x_iload_n dX9_read_24 rfl rfl ?_
      refine x_if_eq (tgt := 48) dX9_read_25 (by decide) (fun z => absurd z (by decide)) (fun _ => ?_)
      refine x_aload_n dX9_read_28 rfl rfl ?_
      refine x_ldcS dX9_read_29 hlR ?_
      refine x_cV1 dX9_read_31 lv_X9_41 (kc hi kf_8) rfl rfl rfl  (c_take1 (d := d + 58) hi hz hT hlS Sg_59 hq0 (in1.mpr (by rw [lk_of hsk]; exact hst)) ?_)
      rw [hsk]
      refine x_if_eq (tgt := 48) dX9_read_34 (by decide) (fun z => absurd z (by decide)) (fun _ => ?_)
      refine x_aload_n dX9_read_37 rfl rfl ?_
      refine x_cV0 dX9_read_38 lv_X9_35 (kc hi kf_8) rfl rfl rfl  (c_X9_readClause (d := d) (c0 := cs) hi hl0 hT (by omega) (by omega) hc ?_)
      refine ⟨fun q1 ds hok q' f' g1 g2 g3 => ?_, fun x' herr w m' f' g1 g2 => ?_⟩
      · rw [hok] at hgA hq
        rw [pBind_ok] at hq
        obtain ⟨k1, k2, k3⟩ := hgA.1 q1 ds rfl
        have hpg2 : Pg n 0 (.ok (q1, cs ++ ds)) := by
          refine ⟨fun q' cs' z => ?_, fun e z => by cases z⟩
          cases z
          rw [List.length_append]
          exact ⟨by omega, k2, by omega⟩
        refine x_istore_n dX9_read_41 rfl (by decide) ?_
        refine x_iinc (c := 1) dX9_read_42 rfl (by decide) ?_
        refine x_goto (tgt := 17) dX9_read_45 (by decide) ?_
        refine x_loc _ (?_ : lle _ _) (ih q1 q' (i + 1) (cs ++ ds) f' g1 g2 hpg2 (by omega) (by omega) g3 hq)
        refine ⟨rfl, rfl, ?_, trivial⟩
        show some (Value.int (nI i + 1)) = some (Value.int (nI (i + 1)))
        rw [nI_1]
      · rw [herr, pBind_er] at hq
        have her := rd_err (G := G) (d := d) (κ := κ) (Md := Md) (f := f') (i := i + 1) hi hl0 hT g1 g2 (fun a m f' h => hq.2 x' rfl a m f' h) (by omega)
        refine x_istore_n dX9_read_41 rfl (by decide) ?_
        refine x_iinc (c := 1) dX9_read_42 rfl (by decide) ?_
        refine x_goto (tgt := 17) dX9_read_45 (by decide) ?_
        refine x_loc _ (?_ : lle _ _) her
        refine ⟨rfl, rfl, ?_, trivial⟩
        show some (Value.int (nI i + 1)) = some (Value.int (nI (i + 1)))
        rw [nI_1]
theorem rS_ini {κ : MS} : seti (seti κ 82 0) 84 0 = rS κ (nI 0) (nI ([] : List Int32).length) (κ.2 18) := by
  have h : seti (seti κ 82 0) 84 0 = seti (seti (rS κ (κ.1 82) (κ.1 84) (κ.2 18)) 82 0) 84 0 := by rw [rS_self]
  rw [h, rS_82, rS_84]
  show rS κ 0 0 _ = rS κ (nI 0) (nI 0) _
  rw [nI_0]
theorem c_X9_read (hi : adOK τ) (hl : TLit G) (hT : TpB κ b n) (hq : RdQ τ κ Md (pRule b n) Q) : CT G (d + 64) (0, 0) MX9_read [.ref (τ 8)] (cm τ κ Md) Q := by
  have hgA := Pg_cl (Gc_clause (b := b) (n := n) (lb := 0) L0_bd (p := 0) (by omega))
  rw [pRule_eq] at hq
  refine CT.of rfl (Nat.le_of_ble_eq_true rfl) ?_
  refine x_aload_n dX9_read_0 rfl rfl ?_
  refine x_iconst (v := 0) dX9_read_1 (by decide) ?_
  refine xk_puti dX9_read_2 lp_X9_32 (kc hi kf_8) rfl rfl (kp_8_2 hi) ?_
  refine x_aload_n dX9_read_5 rfl rfl ?_
  refine x_iconst (v := 0) dX9_read_6 (by decide) ?_
  refine xk_puti dX9_read_7 lp_X9_23 (kc hi kf_8) rfl rfl (kp_8_4 hi) ?_
  rw [rS_ini]
  refine x_aload_n dX9_read_10 rfl rfl ?_
  refine x_cV0 dX9_read_11 lv_X9_35 (kc hi kf_8) rfl rfl rfl  (c_X9_readClause (d := d) (c0 := []) hi hl hT (Nat.zero_le _) (Nat.le_refl _) Cds_0 ?_)
  refine ⟨fun q cs hok q' f' g1 g2 g3 => ?_, fun x' herr w m' f' g1 g2 => ?_⟩
  · rw [hok] at hgA hq
    rw [pBind_ok] at hq
    obtain ⟨k1, k2, k3⟩ := hgA.1 q cs rfl
    refine x_istore_n dX9_read_14 rfl (by decide) ?_
    refine x_iconst (v := 0) dX9_read_15 (by decide) ?_
    refine x_istore_n dX9_read_16 rfl (by decide) ?_
    refine x_loc _ (?_ : lle _ _) (rd_loop (d := d) hi hl hT n q q' 0 cs f' g1 g2 hgA (by omega) (by omega) g3 hq)
    exact ⟨rfl, rfl, rfl, trivial⟩
  · rw [herr, pBind_er] at hq
    refine x_istore_n dX9_read_14 rfl (by decide) ?_
    refine x_iconst (v := 0) dX9_read_15 (by decide) ?_
    refine x_istore_n dX9_read_16 rfl (by decide) ?_
    refine x_loc _ (?_ : lle _ _) (rd_err (G := G) (d := d) (f := f') (i := 0) hi hl hT g1 g2 (fun a m f' h => hq.2 x' rfl a m f' h) (by omega))
    exact ⟨rfl, rfl, rfl, trivial⟩
end RED
