/-! the class, 33: clauses -/
section CLS
variable {G : Gam} {d : Nat} {τ : Nat → Nat} {κ : MS} {Md : Mem} {M : Mem} {Q : Option Value → Mem → Prop} {b : Nat → Int32} {n p m : Nat} {f : Nat → Int32}
theorem rdr (hi : adOK τ) (hl : TLit G) (hT : TpB κ b n) : ∀ k, k ≤ 6 → (∀ D, 5 * k + 30 ≤ D → ∀ p' c0 f Q', p' ≤ n → c0.length ≤ p' → Cds f c0 → RQ9 τ κ Md b n c0 (pPart1 b n (pUC b n k).1 p') Q' → CT G D (0, 0) MX9_readPart [.ref (τ 8), .int (nI (6 - k))] (cm τ (rS κ (nI p') (nI c0.length) f) Md) Q') ∧ (∀ D, 5 * k + 28 ≤ D → ∀ p' c0 f Q', p' ≤ n → c0.length ≤ p' → Cds f c0 → RQ9 τ κ Md b n c0 ((pUC b n k).1 p') Q' → CT G D (0, 0) MX9_readUnit [.ref (τ 8), .int (nI (6 - k))] (cm τ (rS κ (nI p') (nI c0.length) f) Md) Q') ∧ ∀ D, 5 * k + 32 ≤ D → CondC G D τ κ Md b n k := by
  intro k
  induction k using Nat.strongRecOn with
  | _ k ih =>
    intro hk
    have hU : ∀ D, 5 * k + 28 ≤ D → ∀ p' c0 f Q', p' ≤ n → c0.length ≤ p' → Cds f c0 → RQ9 τ κ Md b n c0 ((pUC b n k).1 p') Q' → CT G D (0, 0) MX9_readUnit [.ref (τ 8), .int (nI (6 - k))] (cm τ (rS κ (nI p') (nI c0.length) f) Md) Q' := by
      intro D hD p' c0 f Q' h1 h2 h3 h4
      obtain ⟨d, rfl⟩ : ∃ d, D = d + 5 * k + 28 := ⟨D - (5 * k + 28), by omega⟩
      exact c_unit (d := d + 5 * k) hi hl hT hk (fun k' hk' => (ih k' hk' (by omega)).2.2 _ (by omega)) h1 h2 h3 h4
    have hgU : ∀ p, p ≤ n → Pg n p ((pUC b n k).1 p) := fun p hp => Pg_of ((Gd_UC (b := b) (n := n) L0_bd k).1 p hp)
    have hgP : ∀ p, p ≤ n → Pg n p (pPart1 b n (pUC b n k).1 p) := fun p hp => Pg_of (Gd_part1 (fun p hp => (Gd_UC (b := b) (n := n) L0_bd k).1 p hp) hp)
    have hP : ∀ D, 5 * k + 30 ≤ D → ∀ p' c0 f Q', p' ≤ n → c0.length ≤ p' → Cds f c0 → RQ9 τ κ Md b n c0 (pPart1 b n (pUC b n k).1 p') Q' → CT G D (0, 0) MX9_readPart [.ref (τ 8), .int (nI (6 - k))] (cm τ (rS κ (nI p') (nI c0.length) f) Md) Q' := by
      intro D hD p' c0 f Q' h1 h2 h3 h4
      obtain ⟨d, rfl⟩ : ∃ d, D = d + 7 := ⟨D - 7, by omega⟩
      exact c_readPart (d := d) hi hl hT hgU (hU (d + 5) (by omega)) (hU (d + 6) (by omega)) h1 h2 h3 h4
    refine ⟨hP, hU, ?_⟩
    intro D hD p' c0 f Q' h1 h2 h3 h4
    obtain ⟨d, rfl⟩ : ∃ d, D = d + 7 := ⟨D - 7, by omega⟩
    rw [pUC2_eq] at h4
    exact c_readCondition (d := d) hi hl hT hgP (hP (d + 5) (by omega)) (hP (d + 6) (by omega)) h1 h2 h3 h4
theorem c_cond6 {c0 : List Int32} (hi : adOK τ) (hl : TLit G) (hT : TpB κ b n) (hp : p ≤ n) (hcp : c0.length ≤ p) (hc : Cds f c0) (hq : RQ9 τ κ Md b n c0 ((pUC b n 6).2 p) Q) : CT G (d + 62) (0, 0) MX9_readCondition [.ref (τ 8), .int 0] (cm τ (rS κ (nI p) (nI c0.length) f) Md) Q := (rdr (G := G) hi hl hT 6 (by decide)).2.2 (d + 62) (by omega) p c0 f Q hp hcp hc hq
theorem c_units6 {q q0 p0 : Nat} {c0 cs : List Int32} (hi : adOK τ) (hl : TLit G) (hT : TpB κ b n) (hq0 : q0 ≤ n) (hsk : sk b n q0 = sk b n q) (hpg : Pg n p0 (.ok (q, cs))) (hcp : c0.length ≤ p0) (hc : Cds f (c0 ++ cs)) (hq : RQ9 τ κ Md b n c0 (pUnits b n (pUC b n 6).1 q cs) Q) : CT G (d + 62) (0, 0) MX9_readMoreUnits [.ref (τ 8), .int 0] (cm τ (rS κ (nI q0) (nI (c0 ++ cs).length) f) Md) Q :=
  c_readMoreUnits (d := d + 56) hi hl hT (fun p hp => Pg_of ((Gd_UC (b := b) (n := n) L0_bd 6).1 p hp)) ((rdr (G := G) hi hl hT 6 (by decide)).2.1 (d + 61) (by omega)) hq0 hsk hpg hcp hc hq
theorem c_parts6 {q q0 p0 : Nat} {c0 cs : List Int32} (hi : adOK τ) (hl : TLit G) (hT : TpB κ b n) (hq0 : q0 ≤ n) (hsk : sk b n q0 = sk b n q) (hpg : Pg n p0 (.ok (q, cs))) (hcp : c0.length ≤ p0) (hc : Cds f (c0 ++ cs)) (hq : RQ9 τ κ Md b n c0 (pParts b n (pUC b n 6).1 q cs) Q) : CT G (d + 62) (0, 0) MX9_readMoreParts [.ref (τ 8), .int 0] (cm τ (rS κ (nI q0) (nI (c0 ++ cs).length) f) Md) Q :=
  c_readMoreParts (d := d + 56) hi hl hT (fun p hp => Pg_of (Gd_part1 (fun p hp => (Gd_UC (b := b) (n := n) L0_bd 6).1 p hp) hp)) ((rdr (G := G) hi hl hT 6 (by decide)).1 (d + 61) (by omega)) hq0 hsk hpg hcp hc hq
theorem cl_144 {i1 : Int32} {q' : Nat} {c1 : List Int32} (hi : adOK τ) (hm : c1.length < 160) (hc : Cds f c1) (hq : ∀ f', Cds f' (c1 ++ [-59]) → Q (some (.int 1)) (cm τ (rS κ (nI q') (nI (c1 ++ [-59]).length) f') Md)) : XJ G (d + 1) (0, 0) MX9_readClause (cm τ (rS κ (nI q') (nI c1.length) f) Md) [(0, .ref (τ 8)), (1, .int i1), (2, .int 1)] [] 144 Q := by
  have h := hq _ (Cds_add hc)
  rw [len1] at h
  refine x_aload_n dX9_readClause_144 rfl rfl ?_
  refine x_bipush (v := -59) dX9_readClause_145 (by decide) ?_
  refine x_cV1 dX9_readClause_147 lv_X9_56 (kc hi kf_8) rfl rfl rfl  (c_addOK hi hm ?_)
  refine x_iload_n dX9_readClause_150 rfl rfl ?_
  exact x_ireturn dX9_readClause_151 rfl rfl (h)
theorem cl_144e {i1 w : Int32} {x : Nat} (hi : adOK τ) (hm : m ≤ 160) (hw : v01 w) (hq : ∀ m f', m ≤ 160 → Q (some (.int w)) (cm τ (rS κ (nI x) (nI m) f') Md)) : XJ G (d + 1) (0, 0) MX9_readClause (cm τ (rS κ (nI x) (nI m) f) Md) [(0, .ref (τ 8)), (1, .int i1), (2, .int w)] [] 144 Q := by
  refine x_aload_n dX9_readClause_144 rfl rfl ?_
  refine x_bipush (v := -59) dX9_readClause_145 (by decide) ?_
  refine x_cV1 dX9_readClause_147 lv_X9_56 (kc hi kf_8) rfl rfl rfl  (c_addAny hi hm (fun m2 f2 hm2 => ?_))
  refine x_iload_n dX9_readClause_150 rfl rfl ?_
  exact x_ireturn dX9_readClause_151 rfl (v01_nar hw) (hq m2 f2 hm2)
/-- no ? behind a condition -/
theorem cl_113n {x : Nat} (hi : adOK τ) (hl : TLit G) (hT : TpB κ b n) (hm : m ≤ 160) (hx : x ≤ n) (hn : ¬ lk b n x = 63) (hq : ∀ m f', m ≤ 160 → Q (some (.int 0)) (cm τ (rS κ (nI (sk b n x)) (nI m) f') Md)) : XJ G (d + 63) (0, 0) MX9_readClause (cm τ (rS κ (nI x) (nI m) f) Md) [(0, .ref (τ 8)), (1, .int 1), (2, .int 1)] [] 113 Q := by
  obtain ⟨hz, -, -, -, -, -, -, -, -, -, -, -, -, -, -, ⟨tx, sa, hlR, hlS⟩, -⟩ := hl
  refine x_aload_n dX9_readClause_113 rfl rfl ?_
  refine x_ldcS dX9_readClause_114 hlR ?_
  refine x_cV1 dX9_readClause_116 lv_X9_41 (kc hi kf_8) rfl rfl rfl  (c_take0 (d := d + 57) hi hz hT hlS Sg_63 hx (fun z => hn (in1.mp z)) ?_)
  refine x_istore_n dX9_readClause_119 rfl (by decide) ?_
  refine x_aload_n dX9_readClause_120 rfl rfl ?_
  refine x_bipush (v := -63) dX9_readClause_121 (by decide) ?_
  refine x_cV1 dX9_readClause_123 lv_X9_56 (kc hi kf_8) rfl rfl rfl  (c_addAny hi hm (fun m2 f2 hm2 => ?_))
  refine x_iload_n dX9_readClause_126 rfl rfl ?_
  refine x_if_eq (tgt := 142) dX9_readClause_127 (by decide) (fun _ => ?_) (fun z => absurd rfl z)
  refine x_iconst (v := 0) dX9_readClause_142 (by decide) ?_
  refine x_istore_n dX9_readClause_143 rfl (by decide) ?_
  refine x_loc _ (?_ : lle _ _) (cl_144e (d := d + 62) (i1 := 1) (w := 0) hi hm2 v0 hq)
  exact ⟨rfl, rfl, rfl, trivial⟩
theorem cl_113 {r r0 : Nat} {c0 cs : List Int32} (hi : adOK τ) (hl : TLit G) (hT : TpB κ b n) (hr0 : r0 ≤ n) (hsk : sk b n r0 = sk b n r) (hr : r ≤ n) (hlen : c0.length + cs.length + 1 ≤ r) (hc : Cds f (c0 ++ cs)) (hq : RQ9 τ κ Md b n c0 (pThen b n r cs) Q) : XJ G (d + 63) (0, 0) MX9_readClause (cm τ (rS κ (nI r0) (nI (c0 ++ cs).length) f) Md) [(0, .ref (τ 8)), (1, .int 1), (2, .int 1)] [] 113 Q := by
  have hn := hT.2.1
  have hl0 := hl
  have hl1 : (c0 ++ cs).length = c0.length + cs.length := List.length_append
  have hge := sk_ge (b := b) (n := n) (p := r)
  unfold pThen pTake at hq
  by_cases h63 : lk b n r = 63
  · rw [if_pos (see_eq.mpr h63), pBind_ok] at hq
    have hlt : sk b n r < n := lk_lt (by rw [h63]; decide)
    have hgS := Pg_of (Gd_sum (b := b) (n := n) L0_bd 6 (p := sk b n r + 1) (by omega))
    obtain ⟨hz, -, -, -, -, -, -, -, -, -, -, -, -, -, -, ⟨tx, sa, hlR, hlS⟩, -⟩ := hl
    refine x_aload_n dX9_readClause_113 rfl rfl ?_
    refine x_ldcS dX9_readClause_114 hlR ?_
    refine x_cV1 dX9_readClause_116 lv_X9_41 (kc hi kf_8) rfl rfl rfl  (c_take1 (d := d + 57) hi hz hT hlS Sg_63 hr0 (in1.mpr (by rw [lk_of hsk]; exact h63)) ?_)
    rw [hsk]
    refine x_istore_n dX9_readClause_119 rfl (by decide) ?_
    refine x_aload_n dX9_readClause_120 rfl rfl ?_
    refine x_bipush (v := -63) dX9_readClause_121 (by decide) ?_
    refine x_cV1 dX9_readClause_123 lv_X9_56 (kc hi kf_8) rfl rfl rfl  (c_addOK hi (by omega) ?_)
    refine x_iload_n dX9_readClause_126 rfl rfl ?_
    refine x_if_eq (tgt := 142) dX9_readClause_127 (by decide) (fun z => absurd z (by decide)) (fun _ => ?_)
    rw [← len1 (cs := c0 ++ cs) (v := -63)]
    refine x_aload_n dX9_readClause_130 rfl rfl ?_
    refine x_iconst (v := 0) dX9_readClause_131 (by decide) ?_
    refine x_cV1 dX9_readClause_132 lv_X9_68 (kc hi kf_8) rfl rfl rfl  (c_X9_readSum (d := d + 36) (c0 := c0 ++ cs ++ [-63]) (k := 6) hi hl0 hT (by decide) rfl (by omega) (by rw [len1]; omega) (Cds_add hc) ?_)
    refine ⟨fun q1 es hok q' f' g1 g2 g3 => ?_, fun x' herr w m' f' g1 g2 => ?_⟩
    · rw [hok, pBind_ok] at hq
      obtain ⟨k1, k2, k3⟩ := hgS.1 q1 es hok
      have hl2 : (c0 ++ cs ++ [-63] ++ es).length = c0.length + cs.length + 1 + es.length := by rw [List.length_append, len1, hl1]
      have e : c0 ++ (cs ++ [-63] ++ es ++ [-59]) = (c0 ++ cs ++ [-63] ++ es) ++ [-59] := by simp only [List.append_assoc]
      refine x_if_eq (tgt := 142) dX9_readClause_135 (by decide) (fun z => absurd z (by decide)) (fun _ => ?_)
      refine x_iconst (v := 1) dX9_readClause_138 (by decide) ?_
      refine x_goto (tgt := 143) dX9_readClause_139 (by decide) ?_
      refine x_istore_n dX9_readClause_143 rfl (by decide) ?_
      refine x_loc _ (?_ : lle _ _) (cl_144 (d := d + 62) (i1 := 1) hi (by omega) g3 (fun f2 h2 => ?_))
      · exact ⟨rfl, rfl, rfl, trivial⟩
      · have h := hq.1 q1 _ rfl q' f2 g1 g2 (by rw [e]; exact h2)
        rw [e] at h
        exact h
    · rw [herr] at hq
      rcases g2 with g2 | ⟨g2, g3⟩
      · subst g2
        refine x_if_eq (tgt := 142) dX9_readClause_135 (by decide) (fun _ => ?_) (fun z => absurd rfl z)
        refine x_iconst (v := 0) dX9_readClause_142 (by decide) ?_
        refine x_istore_n dX9_readClause_143 rfl (by decide) ?_
        refine x_loc _ (?_ : lle _ _) (cl_144e (d := d + 62) (i1 := 1) (w := 0) hi g1 v0 (fun m2 f2 h2 => hq.2 x' rfl 0 m2 f2 h2 (Or.inl rfl)))
        exact ⟨rfl, rfl, rfl, trivial⟩
      · subst g2
        refine x_if_eq (tgt := 142) dX9_readClause_135 (by decide) (fun z => absurd z (by decide)) (fun _ => ?_)
        refine x_iconst (v := 1) dX9_readClause_138 (by decide) ?_
        refine x_goto (tgt := 143) dX9_readClause_139 (by decide) ?_
        refine x_istore_n dX9_readClause_143 rfl (by decide) ?_
        refine x_loc _ (?_ : lle _ _) (cl_144e (d := d + 62) (i1 := 1) (w := 1) hi g1 v1 (fun m2 f2 h2 => hq.2 x' rfl 1 m2 f2 h2 (Or.inr ⟨rfl, g3⟩)))
        exact ⟨rfl, rfl, rfl, trivial⟩
  · rw [if_neg (fun z => h63 (see_eq.mp z)), pBind_er] at hq
    refine cl_113n hi hl0 hT (by omega) hr0 (by rw [lk_of hsk]; exact h63) (fun m2 f2 h2 => ?_)
    rw [hsk]
    exact hq.2 _ rfl 0 m2 f2 h2 (Or.inl rfl)
/-- a fault ahead of the ? -/
theorem cl_104e {x : Nat} {w i2 : Int32} (hi : adOK τ) (hl : TLit G) (hT : TpB κ b n) (hm : m ≤ 160) (hw : w = 0 ∨ w = 1 ∧ isDg b n x) (hq : ∀ m f', m ≤ 160 → Q (some (.int 0)) (cm τ (rS κ (nI x) (nI m) f') Md)) : XJ G (d + 63) (0, 0) MX9_readClause (cm τ (rS κ (nI x) (nI m) f) Md) [(0, .ref (τ 8)), (1, .int 1), (2, .int i2)] [.int w] 104 Q := by
  rcases hw with hw | ⟨hw, hd⟩
  · subst hw
    refine x_istore_n dX9_readClause_104 rfl (by decide) ?_
    refine x_iload_n dX9_readClause_105 rfl rfl ?_
    refine x_if_eq (tgt := 144) dX9_readClause_106 (by decide) (fun z => absurd z (by decide)) (fun _ => ?_)
    refine x_iload_n dX9_readClause_109 rfl rfl ?_
    refine x_if_eq (tgt := 144) dX9_readClause_110 (by decide) (fun _ => ?_) (fun z => absurd rfl z)
    refine x_loc _ (?_ : lle _ _) (cl_144e (d := d + 62) (i1 := 1) (w := 0) hi hm v0 hq)
    exact ⟨rfl, rfl, rfl, trivial⟩
  · subst hw
    refine x_istore_n dX9_readClause_104 rfl (by decide) ?_
    refine x_iload_n dX9_readClause_105 rfl rfl ?_
    refine x_if_eq (tgt := 144) dX9_readClause_106 (by decide) (fun z => absurd z (by decide)) (fun _ => ?_)
    refine x_iload_n dX9_readClause_109 rfl rfl ?_
    refine x_if_eq (tgt := 144) dX9_readClause_110 (by decide) (fun z => absurd z (by decide)) (fun _ => ?_)
    refine x_loc _ (?_ : lle _ _) (cl_113n (d := d) hi hl hT hm (Nat.le_of_lt hd.1) (fun z => dg_no (bs := [63]) hT hd (by decide) (in1.mpr z)) (by rw [(dg_sk hT hd).1]; exact hq))
    exact ⟨rfl, rfl, rfl, trivial⟩
/-- a condition begun by a sum -/
theorem cl_73 {p0 r r0 : Nat} {lab : Int32} {c0 ds : List Int32} (hi : adOK τ) (hl : TLit G) (hT : TpB κ b n) (hr0 : r0 ≤ n) (hsk : sk b n r0 = sk b n r) (hg : Gd n L0 bd6 p0 (.ok (r, ds))) (hcp : c0.length + 2 ≤ p0) (hc : Cds f (c0 ++ [lab] ++ ds)) (hq : RQ9 τ κ Md b n c0 (pBind (pBind (pBind (pRel b n (pSum b n 6) r ds) (pUnits b n (pUC b n 6).1)) (pParts b n (pUC b n 6).1)) (fun r2 es => pThen b n r2 ([lab] ++ es))) Q) : XJ G (d + 63) (0, 0) MX9_readClause (cm τ (rS κ (nI r0) (nI (c0 ++ [lab] ++ ds).length) f) Md) [(0, .ref (τ 8)), (1, .int 0), (2, .int 1)] [] 73 Q := by
  have hlab : (c0 ++ [lab]).length = c0.length + 1 := len1
  have hgR := Gd_rel (b := b) (S := pSum b n 6) (fun p hp => Gd_sum L0_bd 6 hp) hg
  have hU : ∀ p, p ≤ n → Gd n L0 v01 p ((pUC b n 6).1 p) := (Gd_UC (b := b) (n := n) L0_bd 6).1
  refine x_iconst (v := 1) dX9_readClause_73 (by decide) ?_
  refine x_istore_n dX9_readClause_74 rfl (by decide) ?_
  refine x_aload_n dX9_readClause_75 rfl rfl ?_
  refine x_iconst (v := 0) dX9_readClause_76 (by decide) ?_
  refine x_cV1 dX9_readClause_77 lv_X9_73 (kc hi kf_8) rfl rfl rfl  (c_X9_readComparison (d := d + 35) (c0 := c0 ++ [lab]) (k := 6) (q := r) (cs := ds) (p0 := p0) hi hl hT (by decide) rfl hr0 hsk (Pg_of hg) (by omega) hc ?_)
  refine ⟨fun q1 es hok q' f' g1 g2 g3 => ?_, fun x' herr w m' f' g1 g2 => ?_⟩
  · rw [hok] at hgR hq
    rw [pBind_ok] at hq
    have hgU := Gd_units (b := b) hU hgR
    refine x_if_eq (tgt := 103) dX9_readClause_80 (by decide) (fun z => absurd z (by decide)) (fun _ => ?_)
    refine x_aload_n dX9_readClause_83 rfl rfl ?_
    refine x_iconst (v := 0) dX9_readClause_84 (by decide) ?_
    refine x_cV1 dX9_readClause_85 lv_X9_76 (kc hi kf_8) rfl rfl rfl  (c_units6 (d := d) (c0 := c0 ++ [lab]) (q := q1) (cs := es) (p0 := p0) hi hl hT g1 g2 (Pg_of hgR) (by omega) g3 ?_)
    refine ⟨fun q2 fs hok2 q'' f'' h1 h2 h3 => ?_, fun x' herr w m' f'' h1 h2 => ?_⟩
    · rw [hok2] at hgU hq
      rw [pBind_ok] at hq
      have hgP := Gd_parts (b := b) hU hgU
      refine x_if_eq (tgt := 103) dX9_readClause_88 (by decide) (fun z => absurd z (by decide)) (fun _ => ?_)
      refine x_aload_n dX9_readClause_91 rfl rfl ?_
      refine x_iconst (v := 0) dX9_readClause_92 (by decide) ?_
      refine x_cV1 dX9_readClause_93 lv_X9_79 (kc hi kf_8) rfl rfl rfl  (c_parts6 (d := d) (c0 := c0 ++ [lab]) (q := q2) (cs := fs) (p0 := p0) hi hl hT h1 h2 (Pg_of hgU) (by omega) h3 ?_)
      refine ⟨fun q3 gs hok3 q3' f3 i1 i2 i3 => ?_, fun x' herr w m' f3 i1 i2 => ?_⟩
      · rw [hok3] at hgP hq
        rw [pBind_ok] at hq
        obtain ⟨r1, r2, r3⟩ := (Pg_of hgP).1 q3 gs rfl
        have h113 := cl_113 (G := G) (d := d) (c0 := c0) (cs := [lab] ++ gs) (r := q3) hi hl hT i1 i2 r2 (by rw [List.length_append, List.length_singleton]; omega) (by rw [← List.append_assoc]; exact i3) hq
        rw [← List.append_assoc] at h113
        refine x_if_eq (tgt := 103) dX9_readClause_96 (by decide) (fun z => absurd z (by decide)) (fun _ => ?_)
        refine x_iconst (v := 1) dX9_readClause_99 (by decide) ?_
        refine x_goto (tgt := 104) dX9_readClause_100 (by decide) ?_
        refine x_istore_n dX9_readClause_104 rfl (by decide) ?_
        refine x_iload_n dX9_readClause_105 rfl rfl ?_
        refine x_if_eq (tgt := 144) dX9_readClause_106 (by decide) (fun z => absurd z (by decide)) (fun _ => ?_)
        refine x_iload_n dX9_readClause_109 rfl rfl ?_
        refine x_if_eq (tgt := 144) dX9_readClause_110 (by decide) (fun z => absurd z (by decide)) (fun _ => ?_)
        refine x_loc _ (?_ : lle _ _) h113
        exact ⟨rfl, rfl, rfl, trivial⟩
      · rw [herr, pBind_er] at hq
        have hh : ∀ w, (w = 0 ∨ w = 1 ∧ isDg b n x') → XJ G (d + 63) (0, 0) MX9_readClause (cm τ (rS κ (nI x') (nI m') f3) Md) [(0, .ref (τ 8)), (1, .int 1), (2, .int 1)] [.int w] 104 Q := fun w hw => cl_104e (d := d) (f := f3) hi hl hT i1 hw (fun m2 f2 h2 => hq.2 x' rfl 0 m2 f2 h2 (Or.inl rfl))
        rcases i2 with i2 | ⟨i2, i3⟩
        · subst i2
          refine x_if_eq (tgt := 103) dX9_readClause_96 (by decide) (fun _ => ?_) (fun z => absurd rfl z)
          refine x_iconst (v := 0) dX9_readClause_103 (by decide) ?_
          refine x_loc _ (?_ : lle _ _) (hh 0 (Or.inl rfl))
          exact ⟨rfl, rfl, rfl, trivial⟩
        · subst i2
          refine x_if_eq (tgt := 103) dX9_readClause_96 (by decide) (fun z => absurd z (by decide)) (fun _ => ?_)
          refine x_iconst (v := 1) dX9_readClause_99 (by decide) ?_
          refine x_goto (tgt := 104) dX9_readClause_100 (by decide) ?_
          refine x_loc _ (?_ : lle _ _) (hh 1 (Or.inr ⟨rfl, i3⟩))
          exact ⟨rfl, rfl, rfl, trivial⟩
    · rw [herr, pBind_er, pBind_er] at hq
      have hh : ∀ w, (w = 0 ∨ w = 1 ∧ isDg b n x') → XJ G (d + 63) (0, 0) MX9_readClause (cm τ (rS κ (nI x') (nI m') f'') Md) [(0, .ref (τ 8)), (1, .int 1), (2, .int 1)] [.int w] 104 Q := fun w hw => cl_104e (d := d) (f := f'') hi hl hT h1 hw (fun m2 f2 h2 => hq.2 x' rfl 0 m2 f2 h2 (Or.inl rfl))
      rcases h2 with h2 | ⟨h2, h3⟩
      · subst h2
        refine x_if_eq (tgt := 103) dX9_readClause_88 (by decide) (fun _ => ?_) (fun z => absurd rfl z)
        refine x_iconst (v := 0) dX9_readClause_103 (by decide) ?_
        refine x_loc _ (?_ : lle _ _) (hh 0 (Or.inl rfl))
        exact ⟨rfl, rfl, rfl, trivial⟩
      · subst h2
        refine x_if_eq (tgt := 103) dX9_readClause_88 (by decide) (fun z => absurd z (by decide)) (fun _ => ?_)
        refine x_aload_n dX9_readClause_91 rfl rfl ?_
        refine x_iconst (v := 0) dX9_readClause_92 (by decide) ?_
        refine x_cV1 dX9_readClause_93 lv_X9_79 (kc hi kf_8) rfl rfl rfl  (c_readMoreParts_e0 (d := d + 57) hi hl hT h3 ?_)
        refine x_if_eq (tgt := 103) dX9_readClause_96 (by decide) (fun z => absurd z (by decide)) (fun _ => ?_)
        refine x_iconst (v := 1) dX9_readClause_99 (by decide) ?_
        refine x_goto (tgt := 104) dX9_readClause_100 (by decide) ?_
        refine x_loc _ (?_ : lle _ _) (hh 1 (Or.inr ⟨rfl, h3⟩))
        exact ⟨rfl, rfl, rfl, trivial⟩
  · rw [herr, pBind_er, pBind_er, pBind_er] at hq
    have hh : ∀ w, (w = 0 ∨ w = 1 ∧ isDg b n x') → XJ G (d + 63) (0, 0) MX9_readClause (cm τ (rS κ (nI x') (nI m') f') Md) [(0, .ref (τ 8)), (1, .int 1), (2, .int 1)] [.int w] 104 Q := fun w hw => cl_104e (d := d) (f := f') hi hl hT g1 hw (fun m2 f2 h2 => hq.2 x' rfl 0 m2 f2 h2 (Or.inl rfl))
    rcases g2 with g2 | ⟨g2, g3⟩
    · subst g2
      refine x_if_eq (tgt := 103) dX9_readClause_80 (by decide) (fun _ => ?_) (fun z => absurd rfl z)
      refine x_iconst (v := 0) dX9_readClause_103 (by decide) ?_
      refine x_loc _ (?_ : lle _ _) (hh 0 (Or.inl rfl))
      exact ⟨rfl, rfl, rfl, trivial⟩
    · subst g2
      refine x_if_eq (tgt := 103) dX9_readClause_80 (by decide) (fun z => absurd z (by decide)) (fun _ => ?_)
      refine x_aload_n dX9_readClause_83 rfl rfl ?_
      refine x_iconst (v := 0) dX9_readClause_84 (by decide) ?_
      refine x_cV1 dX9_readClause_85 lv_X9_76 (kc hi kf_8) rfl rfl rfl  (c_readMoreUnits_e0 (d := d + 57) hi hl hT g3 ?_)
      refine x_if_eq (tgt := 103) dX9_readClause_88 (by decide) (fun z => absurd z (by decide)) (fun _ => ?_)
      refine x_aload_n dX9_readClause_91 rfl rfl ?_
      refine x_iconst (v := 0) dX9_readClause_92 (by decide) ?_
      refine x_cV1 dX9_readClause_93 lv_X9_79 (kc hi kf_8) rfl rfl rfl  (c_readMoreParts_e0 (d := d + 57) hi hl hT g3 ?_)
      refine x_if_eq (tgt := 103) dX9_readClause_96 (by decide) (fun z => absurd z (by decide)) (fun _ => ?_)
      refine x_iconst (v := 1) dX9_readClause_99 (by decide) ?_
      refine x_goto (tgt := 104) dX9_readClause_100 (by decide) ?_
      refine x_loc _ (?_ : lle _ _) (hh 1 (Or.inr ⟨rfl, g3⟩))
      exact ⟨rfl, rfl, rfl, trivial⟩
end CLS
