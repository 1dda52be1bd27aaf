/-! the class, 21: the numbers' pile; two numbers joined -/
/-- the pile holds these, the last pushed first -/
def StK (κ : MS) (st : List Int32) : Prop := κ.1 141 = nI st.length ∧ ∀ i, i < st.length → κ.2 19 (st.length - 1 - i) = st.getD i 0
def KN (κ κ' : MS) : Prop := (∀ k, ¬ k = 141 → κ'.1 k = κ.1 k) ∧ ∀ r, ¬ r = 19 → κ'.2 r = κ.2 r
theorem KN.rf {κ : MS} : KN κ κ := ⟨fun _ _ => rfl, fun _ _ => rfl⟩
theorem KN.tr {a b c : MS} (h1 : KN a b) (h2 : KN b c) : KN a c := ⟨fun k x => (h2.1 k x).trans (h1.1 k x), fun r x => (h2.2 r x).trans (h1.2 r x)⟩
theorem Kap_KN {σ κ κ' : MS} (h : KN κ κ') (hK : Kap σ κ) : Kap σ κ' := by
  obtain ⟨h1, h2, h3, ⟨t1, t2, t3, t4⟩, h5⟩ := hK
  unfold Kap TabK
  rw [h.1 0 (by decide), h.1 81 (by decide), h.1 92 (by decide), h.1 95 (by decide), h.2 17 (by decide), h.2 20 (by decide), h.2 21 (by decide), h.2 22 (by decide), h.2 23 (by decide)]
  exact ⟨h1, h2, h3, ⟨t1, t2, t3, t4⟩, fun p s hp hs => by rw [h.2 (30 + p) (by omega)]; exact h5 p s hp hs⟩
theorem seti_at {κ : MS} {k : Nat} {v : Int32} : (seti κ k v).1 k = v := updB_eq (f := κ.1) (k := k) (v := v)
section NUM
variable {G : Gam} {d : Nat} {τ : Nat → Nat} {ω : Nat → Nat → Nat} {ε : Nat → Nat} {σ κ : MS} {Md : Mem} {M : Mem} {Q : Option Value → Mem → Prop} {k : Nat}
theorem c_X3_clear (hi : adOK τ) (hq : ∀ κ', KN κ κ' → StK κ' [] → Q none (cm τ κ' Md)) : CT G d (0, 0) MX3_clear [.ref (τ 14)] (cm τ κ Md) Q := by
  refine CT.of rfl (Nat.le_of_ble_eq_true rfl) ?_
  refine x_aload_n dX3_clear_0 rfl rfl ?_
  refine x_iconst (v := 0) dX3_clear_1 (by decide) ?_
  refine xk_puti dX3_clear_2 lp_X3_15 (kc hi kf_14) rfl rfl (kp_14_1 hi) ?_
  exact x_return dX3_clear_5 rfl (hq _ ⟨fun k hk => seti_ne hk, fun _ _ => rfl⟩ ⟨rfl, fun i h => absurd h (Nat.not_lt_zero i)⟩)
theorem c_X3_push {v : Int32} {st : List Int32} (hi : adOK τ) (hS : StK κ st) (hl : st.length < 160) (hq : ∀ κ', KN κ κ' → StK κ' (v :: st) → Q none (cm τ κ' Md)) : CT G d (0, 0) MX3_push [.ref (τ 14), .int v] (cm τ κ Md) Q := by
  have e0 : κ.1 141 = nI st.length := hS.1
  have e1 : ∀ r i x, (seta κ r i x).1 141 = nI st.length := fun _ _ _ => e0
  refine CT.of rfl (Nat.le_of_ble_eq_true rfl) ?_
  refine x_aload_n dX3_push_0 rfl rfl ?_
  refine x_getf dX3_push_1 lf_X3_15 (kc hi kf_14) kv_14_1 ?_
  rw [e0]
  refine x_aload_n dX3_push_4 rfl rfl ?_
  refine x_getf dX3_push_5 lf_X3_9 (kc hi kf_14) kv_14_0 ?_
  refine x_alen dX3_push_8 (by decide) (by decide) (kc hi kf_19) ?_
  refine x_icmp_ge (tgt := 32) dX3_push_9 (by decide) (fun z => absurd z (Int32.not_le.mpr (nI_lt (b := 160) hl (by decide)))) (fun _ => ?_)
  refine x_aload_n dX3_push_12 rfl rfl ?_
  refine x_getf dX3_push_13 lf_X3_9 (kc hi kf_14) kv_14_0 ?_
  refine x_aload_n dX3_push_16 rfl rfl ?_
  refine x_getf dX3_push_17 lf_X3_15 (kc hi kf_14) kv_14_1 ?_
  rw [e0]
  refine x_iload_n dX3_push_20 rfl rfl ?_
  refine xk_iast 19 dX3_push_21 kf_19 rfl hi (vp_in_nI hl (by decide)) (nI_clamp (n := st.length) (by omega)) ?_
  refine x_aload_n dX3_push_22 rfl rfl ?_
  refine x_dup dX3_push_23 rfl ?_
  refine x_getf dX3_push_24 lf_X3_15 (kc hi kf_14) kv_14_1 ?_
  rw [e1]
  refine x_iconst (v := 1) dX3_push_27 (by decide) ?_
  refine x_iadd dX3_push_28 ?_
  rw [nI_1]
  refine xk_puti dX3_push_29 lp_X3_15 (kc hi kf_14) rfl rfl (kp_14_1 hi) ?_
  exact x_return dX3_push_32 rfl ((by
refine hq _ ⟨fun k hk => seti_ne hk, fun r hr => seta_ne (σ := κ) hr⟩ ⟨rfl, fun i hi2 => ?_⟩
show updB (κ.2 19) st.length v ((st.length + 1) - 1 - i) = _
rw [List.length_cons] at hi2
cases i with
| zero => rw [show st.length + 1 - 1 - 0 = st.length by omega, updB_eq]; rfl
| succ i =>
  rw [updB_ne (by omega), show st.length + 1 - 1 - (i + 1) = st.length - 1 - i by omega]
  exact hS.2 i (by omega)))
theorem c_X3_pop_n (hi : adOK τ) (hS : StK κ []) (hq : Q (some (.int 0)) (cm τ κ Md)) : CT G d (0, 0) MX3_pop [.ref (τ 14)] (cm τ κ Md) Q := by
  have e0 : κ.1 141 = nI 0 := hS.1
  refine CT.of rfl (Nat.le_of_ble_eq_true rfl) ?_
  refine x_aload_n dX3_pop_0 rfl rfl ?_
  refine x_getf dX3_pop_1 lf_X3_15 (kc hi kf_14) kv_14_1 ?_
  rw [e0]
  refine x_if_le (tgt := 19) dX3_pop_4 (by decide) (fun _ => ?_) (fun z => absurd (by decide) z)
  refine x_iconst (v := 0) dX3_pop_19 (by decide) ?_
  exact x_ireturn dX3_pop_20 rfl rfl (hq)
theorem c_X3_pop {v : Int32} {st : List Int32} (hi : adOK τ) (hS : StK κ (v :: st)) (hl : st.length < 160) (hq : ∀ κ', KN κ κ' → StK κ' st → Q (some (.int v)) (cm τ κ' Md)) : CT G d (0, 0) MX3_pop [.ref (τ 14)] (cm τ κ Md) Q := by
  have e0 : κ.1 141 = nI (st.length + 1) := hS.1
  have hv : κ.2 19 st.length = v := by
    have := hS.2 0 (by rw [List.length_cons]; omega)
    rw [List.length_cons, show st.length + 1 - 1 - 0 = st.length by omega] at this
    exact this
  refine CT.of rfl (Nat.le_of_ble_eq_true rfl) ?_
  refine x_aload_n dX3_pop_0 rfl rfl ?_
  refine x_getf dX3_pop_1 lf_X3_15 (kc hi kf_14) kv_14_1 ?_
  rw [e0]
  refine x_if_le (tgt := 19) dX3_pop_4 (by decide) (fun z => absurd z (Int32.not_le.mpr (by rw [Int32.lt_iff_toInt_lt, nI_toInt (by omega)]; show (0 : Int) < _; omega))) (fun _ => ?_)
  refine x_aload_n dX3_pop_7 rfl rfl ?_
  refine x_getf dX3_pop_8 lf_X3_15 (kc hi kf_14) kv_14_1 ?_
  rw [e0]
  refine x_aload_n dX3_pop_11 rfl rfl ?_
  refine x_getf dX3_pop_12 lf_X3_9 (kc hi kf_14) kv_14_0 ?_
  refine x_alen dX3_pop_15 (by decide) (by decide) (kc hi kf_19) ?_
  refine x_icmp_le (tgt := 21) dX3_pop_16 (by decide) (fun _ => ?_) (fun z => absurd (nI_le (b := 160) (by omega) (by decide)) z)
  refine x_aload_n dX3_pop_21 rfl rfl ?_
  refine x_dup dX3_pop_22 rfl ?_
  refine x_getf dX3_pop_23 lf_X3_15 (kc hi kf_14) kv_14_1 ?_
  rw [e0]
  refine x_iconst (v := 1) dX3_pop_26 (by decide) ?_
  refine x_isub dX3_pop_27 ?_
  rw [nI_pred]
  refine xk_puti dX3_pop_28 lp_X3_15 (kc hi kf_14) rfl rfl (kp_14_1 hi) ?_
  refine x_aload_n dX3_pop_31 rfl rfl ?_
  refine x_getf dX3_pop_32 lf_X3_9 (kc hi kf_14) kv_14_0 ?_
  refine x_aload_n dX3_pop_35 rfl rfl ?_
  refine x_getf dX3_pop_36 lf_X3_15 (kc hi kf_14) kv_14_1 ?_
  rw [seti_at]
  refine xk_iald 19 dX3_pop_39 kf_19 rfl hi (vp_in_nI hl (by decide)) (nI_clamp (n := st.length) (by omega)) ?_
  exact x_ireturn dX3_pop_40 rfl rfl ((by
refine fin (hq _ ⟨fun k hk => seti_ne hk, fun _ _ => rfl⟩ ⟨seti_at, fun i hi2 => ?_⟩) hv.symm
have := hS.2 (i + 1) (by rw [List.length_cons]; omega)
rw [List.length_cons, show st.length + 1 - 1 - (i + 1) = st.length - 1 - i by omega] at this
exact this))
theorem c_X6_joined {c l r : Int32} (hq : Q (some (.int (jn c l r))) M) : CT G (d + 1) (0, 0) MX6_joined [.int c, .int l, .int r] M Q := by
  have hb : ∀ x : Int64, Q (some (.int (lBound x))) M → XJ G (d + 1) (0, 0) MX6_joined M [(0, .int c), (1, .int l), (2, .int r), (3, .long x)] [] 214 Q := fun x hx => by
    refine x_ldc2 dX6_joined_214 tb700 ?_
    refine x_ldc2 dX6_joined_217 tb701 ?_
    refine x_lload_n dX6_joined_220 rfl rfl ?_
    refine x_cS2 dX6_joined_221 ls_X6_57 rfl  (c_J9_min_f86c9 ?_)
    refine x_cS2 dX6_joined_224 ls_X6_63 rfl  (c_J9_max_f86c9 ?_)
    refine x_l2i dX6_joined_227 ?_
    exact x_ireturn dX6_joined_228 rfl rfl (hx)
  refine CT.of rfl (Nat.le_of_ble_eq_true rfl) ?_
  refine x_iload_n dX6_joined_0 rfl rfl ?_
  unfold jn at hq
  have hor : (∀ x ∈ [(43 : Int32), 45, 42, 47, 61, 60, 62, 38], c ≠ x) → XJ G (d + 1) (0, 0) MX6_joined M [(0, .int c), (1, .int l), (2, .int r)] [] 209 Q := fun h => by
    rw [if_neg (h 43 (by decide)), if_neg (h 45 (by decide)), if_neg (h 42 (by decide)), if_neg (h 47 (by decide)), if_neg (h 61 (by decide)), if_neg (h 60 (by decide)), if_neg (h 62 (by decide)), if_neg (h 38 (by decide))] at hq
    refine x_iload_n dX6_joined_209 rfl rfl ?_
    refine x_iload_n dX6_joined_210 rfl rfl ?_
    refine x_ior dX6_joined_211 ?_
    refine x_i2l dX6_joined_212 ?_
    refine x_lstore_n dX6_joined_213 rfl (by decide) ?_
    refine x_loc _ (?_ : lle _ _) (hb _ hq)
    exact ⟨rfl, rfl, rfl, rfl, trivial⟩
  by_cases hin : 38 ≤ c ∧ c ≤ 62
  · obtain ⟨j, hj, hjc⟩ : ∃ j : Nat, j ≤ 24 ∧ c = nI (38 + j) := by
      obtain ⟨m, hm, rfl⟩ := nI_of2 (M := 62) (n := 62) (x := c) rfl (Int32.not_lt.mpr (Int32.le_trans (by decide) hin.1)) hin.2
      have h1 := Int32.le_iff_toInt_le.mp hin.1
      rw [nI_toInt (by omega)] at h1
      have e38 : (38 : Int32).toInt = 38 := rfl
      rw [e38] at h1
      exact ⟨m - 38, by omega, by rw [show 38 + (m - 38) = m by omega]⟩
    have hj7 : j = 0 ∨ j = 1 ∨ j = 2 ∨ j = 3 ∨ j = 4 ∨ j = 5 ∨ j = 6 ∨ j = 7 ∨ j = 8 ∨ j = 9 ∨ j = 10 ∨ j = 11 ∨ j = 12 ∨ j = 13 ∨ j = 14 ∨ j = 15 ∨ j = 16 ∨ j = 17 ∨ j = 18 ∨ j = 19 ∨ j = 20 ∨ j = 21 ∨ j = 22 ∨ j = 23 ∨ j = 24 := by omega
    rcases hj7 with rfl | rfl | rfl | rfl | rfl | rfl | rfl | rfl | rfl | rfl | rfl | rfl | rfl | rfl | rfl | rfl | rfl | rfl | rfl | rfl | rfl | rfl | rfl | rfl | rfl
    · have hc0 : c = nI 38 := hjc
      subst hc0
      refine x_tableIn (off := 200) (tgt := 201) dX6_joined_1 (by decide) (by decide) (by decide) (by decide) ?_
      rw [if_neg (show ¬ (nI 38 : Int32) = 43 by decide), if_neg (show ¬ (nI 38 : Int32) = 45 by decide), if_neg (show ¬ (nI 38 : Int32) = 42 by decide), if_neg (show ¬ (nI 38 : Int32) = 47 by decide), if_neg (show ¬ (nI 38 : Int32) = 61 by decide), if_neg (show ¬ (nI 38 : Int32) = 60 by decide), if_neg (show ¬ (nI 38 : Int32) = 62 by decide), if_pos (show (nI 38 : Int32) = 38 by decide)] at hq
      refine x_iload_n dX6_joined_201 rfl rfl ?_
      refine x_iload_n dX6_joined_202 rfl rfl ?_
      refine x_iand dX6_joined_203 ?_
      refine x_i2l dX6_joined_204 ?_
      refine x_lstore_n dX6_joined_205 rfl (by decide) ?_
      refine x_goto (tgt := 214) dX6_joined_206 (by decide) ?_
      refine x_loc _ (?_ : lle _ _) (hb _ hq)
      exact ⟨rfl, rfl, rfl, rfl, trivial⟩
    · have hc1 : c = nI 39 := hjc
      subst hc1
      refine x_tableIn (off := 208) (tgt := 209) dX6_joined_1 (by decide) (by decide) (by decide) (by decide) ?_
      exact hor (by decide)
    · have hc2 : c = nI 40 := hjc
      subst hc2
      refine x_tableIn (off := 208) (tgt := 209) dX6_joined_1 (by decide) (by decide) (by decide) (by decide) ?_
      exact hor (by decide)
    · have hc3 : c = nI 41 := hjc
      subst hc3
      refine x_tableIn (off := 208) (tgt := 209) dX6_joined_1 (by decide) (by decide) (by decide) (by decide) ?_
      exact hor (by decide)
    · have hc4 : c = nI 42 := hjc
      subst hc4
      refine x_tableIn (off := 133) (tgt := 134) dX6_joined_1 (by decide) (by decide) (by decide) (by decide) ?_
      rw [if_neg (show ¬ (nI 42 : Int32) = 43 by decide), if_neg (show ¬ (nI 42 : Int32) = 45 by decide), if_pos (show (nI 42 : Int32) = 42 by decide)] at hq
      refine x_iload_n dX6_joined_134 rfl rfl ?_
      refine x_i2l dX6_joined_135 ?_
      refine x_iload_n dX6_joined_136 rfl rfl ?_
      refine x_i2l dX6_joined_137 ?_
      refine x_lmul dX6_joined_138 ?_
      refine x_lstore_n dX6_joined_139 rfl (by decide) ?_
      refine x_goto (tgt := 214) dX6_joined_140 (by decide) ?_
      refine x_loc _ (?_ : lle _ _) (hb _ hq)
      exact ⟨rfl, rfl, rfl, rfl, trivial⟩
    · have hc5 : c = nI 43 := hjc
      subst hc5
      refine x_tableIn (off := 115) (tgt := 116) dX6_joined_1 (by decide) (by decide) (by decide) (by decide) ?_
      rw [if_pos (show (nI 43 : Int32) = 43 by decide)] at hq
      refine x_iload_n dX6_joined_116 rfl rfl ?_
      refine x_i2l dX6_joined_117 ?_
      refine x_iload_n dX6_joined_118 rfl rfl ?_
      refine x_i2l dX6_joined_119 ?_
      refine x_ladd dX6_joined_120 ?_
      refine x_lstore_n dX6_joined_121 rfl (by decide) ?_
      refine x_goto (tgt := 214) dX6_joined_122 (by decide) ?_
      refine x_loc _ (?_ : lle _ _) (hb _ hq)
      exact ⟨rfl, rfl, rfl, rfl, trivial⟩
    · have hc6 : c = nI 44 := hjc
      subst hc6
      refine x_tableIn (off := 208) (tgt := 209) dX6_joined_1 (by decide) (by decide) (by decide) (by decide) ?_
      exact hor (by decide)
    · have hc7 : c = nI 45 := hjc
      subst hc7
      refine x_tableIn (off := 124) (tgt := 125) dX6_joined_1 (by decide) (by decide) (by decide) (by decide) ?_
      rw [if_neg (show ¬ (nI 45 : Int32) = 43 by decide), if_pos (show (nI 45 : Int32) = 45 by decide)] at hq
      refine x_iload_n dX6_joined_125 rfl rfl ?_
      refine x_i2l dX6_joined_126 ?_
      refine x_iload_n dX6_joined_127 rfl rfl ?_
      refine x_i2l dX6_joined_128 ?_
      refine x_lsub dX6_joined_129 ?_
      refine x_lstore_n dX6_joined_130 rfl (by decide) ?_
      refine x_goto (tgt := 214) dX6_joined_131 (by decide) ?_
      refine x_loc _ (?_ : lle _ _) (hb _ hq)
      exact ⟨rfl, rfl, rfl, rfl, trivial⟩
    · have hc8 : c = nI 46 := hjc
      subst hc8
      refine x_tableIn (off := 208) (tgt := 209) dX6_joined_1 (by decide) (by decide) (by decide) (by decide) ?_
      exact hor (by decide)
    · have hc9 : c = nI 47 := hjc
      subst hc9
      refine x_tableIn (off := 142) (tgt := 143) dX6_joined_1 (by decide) (by decide) (by decide) (by decide) ?_
      rw [if_neg (show ¬ (nI 47 : Int32) = 43 by decide), if_neg (show ¬ (nI 47 : Int32) = 45 by decide), if_neg (show ¬ (nI 47 : Int32) = 42 by decide), if_pos (show (nI 47 : Int32) = 47 by decide)] at hq
      refine x_iload_n dX6_joined_143 rfl rfl ?_
      refine x_if_ne (tgt := 151) dX6_joined_144 (by decide) (fun h144 => ?_) (fun h144 => ?_)
      · refine x_iload_n dX6_joined_151 rfl rfl ?_
        refine x_iload_n dX6_joined_152 rfl rfl ?_
        refine x_idiv dX6_joined_153 h144 ?_
        refine x_i2l dX6_joined_154 ?_
        refine x_lstore_n dX6_joined_155 rfl (by decide) ?_
        refine x_goto (tgt := 214) dX6_joined_156 (by decide) ?_
        first
        | (have hz : ¬ r = 0 := h144
           rw [if_neg h144] at hq
           refine x_loc _ (?_ : lle _ _) (hb _ hq)
           exact ⟨rfl, rfl, rfl, rfl, trivial⟩)
        | (rw [if_pos (Classical.not_not.mp h144)] at hq
           refine x_loc _ (?_ : lle _ _) (hb _ hq)
           exact ⟨rfl, rfl, rfl, rfl, trivial⟩)
        | (rw [if_pos h144] at hq
           refine x_loc _ (?_ : lle _ _) (hb _ hq)
           exact ⟨rfl, rfl, rfl, rfl, trivial⟩)
      · refine x_lconst (v := 0) dX6_joined_147 (by decide) ?_
        refine x_goto (tgt := 155) dX6_joined_148 (by decide) ?_
        refine x_lstore_n dX6_joined_155 rfl (by decide) ?_
        refine x_goto (tgt := 214) dX6_joined_156 (by decide) ?_
        first
        | (have hz : ¬ r = 0 := h144
           rw [if_neg h144] at hq
           refine x_loc _ (?_ : lle _ _) (hb _ hq)
           exact ⟨rfl, rfl, rfl, rfl, trivial⟩)
        | (rw [if_pos (Classical.not_not.mp h144)] at hq
           refine x_loc _ (?_ : lle _ _) (hb _ hq)
           exact ⟨rfl, rfl, rfl, rfl, trivial⟩)
        | (rw [if_pos h144] at hq
           refine x_loc _ (?_ : lle _ _) (hb _ hq)
           exact ⟨rfl, rfl, rfl, rfl, trivial⟩)
    · have hc10 : c = nI 48 := hjc
      subst hc10
      refine x_tableIn (off := 208) (tgt := 209) dX6_joined_1 (by decide) (by decide) (by decide) (by decide) ?_
      exact hor (by decide)
    · have hc11 : c = nI 49 := hjc
      subst hc11
      refine x_tableIn (off := 208) (tgt := 209) dX6_joined_1 (by decide) (by decide) (by decide) (by decide) ?_
      exact hor (by decide)
    · have hc12 : c = nI 50 := hjc
      subst hc12
      refine x_tableIn (off := 208) (tgt := 209) dX6_joined_1 (by decide) (by decide) (by decide) (by decide) ?_
      exact hor (by decide)
    · have hc13 : c = nI 51 := hjc
      subst hc13
      refine x_tableIn (off := 208) (tgt := 209) dX6_joined_1 (by decide) (by decide) (by decide) (by decide) ?_
      exact hor (by decide)
    · have hc14 : c = nI 52 := hjc
      subst hc14
      refine x_tableIn (off := 208) (tgt := 209) dX6_joined_1 (by decide) (by decide) (by decide) (by decide) ?_
      exact hor (by decide)
    · have hc15 : c = nI 53 := hjc
      subst hc15
      refine x_tableIn (off := 208) (tgt := 209) dX6_joined_1 (by decide) (by decide) (by decide) (by decide) ?_
      exact hor (by decide)
    · have hc16 : c = nI 54 := hjc
      subst hc16
      refine x_tableIn (off := 208) (tgt := 209) dX6_joined_1 (by decide) (by decide) (by decide) (by decide) ?_
      exact hor (by decide)
    · have hc17 : c = nI 55 := hjc
      subst hc17
      refine x_tableIn (off := 208) (tgt := 209) dX6_joined_1 (by decide) (by decide) (by decide) (by decide) ?_
      exact hor (by decide)
    · have hc18 : c = nI 56 := hjc
      subst hc18
      refine x_tableIn (off := 208) (tgt := 209) dX6_joined_1 (by decide) (by decide) (by decide) (by decide) ?_
      exact hor (by decide)
    · have hc19 : c = nI 57 := hjc
      subst hc19
      refine x_tableIn (off := 208) (tgt := 209) dX6_joined_1 (by decide) (by decide) (by decide) (by decide) ?_
      exact hor (by decide)
    · have hc20 : c = nI 58 := hjc
      subst hc20
      refine x_tableIn (off := 208) (tgt := 209) dX6_joined_1 (by decide) (by decide) (by decide) (by decide) ?_
      exact hor (by decide)
    · have hc21 : c = nI 59 := hjc
      subst hc21
      refine x_tableIn (off := 208) (tgt := 209) dX6_joined_1 (by decide) (by decide) (by decide) (by decide) ?_
      exact hor (by decide)
    · have hc22 : c = nI 60 := hjc
      subst hc22
      refine x_tableIn (off := 172) (tgt := 173) dX6_joined_1 (by decide) (by decide) (by decide) (by decide) ?_
      rw [if_neg (show ¬ (nI 60 : Int32) = 43 by decide), if_neg (show ¬ (nI 60 : Int32) = 45 by decide), if_neg (show ¬ (nI 60 : Int32) = 42 by decide), if_neg (show ¬ (nI 60 : Int32) = 47 by decide), if_neg (show ¬ (nI 60 : Int32) = 61 by decide), if_pos (show (nI 60 : Int32) = 60 by decide)] at hq
      refine x_iload_n dX6_joined_173 rfl rfl ?_
      refine x_iload_n dX6_joined_174 rfl rfl ?_
      refine x_icmp_ge (tgt := 182) dX6_joined_175 (by decide) (fun h175 => ?_) (fun h175 => ?_)
      · refine x_lconst (v := 0) dX6_joined_182 (by decide) ?_
        refine x_lstore_n dX6_joined_183 rfl (by decide) ?_
        refine x_goto (tgt := 214) dX6_joined_184 (by decide) ?_
        first
        | (have hz : l < r := Int32.not_le.mp h175
           rw [if_pos hz] at hq
           refine x_loc _ (?_ : lle _ _) (hb 1 (by rw [show lBound 1 = 1 by decide]; exact hq))
           exact ⟨rfl, rfl, rfl, rfl, trivial⟩)
        | (have hz : ¬ l < r := Int32.not_lt.mpr h175
           rw [if_neg hz] at hq
           refine x_loc _ (?_ : lle _ _) (hb 0 (by rw [show lBound 0 = 0 by decide]; exact hq))
           exact ⟨rfl, rfl, rfl, rfl, trivial⟩)
      · refine x_lconst (v := 1) dX6_joined_178 (by decide) ?_
        refine x_goto (tgt := 183) dX6_joined_179 (by decide) ?_
        refine x_lstore_n dX6_joined_183 rfl (by decide) ?_
        refine x_goto (tgt := 214) dX6_joined_184 (by decide) ?_
        first
        | (have hz : l < r := Int32.not_le.mp h175
           rw [if_pos hz] at hq
           refine x_loc _ (?_ : lle _ _) (hb 1 (by rw [show lBound 1 = 1 by decide]; exact hq))
           exact ⟨rfl, rfl, rfl, rfl, trivial⟩)
        | (have hz : ¬ l < r := Int32.not_lt.mpr h175
           rw [if_neg hz] at hq
           refine x_loc _ (?_ : lle _ _) (hb 0 (by rw [show lBound 0 = 0 by decide]; exact hq))
           exact ⟨rfl, rfl, rfl, rfl, trivial⟩)
    · have hc23 : c = nI 61 := hjc
      subst hc23
      refine x_tableIn (off := 158) (tgt := 159) dX6_joined_1 (by decide) (by decide) (by decide) (by decide) ?_
      rw [if_neg (show ¬ (nI 61 : Int32) = 43 by decide), if_neg (show ¬ (nI 61 : Int32) = 45 by decide), if_neg (show ¬ (nI 61 : Int32) = 42 by decide), if_neg (show ¬ (nI 61 : Int32) = 47 by decide), if_pos (show (nI 61 : Int32) = 61 by decide)] at hq
      refine x_iload_n dX6_joined_159 rfl rfl ?_
      refine x_iload_n dX6_joined_160 rfl rfl ?_
      refine x_icmp_ne (tgt := 168) dX6_joined_161 (by decide) (fun h161 => ?_) (fun h161 => ?_)
      · refine x_lconst (v := 0) dX6_joined_168 (by decide) ?_
        refine x_lstore_n dX6_joined_169 rfl (by decide) ?_
        refine x_goto (tgt := 214) dX6_joined_170 (by decide) ?_
        first
        | (have hz : l = r := h161
           rw [if_pos hz] at hq
           refine x_loc _ (?_ : lle _ _) (hb 1 (by rw [show lBound 1 = 1 by decide]; exact hq))
           exact ⟨rfl, rfl, rfl, rfl, trivial⟩)
        | (have hz : ¬ l = r := h161
           rw [if_neg hz] at hq
           refine x_loc _ (?_ : lle _ _) (hb 0 (by rw [show lBound 0 = 0 by decide]; exact hq))
           exact ⟨rfl, rfl, rfl, rfl, trivial⟩)
      · refine x_lconst (v := 1) dX6_joined_164 (by decide) ?_
        refine x_goto (tgt := 169) dX6_joined_165 (by decide) ?_
        refine x_lstore_n dX6_joined_169 rfl (by decide) ?_
        refine x_goto (tgt := 214) dX6_joined_170 (by decide) ?_
        first
        | (have hz : l = r := h161
           rw [if_pos hz] at hq
           refine x_loc _ (?_ : lle _ _) (hb 1 (by rw [show lBound 1 = 1 by decide]; exact hq))
           exact ⟨rfl, rfl, rfl, rfl, trivial⟩)
        | (have hz : ¬ l = r := h161
           rw [if_neg hz] at hq
           refine x_loc _ (?_ : lle _ _) (hb 0 (by rw [show lBound 0 = 0 by decide]; exact hq))
           exact ⟨rfl, rfl, rfl, rfl, trivial⟩)
    · have hc24 : c = nI 62 := hjc
      subst hc24
      refine x_tableIn (off := 186) (tgt := 187) dX6_joined_1 (by decide) (by decide) (by decide) (by decide) ?_
      rw [if_neg (show ¬ (nI 62 : Int32) = 43 by decide), if_neg (show ¬ (nI 62 : Int32) = 45 by decide), if_neg (show ¬ (nI 62 : Int32) = 42 by decide), if_neg (show ¬ (nI 62 : Int32) = 47 by decide), if_neg (show ¬ (nI 62 : Int32) = 61 by decide), if_neg (show ¬ (nI 62 : Int32) = 60 by decide), if_pos (show (nI 62 : Int32) = 62 by decide)] at hq
      refine x_iload_n dX6_joined_187 rfl rfl ?_
      refine x_iload_n dX6_joined_188 rfl rfl ?_
      refine x_icmp_le (tgt := 196) dX6_joined_189 (by decide) (fun h189 => ?_) (fun h189 => ?_)
      · refine x_lconst (v := 0) dX6_joined_196 (by decide) ?_
        refine x_lstore_n dX6_joined_197 rfl (by decide) ?_
        refine x_goto (tgt := 214) dX6_joined_198 (by decide) ?_
        first
        | (have hz : r < l := Int32.not_le.mp h189
           rw [if_pos hz] at hq
           refine x_loc _ (?_ : lle _ _) (hb 1 (by rw [show lBound 1 = 1 by decide]; exact hq))
           exact ⟨rfl, rfl, rfl, rfl, trivial⟩)
        | (have hz : ¬ r < l := Int32.not_lt.mpr h189
           rw [if_neg hz] at hq
           refine x_loc _ (?_ : lle _ _) (hb 0 (by rw [show lBound 0 = 0 by decide]; exact hq))
           exact ⟨rfl, rfl, rfl, rfl, trivial⟩)
      · refine x_lconst (v := 1) dX6_joined_192 (by decide) ?_
        refine x_goto (tgt := 197) dX6_joined_193 (by decide) ?_
        refine x_lstore_n dX6_joined_197 rfl (by decide) ?_
        refine x_goto (tgt := 214) dX6_joined_198 (by decide) ?_
        first
        | (have hz : r < l := Int32.not_le.mp h189
           rw [if_pos hz] at hq
           refine x_loc _ (?_ : lle _ _) (hb 1 (by rw [show lBound 1 = 1 by decide]; exact hq))
           exact ⟨rfl, rfl, rfl, rfl, trivial⟩)
        | (have hz : ¬ r < l := Int32.not_lt.mpr h189
           rw [if_neg hz] at hq
           refine x_loc _ (?_ : lle _ _) (hb 0 (by rw [show lBound 0 = 0 by decide]; exact hq))
           exact ⟨rfl, rfl, rfl, rfl, trivial⟩)
  · refine x_tableOut (tgt := 209) dX6_joined_1 ?_ (by decide) ?_
    · rw [Int32.le_iff_toInt_le, Int32.le_iff_toInt_le] at hin
      have e0 : (38 : Int32).toInt = 38 := rfl
      have e1 : (62 : Int32).toInt = 62 := rfl
      rw [e0, e1] at hin
      omega
    · refine hor (fun x hx z => hin ?_)
      subst z
      have : ∀ x ∈ [(43 : Int32), 45, 42, 47, 61, 60, 62, 38], 38 ≤ x ∧ x ≤ 62 := by decide
      exact this c hx
end NUM
