/-! the class, 19: the tape is fed -/
theorem and255 (a b : Int32) (h : ∀ j, j < 8 → a.toBitVec.getLsbD j = b.toBitVec.getLsbD j) : a &&& 255 = b &&& 255 := by
  rw [← Int32.toBitVec_inj, Int32.toBitVec_and, Int32.toBitVec_and]
  refine BitVec.eq_of_getLsbD_eq (fun j hj => ?_)
  rw [BitVec.getLsbD_and, BitVec.getLsbD_and]
  by_cases e : j < 8
  · rw [h j e]
  · have : (Int32.toBitVec 255).getLsbD j = false := by
      have : ∀ j, j < 32 → ¬ j < 8 → (Int32.toBitVec 255).getLsbD j = false := by decide
      exact this j hj e
    rw [this, Bool.and_false, Bool.and_false]
theorem by_u {v : Int32} {i : Nat} (h : i < 4) : (v.toUInt32 >>> ((nI (24 - 8 * i)).toUInt32 &&& Int32.toUInt32 31)).toInt32 &&& 255 = (v >>> ((nI (24 - 8 * i)) &&& 31)) &&& 255 := by
  refine and255 _ _ (fun j hj => ?_)
  have h4 : i = 0 ∨ i = 1 ∨ i = 2 ∨ i = 3 := by omega
  rw [Int32.toBitVec_shiftRight]
  show (v.toUInt32 >>> ((nI (24 - 8 * i)).toUInt32 &&& Int32.toUInt32 31)).toBitVec.getLsbD j = _
  rw [UInt32.toBitVec_shiftRight]
  rcases h4 with rfl | rfl | rfl | rfl
  · show (v.toBitVec >>> (24#32)).getLsbD j = (v.toBitVec.sshiftRight' (24#32)).getLsbD j
    rw [BitVec.ushiftRight_eq', BitVec.sshiftRight_eq', BitVec.getLsbD_ushiftRight, BitVec.getLsbD_sshiftRight, show decide (32 ≤ j) = false from decide_eq_false (by omega), if_pos (by show 24 + j < 32; omega)]
    rfl
  · show (v.toBitVec >>> (16#32)).getLsbD j = (v.toBitVec.sshiftRight' (16#32)).getLsbD j
    rw [BitVec.ushiftRight_eq', BitVec.sshiftRight_eq', BitVec.getLsbD_ushiftRight, BitVec.getLsbD_sshiftRight, show decide (32 ≤ j) = false from decide_eq_false (by omega), if_pos (by show 16 + j < 32; omega)]
    rfl
  · show (v.toBitVec >>> (8#32)).getLsbD j = (v.toBitVec.sshiftRight' (8#32)).getLsbD j
    rw [BitVec.ushiftRight_eq', BitVec.sshiftRight_eq', BitVec.getLsbD_ushiftRight, BitVec.getLsbD_sshiftRight, show decide (32 ≤ j) = false from decide_eq_false (by omega), if_pos (by show 8 + j < 32; omega)]
    rfl
  · show (v.toBitVec >>> (0#32)).getLsbD j = (v.toBitVec.sshiftRight' (0#32)).getLsbD j
    rw [BitVec.ushiftRight_eq', BitVec.sshiftRight_eq', BitVec.getLsbD_ushiftRight, BitVec.getLsbD_sshiftRight, show decide (32 ≤ j) = false from decide_eq_false (by omega), if_pos (by show 0 + j < 32; omega)]
    rfl
theorem by_c {x : Int32} (h0 : 0 ≤ x) (h1 : x ≤ 255) : ((x.toUInt32 % 65536).toInt32).toUInt32.toUInt16.toUInt32.toInt32 = x := by
  obtain ⟨n, hn, rfl⟩ := nI_of2 (M := 255) (n := 255) rfl (Int32.not_lt.mpr h0) h1
  have : ∀ n, n ≤ 255 → (((nI n).toUInt32 % 65536).toInt32).toUInt32.toUInt16.toUInt32.toInt32 = nI n := by
    have h : ∀ n, n < 256 → (((nI n).toUInt32 % 65536).toInt32).toUInt32.toUInt16.toUInt32.toInt32 = nI n := by decide +kernel
    exact fun n hn => h n (by omega)
  exact this n hn
theorem by_s (w : Int32) : ((w.toInt8.toInt32).toInt8.toInt32) &&& 255 = w &&& 255 := by
  refine and255 _ _ (fun j hj => ?_)
  have h32 : j < 32 := by omega
  simp only [Int8.toBitVec_toInt32, Int32.toBitVec_toInt8, BitVec.getLsbD_signExtend, BitVec.getLsbD_setWidth]
  simp [hj, h32, BitVec.getElem_signExtend]
theorem by_r (w : Int32) : 0 ≤ w &&& 255 ∧ w &&& 255 ≤ 255 := by
  have h : (w &&& 255).toBitVec.toNat ≤ 255 := by
    rw [Int32.toBitVec_and, BitVec.toNat_and]
    exact Nat.and_le_right
  have h2 : (w &&& 255).toInt = ((w &&& 255).toBitVec.toNat : Int) := by
    show (w &&& 255).toBitVec.toInt = _
    rw [BitVec.toInt_eq_toNat_cond, if_pos (by omega)]
  rw [Int32.le_iff_toInt_le, Int32.le_iff_toInt_le, h2]
  constructor
  · show (0 : Int) ≤ _; omega
  · show _ ≤ (255 : Int); omega
def KF (κ κ' : MS) : Prop := (∀ k, ¬ k = 81 → κ'.1 k = κ.1 k) ∧ ∀ r, ¬ r = 17 → κ'.2 r = κ.2 r
theorem KF.rf {κ : MS} : KF κ κ := ⟨fun _ _ => rfl, fun _ _ => rfl⟩
theorem KF.tr {a b c : MS} (h1 : KF a b) (h2 : KF b c) : KF a c := ⟨fun k x => (h2.1 k x).trans (h1.1 k x), fun r x => (h2.2 r x).trans (h1.2 r x)⟩
/-- the tape's signs -/
def Tp (σ κ : MS) : Prop := κ.1 81 = σ.1 24 ∧ ∀ i, i < cn σ 24 → κ.2 17 i = σ.2 18 i &&& 255
theorem Kap_KF {σ σ' κ κ' : MS} (h : KF κ κ') (h1 : ∀ k, k ≠ 24 → σ'.1 k = σ.1 k) (h2 : ∀ r, r ≠ 18 → σ'.2 r = σ.2 r) (hT : Tp σ' κ') (hK : Kap σ κ) : Kap σ' κ' := by
  obtain ⟨k1, -, -, ⟨t1, t2, t3, t4⟩, k5⟩ := hK
  refine ⟨?_, hT.1, hT.2, ⟨?_, ?_, ?_, ?_⟩, ?_⟩
  · rw [h1 1 (by decide), h.1 0 (by decide)]; exact k1
  · rw [h1 59 (by decide), h.1 92 (by decide)]; exact t1
  · rw [h1 60 (by decide), h.1 95 (by decide)]; exact t2
  · unfold cn
    rw [h1 59 (by decide), h2 53 (by decide), h2 54 (by decide), h.2 20 (by decide), h.2 21 (by decide)]; exact t3
  · unfold cn
    rw [h1 60 (by decide), h2 55 (by decide), h2 56 (by decide), h.2 22 (by decide), h.2 23 (by decide)]; exact t4
  · intro p s hp hs
    rw [h2 50 (by decide), h.2 (30 + p) (by omega)]; exact k5 p s hp hs
noncomputable def cb (v : Int32) (n : Nat) : Int32 := fold (fun t c => if (v >>> ((nI (24 - 8 * (3 - t))) &&& 31)) &&& 255 = 0 then c else c + 1) 0 n
def stB (v : Int32) (i : Nat) (c : Int32) : Int32 := if (v >>> ((nI (24 - 8 * i)) &&& 31)) &&& 255 = 0 then c else c + 1
theorem cb_4 (v : Int32) : cb v 4 = spBytes v 4 := by
  have e1 : cb v 4 = stB v 0 (stB v 1 (stB v 2 (stB v 3 0))) := rfl
  have e2 : spBytes v 4 = stB v 3 (stB v 2 (stB v 1 (stB v 0 0))) := rfl
  rw [e1, e2]
  unfold stB
  by_cases h0 : (v >>> ((nI (24 - 8 * 0)) &&& 31)) &&& 255 = 0 <;> by_cases h1 : (v >>> ((nI (24 - 8 * 1)) &&& 31)) &&& 255 = 0 <;> by_cases h2 : (v >>> ((nI (24 - 8 * 2)) &&& 31)) &&& 255 = 0 <;> by_cases h3 : (v >>> ((nI (24 - 8 * 3)) &&& 31)) &&& 255 = 0 <;> simp only [h0, h1, h2, h3, if_true, if_false]
theorem by_u' {v : Int32} {i : Nat} (h : i < 4) : (v.toUInt32 >>> ((nI (8 * i)).toUInt32 &&& Int32.toUInt32 31)).toInt32 &&& 255 = (v >>> ((nI (24 - 8 * (3 - i))) &&& 31)) &&& 255 := by
  rw [show 8 * i = 24 - 8 * (3 - i) by omega]
  exact by_u (by omega)
section FED
variable {G : Gam} {d : Nat} {τ : Nat → Nat} {ω : Nat → Nat → Nat} {ε : Nat → Nat} {σ κ : MS} {Md : Mem} {M : Mem} {Q : Option Value → Mem → Prop} {k : Nat}
theorem c_X11_bytesIn {v : Int32} (hq : Q (some (.int (spBytes v 4))) M) : CT G d (0, 0) MX11_bytesIn [.int v] M Q := by
  rw [← cb_4] at hq
  refine CT.of rfl (Nat.le_of_ble_eq_true rfl) ?_
  refine x_iconst (v := 0) dX11_bytesIn_0 (by decide) ?_
  refine x_istore_n dX11_bytesIn_1 rfl (by decide) ?_
  refine x_iconst (v := 0) dX11_bytesIn_2 (by decide) ?_
  refine x_istore_n dX11_bytesIn_3 rfl (by decide) ?_
  refine x_loc [(0, .int v), (1, .int (cb v 0)), (2, .int (nI (8 * 0)))] ⟨rfl, rfl, rfl, trivial⟩ ?_
  refine loop_up (P := fun i => XJ G d (0, 0) MX11_bytesIn (M) [(0, .int v), (1, .int (cb v i)), (2, .int (nI (8 * i)))] [] 4 Q) (n := 4) ?_ ?_ 0 (Nat.zero_le _)
  · refine x_iload_n dX11_bytesIn_4 rfl rfl ?_
    refine x_bipush (v := 24) dX11_bytesIn_5 (by decide) ?_
    refine x_icmp_gt (tgt := 29) dX11_bytesIn_7 (by decide) (fun _ => ?_) (fun z => absurd (by decide) z)
    refine x_iload_n dX11_bytesIn_29 rfl rfl ?_
    exact x_ireturn dX11_bytesIn_30 rfl rfl (hq)
  · intro i hlt ih
    refine x_iload_n dX11_bytesIn_4 rfl rfl ?_
    refine x_bipush (v := 24) dX11_bytesIn_5 (by decide) ?_
    refine x_icmp_gt (tgt := 29) dX11_bytesIn_7 (by decide) (fun z => absurd z (Int32.not_lt.mpr (nI_le (b := 24) (by omega) (by decide)))) (fun _ => ?_)
    refine x_iload_n dX11_bytesIn_10 rfl rfl ?_
    refine x_iload_n dX11_bytesIn_11 rfl rfl ?_
    refine x_iushr dX11_bytesIn_12 ?_
    refine x_sipush (v := 255) dX11_bytesIn_13 (by decide) ?_
    refine x_iand dX11_bytesIn_16 ?_
    rw [by_u' hlt]
    refine x_if_eq (tgt := 23) dX11_bytesIn_17 (by decide) (fun h17 => ?_) (fun h17 => ?_)
    · refine x_iinc (c := 8) dX11_bytesIn_23 rfl (by decide) ?_
      refine x_goto (tgt := 4) dX11_bytesIn_26 (by decide) ?_
      refine x_loc _ (?_ : lle _ _) ih
      refine ⟨rfl, ?_, ?_, trivial⟩
      · show some (Value.int _) = some (Value.int (if (v >>> ((nI (24 - 8 * (3 - i))) &&& 31)) &&& 255 = 0 then cb v i else cb v i + 1))
        first | rw [if_pos h17] | rw [if_neg h17]
      · show some (Value.int (nI (8 * i) + 8)) = some (Value.int (nI (8 * (i + 1))))
        rw [show (8 : Int32) = nI 8 from rfl, nI_add, show 8 * (i + 1) = 8 * i + 8 by omega]
    · refine x_iinc (c := 1) dX11_bytesIn_20 rfl (by decide) ?_
      refine x_iinc (c := 8) dX11_bytesIn_23 rfl (by decide) ?_
      refine x_goto (tgt := 4) dX11_bytesIn_26 (by decide) ?_
      refine x_loc _ (?_ : lle _ _) ih
      refine ⟨rfl, ?_, ?_, trivial⟩
      · show some (Value.int _) = some (Value.int (if (v >>> ((nI (24 - 8 * (3 - i))) &&& 31)) &&& 255 = 0 then cb v i else cb v i + 1))
        first | rw [if_pos h17] | rw [if_neg h17]
      · show some (Value.int (nI (8 * i) + 8)) = some (Value.int (nI (8 * (i + 1))))
        rw [show (8 : Int32) = nI 8 from rfl, nI_add, show 8 * (i + 1) = 8 * i + 8 by omega]
theorem c_X9_length (hi : adOK τ) (hq : Q (some (.int (κ.1 81))) (cm τ κ Md)) : CT G d (0, 0) MX9_length [.ref (τ 8)] (cm τ κ Md) Q := by
  refine CT.of rfl (Nat.le_of_ble_eq_true rfl) ?_
  refine x_aload_n dX9_length_0 rfl rfl ?_
  refine x_getf dX9_length_1 lf_X9_19 (kc hi kf_8) kv_8_1 ?_
  exact x_ireturn dX9_length_4 rfl rfl (hq)
theorem c_X9_append {v : Int32} {m : Nat} (hi : adOK τ) (hm : σ.1 24 = nI m) (hb : m + nB v 4 ≤ 160) (hT : Tp σ κ) (hq : ∀ κ', KF κ κ' → Tp (putS v 4 σ) κ' → Q none (cm τ κ' Md)) : CT G d (0, 0) MX9_append [.ref (τ 8), .int v] (cm τ κ Md) Q := by
  have hlen := putS_len v σ hm
  have hmono : ∀ a b, a ≤ b → nB v a ≤ nB v b := by
    intro a b hab
    induction hab with
    | refl => exact Nat.le_refl _
    | @step b hab ihb =>
      have e2 : nB v (b + 1) = if (v >>> ((nI (24 - 8 * b)) &&& 31)) &&& 255 = 0 then nB v b else nB v b + 1 := rfl
      have : nB v b ≤ nB v (b + 1) := by rw [e2]; split <;> omega
      exact Nat.le_trans ihb this
  have H : ∀ f i κ2, i + f = 4 → KF κ κ2 → Tp (putS v i σ) κ2 → XJ G d (0, 0) MX9_append (cm τ κ2 Md) [(0, .ref (τ 8)), (1, .int v), (2, .int (if i = 4 then -8 else nI (24 - 8 * i)))] [] 3 Q := by
    intro f
    induction f with
    | zero =>
      intro i κ2 hif hk2 hT2
      obtain rfl : i = 4 := by omega
      refine x_iload_n dX9_append_3 rfl rfl ?_
      refine x_if_lt (tgt := 58) dX9_append_4 (by decide) (fun _ => ?_) (fun z => absurd (by decide) z)
      exact x_return dX9_append_58 rfl (hq κ2 hk2 hT2)
    | succ f ih =>
      intro i κ2 hif hk2 hT2
      have hlt : i < 4 := by omega
      have hs2 : (if i = 4 then -8 else nI (24 - 8 * i)) = nI (24 - 8 * i) := if_neg (by omega)
      have hs : putS v (i + 1) σ = if (v >>> ((nI (24 - 8 * i)) &&& 31)) &&& 255 = 0 then putS v i σ else seti (seta (putS v i σ) 18 (cn (putS v i σ) 24) ((v >>> ((nI (24 - 8 * i)) &&& 31)).toInt8.toInt32).toInt8.toInt32) 24 ((putS v i σ).1 24 + 1) := rfl
      have hB : nB v (i + 1) = if (v >>> ((nI (24 - 8 * i)) &&& 31)) &&& 255 = 0 then nB v i else nB v i + 1 := rfl
      have hle := hmono (i + 1) 4 (by omega)
      have h81 : κ2.1 81 = nI (m + nB v i) := hT2.1.trans (hlen i)
      have hcnt : cn (putS v i σ) 24 = m + nB v i := by
        show ((putS v i σ).1 24).toNatClampNeg = _
        rw [hlen i, nI_clamp (by have := nB_le v i; have := hmono i 4 (by omega); omega)]
      rw [hs2]
      have hnx : ∀ κ3 s, KF κ κ3 → Tp (putS v (i + 1) σ) κ3 → XJ G d (0, 0) MX9_append (cm τ κ3 Md) [(0, .ref (τ 8)), (1, .int v), (2, .int (nI (24 - 8 * i))), (3, .int s)] [] 52 Q := by
        intro κ3 s hk3 hT3
        refine x_iinc (c := -8) dX9_append_52 rfl (by decide) ?_
        refine x_goto (tgt := 3) dX9_append_55 (by decide) ?_
        refine x_loc _ (?_ : lle _ _) (ih (i + 1) κ3 (by omega) hk3 hT3)
        refine ⟨rfl, rfl, ?_, trivial⟩
        show some (Value.int (nI (24 - 8 * i) + (-8))) = some (Value.int (if i + 1 = 4 then -8 else nI (24 - 8 * (i + 1))))
        rw [sh_step hlt]
        by_cases e : i = 3
        · rw [if_pos e, if_pos (by omega)]
        · rw [if_neg e, if_neg (by omega)]
      refine x_iload_n dX9_append_3 rfl rfl ?_
      refine x_if_lt (tgt := 58) dX9_append_4 (by decide) (fun z => absurd z (nI_pos (by omega))) (fun _ => ?_)
      refine x_iload_n dX9_append_7 rfl rfl ?_
      refine x_iload_n dX9_append_8 rfl rfl ?_
      refine x_iushr dX9_append_9 ?_
      refine x_sipush (v := 255) dX9_append_10 (by decide) ?_
      refine x_iand dX9_append_13 ?_
      rw [by_u hlt]
      refine x_istore_n dX9_append_14 rfl (by decide) ?_
      refine x_iload_n dX9_append_15 rfl rfl ?_
      refine x_if_eq (tgt := 52) dX9_append_16 (by decide) (fun h16 => ?_) (fun h16 => ?_)
      · first
        | (have hz : (v >>> ((nI (24 - 8 * i)) &&& 31)) &&& 255 = 0 := h16
           refine x_loc _ (?_ : lle _ _) (hnx κ2 ((v >>> ((nI (24 - 8 * i)) &&& 31)) &&& 255) hk2 (by rw [hs, if_pos h16]; exact hT2))
           exact ⟨rfl, rfl, rfl, rfl, trivial⟩)
        | (refine x_loc _ (?_ : lle _ _) (hnx (seti (seta κ2 17 (m + nB v i) ((v >>> ((nI (24 - 8 * i)) &&& 31)) &&& 255)) 81 (κ2.1 81 + 1)) ((v >>> ((nI (24 - 8 * i)) &&& 31)) &&& 255) (hk2.tr ⟨fun k hk => seti_ne hk, fun r hr => seta_ne hr⟩) ?_)
           · exact ⟨rfl, rfl, rfl, rfl, trivial⟩
           rw [hs, if_neg h16]
           refine ⟨?_, ?_⟩
           · show κ2.1 81 + 1 = (putS v i σ).1 24 + 1
             rw [hT2.1]
           · have hc2 : ∀ (σ0 : MS) (r j : Nat) (x : Int32), cn (seti (seta σ0 r j x) 24 ((putS v i σ).1 24 + 1)) 24 = m + nB v i + 1 := fun σ0 r j x => by
               show ((putS v i σ).1 24 + 1).toNatClampNeg = _
               rw [hlen i, nI_1, nI_clamp (by have := hmono i 4 (by omega); omega)]
             rw [hc2, hcnt]
             intro j hj
             show updB (κ2.2 17) (m + nB v i) _ j = updB ((putS v i σ).2 18) (m + nB v i) _ j &&& 255
             by_cases e : j = m + nB v i
             · rw [e, updB_eq, updB_eq, by_s]
             · rw [updB_ne e, updB_ne e]
               exact hT2.2 j (by rw [hcnt]; omega))
      · refine x_aload_n dX9_append_19 rfl rfl ?_
        refine x_getf dX9_append_20 lf_X9_19 (kc hi kf_8) kv_8_1 ?_
        rw [h81]
        refine x_aload_n dX9_append_23 rfl rfl ?_
        refine x_getf dX9_append_24 lf_X9_11 (kc hi kf_8) kv_8_0 ?_
        refine x_alen dX9_append_27 (by decide) (by decide) (kc hi kf_17) ?_
        refine x_icmp_ge (tgt := 52) dX9_append_28 (by decide) (fun z => absurd z (Int32.not_le.mpr (nI_lt (b := 160) (by rw [if_neg h16] at hB; omega) (by decide)))) (fun _ => ?_)
        refine x_aload_n dX9_append_31 rfl rfl ?_
        refine x_getf dX9_append_32 lf_X9_11 (kc hi kf_8) kv_8_0 ?_
        refine x_aload_n dX9_append_35 rfl rfl ?_
        refine x_getf dX9_append_36 lf_X9_19 (kc hi kf_8) kv_8_1 ?_
        rw [h81]
        refine x_iload_n dX9_append_39 rfl rfl ?_
        refine x_i2c dX9_append_40 ?_
        refine xk_cast 17 dX9_append_41 kf_17 rfl hi (vp_in_nI (by rw [if_neg h16] at hB; omega) (by decide)) (nI_clamp (n := m + nB v i) (by have := hmono i 4 (by omega); omega)) ?_
        rw [by_c (by_r _).1 (by_r _).2]
        refine x_aload_n dX9_append_42 rfl rfl ?_
        refine x_dup dX9_append_43 rfl ?_
        refine x_getf dX9_append_44 lf_X9_19 (kc hi kf_8) kv_8_1 ?_
        refine x_iconst (v := 1) dX9_append_47 (by decide) ?_
        refine x_iadd dX9_append_48 ?_
        refine xk_puti dX9_append_49 lp_X9_19 (kc hi kf_8) rfl rfl (kp_8_1 hi) ?_
        first
        | (have hz : (v >>> ((nI (24 - 8 * i)) &&& 31)) &&& 255 = 0 := h16
           refine x_loc _ (?_ : lle _ _) (hnx κ2 ((v >>> ((nI (24 - 8 * i)) &&& 31)) &&& 255) hk2 (by rw [hs, if_pos h16]; exact hT2))
           exact ⟨rfl, rfl, rfl, rfl, trivial⟩)
        | (refine x_loc _ (?_ : lle _ _) (hnx (seti (seta κ2 17 (m + nB v i) ((v >>> ((nI (24 - 8 * i)) &&& 31)) &&& 255)) 81 (κ2.1 81 + 1)) ((v >>> ((nI (24 - 8 * i)) &&& 31)) &&& 255) (hk2.tr ⟨fun k hk => seti_ne hk, fun r hr => seta_ne hr⟩) ?_)
           · exact ⟨rfl, rfl, rfl, rfl, trivial⟩
           rw [hs, if_neg h16]
           refine ⟨?_, ?_⟩
           · show κ2.1 81 + 1 = (putS v i σ).1 24 + 1
             rw [hT2.1]
           · have hc2 : ∀ (σ0 : MS) (r j : Nat) (x : Int32), cn (seti (seta σ0 r j x) 24 ((putS v i σ).1 24 + 1)) 24 = m + nB v i + 1 := fun σ0 r j x => by
               show ((putS v i σ).1 24 + 1).toNatClampNeg = _
               rw [hlen i, nI_1, nI_clamp (by have := hmono i 4 (by omega); omega)]
             rw [hc2, hcnt]
             intro j hj
             show updB (κ2.2 17) (m + nB v i) _ j = updB ((putS v i σ).2 18) (m + nB v i) _ j &&& 255
             by_cases e : j = m + nB v i
             · rw [e, updB_eq, updB_eq, by_s]
             · rw [updB_ne e, updB_ne e]
               exact hT2.2 j (by rw [hcnt]; omega))
  refine CT.of rfl (Nat.le_of_ble_eq_true rfl) ?_
  refine x_bipush (v := 24) dX9_append_0 (by decide) ?_
  refine x_istore_n dX9_append_2 rfl (by decide) ?_
  refine x_loc _ (?_ : lle _ _) (H 4 0 κ (by omega) KF.rf hT)
  exact ⟨rfl, rfl, rfl, trivial⟩
theorem putS_of (v : Int32) (σ : MS) : ∀ n, (∀ k, k ≠ 24 → (putS v n σ).1 k = σ.1 k) ∧ ∀ r, r ≠ 18 → (putS v n σ).2 r = σ.2 r
  | 0 => ⟨fun _ _ => rfl, fun _ _ => rfl⟩
  | n + 1 => by
    obtain ⟨h1, h2⟩ := putS_of v σ n
    have hs : putS v (n + 1) σ = if (v >>> ((nI (24 - 8 * n)) &&& 31)) &&& 255 = 0 then putS v n σ else seti (seta (putS v n σ) 18 (cn (putS v n σ) 24) ((v >>> ((nI (24 - 8 * n)) &&& 31)).toInt8.toInt32).toInt8.toInt32) 24 ((putS v n σ).1 24 + 1) := rfl
    rw [hs]
    by_cases h : (v >>> ((nI (24 - 8 * n)) &&& 31)) &&& 255 = 0
    · rw [if_pos h]; exact ⟨h1, h2⟩
    · rw [if_neg h]
      exact ⟨fun k hk => (seti_ne hk).trans (h1 k hk), fun r hr => (show (seta (putS v n σ) 18 _ _).2 r = _ from seta_ne hr).trans (h2 r hr)⟩
theorem c_X11_feed {a b c e f : Int32} (hi : adOK τ) (hc : Cnt σ) (hT : Tp σ κ) (hq : ∀ κ', KF κ κ' → Tp (nFeed σ a b c e f) κ' → Q (some (.int (aFeed σ a b c e f))) (cm τ κ' Md)) : CT G (d + 1) (0, 0) MX11_feed [.ref (τ 0), .int a, .int b, .int c, .int e, .int f] (cm τ κ Md) Q := by
  obtain ⟨hl1, hl2⟩ := hc.b 24 (b := 160) (by decide)
  have hsum := fedTo_n hl1 a b c e f
  have l1 := putS_len a σ hl1 4
  have l2 := putS_len b _ l1 4
  have l3 := putS_len c _ l2 4
  have l4 := putS_len e _ l3 4
  have hno : ¬ fedTo σ a b c e f ≤ 160 → Q (some (.int (-1))) (cm τ κ Md) := fun zz => by
    have h := hq κ KF.rf
    rw [show nFeed σ a b c e f = σ from cI_f zz, show aFeed σ a b c e f = -1 from cI_f zz] at h
    exact h hT
  have hadd : σ.1 24 + (spBytes a 4 + spBytes b 4 + spBytes c 4 + spBytes e 4 + spBytes f 4) = fedTo σ a b c e f := by
    unfold fedTo
    simp only [Int32.add_assoc]
  refine CT.of rfl (Nat.le_of_ble_eq_true rfl) ?_
  refine x_iload_n dX11_feed_0 rfl rfl ?_
  refine x_cS1 dX11_feed_1 ls_X11_174 rfl  (c_X11_bytesIn ?_)
  refine x_iload_n dX11_feed_4 rfl rfl ?_
  refine x_cS1 dX11_feed_5 ls_X11_174 rfl  (c_X11_bytesIn ?_)
  refine x_iadd dX11_feed_8 ?_
  refine x_iload_n dX11_feed_9 rfl rfl ?_
  refine x_cS1 dX11_feed_10 ls_X11_174 rfl  (c_X11_bytesIn ?_)
  refine x_iadd dX11_feed_13 ?_
  refine x_iload dX11_feed_14 rfl ?_
  refine x_cS1 dX11_feed_16 ls_X11_174 rfl  (c_X11_bytesIn ?_)
  refine x_iadd dX11_feed_19 ?_
  refine x_iload dX11_feed_20 rfl ?_
  refine x_cS1 dX11_feed_22 ls_X11_174 rfl  (c_X11_bytesIn ?_)
  refine x_iadd dX11_feed_25 ?_
  refine x_istore dX11_feed_26 (by decide) ?_
  refine x_aload_n dX11_feed_28 rfl rfl ?_
  refine x_getf dX11_feed_29 lf_X11_37 (kc hi kf_0) kv_0_8 ?_
  refine x_cV0 dX11_feed_32 lv_X11_177 (kc hi kf_8) rfl rfl rfl  (c_X9_length hi ?_)
  rw [hT.1]
  refine x_iload dX11_feed_35 rfl ?_
  refine x_iadd dX11_feed_37 ?_
  rw [hadd]
  refine x_sipush (v := 160) dX11_feed_38 (by decide) ?_
  refine x_icmp_le (tgt := 46) dX11_feed_41 (by decide) (fun h41 => ?_) (fun h41 => ?_)
  · have hfit : cn σ 24 + nB a 4 + nB b 4 + nB c 4 + nB e 4 + nB f 4 ≤ 160 := by
      have h9 : fedTo σ a b c e f ≤ 160 := h41
      have ha := nB_le a 4
      have hb := nB_le b 4
      have hcc := nB_le c 4
      have he := nB_le e 4
      have hf := nB_le f 4
      rw [hsum] at h9
      exact (nI_leI (by omega) (by decide) (b := 160)).mp h9
    refine x_aload_n dX11_feed_46 rfl rfl ?_
    refine x_getf dX11_feed_47 lf_X11_37 (kc hi kf_0) kv_0_8 ?_
    refine x_iload_n dX11_feed_50 rfl rfl ?_
    refine x_cV1 dX11_feed_51 lv_X11_178 (kc hi kf_8) rfl rfl rfl  (c_X9_append hi hl1 (by omega) hT ?_)
    intro κ1 hk1 hT1
    refine x_aload_n dX11_feed_54 rfl rfl ?_
    refine x_getf dX11_feed_55 lf_X11_37 (kc hi kf_0) kv_0_8 ?_
    refine x_iload_n dX11_feed_58 rfl rfl ?_
    refine x_cV1 dX11_feed_59 lv_X11_178 (kc hi kf_8) rfl rfl rfl  (c_X9_append hi l1 (by omega) hT1 ?_)
    intro κ2 hk2 hT2
    refine x_aload_n dX11_feed_62 rfl rfl ?_
    refine x_getf dX11_feed_63 lf_X11_37 (kc hi kf_0) kv_0_8 ?_
    refine x_iload_n dX11_feed_66 rfl rfl ?_
    refine x_cV1 dX11_feed_67 lv_X11_178 (kc hi kf_8) rfl rfl rfl  (c_X9_append hi l2 (by omega) hT2 ?_)
    intro κ3 hk3 hT3
    refine x_aload_n dX11_feed_70 rfl rfl ?_
    refine x_getf dX11_feed_71 lf_X11_37 (kc hi kf_0) kv_0_8 ?_
    refine x_iload dX11_feed_74 rfl ?_
    refine x_cV1 dX11_feed_76 lv_X11_178 (kc hi kf_8) rfl rfl rfl  (c_X9_append hi l3 (by omega) hT3 ?_)
    intro κ4 hk4 hT4
    refine x_aload_n dX11_feed_79 rfl rfl ?_
    refine x_getf dX11_feed_80 lf_X11_37 (kc hi kf_0) kv_0_8 ?_
    refine x_iload dX11_feed_83 rfl ?_
    refine x_cV1 dX11_feed_85 lv_X11_178 (kc hi kf_8) rfl rfl rfl  (c_X9_append hi l4 (by omega) hT4 ?_)
    intro κ5 hk5 hT5
    refine x_aload_n dX11_feed_88 rfl rfl ?_
    refine x_getf dX11_feed_89 lf_X11_37 (kc hi kf_0) kv_0_8 ?_
    refine x_cV0 dX11_feed_92 lv_X11_177 (kc hi kf_8) rfl rfl rfl  (c_X9_length hi ?_)
    exact x_ireturn dX11_feed_95 rfl rfl ((by
have h := hq κ5 ((((hk1.tr hk2).tr hk3).tr hk4).tr hk5)
rw [show nFeed σ a b c e f = putS f 4 (putS e 4 (putS c 4 (putS b 4 (putS a 4 σ)))) from cI_t h41, show aFeed σ a b c e f = (putS f 4 (putS e 4 (putS c 4 (putS b 4 (putS a 4 σ))))).1 24 from cI_t h41] at h
exact fin (h hT5) hT5.1.symm))
  · refine x_iconst (v := -1) dX11_feed_44 (by decide) ?_
    exact x_ireturn dX11_feed_45 rfl rfl (hno h41)
theorem c_X9_cut {n : Nat} (hi : adOK τ) (hc : Cnt σ) (hT : Tp σ κ) (hn : n ≤ cn σ 24) (hq : ∀ κ', KF κ κ' → Tp (seti σ 24 (nI n)) κ' → Q none (cm τ κ' Md)) : CT G d (0, 0) MX9_cut [.ref (τ 8), .int (nI n)] (cm τ κ Md) Q := by
  obtain ⟨hl1, hl2⟩ := hc.b 24 (b := 160) (by decide)
  refine CT.of rfl (Nat.le_of_ble_eq_true rfl) ?_
  refine x_iload_n dX9_cut_0 rfl rfl ?_
  refine x_if_lt (tgt := 17) dX9_cut_1 (by decide) (fun z => absurd z (nI_pos (by omega))) (fun _ => ?_)
  refine x_iload_n dX9_cut_4 rfl rfl ?_
  refine x_aload_n dX9_cut_5 rfl rfl ?_
  refine x_getf dX9_cut_6 lf_X9_19 (kc hi kf_8) kv_8_1 ?_
  rw [hT.1, hl1]
  refine x_icmp_gt (tgt := 17) dX9_cut_9 (by decide) (fun z => absurd z (Int32.not_lt.mpr (nI_le hn (by omega)))) (fun _ => ?_)
  refine x_aload_n dX9_cut_12 rfl rfl ?_
  refine x_iload_n dX9_cut_13 rfl rfl ?_
  refine xk_puti dX9_cut_14 lp_X9_19 (kc hi kf_8) rfl rfl (kp_8_1 hi) ?_
  exact x_return dX9_cut_17 rfl ((by
refine hq _ ⟨fun k hk => seti_ne hk, fun _ _ => rfl⟩ ⟨rfl, ?_⟩
have h2 : cn (seti σ 24 (nI n)) 24 = n := by
  show (nI n).toNatClampNeg = n
  exact nI_clamp (by omega)
rw [h2]
exact fun i hi2 => hT.2 i (by omega)))
theorem c_X11_end {n : Int32} (hi : adOK τ) (hc : Cnt σ) (hT : Tp σ κ) (hq : ∀ κ', KF κ κ' → Tp (nEnd σ n) κ' → Q (some (.int (aEnd σ n))) (cm τ κ' Md)) : CT G (d + 1) (0, 0) MX11_end [.ref (τ 0), .int n] (cm τ κ Md) Q := by
  obtain ⟨hl1, hl2⟩ := hc.b 24 (b := 160) (by decide)
  have hno : ¬ pEnd σ n → Q (some (.int 0)) (cm τ κ Md) := fun zz => by
    have h := hq κ KF.rf
    rw [show nEnd σ n = σ from cI_f zz, show aEnd σ n = 0 from bI_f zz] at h
    exact h hT
  refine CT.of rfl (Nat.le_of_ble_eq_true rfl) ?_
  refine x_iload_n dX11_end_0 rfl rfl ?_
  refine x_iconst (v := 0) dX11_end_1 (by decide) ?_
  refine x_aload_n dX11_end_2 rfl rfl ?_
  refine x_getf dX11_end_3 lf_X11_37 (kc hi kf_0) kv_0_8 ?_
  refine x_cV0 dX11_end_6 lv_X11_177 (kc hi kf_8) rfl rfl rfl  (c_X9_length hi ?_)
  rw [hT.1]
  refine x_cS3 dX11_end_9 ls_X11_92 rfl  (c_X11_isWithin ?_)
  refine x_if_ne_b (tgt := 17) dX11_end_12 (by decide) (fun h12 => ?_) (fun h12 => ?_)
  · obtain ⟨m, hm, rfl⟩ := of_le h12.1 h12.2 hl1 (by omega)
    refine x_aload_n dX11_end_17 rfl rfl ?_
    refine x_getf dX11_end_18 lf_X11_37 (kc hi kf_0) kv_0_8 ?_
    refine x_iload_n dX11_end_21 rfl rfl ?_
    refine x_cV1 dX11_end_22 lv_X11_182 (kc hi kf_8) rfl rfl rfl  (c_X9_cut hi hc hT hm ?_)
    intro κ1 hk1 hT1
    refine x_iconst (v := 1) dX11_end_25 (by decide) ?_
    exact x_ireturn dX11_end_26 rfl rfl ((by
have hp : pEnd σ (nI m) := h12
have h := hq κ1 hk1
rw [show nEnd σ (nI m) = seti σ 24 (nI m) from cI_t hp, show aEnd σ (nI m) = 1 from bI_t hp] at h
exact h hT1))
  · refine x_iconst (v := 0) dX11_end_15 (by decide) ?_
    exact x_ireturn dX11_end_16 rfl rfl (hno (fun z => h12 z))
end FED
