/-! the class, 22: one code of a rule worked -/
def LtK (κ : MS) (L : Int32 → Int32) : Prop := ∀ c, isLet c = true → κ.2 13 (sxF pLetters c 8 0).toNatClampNeg = L c
theorem LtK_KN {κ κ' : MS} {L : Int32 → Int32} (h : KN κ κ') (hL : LtK κ L) : LtK κ' L := fun c hc => by rw [h.2 13 (by decide)]; exact hL c hc
theorem stp_33 (L : Int32 → Int32) (st : List Int32) : stp L (-33) st = (if st.headD 0 = 0 then 1 else 0) :: st.tail := by
  unfold stp
  rw [if_neg (by decide), if_neg (by decide), if_pos rfl]
  cases st <;> rfl
theorem stp_j2 {L : Int32 → Int32} {c : Int32} (h1 : ¬ 0 ≤ c) (h2 : ¬ isLet (-c) = true) (h3 : ¬ c = -33) (st : List Int32) : stp L c st = jn (-c) (st.tail.headD 0) (st.headD 0) :: st.tail.tail := by
  unfold stp
  rw [if_neg h1, if_neg h2, if_neg h3]
  rcases st with _ | ⟨r, _ | ⟨l, t⟩⟩ <;> rfl
theorem chr_of {c : Int32} (h0 : 0 ≤ c) (h1 : c ≤ 255) : (c.toUInt32 % 65536).toInt32 = c := by
  obtain ⟨n, hn, rfl⟩ := nI_of2 (M := 255) (n := 255) rfl (Int32.not_lt.mpr h0) h1
  have h : ∀ n, n < 256 → ((nI n).toUInt32 % 65536).toInt32 = nI n := by decide +kernel
  exact h n (by omega)
section WRK
variable {G : Gam} {d : Nat} {τ : Nat → Nat} {ω : Nat → Nat → Nat} {ε : Nat → Nat} {σ κ : MS} {Md : Mem} {M : Mem} {Q : Option Value → Mem → Prop} {k : Nat}
theorem c_X3_pop' {st : List Int32} (hi : adOK τ) (hS : StK κ st) (hl : st.length ≤ 160) (hq : ∀ κ', KN κ κ' → StK κ' st.tail → Q (some (.int (st.headD 0))) (cm τ κ' Md)) : CT G d (0, 0) MX3_pop [.ref (τ 14)] (cm τ κ Md) Q := by
  cases st with
  | nil => exact c_X3_pop_n hi hS (hq κ KN.rf hS)
  | cons v t =>
    rw [List.length_cons] at hl
    exact c_X3_pop hi hS (by omega) hq
theorem c_X6_work {code : Int32} {st : List Int32} {L : Int32 → Int32} (hi : adOK τ) (hz : ZCom G) (hlt : Lit G RX6 47 pLetters) (hL : LtK κ L) (hS : StK κ st) (hl : st.length < 160) (h0 : -200 ≤ code) (hq : ∀ κ', KN κ κ' → StK κ' (stp L code st) → Q none (cm τ κ' Md)) : CT G (d + 4) (0, 0) MX6_work [.int code, .ref (τ 13), .ref (τ 14)] (cm τ κ Md) Q := by
  obtain ⟨tx, sa, hlR, hlS'⟩ := hlt
  obtain ⟨va, hlO, -⟩ := id hlS'
  have hlen : st.tail.length ≤ st.length := by rw [List.length_tail]; omega
  refine CT.of rfl (Nat.le_of_ble_eq_true rfl) ?_
  by_cases hp : 0 ≤ code
  · refine x_iload_n dX6_work_0 rfl rfl ?_
    refine x_if_lt (tgt := 10) dX6_work_1 (by decide) (fun z => absurd z (Int32.not_lt.mpr hp)) (fun _ => ?_)
    refine x_aload_n dX6_work_4 rfl rfl ?_
    refine x_iload_n dX6_work_5 rfl rfl ?_
    refine x_cV1 dX6_work_6 lv_X6_43 (kc hi kf_14) rfl rfl rfl  (c_X3_push hi hS hl ?_)
    intro κ1 hk1 hS1
    exact x_return dX6_work_9 rfl (hq κ1 hk1 (by rw [stp_num L hp]; exact hS1))
  · obtain ⟨c, rfl⟩ : ∃ c, code = -c := ⟨-code, (Int32.neg_neg).symm⟩
    have hc : 0 ≤ c ∧ c ≤ 255 := by
      have e200 : (-200 : Int32).toInt = -200 := rfl
      have e0 : (0 : Int32).toInt = 0 := rfl
      have e255 : (255 : Int32).toInt = 255 := rfl
      rw [Int32.le_iff_toInt_le, e200, Int32.toInt_neg] at h0
      rw [Int32.le_iff_toInt_le, e0, Int32.toInt_neg] at hp
      rw [Int32.le_iff_toInt_le, Int32.le_iff_toInt_le, e0, e255]
      have b1 := c.toInt_lt
      have b2 := c.le_toInt
      have hb : -2147483648 < c.toInt := by
        rcases Int.lt_or_le (-2147483648) c.toInt with h | h
        · exact h
        · have h9 : c.toInt = -2147483648 := by omega
          rw [h9] at h0
          exact absurd h0 (by decide)
      rw [bm32 (by omega)] at h0 hp
      omega
    have hch := chr_of hc.1 hc.2
    by_cases hlet : isLet c = true
    · obtain ⟨j, hj, hjs⟩ : ∃ j : Nat, j < 8 ∧ sxF pLetters c 8 0 = nI j := by
        rcases let_mem hlet with h | h | h | h | h | h | h | h <;> subst h
        · exact ⟨0, by decide, by decide⟩
        · exact ⟨1, by decide, by decide⟩
        · exact ⟨2, by decide, by decide⟩
        · exact ⟨3, by decide, by decide⟩
        · exact ⟨4, by decide, by decide⟩
        · exact ⟨5, by decide, by decide⟩
        · exact ⟨6, by decide, by decide⟩
        · exact ⟨7, by decide, by decide⟩
      have hLc := hL c hlet
      rw [hjs, nI_clamp (by omega)] at hLc
      refine x_iload_n dX6_work_0 rfl rfl ?_
      refine x_if_lt (tgt := 10) dX6_work_1 (by decide) (fun _ => ?_) (fun z => absurd (Int32.not_le.mp hp) z)
      refine x_iload_n dX6_work_10 rfl rfl ?_
      refine x_ineg dX6_work_11 ?_
      rw [Int32.neg_neg]
      refine x_i2c dX6_work_12 ?_
      rw [hch]
      refine x_istore_n dX6_work_13 rfl (by decide) ?_
      refine x_ldcS dX6_work_14 hlR ?_
      refine x_iload_n dX6_work_16 rfl rfl ?_
      refine x_oV1 dX6_work_17 lv_X6_29 hlO rfl rfl  (c_J0_indexOf hz (by decide) lb_let hlS' ?_)
      rw [show sxF pLetters c pLetters.length 0 = nI j from hjs]
      refine x_istore dX6_work_20 (by decide) ?_
      refine x_iload dX6_work_22 rfl ?_
      refine x_if_lt (tgt := 45) dX6_work_24 (by decide) (fun z => absurd z (nI_pos (by omega))) (fun _ => ?_)
      refine x_iload dX6_work_27 rfl ?_
      refine x_aload_n dX6_work_29 rfl rfl ?_
      refine x_alen dX6_work_30 (by decide) (by decide) (kc hi kf_13) ?_
      refine x_icmp_ge (tgt := 45) dX6_work_31 (by decide) (fun z => absurd z (Int32.not_le.mpr (nI_lt (b := 8) hj (by decide)))) (fun _ => ?_)
      refine x_aload_n dX6_work_34 rfl rfl ?_
      refine x_aload_n dX6_work_35 rfl rfl ?_
      refine x_iload dX6_work_36 rfl ?_
      refine xk_iald 13 dX6_work_38 kf_13 rfl hi (vp_in_nI hj (by decide)) (nI_clamp (n := j) (by omega)) ?_
      rw [hLc]
      refine x_cV1 dX6_work_39 lv_X6_43 (kc hi kf_14) rfl rfl rfl  (c_X3_push hi hS hl ?_)
      intro κ1 hk1 hS1
      refine x_goto (tgt := 94) dX6_work_42 (by decide) ?_
      exact x_return dX6_work_94 rfl (hq κ1 hk1 (by rw [stp_let L hlet]; exact hS1))
    · have hsx : sxF pLetters c pLetters.length 0 = -1 := sx_let_f hlet
      by_cases h33 : c = 33
      · subst h33
        refine x_iload_n dX6_work_0 rfl rfl ?_
        refine x_if_lt (tgt := 10) dX6_work_1 (by decide) (fun _ => ?_) (fun z => absurd (Int32.not_le.mp hp) z)
        refine x_iload_n dX6_work_10 rfl rfl ?_
        refine x_ineg dX6_work_11 ?_
        rw [Int32.neg_neg]
        refine x_i2c dX6_work_12 ?_
        rw [hch]
        refine x_istore_n dX6_work_13 rfl (by decide) ?_
        refine x_ldcS dX6_work_14 hlR ?_
        refine x_iload_n dX6_work_16 rfl rfl ?_
        refine x_oV1 dX6_work_17 lv_X6_29 hlO rfl rfl  (c_J0_indexOf hz (by decide) lb_let hlS' ?_)
        rw [hsx]
        refine x_istore dX6_work_20 (by decide) ?_
        refine x_iload dX6_work_22 rfl ?_
        refine x_if_lt (tgt := 45) dX6_work_24 (by decide) (fun _ => ?_) (fun z => absurd (by decide) z)
        refine x_iload_n dX6_work_45 rfl rfl ?_
        refine x_bipush (v := 33) dX6_work_46 (by decide) ?_
        refine x_icmp_ne (tgt := 70) dX6_work_48 (by decide) (fun z => absurd rfl z) (fun _ => ?_)
        refine x_aload_n dX6_work_51 rfl rfl ?_
        refine x_aload_n dX6_work_52 rfl rfl ?_
        refine x_cV0 dX6_work_53 lv_X6_35 (kc hi kf_14) rfl rfl rfl  (c_X3_pop' hi hS (by omega) ?_)
        intro κ1 hk1 hS1
        refine x_if_ne (tgt := 63) dX6_work_56 (by decide) (fun h56 => ?_) (fun h56 => ?_)
        · refine x_iconst (v := 0) dX6_work_63 (by decide) ?_
          refine x_cV1 dX6_work_64 lv_X6_43 (kc hi kf_14) rfl rfl rfl  (c_X3_push hi hS1 (by omega) ?_)
          intro κ2 hk2 hS2
          refine x_goto (tgt := 94) dX6_work_67 (by decide) ?_
          exact x_return dX6_work_94 rfl (hq κ2 (hk1.tr hk2) (by
rw [stp_33]
first
| (have hz2 : ¬ st.headD 0 = 0 := h56
   rw [if_neg hz2]; exact hS2)
| (have hz2 : st.headD 0 = 0 := Classical.not_not.mp h56
   rw [if_pos hz2]; exact hS2)
| (have hz2 : st.headD 0 = 0 := h56
   rw [if_pos hz2]; exact hS2)))
        · refine x_iconst (v := 1) dX6_work_59 (by decide) ?_
          refine x_goto (tgt := 64) dX6_work_60 (by decide) ?_
          refine x_cV1 dX6_work_64 lv_X6_43 (kc hi kf_14) rfl rfl rfl  (c_X3_push hi hS1 (by omega) ?_)
          intro κ2 hk2 hS2
          refine x_goto (tgt := 94) dX6_work_67 (by decide) ?_
          exact x_return dX6_work_94 rfl (hq κ2 (hk1.tr hk2) (by
rw [stp_33]
first
| (have hz2 : ¬ st.headD 0 = 0 := h56
   rw [if_neg hz2]; exact hS2)
| (have hz2 : st.headD 0 = 0 := Classical.not_not.mp h56
   rw [if_pos hz2]; exact hS2)
| (have hz2 : st.headD 0 = 0 := h56
   rw [if_pos hz2]; exact hS2)))
      · refine x_iload_n dX6_work_0 rfl rfl ?_
        refine x_if_lt (tgt := 10) dX6_work_1 (by decide) (fun _ => ?_) (fun z => absurd (Int32.not_le.mp hp) z)
        refine x_iload_n dX6_work_10 rfl rfl ?_
        refine x_ineg dX6_work_11 ?_
        rw [Int32.neg_neg]
        refine x_i2c dX6_work_12 ?_
        rw [hch]
        refine x_istore_n dX6_work_13 rfl (by decide) ?_
        refine x_ldcS dX6_work_14 hlR ?_
        refine x_iload_n dX6_work_16 rfl rfl ?_
        refine x_oV1 dX6_work_17 lv_X6_29 hlO rfl rfl  (c_J0_indexOf hz (by decide) lb_let hlS' ?_)
        rw [hsx]
        refine x_istore dX6_work_20 (by decide) ?_
        refine x_iload dX6_work_22 rfl ?_
        refine x_if_lt (tgt := 45) dX6_work_24 (by decide) (fun _ => ?_) (fun z => absurd (by decide) z)
        refine x_iload_n dX6_work_45 rfl rfl ?_
        refine x_bipush (v := 33) dX6_work_46 (by decide) ?_
        refine x_icmp_ne (tgt := 70) dX6_work_48 (by decide) (fun _ => ?_) (fun z => absurd z h33)
        refine x_aload_n dX6_work_70 rfl rfl ?_
        refine x_cV0 dX6_work_71 lv_X6_35 (kc hi kf_14) rfl rfl rfl  (c_X3_pop' hi hS (by omega) ?_)
        intro κ1 hk1 hS1
        refine x_istore dX6_work_74 (by decide) ?_
        refine x_aload_n dX6_work_76 rfl rfl ?_
        refine x_cV0 dX6_work_77 lv_X6_35 (kc hi kf_14) rfl rfl rfl  (c_X3_pop' hi hS1 (by omega) ?_)
        intro κ2 hk2 hS2
        refine x_istore dX6_work_80 (by decide) ?_
        refine x_aload_n dX6_work_82 rfl rfl ?_
        refine x_iload_n dX6_work_83 rfl rfl ?_
        refine x_iload dX6_work_84 rfl ?_
        refine x_iload dX6_work_86 rfl ?_
        refine x_cS3 dX6_work_88 ls_X6_49 rfl  (c_X6_joined ?_)
        refine x_cV1 dX6_work_91 lv_X6_43 (kc hi kf_14) rfl rfl rfl  (c_X3_push hi hS2 (by have : st.tail.tail.length ≤ st.tail.length := by { rw [List.length_tail]; omega }; omega) ?_)
        intro κ3 hk3 hS3
        exact x_return dX6_work_94 rfl (hq κ3 ((hk1.tr hk2).tr hk3) (by
have e := stp_j2 (L := L) (c := -c) hp (by rw [Int32.neg_neg]; exact hlet) (fun y => h33 (by have := congrArg (fun x : Int32 => -x) y; simpa [Int32.neg_neg] using this)) st
rw [Int32.neg_neg] at e
rw [e]; exact hS3))
end WRK
