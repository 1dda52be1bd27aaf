/-! the model's methods, 12: the reader's small steps -/
/-- the first fault stands -/
def ff (f a : Int32) : Int32 := if f = -1 then a else f
def isDg (b : Nat → Int32) (n p : Nat) : Prop := p < n ∧ 48 ≤ b p ∧ b p ≤ 57
def isSg (c : Int32) : Prop := c = 61 ∨ c = 60 ∨ c = 62
def lBound (x : Int64) : Int32 := (if lg_cmp (-1000000) (if 0 < lg_cmp 1000000 x then x else 1000000) < 0 then (if 0 < lg_cmp 1000000 x then x else 1000000) else -1000000 : Int64).toInt32
section MDM
variable {G : Gam} {d : Nat} {k : Nat × Nat} {Y : MR} {ad : Nat → Nat} {σ σ0 : MS} {M : Mem} {lv : Lv} {st : List Value} {pc : Nat} {Q : Option Value → Mem → Prop}
theorem c_X12_isSign {c : Int32} (hq : Q (some (.int (bI (isSg c)))) M) : CT G d (0, 0) MX12_isSign [.int c] M Q := by
  refine CT.of rfl (Nat.le_of_ble_eq_true rfl) ?_
  refine x_iload_n dX12_isSign_0 rfl rfl ?_
  refine x_bipush (v := 61) dX12_isSign_1 (by decide) ?_
  refine x_icmp_eq (tgt := 18) dX12_isSign_3 (by decide) (fun h3 => ?_) (fun h3 => ?_)
  · refine x_iconst (v := 1) dX12_isSign_18 (by decide) ?_
    refine x_goto (tgt := 23) dX12_isSign_19 (by decide) ?_
    exact x_ireturn dX12_isSign_23 rfl rfl (by
first
| (rw [bI_t (by first | exact Or.inl h3 | exact Or.inr (Or.inl h9) | exact Or.inr (Or.inr h15))] at hq; exact hq)
| (rw [bI_f (fun z => z.elim h3 (fun y => y.elim h9 h15))] at hq; exact hq))
  · refine x_iload_n dX12_isSign_6 rfl rfl ?_
    refine x_bipush (v := 60) dX12_isSign_7 (by decide) ?_
    refine x_icmp_eq (tgt := 18) dX12_isSign_9 (by decide) (fun h9 => ?_) (fun h9 => ?_)
    · refine x_iconst (v := 1) dX12_isSign_18 (by decide) ?_
      refine x_goto (tgt := 23) dX12_isSign_19 (by decide) ?_
      exact x_ireturn dX12_isSign_23 rfl rfl (by
first
| (rw [bI_t (by first | exact Or.inl h3 | exact Or.inr (Or.inl h9) | exact Or.inr (Or.inr h15))] at hq; exact hq)
| (rw [bI_f (fun z => z.elim h3 (fun y => y.elim h9 h15))] at hq; exact hq))
    · refine x_iload_n dX12_isSign_12 rfl rfl ?_
      refine x_bipush (v := 62) dX12_isSign_13 (by decide) ?_
      refine x_icmp_ne (tgt := 22) dX12_isSign_15 (by decide) (fun h15 => ?_) (fun h15 => ?_)
      · refine x_iconst (v := 0) dX12_isSign_22 (by decide) ?_
        exact x_ireturn dX12_isSign_23 rfl rfl (by
first
| (rw [bI_t (by first | exact Or.inl h3 | exact Or.inr (Or.inl h9) | exact Or.inr (Or.inr h15))] at hq; exact hq)
| (rw [bI_f (fun z => z.elim h3 (fun y => y.elim h9 h15))] at hq; exact hq))
      · refine x_iconst (v := 1) dX12_isSign_18 (by decide) ?_
        refine x_goto (tgt := 23) dX12_isSign_19 (by decide) ?_
        exact x_ireturn dX12_isSign_23 rfl rfl (by
first
| (rw [bI_t (by first | exact Or.inl h3 | exact Or.inr (Or.inl h9) | exact Or.inr (Or.inr h15))] at hq; exact hq)
| (rw [bI_f (fun z => z.elim h3 (fun y => y.elim h9 h15))] at hq; exact hq))
theorem c_X12_fails {a f e v h : Int32} (hq : Q (some (.int 0)) (mm ad (pS σ a (ff f a) e v h))) : CT G d (0, 0) MX12_fails [.ref (ad 99)] (mm ad (pS σ a f e v h)) Q := by
  refine CT.of rfl (Nat.le_of_ble_eq_true rfl) ?_
  unfold ff at hq
  refine x_aload_n dX12_fails_0 rfl rfl ?_
  refine xm_geti dX12_fails_1 lf_X12_198 vmi_30 ?_
  refine x_iconst (v := -1) dX12_fails_4 (by decide) ?_
  refine x_icmp_ne (tgt := 16) dX12_fails_5 (by decide) (fun h5 => ?_) (fun h5 => ?_)
  · refine x_iconst (v := 0) dX12_fails_16 (by decide) ?_
    exact x_ireturn dX12_fails_17 rfl rfl (by
first
| (have y : f = -1 := h5
   rw [if_pos y] at hq; rw [pS_30]; exact hq)
| (have y : ¬ f = -1 := h5
   rw [if_neg y] at hq; exact hq))
  · refine x_aload_n dX12_fails_8 rfl rfl ?_
    refine x_aload_n dX12_fails_9 rfl rfl ?_
    refine xm_geti dX12_fails_10 lf_X12_189 vmi_29 ?_
    refine xm_puti dX12_fails_13 lp_X12_198 vmq_30 vmn_30 vmf_30 ?_
    refine x_iconst (v := 0) dX12_fails_16 (by decide) ?_
    exact x_ireturn dX12_fails_17 rfl rfl (by
first
| (have y : f = -1 := h5
   rw [if_pos y] at hq; rw [pS_30]; exact hq)
| (have y : ¬ f = -1 := h5
   rw [if_neg y] at hq; exact hq))
theorem c_X12_goesIn {p : Nat} {f e v h : Int32} (hq : Q (some (.int (if e = 6 then 0 else 1))) (mm ad (if e = 6 then pS σ (nI p) (ff f (nI p)) e v h else pS σ (nI (p + 1)) f (e + 1) v h))) : CT G (d + 1) (0, 0) MX12_goesIn [.ref (ad 99)] (mm ad (pS σ (nI p) f e v h)) Q := by
  refine CT.of rfl (Nat.le_of_ble_eq_true rfl) ?_
  refine x_aload_n dX12_goesIn_0 rfl rfl ?_
  refine xm_geti dX12_goesIn_1 lf_X12_201 vmi_31 ?_
  refine x_bipush (v := 6) dX12_goesIn_4 (by decide) ?_
  refine x_icmp_ne (tgt := 14) dX12_goesIn_6 (by decide) (fun h6 => ?_) (fun h6 => ?_)
  · refine x_aload_n dX12_goesIn_14 rfl rfl ?_
    refine x_dup dX12_goesIn_15 rfl ?_
    refine xm_geti dX12_goesIn_16 lf_X12_201 vmi_31 ?_
    refine x_iconst (v := 1) dX12_goesIn_19 (by decide) ?_
    refine x_iadd dX12_goesIn_20 ?_
    refine xm_puti dX12_goesIn_21 lp_X12_201 vmq_31 vmn_31 vmf_31 ?_
    refine x_aload_n dX12_goesIn_24 rfl rfl ?_
    refine x_dup dX12_goesIn_25 rfl ?_
    refine xm_geti dX12_goesIn_26 lf_X12_189 vmi_29 ?_
    refine x_iconst (v := 1) dX12_goesIn_29 (by decide) ?_
    refine x_iadd dX12_goesIn_30 ?_
    refine xm_puti dX12_goesIn_31 lp_X12_189 vmq_29 vmn_29 vmf_29 ?_
    refine x_iconst (v := 1) dX12_goesIn_34 (by decide) ?_
    exact x_ireturn dX12_goesIn_35 rfl rfl (by
have y : ¬ e = 6 := h6
rw [if_neg y, if_neg y] at hq
rw [pS_31, pS_29, show (pS σ (nI p) f ((pS σ (nI p) f e v h).1 31 + 1) v h).1 29 = nI p from rfl, nI_1]
exact hq)
  · refine x_aload_n dX12_goesIn_9 rfl rfl ?_
    refine x_cV0 dX12_goesIn_10 lv_X12_204 mm_obj rfl rfl rfl  (c_X12_fails ?_)
    exact x_ireturn dX12_goesIn_13 rfl rfl (by have y : e = 6 := h6; rw [if_pos y, if_pos y] at hq; exact hq)
theorem c_X12_takes {b : Nat → Int32} {n p : Nat} {c f e v h : Int32} (hi : adOK ad) (hx : TxtB σ b n) (hp : p ≤ n) (hq : Q (some (.int (if f = -1 then (if lk b n p = c then 1 else 0) else 0))) (mm ad (if f = -1 then (if lk b n p = c then pS σ (nI (sk b n p + 1)) f e v h else pS σ (nI (sk b n p)) (nI (sk b n p)) e v h) else pS σ (nI p) f e v h))) : CT G (d + 1) (0, 0) MX12_takes [.ref (ad 99), .int c] (mm ad (pS σ (nI p) f e v h)) Q := by
  refine CT.of rfl (Nat.le_of_ble_eq_true rfl) ?_
  refine x_aload_n dX12_takes_0 rfl rfl ?_
  refine xm_geti dX12_takes_1 lf_X12_198 vmi_30 ?_
  refine x_iconst (v := -1) dX12_takes_4 (by decide) ?_
  refine x_icmp_ne (tgt := 16) dX12_takes_5 (by decide) (fun h5 => ?_) (fun h5 => ?_)
  · refine x_aload_n dX12_takes_16 rfl rfl ?_
    refine x_cV0 dX12_takes_17 lv_X12_204 mm_obj rfl rfl rfl  (c_X12_fails ?_)
    exact x_ireturn dX12_takes_20 rfl rfl (by
first
| (have y : ¬ f = -1 := h5
   rw [if_neg y, if_neg y] at hq; unfold ff; rw [if_neg y]; exact hq)
| (have y : f = -1 := h5
   rw [if_neg h13, if_neg h13] at hq; unfold ff; rw [if_pos y]; exact hq))
  · refine x_aload_n dX12_takes_8 rfl rfl ?_
    have h5' : f = -1 := h5
    rw [if_pos h5', if_pos h5'] at hq
    refine x_cV0 dX12_takes_9 lv_X12_208 mm_obj rfl rfl rfl  (c_X12_look hi hx hp ?_)
    refine x_iload_n dX12_takes_12 rfl rfl ?_
    refine x_icmp_eq (tgt := 21) dX12_takes_13 (by decide) (fun h13 => ?_) (fun h13 => ?_)
    · refine x_aload_n dX12_takes_21 rfl rfl ?_
      refine x_dup dX12_takes_22 rfl ?_
      refine xm_geti dX12_takes_23 lf_X12_189 vmi_29 ?_
      refine x_iconst (v := 1) dX12_takes_26 (by decide) ?_
      refine x_iadd dX12_takes_27 ?_
      refine xm_puti dX12_takes_28 lp_X12_189 vmq_29 vmn_29 vmf_29 ?_
      refine x_iconst (v := 1) dX12_takes_31 (by decide) ?_
      exact x_ireturn dX12_takes_32 rfl rfl (by
rw [if_pos h13, if_pos h13] at hq
rw [pS_29, show (pS σ (nI (sk b n p)) f e v h).1 29 = nI (sk b n p) from rfl, nI_1]
exact hq)
    · refine x_aload_n dX12_takes_16 rfl rfl ?_
      refine x_cV0 dX12_takes_17 lv_X12_204 mm_obj rfl rfl rfl  (c_X12_fails ?_)
      exact x_ireturn dX12_takes_20 rfl rfl (by
first
| (have y : ¬ f = -1 := h5
   rw [if_neg y, if_neg y] at hq; unfold ff; rw [if_neg y]; exact hq)
| (have y : f = -1 := h5
   rw [if_neg h13, if_neg h13] at hq; unfold ff; rw [if_pos y]; exact hq))
theorem c_X12_isDigit {b : Nat → Int32} {n p : Nat} {f e v h : Int32} (hi : adOK ad) (hx : TxtB σ b n) (hp : p ≤ n) (hq : Q (some (.int (bI (isDg b n p)))) (mm ad (pS σ (nI p) f e v h))) : CT G d (0, 0) MX12_isDigit [.ref (ad 99)] (mm ad (pS σ (nI p) f e v h)) Q := by
  obtain ⟨N, b0, htx, hb0, hn, hN, hN2, hby⟩ := hx
  refine CT.of rfl (Nat.le_of_ble_eq_true rfl) ?_
  have hcmp : ¬ σ.1 28 ≤ nI p → p < n := fun z => by
    rw [hn] at z
    exact Nat.not_le.mp (fun y => z (nI_le y (by omega)))
  have hix : σ.1 27 + nI p = nI (b0 + p) := by rw [hb0, nI_add]
  refine x_aload_n dX12_isDigit_0 rfl rfl ?_
  refine xm_geti dX12_isDigit_1 lf_X12_189 vmi_29 ?_
  refine x_aload_n dX12_isDigit_4 rfl rfl ?_
  refine xm_geti dX12_isDigit_5 lf_X12_192 vmi_28 ?_
  refine x_icmp_ge (tgt := 53) dX12_isDigit_8 (by decide) (fun h8 => ?_) (fun h8 => ?_)
  · refine x_iconst (v := 0) dX12_isDigit_53 (by decide) ?_
    exact x_ireturn dX12_isDigit_54 rfl rfl (by
first
| (have hge : σ.1 28 ≤ nI p := h8
   rw [bI_f (fun z => absurd (hn ▸ hge : nI n ≤ nI p) (nI_ge z.1 (by omega)))] at hq; exact hq)
| (have y : b p < 48 := by rw [← hb]; exact h27
   rw [bI_f (fun z => absurd y (Int32.not_lt.mpr z.2.1))] at hq; exact hq)
| (have y : 57 < b p := by rw [← hb]; exact h46
   rw [bI_f (fun z => absurd y (Int32.not_lt.mpr z.2.2))] at hq; exact hq)
| (have y : ¬ b p < 48 := by rw [← hb]; exact h27
   have y2 : ¬ 57 < b p := by rw [← hb]; exact h46
   rw [bI_t ⟨hpl, Int32.not_lt.mp y, Int32.not_lt.mp y2⟩] at hq; exact hq))
  · have hpl := hcmp h8
    have hin : vp_in (σ.1 27 + nI p) N := by rw [hix]; exact vp_in_nI (by omega) (by omega)
    have hcl : (σ.1 27 + nI p).toNatClampNeg = b0 + p := by rw [hix]; exact nI_clamp (by omega)
    have hb := hby p hpl
    refine x_aload_n dX12_isDigit_11 rfl rfl ?_
    refine xm_getx dX12_isDigit_12 lf_X12_68 ?_
    refine x_aload_n dX12_isDigit_15 rfl rfl ?_
    refine xm_geti dX12_isDigit_16 lf_X12_195 vmi_27 ?_
    refine x_aload_n dX12_isDigit_19 rfl rfl ?_
    refine xm_geti dX12_isDigit_20 lf_X12_189 vmi_29 ?_
    refine x_iadd dX12_isDigit_23 ?_
    refine xm_xald dX12_isDigit_24 htx hi hin hcl ?_
    refine x_bipush (v := 48) dX12_isDigit_25 (by decide) ?_
    refine x_icmp_lt (tgt := 53) dX12_isDigit_27 (by decide) (fun h27 => ?_) (fun h27 => ?_)
    · refine x_iconst (v := 0) dX12_isDigit_53 (by decide) ?_
      exact x_ireturn dX12_isDigit_54 rfl rfl (by
first
| (have hge : σ.1 28 ≤ nI p := h8
   rw [bI_f (fun z => absurd (hn ▸ hge : nI n ≤ nI p) (nI_ge z.1 (by omega)))] at hq; exact hq)
| (have y : b p < 48 := by rw [← hb]; exact h27
   rw [bI_f (fun z => absurd y (Int32.not_lt.mpr z.2.1))] at hq; exact hq)
| (have y : 57 < b p := by rw [← hb]; exact h46
   rw [bI_f (fun z => absurd y (Int32.not_lt.mpr z.2.2))] at hq; exact hq)
| (have y : ¬ b p < 48 := by rw [← hb]; exact h27
   have y2 : ¬ 57 < b p := by rw [← hb]; exact h46
   rw [bI_t ⟨hpl, Int32.not_lt.mp y, Int32.not_lt.mp y2⟩] at hq; exact hq))
    · refine x_aload_n dX12_isDigit_30 rfl rfl ?_
      refine xm_getx dX12_isDigit_31 lf_X12_68 ?_
      refine x_aload_n dX12_isDigit_34 rfl rfl ?_
      refine xm_geti dX12_isDigit_35 lf_X12_195 vmi_27 ?_
      refine x_aload_n dX12_isDigit_38 rfl rfl ?_
      refine xm_geti dX12_isDigit_39 lf_X12_189 vmi_29 ?_
      refine x_iadd dX12_isDigit_42 ?_
      refine xm_xald dX12_isDigit_43 htx hi hin hcl ?_
      refine x_bipush (v := 57) dX12_isDigit_44 (by decide) ?_
      refine x_icmp_gt (tgt := 53) dX12_isDigit_46 (by decide) (fun h46 => ?_) (fun h46 => ?_)
      · refine x_iconst (v := 0) dX12_isDigit_53 (by decide) ?_
        exact x_ireturn dX12_isDigit_54 rfl rfl (by
first
| (have hge : σ.1 28 ≤ nI p := h8
   rw [bI_f (fun z => absurd (hn ▸ hge : nI n ≤ nI p) (nI_ge z.1 (by omega)))] at hq; exact hq)
| (have y : b p < 48 := by rw [← hb]; exact h27
   rw [bI_f (fun z => absurd y (Int32.not_lt.mpr z.2.1))] at hq; exact hq)
| (have y : 57 < b p := by rw [← hb]; exact h46
   rw [bI_f (fun z => absurd y (Int32.not_lt.mpr z.2.2))] at hq; exact hq)
| (have y : ¬ b p < 48 := by rw [← hb]; exact h27
   have y2 : ¬ 57 < b p := by rw [← hb]; exact h46
   rw [bI_t ⟨hpl, Int32.not_lt.mp y, Int32.not_lt.mp y2⟩] at hq; exact hq))
      · refine x_iconst (v := 1) dX12_isDigit_49 (by decide) ?_
        refine x_goto (tgt := 54) dX12_isDigit_50 (by decide) ?_
        exact x_ireturn dX12_isDigit_54 rfl rfl (by
first
| (have hge : σ.1 28 ≤ nI p := h8
   rw [bI_f (fun z => absurd (hn ▸ hge : nI n ≤ nI p) (nI_ge z.1 (by omega)))] at hq; exact hq)
| (have y : b p < 48 := by rw [← hb]; exact h27
   rw [bI_f (fun z => absurd y (Int32.not_lt.mpr z.2.1))] at hq; exact hq)
| (have y : 57 < b p := by rw [← hb]; exact h46
   rw [bI_f (fun z => absurd y (Int32.not_lt.mpr z.2.2))] at hq; exact hq)
| (have y : ¬ b p < 48 := by rw [← hb]; exact h27
   have y2 : ¬ 57 < b p := by rw [← hb]; exact h46
   rw [bI_t ⟨hpl, Int32.not_lt.mp y, Int32.not_lt.mp y2⟩] at hq; exact hq))
end MDM
