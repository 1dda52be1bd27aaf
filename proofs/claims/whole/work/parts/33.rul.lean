/-! the model's methods, 11: reading a rule -/
/-- a state with the reader's own fields: at, fault, deep, found, hasFound -/
def pS (σ : MS) (a f e v h : Int32) : MS := (fun k => bif Nat.beq k 29 then a else bif Nat.beq k 30 then f else bif Nat.beq k 31 then e else bif Nat.beq k 33 then v else bif Nat.beq k 34 then h else σ.1 k, σ.2)
theorem pS_29 {σ : MS} {a f e v h x : Int32} : seti (pS σ a f e v h) 29 x = pS σ x f e v h := by
  unfold seti pS; congr 1; funext k; unfold updB
  cases h2 : Nat.beq k 29 <;> simp only [h2] <;> rfl
theorem pS_30 {σ : MS} {a f e v h x : Int32} : seti (pS σ a f e v h) 30 x = pS σ a x e v h := by
  unfold seti pS; congr 1; funext k
  by_cases e2 : k = 30
  · subst e2; exact updB_eq
  · rw [updB_ne e2]
    have z : Nat.beq k 30 = false := by
      cases z : Nat.beq k 30 with
      | false => rfl
      | true => exact absurd (Nat.eq_of_beq_eq_true z) e2
    simp only [z, cond_false]
theorem pS_31 {σ : MS} {a f e v h x : Int32} : seti (pS σ a f e v h) 31 x = pS σ a f x v h := by
  unfold seti pS; congr 1; funext k
  by_cases e2 : k = 31
  · subst e2; exact updB_eq
  · rw [updB_ne e2]
    have z : Nat.beq k 31 = false := by
      cases z : Nat.beq k 31 with
      | false => rfl
      | true => exact absurd (Nat.eq_of_beq_eq_true z) e2
    simp only [z, cond_false]
theorem pS_33 {σ : MS} {a f e v h x : Int32} : seti (pS σ a f e v h) 33 x = pS σ a f e x h := by
  unfold seti pS; congr 1; funext k
  by_cases e2 : k = 33
  · subst e2; exact updB_eq
  · rw [updB_ne e2]
    have z : Nat.beq k 33 = false := by
      cases z : Nat.beq k 33 with
      | false => rfl
      | true => exact absurd (Nat.eq_of_beq_eq_true z) e2
    simp only [z, cond_false]
theorem pS_34 {σ : MS} {a f e v h x : Int32} : seti (pS σ a f e v h) 34 x = pS σ a f e v x := by
  unfold seti pS; congr 1; funext k
  by_cases e2 : k = 34
  · subst e2; exact updB_eq
  · rw [updB_ne e2]
    have z : Nat.beq k 34 = false := by
      cases z : Nat.beq k 34 with
      | false => rfl
      | true => exact absurd (Nat.eq_of_beq_eq_true z) e2
    simp only [z, cond_false]
/-- the text read: its bytes b, n of them -/
def TxtB (σ : MS) (b : Nat → Int32) (n : Nat) : Prop := ∃ N b0 : Nat, mFind mArr (σ.1 26).toNatClampNeg = some (101, N) ∧ σ.1 27 = nI b0 ∧ σ.1 28 = nI n ∧ b0 + n ≤ N ∧ N ≤ 3200 ∧ ∀ i, i < n → σ.2 (σ.1 26).toNatClampNeg (b0 + i) = b i
/-- the first place from p on that holds no blank: f places at most -/
def skF (b : Nat → Int32) : Nat → Nat → Nat
  | 0, p => p
  | f + 1, p => if b p = 32 then skF b f (p + 1) else p
def sk (b : Nat → Int32) (n p : Nat) : Nat := skF b (n - p) p
def lk (b : Nat → Int32) (n p : Nat) : Int32 := if sk b n p < n then b (sk b n p) &&& 255 else -1
theorem sk_end (b : Nat → Int32) (n : Nat) : sk b n n = n := by unfold sk; rw [Nat.sub_self]; rfl
theorem sk_on {b : Nat → Int32} {n p : Nat} (h : p < n) (hb : b p = 32) : sk b n p = sk b n (p + 1) := by
  unfold sk
  obtain ⟨m, rfl⟩ : ∃ m, n = p + m + 1 := ⟨n - p - 1, by omega⟩
  rw [show p + m + 1 - p = m + 1 by omega, show p + m + 1 - (p + 1) = m by omega]
  exact if_pos hb
theorem sk_at {b : Nat → Int32} {n p : Nat} (hb : ¬ b p = 32) : sk b n p = p := by
  unfold sk
  cases n - p with
  | zero => rfl
  | succ m => exact if_neg hb
section MDL
variable {G : Gam} {d : Nat} {k : Nat × Nat} {Y : MR} {ad : Nat → Nat} {σ σ0 : MS} {M : Mem} {lv : Lv} {st : List Value} {pc : Nat} {Q : Option Value → Mem → Prop}
theorem xm_getx {idx : Nat} (hd : decode Y.2.1 pc = .ok (.getfield idx, 3)) (hlk : LkF Y.1.cls idx 13 26) (kk : XJ G d k Y (mm ad σ) lv (.ref (ad (σ.1 26).toNatClampNeg) :: st) (pc + 3) Q) : XJ G d k Y (mm ad σ) lv (.ref (ad 99) :: st) pc Q := x_getf hd hlk mm_obj rfl kk
theorem xm_xald {n j kf : Nat} {i : Int32} (hd : decode Y.2.1 pc = .ok (.baload, 1)) (h : mFind mArr kf = some (101, n)) (hi : adOK ad) (hin : vp_in i n) (hj : i.toNatClampNeg = j) (kk : XJ G d k Y (mm ad σ) lv (.int (σ.2 kf j) :: st) (pc + 1) Q) : XJ G d k Y (mm ad σ) lv (.int i :: .ref (ad kf) :: st) pc Q := x_baload hd (mm_arr hi h) hin (by rw [hj]) kk
theorem c_X12_look {b : Nat → Int32} {n p : Nat} {f e v h : Int32} (hi : adOK ad) (hx : TxtB σ b n) (hp : p ≤ n) (hq : Q (some (.int (lk b n p))) (mm ad (pS σ (nI (sk b n p)) f e v h))) : CT G d (0, 0) MX12_look [.ref (ad 99)] (mm ad (pS σ (nI p) f e v h)) Q := by
  obtain ⟨N, b0, htx, hb0, hn, hN, hN2, hby⟩ := hx
  refine CT.of rfl (Nat.le_of_ble_eq_true rfl) ?_
  suffices H : ∀ m p, m + p = n → lk b n p = lk b n p → (Q (some (.int (lk b n p))) (mm ad (pS σ (nI (sk b n p)) f e v h))) → XJ G d (0, 0) MX12_look (mm ad (pS σ (nI p) f e v h)) [(0, .ref (ad 99))] [] 0 Q from H (n - p) p (by omega) rfl hq
  intro m
  induction m with
  | zero =>
    intro p hpn _ hq
    obtain rfl : p = n := by omega
    rw [sk_end] at hq
    have hlk : lk b p p = -1 := by unfold lk; rw [sk_end, if_neg (Nat.lt_irrefl _)]
    rw [hlk] at hq
    refine x_aload_n dX12_look_0 rfl rfl ?_
    refine xm_geti dX12_look_1 lf_X12_189 vmi_29 ?_
    refine x_aload_n dX12_look_4 rfl rfl ?_
    refine xm_geti dX12_look_5 lf_X12_192 vmi_28 ?_
    refine x_icmp_ge (tgt := 43) dX12_look_8 (by decide) (fun _ => ?_) (fun z => absurd (by show σ.1 28 ≤ nI p; rw [hn]; exact Int32.le_refl _) z)
    refine x_aload_n dX12_look_43 rfl rfl ?_
    refine xm_geti dX12_look_44 lf_X12_189 vmi_29 ?_
    refine x_aload_n dX12_look_47 rfl rfl ?_
    refine xm_geti dX12_look_48 lf_X12_192 vmi_28 ?_
    refine x_icmp_ge (tgt := 75) dX12_look_51 (by decide) (fun _ => ?_) (fun z => absurd (by show σ.1 28 ≤ nI p; rw [hn]; exact Int32.le_refl _) z)
    refine x_iconst (v := -1) dX12_look_75 (by decide) ?_
    exact x_ireturn dX12_look_76 rfl rfl (hq)
  | succ m ih =>
    intro p hpn _ hq
    have hpl : p < n := by omega
    have hix : σ.1 27 + nI p = nI (b0 + p) := by rw [hb0, nI_add]
    have hin : vp_in (σ.1 27 + nI p) N := by rw [hix]; exact vp_in_nI (by omega) (by omega)
    have hcl : (σ.1 27 + nI p).toNatClampNeg = b0 + p := by rw [hix]; exact nI_clamp (by omega)
    have hb := hby p hpl
    have hlt : ¬ σ.1 28 ≤ nI p := by rw [hn]; exact nI_ge hpl (by omega)
    refine x_aload_n dX12_look_0 rfl rfl ?_
    refine xm_geti dX12_look_1 lf_X12_189 vmi_29 ?_
    refine x_aload_n dX12_look_4 rfl rfl ?_
    refine xm_geti dX12_look_5 lf_X12_192 vmi_28 ?_
    refine x_icmp_ge (tgt := 43) dX12_look_8 (by decide) (fun z => absurd z hlt) (fun _ => ?_)
    refine x_aload_n dX12_look_11 rfl rfl ?_
    refine xm_getx dX12_look_12 lf_X12_68 ?_
    refine x_aload_n dX12_look_15 rfl rfl ?_
    refine xm_geti dX12_look_16 lf_X12_195 vmi_27 ?_
    refine x_aload_n dX12_look_19 rfl rfl ?_
    refine xm_geti dX12_look_20 lf_X12_189 vmi_29 ?_
    refine x_iadd dX12_look_23 ?_
    refine xm_xald dX12_look_24 htx hi hin hcl ?_
    refine x_bipush (v := 32) dX12_look_25 (by decide) ?_
    refine x_icmp_ne (tgt := 43) dX12_look_27 (by decide) (fun h27 => ?_) (fun h27 => ?_)
    · refine x_aload_n dX12_look_43 rfl rfl ?_
      refine xm_geti dX12_look_44 lf_X12_189 vmi_29 ?_
      refine x_aload_n dX12_look_47 rfl rfl ?_
      refine xm_geti dX12_look_48 lf_X12_192 vmi_28 ?_
      refine x_icmp_ge (tgt := 75) dX12_look_51 (by decide) (fun z => absurd z hlt) (fun _ => ?_)
      refine x_aload_n dX12_look_54 rfl rfl ?_
      refine xm_getx dX12_look_55 lf_X12_68 ?_
      refine x_aload_n dX12_look_58 rfl rfl ?_
      refine xm_geti dX12_look_59 lf_X12_195 vmi_27 ?_
      refine x_aload_n dX12_look_62 rfl rfl ?_
      refine xm_geti dX12_look_63 lf_X12_189 vmi_29 ?_
      refine x_iadd dX12_look_66 ?_
      refine xm_xald dX12_look_67 htx hi hin hcl ?_
      refine x_sipush (v := 255) dX12_look_68 (by decide) ?_
      refine x_iand dX12_look_71 ?_
      refine x_goto (tgt := 76) dX12_look_72 (by decide) ?_
      exact x_ireturn dX12_look_76 rfl rfl (by
have h27' : ¬ b p = 32 := by rw [← hb]; exact h27
unfold lk at hq
rw [sk_at h27', if_pos hpl, ← hb] at hq
exact hq)
    · refine x_aload_n dX12_look_30 rfl rfl ?_
      refine x_dup dX12_look_31 rfl ?_
      refine xm_geti dX12_look_32 lf_X12_189 vmi_29 ?_
      refine x_iconst (v := 1) dX12_look_35 (by decide) ?_
      refine x_iadd dX12_look_36 ?_
      refine xm_puti dX12_look_37 lp_X12_189 vmq_29 vmn_29 vmf_29 ?_
      refine x_goto (tgt := 0) dX12_look_40 (by decide) ?_
      rw [pS_29, show (pS σ (nI p) f e v h).1 29 = nI p from rfl, nI_1]
      refine ih (p + 1) (by omega) rfl ?_
      have h27' : b p = 32 := by rw [← hb]; exact h27
      have e := sk_on hpl h27'
      unfold lk at hq ⊢
      rw [← e]; exact hq
end MDL
