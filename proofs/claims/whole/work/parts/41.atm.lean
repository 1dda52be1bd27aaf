/-! the model's methods, 14: an atom of a rule -/
theorem skF_no (b : Nat → Int32) : ∀ (f p : Nat), skF b f p = p + f ∨ ¬ b (skF b f p) = 32
  | 0, p => Or.inl rfl
  | f + 1, p => by
    unfold skF
    by_cases z : b p = 32
    · rw [if_pos z]
      rcases skF_no b f (p + 1) with y | y
      · exact Or.inl (by rw [y]; omega)
      · exact Or.inr y
    · rw [if_neg z]; exact Or.inr z
theorem sk_sk {b : Nat → Int32} {n p : Nat} (h : p ≤ n) : sk b n (sk b n p) = sk b n p := by
  rcases skF_no b (n - p) p with y | y
  · have e : sk b n p = n := by unfold sk; rw [y]; omega
    rw [e]; exact sk_end b n
  · exact sk_at y
theorem lk_sk {b : Nat → Int32} {n p : Nat} (h : p ≤ n) : lk b n (sk b n p) = lk b n p := by unfold lk; rw [sk_sk h]
theorem lk_of {b : Nat → Int32} {n p q : Nat} (h : sk b n p = sk b n q) : lk b n p = lk b n q := by unfold lk; rw [h]
theorem pS_inc {σ : MS} {p : Nat} {f e v h : Int32} : seti (pS σ (nI p) f e v h) 29 ((pS σ (nI p) f e v h).1 29 + 1) = pS σ (nI (p + 1)) f e v h := by
  rw [pS_29, show (pS σ (nI p) f e v h).1 29 = nI p from rfl, nI_1]
theorem pS_dec {σ : MS} {a f e v h : Int32} : seti (pS σ a f (e + 1) v h) 31 ((pS σ a f (e + 1) v h).1 31 - 1) = pS σ a f e v h := by
  rw [pS_31, show (pS σ a f (e + 1) v h).1 31 = e + 1 from rfl, add_sub1]
theorem ff_1 {a : Int32} : ff (-1) a = a := if_pos rfl
theorem nI_n1 {x : Nat} (h : x < 2 ^ 31) : ¬ nI x = -1 := by
  intro z
  have := nI_toInt h
  rw [z] at this
  have e : (-1 : Int32).toInt = -1 := rfl
  omega
theorem TxtB.n31 {σ : MS} {b : Nat → Int32} {n : Nat} (h : TxtB σ b n) : n ≤ 3200 := by
  obtain ⟨N, b0, -, -, -, h1, h2, -⟩ := h; omega
/-- what the reader needs all the time -/
def RdC (G : Gam) (ad : Nat → Nat) (σ : MS) (b : Nat → Int32) (n : Nat) (L : Int32 → Int32) : Prop := adOK ad ∧ TxtB σ b n ∧ (∀ c, isLet c = true → σ.2 23 c.toNatClampNeg = L c) ∧ (∀ c, bd6 (L c)) ∧ ZCom G ∧ Lit G RX12 225 pLetters ∧ Lit G RX12 270 pLabels
def PQ (ad : Nat → Nat) (σ : MS) (b : Nat → Int32) (n : Nat) (L : Int32 → Int32) (v h e : Int32) (x : PR) (Q : Option Value → Mem → Prop) : Prop :=
  (∀ q cs, x = .ok (q, cs) → ∀ q', q' ≤ n → sk b n q' = sk b n q → Q (some (.int (vl L cs))) (mm ad (pS σ (nI q') (-1) e v h))) ∧ (∀ x', x = .error x' → ∀ w a e', Q (some (.int w)) (mm ad (pS σ a (nI x') e' v h)))
def SumC (G : Gam) (d : Nat) (ad : Nat → Nat) (σ : MS) (b : Nat → Int32) (n : Nat) (L : Int32 → Int32) (v h e : Int32) (S : Option (Nat → PR)) : Prop :=
  (S = none ∧ e = 6) ∨ ∃ s, S = some s ∧ ¬ e = 6 ∧ (∀ p, p ≤ n → Gd n L bd6 p (s p)) ∧ ∀ p' Q', p' ≤ n → PQ ad σ b n L v h (e + 1) (s p') Q' → CT G (d + 3) (0, 0) MX12_sum [.ref (ad 99)] (mm ad (pS σ (nI p') (-1) (e + 1) v h)) Q'
theorem SumC.gd {G : Gam} {d : Nat} {ad : Nat → Nat} {σ : MS} {b : Nat → Int32} {n : Nat} {L : Int32 → Int32} {v h e : Int32} {S : Option (Nat → PR)} (hS : SumC G d ad σ b n L v h e S) : ∀ s, S = some s → ∀ p, p ≤ n → Gd n L bd6 p (s p) := by
  intro s hs
  rcases hS with ⟨h1, -⟩ | ⟨s', h1, -, h2, -⟩
  · rw [h1] at hs; cases hs
  · rw [h1] at hs; cases hs; exact h2
theorem vl_let {L : Int32 → Int32} {c : Int32} (h : isLet c = true) : vl L [-c] = L c := by
  show (stp L (-c) []).headD 0 = _
  rw [stp_let L h]; rfl
theorem vl_num {L : Int32 → Int32} {v : Int32} (h : 0 ≤ v) : vl L [v] = v := by
  show (stp L v []).headD 0 = _
  rw [stp_num L h]; rfl
theorem sx_let (c : Int32) : sxF pLetters c 8 0 = if 97 = c then nI 0 else if 112 = c then nI 1 else if 119 = c then nI 2 else if 116 = c then nI 3 else if 107 = c then nI 4 else if 109 = c then nI 5 else if 101 = c then nI 6 else if 114 = c then nI 7 else -1 := rfl
theorem sx_let_t {c : Int32} (h : isLet c = true) : ¬ sxF pLetters c 8 0 < 0 := by
  rcases let_mem h with h | h | h | h | h | h | h | h <;> subst h <;> decide
theorem sx_let_f {c : Int32} (h : ¬ isLet c = true) : sxF pLetters c 8 0 = -1 := by
  have h2 : ∀ x ∈ pLetters, ¬ x = c := by
    intro x hx e
    subst e
    apply h
    unfold isLet
    exact List.any_eq_true.mpr ⟨x, hx, decide_eq_true rfl⟩
  rw [sx_let, if_neg (h2 97 (by decide)), if_neg (h2 112 (by decide)), if_neg (h2 119 (by decide)), if_neg (h2 116 (by decide)), if_neg (h2 107 (by decide)), if_neg (h2 109 (by decide)), if_neg (h2 101 (by decide)), if_neg (h2 114 (by decide))]
theorem lb_let : ∀ j, j < pLetters.length → 0 ≤ pLetters.getD j 0 ∧ pLetters.getD j 0 ≤ 127 := by decide
section MDO
variable {G : Gam} {d : Nat} {k : Nat × Nat} {Y : MR} {ad : Nat → Nat} {σ σ0 : MS} {M : Mem} {lv : Lv} {st : List Value} {pc : Nat} {Q : Option Value → Mem → Prop} {b : Nat → Int32} {n p : Nat} {L : Int32 → Int32} {e v h : Int32}
theorem c_takes1 {c : Int32} (hi : adOK ad) (hx : TxtB σ b n) (hp : p ≤ n) (h1 : lk b n p = c → Q (some (.int 1)) (mm ad (pS σ (nI (sk b n p + 1)) (-1) e v h))) (h0 : ¬ lk b n p = c → Q (some (.int 0)) (mm ad (pS σ (nI (sk b n p)) (nI (sk b n p)) e v h))) : CT G (d + 1) (0, 0) MX12_takes [.ref (ad 99), .int c] (mm ad (pS σ (nI p) (-1) e v h)) Q := by
  refine c_X12_takes hi hx hp ?_
  rw [if_pos rfl, if_pos rfl]
  by_cases z : lk b n p = c
  · rw [if_pos z, if_pos z]; exact h1 z
  · rw [if_neg z, if_neg z]; exact h0 z
theorem c_takesE {a f c : Int32} (hf : ¬ f = -1) (hq : Q (some (.int 0)) (mm ad (pS σ a f e v h))) : CT G (d + 1) (0, 0) MX12_takes [.ref (ad 99), .int c] (mm ad (pS σ a f e v h)) Q := by
  refine CT.of rfl (Nat.le_of_ble_eq_true rfl) ?_
  refine x_aload_n dX12_takes_0 rfl rfl ?_
  refine xm_geti dX12_takes_1 lf_X12_198 vmi_30 ?_
  refine x_iconst (v := -1) dX12_takes_4 (by decide) ?_
  refine x_icmp_ne (tgt := 16) dX12_takes_5 (by decide) (fun _ => ?_) (fun z => absurd z hf)
  refine x_aload_n dX12_takes_16 rfl rfl ?_
  refine x_cV0 dX12_takes_17 lv_X12_204 mm_obj rfl rfl rfl  (c_X12_fails ?_)
  exact x_ireturn dX12_takes_20 rfl rfl (by unfold ff; rw [if_neg hf]; exact hq)
theorem atom_num (hR : RdC G ad σ b n L) : ∀ (f p m : Nat), p ≤ n → m < 10 ^ (4 - f) → f ≤ 4 → PQ ad σ b n L v h e (pNum b n f p (nI m)) Q → XJ G (d + 1) (0, 0) MX12_atom (mm ad (pS σ (nI p) (-1) e v h)) [(0, .ref (ad 99)), (2, .int (nI m)), (3, .int (nI (4 - f)))] [] 95 Q := by
  obtain ⟨hi, hx, hlet, hbd, hz, -, -⟩ := hR
  have hn := hx.n31
  intro f
  induction f with
  | zero =>
    intro p m hp hm _ hq
    have h00 : 0 ≤ nI m := nI_pos' (by omega)
    unfold pNum at hq
    by_cases hd : isDg b n p
    · have hd2 : p < n ∧ 48 ≤ b p ∧ b p ≤ 57 := hd
      rw [if_pos hd2] at hq
      refine x_aload_n dX12_atom_95 rfl rfl ?_
      refine x_cV0 dX12_atom_96 lv_X12_241 mm_obj rfl rfl rfl  (c_X12_isDigit hi hx hp ?_)
      refine x_if_eq_b (tgt := 161) dX12_atom_99 (by decide) (fun z => absurd hd z) (fun _ => ?_)
      refine x_aload_n dX12_atom_102 rfl rfl ?_
      refine xm_geti dX12_atom_103 lf_X12_198 vmi_30 ?_
      refine x_iconst (v := -1) dX12_atom_106 (by decide) ?_
      refine x_icmp_ne (tgt := 161) dX12_atom_107 (by decide) (fun z => absurd rfl z) (fun _ => ?_)
      refine x_iload_n dX12_atom_110 rfl rfl ?_
      refine x_iconst (v := 4) dX12_atom_111 (by decide) ?_
      refine x_icmp_ne (tgt := 122) dX12_atom_112 (by decide) (fun z => absurd (by decide) z) (fun _ => ?_)
      refine x_aload_n dX12_atom_115 rfl rfl ?_
      refine x_cV0 dX12_atom_116 lv_X12_204 mm_obj rfl rfl rfl  (c_X12_fails ?_)
      refine x_pop dX12_atom_119 rfl ?_
      refine x_iconst (v := 0) dX12_atom_120 (by decide) ?_
      exact x_ireturn dX12_atom_121 rfl rfl (hq.2 p rfl 0 (nI p) e)
    · have hd2 : ¬ (p < n ∧ 48 ≤ b p ∧ b p ≤ 57) := hd
      rw [if_neg hd2] at hq
      refine x_aload_n dX12_atom_95 rfl rfl ?_
      refine x_cV0 dX12_atom_96 lv_X12_241 mm_obj rfl rfl rfl  (c_X12_isDigit hi hx hp ?_)
      refine x_if_eq_b (tgt := 161) dX12_atom_99 (by decide) (fun _ => ?_) (fun z => absurd z hd)
      refine x_iload_n dX12_atom_161 rfl rfl ?_
      exact x_ireturn dX12_atom_162 rfl rfl (by
have := hq.1 p [nI m] rfl p hp rfl
rw [vl_num h00] at this; exact this)
  | succ f ih =>
    intro p m hp hm hf hq
    have hm2 : m < 1000 := Nat.lt_of_lt_of_le hm (Nat.pow_le_pow_right (by decide) (by omega : 4 - (f + 1) ≤ 3))
    have h00 : 0 ≤ nI m := nI_pos' (by omega)
    unfold pNum at hq
    by_cases hd : isDg b n p
    · have hd2 : p < n ∧ 48 ≤ b p ∧ b p ≤ 57 := hd
      rw [if_pos hd2] at hq
      obtain ⟨dg, hdg, hst⟩ := dig_st hd
      rw [hst m] at hq
      have e10 : 10 ^ (4 - f) = 10 * 10 ^ (4 - (f + 1)) := by
        rw [show 4 - f = (4 - (f + 1)) + 1 by omega, Nat.pow_succ, Nat.mul_comm]
      have hne4 : ¬ nI (4 - (f + 1)) = 4 := by
        intro z
        have := (nI_eq (a := 4 - (f + 1)) (b := 4) (by omega) (by decide)).mp z
        omega
      have hih := ih (p + 1) (10 * m + dg) (by omega) (by rw [e10]; omega) (by omega) hq
      obtain ⟨N, b0, htx, hb0, hnn, hN, hN2, hby⟩ := hx
      have hx' : TxtB σ b n := ⟨N, b0, htx, hb0, hnn, hN, hN2, hby⟩
      have hix : σ.1 27 + nI p = nI (b0 + p) := by rw [hb0, nI_add]
      have hin : vp_in (σ.1 27 + nI p) N := by rw [hix]; exact vp_in_nI (by omega) (by omega)
      have hcl : (σ.1 27 + nI p).toNatClampNeg = b0 + p := by rw [hix]; exact nI_clamp (by omega)
      have hb := hby p hd2.1
      refine x_aload_n dX12_atom_95 rfl rfl ?_
      refine x_cV0 dX12_atom_96 lv_X12_241 mm_obj rfl rfl rfl  (c_X12_isDigit hi hx' hp ?_)
      refine x_if_eq_b (tgt := 161) dX12_atom_99 (by decide) (fun z => absurd hd z) (fun _ => ?_)
      refine x_aload_n dX12_atom_102 rfl rfl ?_
      refine xm_geti dX12_atom_103 lf_X12_198 vmi_30 ?_
      refine x_iconst (v := -1) dX12_atom_106 (by decide) ?_
      refine x_icmp_ne (tgt := 161) dX12_atom_107 (by decide) (fun z => absurd rfl z) (fun _ => ?_)
      refine x_iload_n dX12_atom_110 rfl rfl ?_
      refine x_iconst (v := 4) dX12_atom_111 (by decide) ?_
      refine x_icmp_ne (tgt := 122) dX12_atom_112 (by decide) (fun _ => ?_) (fun z => absurd z hne4)
      refine x_bipush (v := 10) dX12_atom_122 (by decide) ?_
      refine x_iload_n dX12_atom_124 rfl rfl ?_
      refine x_imul dX12_atom_125 ?_
      refine x_aload_n dX12_atom_126 rfl rfl ?_
      refine xm_getx dX12_atom_127 lf_X12_68 ?_
      refine x_aload_n dX12_atom_130 rfl rfl ?_
      refine xm_geti dX12_atom_131 lf_X12_195 vmi_27 ?_
      refine x_aload_n dX12_atom_134 rfl rfl ?_
      refine xm_geti dX12_atom_135 lf_X12_189 vmi_29 ?_
      refine x_iadd dX12_atom_138 ?_
      refine xm_xald dX12_atom_139 htx hi hin hcl ?_
      refine x_iadd dX12_atom_140 ?_
      refine x_bipush (v := 48) dX12_atom_141 (by decide) ?_
      refine x_isub dX12_atom_143 ?_
      refine x_istore_n dX12_atom_144 rfl (by decide) ?_
      refine x_aload_n dX12_atom_145 rfl rfl ?_
      refine x_dup dX12_atom_146 rfl ?_
      refine xm_geti dX12_atom_147 lf_X12_189 vmi_29 ?_
      refine x_iconst (v := 1) dX12_atom_150 (by decide) ?_
      refine x_iadd dX12_atom_151 ?_
      refine xm_puti dX12_atom_152 lp_X12_189 vmq_29 vmn_29 vmf_29 ?_
      rw [pS_inc]
      refine x_iinc (c := 1) dX12_atom_155 rfl (by decide) ?_
      refine x_goto (tgt := 95) dX12_atom_158 (by decide) ?_
      refine x_loc _ (?_ : lle _ _) hih
      refine ⟨rfl, ?_, ?_, trivial⟩
      · show some (Value.int (10 * nI m + σ.2 (σ.1 26).toNatClampNeg (b0 + p) - 48)) = some (Value.int (nI (10 * m + dg)))
        rw [hb, hst m]
      · show some (Value.int (nI (4 - (f + 1)) + 1)) = some (Value.int (nI (4 - f)))
        rw [nI_1, show 4 - (f + 1) + 1 = 4 - f by omega]
    · have hd2 : ¬ (p < n ∧ 48 ≤ b p ∧ b p ≤ 57) := hd
      rw [if_neg hd2] at hq
      refine x_aload_n dX12_atom_95 rfl rfl ?_
      refine x_cV0 dX12_atom_96 lv_X12_241 mm_obj rfl rfl rfl  (c_X12_isDigit hi hx hp ?_)
      refine x_if_eq_b (tgt := 161) dX12_atom_99 (by decide) (fun _ => ?_) (fun z => absurd z hd)
      refine x_iload_n dX12_atom_161 rfl rfl ?_
      exact x_ireturn dX12_atom_162 rfl rfl (by
have := hq.1 p [nI m] rfl p hp rfl
rw [vl_num h00] at this; exact this)
theorem atom_36 {S : Option (Nat → PR)} (hR : RdC G ad σ b n L) (hp : p ≤ n) (hS : SumC G d ad σ b n L v h e S) (hl : ¬ isLet (lk b n p) = true) (hq : PQ ad σ b n L v h e (pAtom b n S p) Q) : XJ G (d + 4) (0, 0) MX12_atom (mm ad (pS σ (nI (sk b n p)) (-1) e v h)) [(0, .ref (ad 99)), (1, .int (lk b n p))] [] 36 Q := by
  have hR' := hR
  obtain ⟨hi, hx, hlet, hbd, hz, -, -⟩ := hR
  have hn := hx.n31
  have hskn := sk_le (b := b) hp
  unfold pAtom at hq
  rw [if_neg (show ¬ pLetters.any (fun c => decide (lk b n p = c)) = true from hl)] at hq
  by_cases h91 : lk b n p = 91
  · rw [if_pos (see_eq.mpr h91)] at hq
    have hlt : sk b n p < n := lk_lt (by rw [h91]; decide)
    rcases hS with ⟨hS1, he⟩ | ⟨s, hS1, he, hgd, hsum⟩
    · subst hS1
      refine x_iload_n dX12_atom_36 rfl rfl ?_
      refine x_bipush (v := 91) dX12_atom_37 (by decide) ?_
      refine x_icmp_ne (tgt := 79) dX12_atom_39 (by decide) (fun z => absurd h91 z) (fun _ => ?_)
      refine x_aload_n dX12_atom_42 rfl rfl ?_
      refine x_cV0 dX12_atom_43 lv_X12_232 mm_obj rfl rfl rfl  (c_X12_goesIn ?_)
      rw [if_pos he, if_pos he, ff_1]
      refine x_if_ne (tgt := 51) dX12_atom_46 (by decide) (fun z => absurd rfl z) (fun _ => ?_)
      refine x_iconst (v := 0) dX12_atom_49 (by decide) ?_
      exact x_ireturn dX12_atom_50 rfl rfl (hq.2 _ rfl 0 _ _)
    · subst hS1
      refine x_iload_n dX12_atom_36 rfl rfl ?_
      refine x_bipush (v := 91) dX12_atom_37 (by decide) ?_
      refine x_icmp_ne (tgt := 79) dX12_atom_39 (by decide) (fun z => absurd h91 z) (fun _ => ?_)
      refine x_aload_n dX12_atom_42 rfl rfl ?_
      refine x_cV0 dX12_atom_43 lv_X12_232 mm_obj rfl rfl rfl  (c_X12_goesIn ?_)
      rw [if_neg he, if_neg he]
      refine x_if_ne (tgt := 51) dX12_atom_46 (by decide) (fun _ => ?_) (fun z => absurd z (by decide))
      refine x_aload_n dX12_atom_51 rfl rfl ?_
      refine x_cV0 dX12_atom_52 lv_X12_235 mm_obj rfl rfl rfl  (hsum _ _ (by omega) ?_)
      refine ⟨fun q cs hok q' hq' hsk => ?_, fun x' herr w a e' => ?_⟩
      · have hqn := ((hgd _ (by omega)).1 q cs hok).2.1
        have hq2 : PQ ad σ b n L v h e (pTake b n q 93 cs) Q := by
          have h2 := hq
          simp only [hok, pBind] at h2
          exact h2
        clear hq
        unfold pTake at hq2
        have hlk := lk_of hsk
        refine x_istore_n dX12_atom_55 rfl (by decide) ?_
        refine x_aload_n dX12_atom_56 rfl rfl ?_
        refine x_bipush (v := 93) dX12_atom_57 (by decide) ?_
        refine x_cV1 dX12_atom_59 lv_X12_238 mm_obj rfl rfl rfl  (c_takes1 hi hx hq' ?_ ?_)
        · intro hl
          rw [hlk] at hl
          rw [if_pos (see_eq.mpr hl)] at hq2
          rw [hsk]
          refine x_if_ne (tgt := 67) dX12_atom_62 (by decide) (fun _ => ?_) (fun z => absurd z (by decide))
          refine x_aload_n dX12_atom_67 rfl rfl ?_
          refine x_dup dX12_atom_68 rfl ?_
          refine xm_geti dX12_atom_69 lf_X12_201 vmi_31 ?_
          refine x_iconst (v := 1) dX12_atom_72 (by decide) ?_
          refine x_isub dX12_atom_73 ?_
          refine xm_puti dX12_atom_74 lp_X12_201 vmq_31 vmn_31 vmf_31 ?_
          rw [pS_dec]
          refine x_iload_n dX12_atom_77 rfl rfl ?_
          exact x_ireturn dX12_atom_78 rfl rfl (hq2.1 _ _ rfl _ (by have := lk_lt (show ¬ lk b n q = -1 by rw [hl]; decide); omega) rfl)
        · intro hl
          rw [hlk] at hl
          rw [if_neg (fun z => hl (see_eq.mp z))] at hq2
          rw [hsk]
          refine x_if_ne (tgt := 67) dX12_atom_62 (by decide) (fun z => absurd rfl z) (fun _ => ?_)
          refine x_iconst (v := 0) dX12_atom_65 (by decide) ?_
          exact x_ireturn dX12_atom_66 rfl rfl (hq2.2 _ rfl 0 _ _)
      · have hq2 : ∀ w a e', Q (some (.int w)) (mm ad (pS σ a (nI x') e' v h)) := by
          have h2 := hq
          simp only [herr, pBind] at h2
          exact h2.2 x' rfl
        have hx31 : x' < 2 ^ 31 := by have := (hgd _ (by omega)).2 x' herr; omega
        have hne := nI_n1 hx31
        refine x_istore_n dX12_atom_55 rfl (by decide) ?_
        refine x_aload_n dX12_atom_56 rfl rfl ?_
        refine x_bipush (v := 93) dX12_atom_57 (by decide) ?_
        refine x_cV1 dX12_atom_59 lv_X12_238 mm_obj rfl rfl rfl  (c_takesE hne ?_)
        refine x_if_ne (tgt := 67) dX12_atom_62 (by decide) (fun z => absurd rfl z) (fun _ => ?_)
        refine x_iconst (v := 0) dX12_atom_65 (by decide) ?_
        exact x_ireturn dX12_atom_66 rfl rfl (hq2 0 _ _)
  · rw [if_neg (fun z => h91 (see_eq.mp z))] at hq
    by_cases hd : isDg b n (sk b n p)
    · have hd2 : sk b n p < n ∧ 48 ≤ b (sk b n p) ∧ b (sk b n p) ≤ 57 := hd
      rw [if_pos hd2] at hq
      have hnum := atom_num (d := d + 3) hR' 4 (sk b n p) 0 hskn (by decide) (by decide) hq
      refine x_iload_n dX12_atom_36 rfl rfl ?_
      refine x_bipush (v := 91) dX12_atom_37 (by decide) ?_
      refine x_icmp_ne (tgt := 79) dX12_atom_39 (by decide) (fun _ => ?_) (fun z => absurd z h91)
      refine x_aload_n dX12_atom_79 rfl rfl ?_
      refine x_cV0 dX12_atom_80 lv_X12_241 mm_obj rfl rfl rfl  (c_X12_isDigit hi hx hskn ?_)
      refine x_if_ne_b (tgt := 91) dX12_atom_83 (by decide) (fun _ => ?_) (fun z => absurd hd z)
      refine x_iconst (v := 0) dX12_atom_91 (by decide) ?_
      refine x_istore_n dX12_atom_92 rfl (by decide) ?_
      refine x_iconst (v := 0) dX12_atom_93 (by decide) ?_
      refine x_istore_n dX12_atom_94 rfl (by decide) ?_
      refine x_loc _ (?_ : lle _ _) hnum
      exact ⟨rfl, rfl, rfl, trivial⟩
    · have hd2 : ¬ (sk b n p < n ∧ 48 ≤ b (sk b n p) ∧ b (sk b n p) ≤ 57) := hd
      rw [if_neg hd2] at hq
      refine x_iload_n dX12_atom_36 rfl rfl ?_
      refine x_bipush (v := 91) dX12_atom_37 (by decide) ?_
      refine x_icmp_ne (tgt := 79) dX12_atom_39 (by decide) (fun _ => ?_) (fun z => absurd z h91)
      refine x_aload_n dX12_atom_79 rfl rfl ?_
      refine x_cV0 dX12_atom_80 lv_X12_241 mm_obj rfl rfl rfl  (c_X12_isDigit hi hx hskn ?_)
      refine x_if_ne_b (tgt := 91) dX12_atom_83 (by decide) (fun z => absurd z hd) (fun _ => ?_)
      refine x_aload_n dX12_atom_86 rfl rfl ?_
      refine x_cV0 dX12_atom_87 lv_X12_204 mm_obj rfl rfl rfl  (c_X12_fails ?_)
      rw [ff_1]
      refine x_pop dX12_atom_90 rfl ?_
      refine x_iconst (v := 0) dX12_atom_91 (by decide) ?_
      refine x_istore_n dX12_atom_92 rfl (by decide) ?_
      refine x_iconst (v := 0) dX12_atom_93 (by decide) ?_
      refine x_istore_n dX12_atom_94 rfl (by decide) ?_
      refine x_aload_n dX12_atom_95 rfl rfl ?_
      refine x_cV0 dX12_atom_96 lv_X12_241 mm_obj rfl rfl rfl  (c_X12_isDigit hi hx hskn ?_)
      refine x_if_eq_b (tgt := 161) dX12_atom_99 (by decide) (fun _ => ?_) (fun z => absurd z hd)
      refine x_iload_n dX12_atom_161 rfl rfl ?_
      exact x_ireturn dX12_atom_162 rfl rfl (hq.2 _ rfl _ _ _)
theorem c_X12_atom {S : Option (Nat → PR)} (hR : RdC G ad σ b n L) (hp : p ≤ n) (hS : SumC G d ad σ b n L v h e S) (hq : PQ ad σ b n L v h e (pAtom b n S p) Q) : CT G (d + 4) (0, 0) MX12_atom [.ref (ad 99)] (mm ad (pS σ (nI p) (-1) e v h)) Q := by
  have hR' := hR
  obtain ⟨hi, hx, hlet, hbd, hz, ⟨tx, la, hlR, hlS⟩, -⟩ := hR
  have hlS' := hlS
  obtain ⟨lv, hlO, -⟩ := hlS
  have hn := hx.n31
  have hskn := sk_le (b := b) hp
  refine CT.of rfl (Nat.le_of_ble_eq_true rfl) ?_
  by_cases hl : isLet (lk b n p) = true
  · have hne : ¬ lk b n p = -1 := by intro z; rw [z] at hl; revert hl; decide
    have hlt := lk_lt hne
    unfold pAtom at hq
    rw [if_pos (show pLetters.any (fun c => decide (lk b n p = c)) = true from hl)] at hq
    have hin : vp_in (lk b n p) 128 := by rcases let_mem hl with z | z | z | z | z | z | z | z <;> rw [z] <;> exact vp_in_nI (by decide) (by decide)
    refine x_aload_n dX12_atom_0 rfl rfl ?_
    refine x_cV0 dX12_atom_1 lv_X12_208 mm_obj rfl rfl rfl  (c_X12_look hi hx hp ?_)
    refine x_istore_n dX12_atom_4 rfl (by decide) ?_
    refine x_iload_n dX12_atom_5 rfl rfl ?_
    refine x_iconst (v := -1) dX12_atom_6 (by decide) ?_
    refine x_icmp_eq (tgt := 36) dX12_atom_7 (by decide) (fun z => absurd z hne) (fun _ => ?_)
    refine x_ldcS dX12_atom_10 hlR ?_
    refine x_iload_n dX12_atom_12 rfl rfl ?_
    refine x_oV1 dX12_atom_13 lv_X12_227 hlO rfl rfl  (c_J0_indexOf hz (by decide) lb_let hlS' ?_)
    refine x_if_lt (tgt := 36) dX12_atom_16 (by decide) (fun z => absurd z (sx_let_t hl)) (fun _ => ?_)
    refine x_aload_n dX12_atom_19 rfl rfl ?_
    refine x_dup dX12_atom_20 rfl ?_
    refine xm_geti dX12_atom_21 lf_X12_189 vmi_29 ?_
    refine x_iconst (v := 1) dX12_atom_24 (by decide) ?_
    refine x_iadd dX12_atom_25 ?_
    refine xm_puti dX12_atom_26 lp_X12_189 vmq_29 vmn_29 vmf_29 ?_
    rw [pS_inc]
    refine x_aload_n dX12_atom_29 rfl rfl ?_
    refine xm_geta dX12_atom_30 lf_X12_65 vma_23 ?_
    refine x_iload_n dX12_atom_33 rfl rfl ?_
    refine xm_iald 23 dX12_atom_34 mf_23 hi hin rfl ?_
    exact x_ireturn dX12_atom_35 rfl rfl (by
have h2 := hq.1 _ _ rfl (sk b n p + 1) (by omega) rfl
rw [vl_let hl, ← hlet _ hl] at h2
exact h2)
  · refine x_aload_n dX12_atom_0 rfl rfl ?_
    refine x_cV0 dX12_atom_1 lv_X12_208 mm_obj rfl rfl rfl  (c_X12_look hi hx hp ?_)
    refine x_istore_n dX12_atom_4 rfl (by decide) ?_
    refine x_iload_n dX12_atom_5 rfl rfl ?_
    refine x_iconst (v := -1) dX12_atom_6 (by decide) ?_
    refine x_icmp_eq (tgt := 36) dX12_atom_7 (by decide) (fun h7 => ?_) (fun h7 => ?_)
    · refine x_loc _ (?_ : lle _ _) (atom_36 hR' hp hS hl hq)
      exact ⟨rfl, rfl, trivial⟩
    · refine x_ldcS dX12_atom_10 hlR ?_
      refine x_iload_n dX12_atom_12 rfl rfl ?_
      refine x_oV1 dX12_atom_13 lv_X12_227 hlO rfl rfl  (c_J0_indexOf hz (by decide) lb_let hlS' ?_)
      refine x_if_lt (tgt := 36) dX12_atom_16 (by decide) (fun _ => ?_) (fun z => absurd (by rw [show sxF pLetters (lk b n p) pLetters.length 0 = -1 from sx_let_f hl]; decide) z)
      refine x_loc _ (?_ : lle _ _) (atom_36 hR' hp hS hl hq)
      exact ⟨rfl, rfl, trivial⟩
end MDO
