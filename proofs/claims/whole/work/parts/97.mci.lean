/-! the model is made -/
def s00 : MS := (fun k => bif Nat.beq k 26 then nI 18 else 0, fun _ _ => 0)
theorem mArr_ty : ∀ q ∈ mArr, defaultValue (tyA q.2.1) = .int 0 := by decide
theorem m13_ty : ∀ j, j < 66 → mIsA j = false → j ≠ 26 → defaultValue (vwTy 13 j) = .int 0 := by decide +kernel
theorem mm_cs {ad : Nat → Nat} {σ : MS} {b : Nat} {c : Cel} (h : mm ad σ b = some c) : (b = ad 99 ∧ c = (13, 66, vM ad σ)) ∨ ∃ q ∈ mArr, b = ad q.1 ∧ c = (q.2.1, q.2.2, fun i => .int (σ.2 q.1 i)) := by
  have H : ∀ (l : List (Nat × Nat × Nat)), mmA ad σ l b = some c → ∃ q ∈ l, b = ad q.1 ∧ c = (q.2.1, q.2.2, fun i => .int (σ.2 q.1 i)) := by
    intro l
    induction l with
    | nil => intro h; cases h
    | cons q t ih =>
      intro h
      obtain ⟨k, c0, n0⟩ := q
      have h' : (if b = ad k then some (c0, n0, fun i => Value.int (σ.2 k i)) else mmA ad σ t b) = some c := h
      by_cases e : b = ad k
      · rw [if_pos e] at h'
        cases h'
        exact ⟨_, List.mem_cons_self, e, rfl⟩
      · rw [if_neg e] at h'
        obtain ⟨r, hr, h1, h2⟩ := ih h'
        exact ⟨r, List.mem_cons_of_mem _ hr, h1, h2⟩
  unfold mm at h
  by_cases e : b = ad 99
  · rw [if_pos e] at h
    cases h
    exact Or.inl ⟨e, rfl⟩
  · rw [if_neg e] at h
    exact Or.inr (H mArr h)
/-- what was made is the model's memory -/
theorem mm_made {M M0 : Mem} {m a18 : Nat} {L : List (Nat × Nat × Nat × Nat)} (hI : OI M M0 m 13 66 (updV (fun j => defaultValue (vwTy 13 j)) 26 (.ref a18)) L) (hL : L.map (fun q => (q.1, q.2.2)) = mArr.reverse) (h18 : (18, a18, 101, 160) ∈ L) : ∃ ad, adOK ad ∧ ad 99 = m ∧ ∀ b c', mm ad s00 b = some c' → ∃ f, M b = some (c'.1, c'.2.1, f) ∧ ∀ j, j < c'.2.1 → f j = c'.2.2 j := by
  have hk : L.map (fun q => q.1) = (mArr.reverse).map (fun q => q.1) := by rw [← hL, List.map_map]; rfl
  have hnd : (L.map (fun q => q.1)).Nodup := by rw [hk]; decide
  have h99 : ∀ q ∈ L, q.1 < 99 := fun q hq => by
    have : q.1 ∈ (mArr.reverse).map (fun q => q.1) := by rw [← hk]; exact List.mem_map.mpr ⟨q, hq, rfl⟩
    obtain ⟨r, hr, e⟩ := List.mem_map.mp this
    have e' : r.1 = q.1 := e
    rw [← e']
    exact mArr_lt r (List.mem_reverse.mp hr)
  obtain ⟨ad, h1, h2⟩ := padA ((99, m) :: L.map (fun q => (q.1, q.2.1))) (by
    rw [List.map_cons, List.map_map, List.nodup_cons]
    refine ⟨fun z => ?_, hnd⟩
    obtain ⟨q, hq, e⟩ := List.mem_map.mp z
    have := h99 q hq
    have e' : q.1 = 99 := e
    omega) (by
    rw [List.map_cons, List.map_map, List.nodup_cons]
    exact ⟨hI.nm, hI.2.2.1⟩)
  have hm : ad 99 = m := h2 (99, m) List.mem_cons_self
  have hq : ∀ q ∈ L, ad q.1 = q.2.1 := fun q hq => h2 (q.1, q.2.1) (List.mem_cons_of_mem _ (List.mem_map.mpr ⟨q, hq, rfl⟩))
  have hin : ∀ q ∈ mArr, ∃ r ∈ L, r.1 = q.1 ∧ r.2.2 = q.2 := fun q hq => by
    have : q ∈ L.map (fun q => (q.1, q.2.2)) := by rw [hL]; exact List.mem_reverse.mpr hq
    obtain ⟨r, hr, e⟩ := List.mem_map.mp this
    exact ⟨r, hr, by rw [← e], by rw [← e]⟩
  have h18' : ad 18 = a18 := hq _ h18
  refine ⟨ad, h1, hm, fun b c' hb => ?_⟩
  rcases mm_cs hb with ⟨e1, e2⟩ | ⟨q, hqm, e1, e2⟩
  · subst e2
    refine ⟨_, by rw [e1, hm]; exact hI.1, fun j hj => ?_⟩
    by_cases hA : mIsA j = true
    · have hj2 : ∃ q ∈ L, q.1 = j := by
        unfold mIsA at hA
        cases ef : mFind mArr j with
        | none => rw [ef] at hA; cases hA
        | some c =>
          obtain ⟨r, hr, e, -⟩ := hin _ (mFind_mem ef)
          exact ⟨r, hr, e⟩
      obtain ⟨r, hr, e⟩ := hj2
      subst e
      rw [fO_at hnd r hr]
      show _ = (bif mIsA r.1 then Value.ref (ad r.1) else _)
      rw [hA, hq r hr]
      rfl
    · have hA' : mIsA j = false := by cases z : mIsA j with | false => rfl | true => exact absurd z hA
      rw [fO_no (fun q hq9 z => by
        have : q.1 ∈ (mArr.reverse).map (fun q => q.1) := by rw [← hk]; exact List.mem_map.mpr ⟨q, hq9, rfl⟩
        obtain ⟨r, hr, e⟩ := List.mem_map.mp this
        have e' : r.1 = j := (show r.1 = q.1 from e).trans z
        have hall : ∀ r ∈ mArr, mIsA r.1 = true := by decide
        have := hall r (List.mem_reverse.mp hr)
        rw [e', hA'] at this
        cases this)]
      show _ = (bif mIsA j then Value.ref (ad j) else (bif Nat.beq j 26 then Value.ref (ad (s00.1 26).toNatClampNeg) else Value.int (s00.1 j)))
      rw [hA']
      by_cases e : j = 26
      · subst e
        rw [updV_eq]
        show Value.ref a18 = Value.ref (ad (nI 18).toNatClampNeg)
        rw [show (nI 18).toNatClampNeg = 18 from nI_clamp (by decide), h18']
      · rw [updV_ne e, m13_ty j hj hA' e]
        show Value.int 0 = (bif Nat.beq j 26 then _ else Value.int (bif Nat.beq j 26 then nI 18 else 0))
        rw [beq_f e]; rfl
  · subst e2
    obtain ⟨r, hr, g1, g2⟩ := hin q hqm
    have h3 := (hI.2.1 r hr).1
    rw [g2] at h3
    refine ⟨_, by rw [e1, ← g1, hq r hr]; exact h3, fun j _ => mArr_ty q hqm⟩
section MCI
variable {G : Gam} {d : Nat} {Q : Option Value → Mem → Prop}
theorem c_X12_init {M0 : Mem} {m : Nat} (hm : M0 m = some (13, 66, fun j => defaultValue (vwTy 13 j))) (hq : ∀ ad, adOK ad → ad 99 = m → Q none (mm ad s00)) : CT G (d + 1) (41, 7036) MX12_init [.ref m] M0 Q := by
  refine CT.of rfl (Nat.le_of_ble_eq_true rfl) ?_
  have hI := OI.ini hm
  refine x_aload_n dX12_init_0 rfl rfl ?_
  refine x_objInit dX12_init_1 tb1187 (Nat.le_of_ble_eq_true rfl) ?_
  refine x_aload_n dX12_init_4 rfl rfl ?_
  refine x_bipush (v := 24) dX12_init_5 (by decide) ?_
  refine x_mk (kc := 40) (ks := 7012) (ci := 100) (N := 24) (kf := 2) hI dX12_init_7 rfl (by decide) (by decide) tb89 (by decide) rfl (by decide) (fun M1 f h hM kk => x_putF dX12_init_9 lp_X12_9 rfl hM rfl rfl kk) (fun M2 a2 hI2 => ?_)
  clear hI
  refine x_aload_n dX12_init_12 rfl rfl ?_
  refine x_bipush (v := 24) dX12_init_13 (by decide) ?_
  refine x_mk (kc := 39) (ks := 6988) (ci := 100) (N := 24) (kf := 3) hI2 dX12_init_15 rfl (by decide) (by decide) tb89 (by decide) rfl (by decide) (fun M1 f h hM kk => x_putF dX12_init_17 lp_X12_13 rfl hM rfl rfl kk) (fun M3 a3 hI3 => ?_)
  clear hI2
  refine x_aload_n dX12_init_20 rfl rfl ?_
  refine x_bipush (v := 24) dX12_init_21 (by decide) ?_
  refine x_mk (kc := 38) (ks := 6964) (ci := 100) (N := 24) (kf := 4) hI3 dX12_init_23 rfl (by decide) (by decide) tb89 (by decide) rfl (by decide) (fun M1 f h hM kk => x_putF dX12_init_25 lp_X12_16 rfl hM rfl rfl kk) (fun M4 a4 hI4 => ?_)
  clear hI3
  refine x_aload_n dX12_init_28 rfl rfl ?_
  refine x_bipush (v := 60) dX12_init_29 (by decide) ?_
  refine x_mk (kc := 37) (ks := 6904) (ci := 100) (N := 60) (kf := 5) hI4 dX12_init_31 rfl (by decide) (by decide) tb89 (by decide) rfl (by decide) (fun M1 f h hM kk => x_putF dX12_init_33 lp_X12_19 rfl hM rfl rfl kk) (fun M5 a5 hI5 => ?_)
  clear hI4
  refine x_aload_n dX12_init_36 rfl rfl ?_
  refine x_bipush (v := 60) dX12_init_37 (by decide) ?_
  refine x_mk (kc := 36) (ks := 6844) (ci := 100) (N := 60) (kf := 6) hI5 dX12_init_39 rfl (by decide) (by decide) tb89 (by decide) rfl (by decide) (fun M1 f h hM kk => x_putF dX12_init_41 lp_X12_22 rfl hM rfl rfl kk) (fun M6 a6 hI6 => ?_)
  clear hI5
  refine x_aload_n dX12_init_44 rfl rfl ?_
  refine x_bipush (v := 60) dX12_init_45 (by decide) ?_
  refine x_mk (kc := 35) (ks := 6784) (ci := 100) (N := 60) (kf := 7) hI6 dX12_init_47 rfl (by decide) (by decide) tb89 (by decide) rfl (by decide) (fun M1 f h hM kk => x_putF dX12_init_49 lp_X12_25 rfl hM rfl rfl kk) (fun M7 a7 hI7 => ?_)
  clear hI6
  refine x_aload_n dX12_init_52 rfl rfl ?_
  refine x_sipush (v := 200) dX12_init_53 (by decide) ?_
  refine x_mk (kc := 34) (ks := 6584) (ci := 100) (N := 200) (kf := 8) hI7 dX12_init_56 rfl (by decide) (by decide) tb89 (by decide) rfl (by decide) (fun M1 f h hM kk => x_putF dX12_init_58 lp_X12_28 rfl hM rfl rfl kk) (fun M8 a8 hI8 => ?_)
  clear hI7
  refine x_aload_n dX12_init_61 rfl rfl ?_
  refine x_sipush (v := 200) dX12_init_62 (by decide) ?_
  refine x_mk (kc := 33) (ks := 6384) (ci := 100) (N := 200) (kf := 9) hI8 dX12_init_65 rfl (by decide) (by decide) tb89 (by decide) rfl (by decide) (fun M1 f h hM kk => x_putF dX12_init_67 lp_X12_31 rfl hM rfl rfl kk) (fun M9 a9 hI9 => ?_)
  clear hI8
  refine x_aload_n dX12_init_70 rfl rfl ?_
  refine x_sipush (v := 200) dX12_init_71 (by decide) ?_
  refine x_mk (kc := 32) (ks := 6184) (ci := 100) (N := 200) (kf := 10) hI9 dX12_init_74 rfl (by decide) (by decide) tb89 (by decide) rfl (by decide) (fun M1 f h hM kk => x_putF dX12_init_76 lp_X12_34 rfl hM rfl rfl kk) (fun M10 a10 hI10 => ?_)
  clear hI9
  refine x_aload_n dX12_init_79 rfl rfl ?_
  refine x_sipush (v := 200) dX12_init_80 (by decide) ?_
  refine x_mk (kc := 31) (ks := 5984) (ci := 100) (N := 200) (kf := 11) hI10 dX12_init_83 rfl (by decide) (by decide) tb89 (by decide) rfl (by decide) (fun M1 f h hM kk => x_putF dX12_init_85 lp_X12_37 rfl hM rfl rfl kk) (fun M11 a11 hI11 => ?_)
  clear hI10
  refine x_aload_n dX12_init_88 rfl rfl ?_
  refine x_sipush (v := 200) dX12_init_89 (by decide) ?_
  refine x_mk (kc := 30) (ks := 5784) (ci := 100) (N := 200) (kf := 12) hI11 dX12_init_92 rfl (by decide) (by decide) tb89 (by decide) rfl (by decide) (fun M1 f h hM kk => x_putF dX12_init_94 lp_X12_40 rfl hM rfl rfl kk) (fun M12 a12 hI12 => ?_)
  clear hI11
  refine x_aload_n dX12_init_97 rfl rfl ?_
  refine x_sipush (v := 200) dX12_init_98 (by decide) ?_
  refine x_mk (kc := 29) (ks := 5584) (ci := 100) (N := 200) (kf := 13) hI12 dX12_init_101 rfl (by decide) (by decide) tb89 (by decide) rfl (by decide) (fun M1 f h hM kk => x_putF dX12_init_103 lp_X12_43 rfl hM rfl rfl kk) (fun M13 a13 hI13 => ?_)
  clear hI12
  refine x_aload_n dX12_init_106 rfl rfl ?_
  refine x_sipush (v := 200) dX12_init_107 (by decide) ?_
  refine x_mk (kc := 28) (ks := 5384) (ci := 100) (N := 200) (kf := 14) hI13 dX12_init_110 rfl (by decide) (by decide) tb89 (by decide) rfl (by decide) (fun M1 f h hM kk => x_putF dX12_init_112 lp_X12_46 rfl hM rfl rfl kk) (fun M14 a14 hI14 => ?_)
  clear hI13
  refine x_aload_n dX12_init_115 rfl rfl ?_
  refine x_sipush (v := 160) dX12_init_116 (by decide) ?_
  refine x_mk (kc := 27) (ks := 5224) (ci := 101) (N := 160) (kf := 18) hI14 dX12_init_119 rfl (by decide) (by decide) tb166 (by decide) rfl (by decide) (fun M1 f h hM kk => x_putF dX12_init_121 lp_X12_49 rfl hM rfl rfl kk) (fun M18 a18 hI18 => ?_)
  clear hI14
  refine x_aload_n dX12_init_124 rfl rfl ?_
  refine x_sipush (v := 3200) dX12_init_125 (by decide) ?_
  refine x_mk (kc := 26) (ks := 2024) (ci := 101) (N := 3200) (kf := 19) hI18 dX12_init_128 rfl (by decide) (by decide) tb166 (by decide) rfl (by decide) (fun M1 f h hM kk => x_putF dX12_init_130 lp_X12_53 rfl hM rfl rfl kk) (fun M19 a19 hI19 => ?_)
  clear hI18
  refine x_aload_n dX12_init_133 rfl rfl ?_
  refine x_bipush (v := 20) dX12_init_134 (by decide) ?_
  refine x_mk (kc := 25) (ks := 2004) (ci := 100) (N := 20) (kf := 20) hI19 dX12_init_136 rfl (by decide) (by decide) tb89 (by decide) rfl (by decide) (fun M1 f h hM kk => x_putF dX12_init_138 lp_X12_56 rfl hM rfl rfl kk) (fun M20 a20 hI20 => ?_)
  clear hI19
  refine x_aload_n dX12_init_141 rfl rfl ?_
  refine x_bipush (v := 20) dX12_init_142 (by decide) ?_
  refine x_mk (kc := 24) (ks := 1984) (ci := 100) (N := 20) (kf := 21) hI20 dX12_init_144 rfl (by decide) (by decide) tb89 (by decide) rfl (by decide) (fun M1 f h hM kk => x_putF dX12_init_146 lp_X12_59 rfl hM rfl rfl kk) (fun M21 a21 hI21 => ?_)
  clear hI20
  refine x_aload_n dX12_init_149 rfl rfl ?_
  refine x_bipush (v := 20) dX12_init_150 (by decide) ?_
  refine x_mk (kc := 23) (ks := 1964) (ci := 100) (N := 20) (kf := 22) hI21 dX12_init_152 rfl (by decide) (by decide) tb89 (by decide) rfl (by decide) (fun M1 f h hM kk => x_putF dX12_init_154 lp_X12_62 rfl hM rfl rfl kk) (fun M22 a22 hI22 => ?_)
  clear hI21
  refine x_aload_n dX12_init_157 rfl rfl ?_
  refine x_sipush (v := 128) dX12_init_158 (by decide) ?_
  refine x_mk (kc := 22) (ks := 1836) (ci := 100) (N := 128) (kf := 23) hI22 dX12_init_161 rfl (by decide) (by decide) tb89 (by decide) rfl (by decide) (fun M1 f h hM kk => x_putF dX12_init_163 lp_X12_65 rfl hM rfl rfl kk) (fun M23 a23 hI23 => ?_)
  clear hI22
  refine x_aload_n dX12_init_166 rfl rfl ?_
  refine x_aload_n dX12_init_167 rfl rfl ?_
  refine x_getf dX12_init_168 lf_X12_49 hI23.1 rfl ?_
  refine x_putf dX12_init_171 lp_X12_68 hI23.1 rfl rfl ?_
  have hIt := hI23.put (kf := 26) (v := .ref a18) (by simp)
  clear hI23
  refine x_aload_n dX12_init_174 rfl rfl ?_
  refine x_sipush (v := 200) dX12_init_175 (by decide) ?_
  refine x_mk (kc := 21) (ks := 1636) (ci := 100) (N := 200) (kf := 35) hIt dX12_init_178 rfl (by decide) (by decide) tb89 (by decide) rfl (by decide) (fun M1 f h hM kk => x_putF dX12_init_180 lp_X12_71 rfl hM rfl rfl kk) (fun M35 a35 hI35 => ?_)
  clear hIt
  refine x_aload_n dX12_init_183 rfl rfl ?_
  refine x_bipush (v := 100) dX12_init_184 (by decide) ?_
  refine x_mk (kc := 20) (ks := 1536) (ci := 100) (N := 100) (kf := 38) hI35 dX12_init_186 rfl (by decide) (by decide) tb89 (by decide) rfl (by decide) (fun M1 f h hM kk => x_putF dX12_init_188 lp_X12_74 rfl hM rfl rfl kk) (fun M38 a38 hI38 => ?_)
  clear hI35
  refine x_aload_n dX12_init_191 rfl rfl ?_
  refine x_bipush (v := 100) dX12_init_192 (by decide) ?_
  refine x_mk (kc := 19) (ks := 1436) (ci := 100) (N := 100) (kf := 39) hI38 dX12_init_194 rfl (by decide) (by decide) tb89 (by decide) rfl (by decide) (fun M1 f h hM kk => x_putF dX12_init_196 lp_X12_77 rfl hM rfl rfl kk) (fun M39 a39 hI39 => ?_)
  clear hI38
  refine x_aload_n dX12_init_199 rfl rfl ?_
  refine x_bipush (v := 100) dX12_init_200 (by decide) ?_
  refine x_mk (kc := 18) (ks := 1336) (ci := 100) (N := 100) (kf := 40) hI39 dX12_init_202 rfl (by decide) (by decide) tb89 (by decide) rfl (by decide) (fun M1 f h hM kk => x_putF dX12_init_204 lp_X12_80 rfl hM rfl rfl kk) (fun M40 a40 hI40 => ?_)
  clear hI39
  refine x_aload_n dX12_init_207 rfl rfl ?_
  refine x_bipush (v := 100) dX12_init_208 (by decide) ?_
  refine x_mk (kc := 17) (ks := 1236) (ci := 100) (N := 100) (kf := 41) hI40 dX12_init_210 rfl (by decide) (by decide) tb89 (by decide) rfl (by decide) (fun M1 f h hM kk => x_putF dX12_init_212 lp_X12_83 rfl hM rfl rfl kk) (fun M41 a41 hI41 => ?_)
  clear hI40
  refine x_aload_n dX12_init_215 rfl rfl ?_
  refine x_bipush (v := 100) dX12_init_216 (by decide) ?_
  refine x_mk (kc := 16) (ks := 1136) (ci := 103) (N := 100) (kf := 42) hI41 dX12_init_218 rfl (by decide) (by decide) tb1387 (by decide) rfl (by decide) (fun M1 f h hM kk => x_putF dX12_init_220 lp_X12_86 rfl hM rfl rfl kk) (fun M42 a42 hI42 => ?_)
  clear hI41
  refine x_aload_n dX12_init_223 rfl rfl ?_
  refine x_bipush (v := 24) dX12_init_224 (by decide) ?_
  refine x_mk (kc := 15) (ks := 1112) (ci := 103) (N := 24) (kf := 43) hI42 dX12_init_226 rfl (by decide) (by decide) tb1387 (by decide) rfl (by decide) (fun M1 f h hM kk => x_putF dX12_init_228 lp_X12_90 rfl hM rfl rfl kk) (fun M43 a43 hI43 => ?_)
  clear hI42
  refine x_aload_n dX12_init_231 rfl rfl ?_
  refine x_sipush (v := 200) dX12_init_232 (by decide) ?_
  refine x_mk (kc := 14) (ks := 912) (ci := 100) (N := 200) (kf := 45) hI43 dX12_init_235 rfl (by decide) (by decide) tb89 (by decide) rfl (by decide) (fun M1 f h hM kk => x_putF dX12_init_237 lp_X12_93 rfl hM rfl rfl kk) (fun M45 a45 hI45 => ?_)
  clear hI43
  refine x_aload_n dX12_init_240 rfl rfl ?_
  refine x_sipush (v := 200) dX12_init_241 (by decide) ?_
  refine x_mk (kc := 13) (ks := 712) (ci := 100) (N := 200) (kf := 46) hI45 dX12_init_244 rfl (by decide) (by decide) tb89 (by decide) rfl (by decide) (fun M1 f h hM kk => x_putF dX12_init_246 lp_X12_96 rfl hM rfl rfl kk) (fun M46 a46 hI46 => ?_)
  clear hI45
  refine x_aload_n dX12_init_249 rfl rfl ?_
  refine x_sipush (v := 200) dX12_init_250 (by decide) ?_
  refine x_mk (kc := 12) (ks := 512) (ci := 100) (N := 200) (kf := 47) hI46 dX12_init_253 rfl (by decide) (by decide) tb89 (by decide) rfl (by decide) (fun M1 f h hM kk => x_putF dX12_init_255 lp_X12_99 rfl hM rfl rfl kk) (fun M47 a47 hI47 => ?_)
  clear hI46
  refine x_aload_n dX12_init_258 rfl rfl ?_
  refine x_sipush (v := 200) dX12_init_259 (by decide) ?_
  refine x_mk (kc := 11) (ks := 312) (ci := 100) (N := 200) (kf := 48) hI47 dX12_init_262 rfl (by decide) (by decide) tb89 (by decide) rfl (by decide) (fun M1 f h hM kk => x_putF dX12_init_264 lp_X12_102 rfl hM rfl rfl kk) (fun M48 a48 hI48 => ?_)
  clear hI47
  refine x_aload_n dX12_init_267 rfl rfl ?_
  refine x_bipush (v := 32) dX12_init_268 (by decide) ?_
  refine x_mk (kc := 10) (ks := 280) (ci := 100) (N := 32) (kf := 50) hI48 dX12_init_270 rfl (by decide) (by decide) tb89 (by decide) rfl (by decide) (fun M1 f h hM kk => x_putF dX12_init_272 lp_X12_105 rfl hM rfl rfl kk) (fun M50 a50 hI50 => ?_)
  clear hI48
  refine x_aload_n dX12_init_275 rfl rfl ?_
  refine x_sipush (v := 200) dX12_init_276 (by decide) ?_
  refine x_mk (kc := 9) (ks := 80) (ci := 100) (N := 200) (kf := 51) hI50 dX12_init_279 rfl (by decide) (by decide) tb89 (by decide) rfl (by decide) (fun M1 f h hM kk => x_putF dX12_init_281 lp_X12_108 rfl hM rfl rfl kk) (fun M51 a51 hI51 => ?_)
  clear hI50
  refine x_aload_n dX12_init_284 rfl rfl ?_
  refine x_iconst (v := 4) dX12_init_285 (by decide) ?_
  refine x_mk (kc := 8) (ks := 76) (ci := 100) (N := 4) (kf := 53) hI51 dX12_init_286 rfl (by decide) (by decide) tb89 (by decide) rfl (by decide) (fun M1 f h hM kk => x_putF dX12_init_288 lp_X12_111 rfl hM rfl rfl kk) (fun M53 a53 hI53 => ?_)
  clear hI51
  refine x_aload_n dX12_init_291 rfl rfl ?_
  refine x_iconst (v := 4) dX12_init_292 (by decide) ?_
  refine x_mk (kc := 7) (ks := 72) (ci := 100) (N := 4) (kf := 54) hI53 dX12_init_293 rfl (by decide) (by decide) tb89 (by decide) rfl (by decide) (fun M1 f h hM kk => x_putF dX12_init_295 lp_X12_114 rfl hM rfl rfl kk) (fun M54 a54 hI54 => ?_)
  clear hI53
  refine x_aload_n dX12_init_298 rfl rfl ?_
  refine x_bipush (v := 8) dX12_init_299 (by decide) ?_
  refine x_mk (kc := 6) (ks := 64) (ci := 100) (N := 8) (kf := 55) hI54 dX12_init_301 rfl (by decide) (by decide) tb89 (by decide) rfl (by decide) (fun M1 f h hM kk => x_putF dX12_init_303 lp_X12_117 rfl hM rfl rfl kk) (fun M55 a55 hI55 => ?_)
  clear hI54
  refine x_aload_n dX12_init_306 rfl rfl ?_
  refine x_bipush (v := 8) dX12_init_307 (by decide) ?_
  refine x_mk (kc := 5) (ks := 56) (ci := 100) (N := 8) (kf := 56) hI55 dX12_init_309 rfl (by decide) (by decide) tb89 (by decide) rfl (by decide) (fun M1 f h hM kk => x_putF dX12_init_311 lp_X12_120 rfl hM rfl rfl kk) (fun M56 a56 hI56 => ?_)
  clear hI55
  refine x_aload_n dX12_init_314 rfl rfl ?_
  refine x_bipush (v := 8) dX12_init_315 (by decide) ?_
  refine x_mk (kc := 4) (ks := 48) (ci := 100) (N := 8) (kf := 57) hI56 dX12_init_317 rfl (by decide) (by decide) tb89 (by decide) rfl (by decide) (fun M1 f h hM kk => x_putF dX12_init_319 lp_X12_123 rfl hM rfl rfl kk) (fun M57 a57 hI57 => ?_)
  clear hI56
  refine x_aload_n dX12_init_322 rfl rfl ?_
  refine x_bipush (v := 8) dX12_init_323 (by decide) ?_
  refine x_mk (kc := 3) (ks := 40) (ci := 100) (N := 8) (kf := 58) hI57 dX12_init_325 rfl (by decide) (by decide) tb89 (by decide) rfl (by decide) (fun M1 f h hM kk => x_putF dX12_init_327 lp_X12_126 rfl hM rfl rfl kk) (fun M58 a58 hI58 => ?_)
  clear hI57
  refine x_aload_n dX12_init_330 rfl rfl ?_
  refine x_bipush (v := 8) dX12_init_331 (by decide) ?_
  refine x_mk (kc := 2) (ks := 32) (ci := 100) (N := 8) (kf := 62) hI58 dX12_init_333 rfl (by decide) (by decide) tb89 (by decide) rfl (by decide) (fun M1 f h hM kk => x_putF dX12_init_335 lp_X12_129 rfl hM rfl rfl kk) (fun M62 a62 hI62 => ?_)
  clear hI58
  refine x_aload_n dX12_init_338 rfl rfl ?_
  refine x_bipush (v := 8) dX12_init_339 (by decide) ?_
  refine x_mk (kc := 1) (ks := 24) (ci := 100) (N := 8) (kf := 63) hI62 dX12_init_341 rfl (by decide) (by decide) tb89 (by decide) rfl (by decide) (fun M1 f h hM kk => x_putF dX12_init_343 lp_X12_132 rfl hM rfl rfl kk) (fun M63 a63 hI63 => ?_)
  clear hI62
  refine x_aload_n dX12_init_346 rfl rfl ?_
  refine x_bipush (v := 24) dX12_init_347 (by decide) ?_
  refine x_mk (kc := 0) (ks := 0) (ci := 100) (N := 24) (kf := 64) hI63 dX12_init_349 rfl (by decide) (by decide) tb89 (by decide) rfl (by decide) (fun M1 f h hM kk => x_putF dX12_init_351 lp_X12_135 rfl hM rfl rfl kk) (fun M64 a64 hI64 => ?_)
  clear hI63
  obtain ⟨ad, h1, h2, h3⟩ := mm_made hI64 rfl (by simp)
  refine x_mext h3 ?_
  exact x_return dX12_init_354 rfl (hq ad h1 h2)
end MCI
