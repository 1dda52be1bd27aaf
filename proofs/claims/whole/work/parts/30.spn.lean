/-! the model's methods, 8: spans, distances of means -/
def spCell (σ : MS) (sort day q : Int32) (k : Nat) (n : Nat) : Int32 × Int32 := fold (fun l s => if σ.2 10 l = sort ∧ σ.2 9 l = day ∧ σ.2 14 l ≤ q ∧ σ.2 2 (σ.2 8 l).toNatClampNeg = nI k / 4 ∧ strat (σ.2 3 (σ.2 8 l).toNatClampNeg) = nI k - nI k / 4 * 4 then (s.1 + σ.2 11 l, s.2 + 1) else s) (0, 0) n
def cMean (s : Int32 × Int32) (what : Int32) : Int32 := if 0 < s.2 then 100 * s.1 / s.2 else if what = 0 then -900 else 900
def spSpan (σ : MS) (sort day q what : Int32) (n : Nat) : Int64 × Int64 := fold (fun k s => (s.1 + (σ.2 50 k).toInt64 * (cMean (spCell σ sort day q k (cn σ 16)) what).toInt64, s.2 + (if 0 < (spCell σ sort day q k (cn σ 16)).2 then (σ.2 50 k).toInt64 else 0))) (0, 0) n
def pSpan (σ : MS) (sort day q what : Int32) : Prop := ¬ spPeople σ 32 = 0 ∧ isS sort ∧ isD day ∧ isK σ q ∧ (0 ≤ what ∧ what ≤ 2)
noncomputable def aSpan (σ : MS) (sort day q what : Int32) : Int32 := cI (pSpan σ sort day q what) (if what = 2 then (1000 * (spSpan σ sort day q what 32).2 / (spPeople σ 32).toInt64).toInt32 else ((spSpan σ sort day q what 32).1 / (spPeople σ 32).toInt64).toInt32) (-1000000)
theorem i2l_ne {x : Int32} (h : ¬ x = 0) : ¬ x.toInt64 = 0 := by
  intro z
  apply h
  apply Int32.toInt_inj.mp
  have := congrArg Int64.toInt z
  rw [Int32.toInt_toInt64] at this
  exact this
section MDI
variable {G : Gam} {d : Nat} {k : Nat × Nat} {ad : Nat → Nat} {σ σ0 : MS} {M : Mem} {Q : Option Value → Mem → Prop}
theorem c_X12_span {sort day q what : Int32} (hi : adOK ad) (h0 : seti σ 0 0 = σ0) (hc : Cnt σ0) (hp : LinP σ0) (hq : Q (some (.int (aSpan σ0 sort day q what))) (mm ad σ0)) : CT G (d + 2) (0, 0) MX12_span [.ref (ad 99), .int sort, .int day, .int q, .int what] (mm ad σ) Q := by
  obtain ⟨hl1, hl2⟩ := hc.b 16 (b := 200) (by decide)
  obtain ⟨hp1, hp2⟩ := hc.b 15 (b := 24) (by decide)
  refine CT.of rfl (Nat.le_of_ble_eq_true rfl) ?_
  refine x_aload_n dX12_span_0 rfl rfl ?_
  refine x_iconst (v := 0) dX12_span_1 (by decide) ?_
  refine xm_puti dX12_span_2 lp_X12_138 vmq_0 vmn_0 vmf_0 ?_
  rw [h0]
  refine x_aload_n dX12_span_5 rfl rfl ?_
  refine x_cV0 dX12_span_6 lv_X12_345 mm_obj rfl rfl rfl  (c_X12_people hi ?_)
  refine x_istore dX12_span_9 (by decide) ?_
  refine x_iload dX12_span_11 rfl ?_
  refine x_if_eq (tgt := 48) dX12_span_13 (by decide) (fun h13 => ?_) (fun h13 => ?_)
  · refine x_ldcw dX12_span_48 tb1627 ?_
    exact x_ireturn dX12_span_51 rfl rfl (fan_f hq (fun z => by first | exact z.1 h13 | exact h20 z.2.1 | exact h27 z.2.2.1 | exact h35 z.2.2.2.1 | exact h45 z.2.2.2.2))
  · refine x_iload_n dX12_span_16 rfl rfl ?_
    refine x_cS1 dX12_span_17 ls_X12_168 rfl  (c_X12_isSort ?_)
    refine x_if_eq_b (tgt := 48) dX12_span_20 (by decide) (fun h20 => ?_) (fun h20 => ?_)
    · refine x_ldcw dX12_span_48 tb1627 ?_
      exact x_ireturn dX12_span_51 rfl rfl (fan_f hq (fun z => by first | exact z.1 h13 | exact h20 z.2.1 | exact h27 z.2.2.1 | exact h35 z.2.2.2.1 | exact h45 z.2.2.2.2))
    · refine x_iload_n dX12_span_23 rfl rfl ?_
      refine x_cS1 dX12_span_24 ls_X12_175 rfl  (c_X12_isDay ?_)
      refine x_if_eq_b (tgt := 48) dX12_span_27 (by decide) (fun h27 => ?_) (fun h27 => ?_)
      · refine x_ldcw dX12_span_48 tb1627 ?_
        exact x_ireturn dX12_span_51 rfl rfl (fan_f hq (fun z => by first | exact z.1 h13 | exact h20 z.2.1 | exact h27 z.2.2.1 | exact h35 z.2.2.2.1 | exact h45 z.2.2.2.2))
      · refine x_aload_n dX12_span_30 rfl rfl ?_
        refine x_iload_n dX12_span_31 rfl rfl ?_
        refine x_cV1 dX12_span_32 lv_X12_159 mm_obj rfl rfl rfl  (c_X12_isKnown ?_)
        refine x_if_eq_b (tgt := 48) dX12_span_35 (by decide) (fun h35 => ?_) (fun h35 => ?_)
        · refine x_ldcw dX12_span_48 tb1627 ?_
          exact x_ireturn dX12_span_51 rfl rfl (fan_f hq (fun z => by first | exact z.1 h13 | exact h20 z.2.1 | exact h27 z.2.2.1 | exact h35 z.2.2.2.1 | exact h45 z.2.2.2.2))
        · refine x_iload dX12_span_38 rfl ?_
          refine x_iconst (v := 0) dX12_span_40 (by decide) ?_
          refine x_iconst (v := 2) dX12_span_41 (by decide) ?_
          refine x_cS3 dX12_span_42 ls_X12_145 rfl  (c_X12_isIn ?_)
          refine x_if_ne_b (tgt := 52) dX12_span_45 (by decide) (fun h45 => ?_) (fun h45 => ?_)
          · have hq := fan_t hq ⟨h13, h20, h27, h35, h45⟩
            refine x_lconst (v := 0) dX12_span_52 (by decide) ?_
            refine x_lstore dX12_span_53 (by decide) ?_
            refine x_lconst (v := 0) dX12_span_55 (by decide) ?_
            refine x_lstore dX12_span_56 (by decide) ?_
            refine x_iconst (v := 0) dX12_span_58 (by decide) ?_
            refine x_istore dX12_span_59 (by decide) ?_
            refine x_loc [(0, .ref (ad 99)), (1, .int sort), (2, .int day), (3, .int q), (4, .int what), (5, .int (spPeople σ0 32)), (6, .long (spSpan σ0 sort day q what 0).1), (8, .long (spSpan σ0 sort day q what 0).2), (10, .int (nI 0))] ⟨rfl, rfl, rfl, rfl, rfl, rfl, rfl, rfl, rfl, trivial⟩ ?_
            refine loop_up (P := fun i => XJ G (d + 2) (0, 0) MX12_span (mm ad σ0) [(0, .ref (ad 99)), (1, .int sort), (2, .int day), (3, .int q), (4, .int what), (5, .int (spPeople σ0 32)), (6, .long (spSpan σ0 sort day q what i).1), (8, .long (spSpan σ0 sort day q what i).2), (10, .int (nI i))] [] 61 Q) (n := 32) ?_ ?_ 0 (Nat.zero_le _)
            · refine x_iload dX12_span_61 rfl ?_
              refine x_bipush (v := 32) dX12_span_63 (by decide) ?_
              refine x_icmp_ge (tgt := 256) dX12_span_65 (by decide) (fun _ => ?_) (fun z => absurd (loopT (show (32 : Int32) = nI 32 from rfl)) z)
              refine x_iload dX12_span_256 rfl ?_
              refine x_iconst (v := 2) dX12_span_258 (by decide) ?_
              refine x_icmp_ne (tgt := 276) dX12_span_259 (by decide) (fun h259 => ?_) (fun h259 => ?_)
              · refine x_lload dX12_span_276 rfl ?_
                refine x_iload dX12_span_278 rfl ?_
                refine x_i2l dX12_span_280 ?_
                refine x_ldiv dX12_span_281 (i2l_ne h13) ?_
                refine x_l2i dX12_span_282 ?_
                exact x_ireturn dX12_span_283 rfl rfl (by first | (rw [if_pos h259] at hq; exact hq) | (rw [if_neg h259] at hq; exact hq))
              · refine x_ldc2 dX12_span_262 tb1648 ?_
                refine x_lload dX12_span_265 rfl ?_
                refine x_lmul dX12_span_267 ?_
                refine x_iload dX12_span_268 rfl ?_
                refine x_i2l dX12_span_270 ?_
                refine x_ldiv dX12_span_271 (i2l_ne h13) ?_
                refine x_l2i dX12_span_272 ?_
                refine x_goto (tgt := 283) dX12_span_273 (by decide) ?_
                exact x_ireturn dX12_span_283 rfl rfl (by first | (rw [if_pos h259] at hq; exact hq) | (rw [if_neg h259] at hq; exact hq))
            · intro i hlt ih
              have hinK : vp_in (nI i) 32 := vp_in_nI (by omega) (by decide)
              have hclK : (nI i).toNatClampNeg = i := nI_clamp (by omega)
              have hst : spSpan σ0 sort day q what (i + 1) = ((spSpan σ0 sort day q what i).1 + (σ0.2 50 i).toInt64 * (cMean (spCell σ0 sort day q i (cn σ0 16)) what).toInt64, (spSpan σ0 sort day q what i).2 + (if 0 < (spCell σ0 sort day q i (cn σ0 16)).2 then (σ0.2 50 i).toInt64 else 0)) := rfl
              refine x_iload dX12_span_61 rfl ?_
              refine x_bipush (v := 32) dX12_span_63 (by decide) ?_
              refine x_icmp_ge (tgt := 256) dX12_span_65 (by decide) (fun z => absurd z (loopF (show (32 : Int32) = nI 32 from rfl) hlt (by omega))) (fun _ => ?_)
              refine x_iconst (v := 0) dX12_span_68 (by decide) ?_
              refine x_istore dX12_span_69 (by decide) ?_
              refine x_iconst (v := 0) dX12_span_71 (by decide) ?_
              refine x_istore dX12_span_72 (by decide) ?_
              refine x_iconst (v := 0) dX12_span_74 (by decide) ?_
              refine x_istore dX12_span_75 (by decide) ?_
              refine x_loc [(0, .ref (ad 99)), (1, .int sort), (2, .int day), (3, .int q), (4, .int what), (5, .int (spPeople σ0 32)), (6, .long (spSpan σ0 sort day q what i).1), (8, .long (spSpan σ0 sort day q what i).2), (10, .int (nI i)), (11, .int (spCell σ0 sort day q i 0).1), (12, .int (spCell σ0 sort day q i 0).2), (13, .int (nI 0))] ⟨rfl, rfl, rfl, rfl, rfl, rfl, rfl, rfl, rfl, rfl, rfl, rfl, trivial⟩ ?_
              refine loop_up (P := fun l => XJ G (d + 2) (0, 0) MX12_span (mm ad σ0) [(0, .ref (ad 99)), (1, .int sort), (2, .int day), (3, .int q), (4, .int what), (5, .int (spPeople σ0 32)), (6, .long (spSpan σ0 sort day q what i).1), (8, .long (spSpan σ0 sort day q what i).2), (10, .int (nI i)), (11, .int (spCell σ0 sort day q i l).1), (12, .int (spCell σ0 sort day q i l).2), (13, .int (nI l))] [] 77 Q) (n := cn σ0 16) ?_ ?_ 0 (Nat.zero_le _)
              · refine x_iload dX12_span_77 rfl ?_
                refine x_aload_n dX12_span_79 rfl rfl ?_
                refine xm_geti dX12_span_80 lf_X12_152 vmi_16 ?_
                refine x_icmp_ge (tgt := 179) dX12_span_83 (by decide) (fun _ => ?_) (fun z => absurd (loopT hl1) z)
                refine x_lload dX12_span_179 rfl ?_
                refine x_iload dX12_span_181 rfl ?_
                refine x_if_le (tgt := 197) dX12_span_183 (by decide) (fun h183 => ?_) (fun h183 => ?_)
                · refine x_lconst (v := 0) dX12_span_197 (by decide) ?_
                  refine x_ladd dX12_span_198 ?_
                  refine x_lstore dX12_span_199 (by decide) ?_
                  refine x_iload dX12_span_201 rfl ?_
                  refine x_if_le (tgt := 217) dX12_span_203 (by decide) (fun h203 => ?_) (fun h203 => ?_)
                  · refine x_iload dX12_span_217 rfl ?_
                    refine x_if_ne (tgt := 228) dX12_span_219 (by decide) (fun h219 => ?_) (fun h219 => ?_)
                    · refine x_sipush (v := 900) dX12_span_228 (by decide) ?_
                      refine x_istore dX12_span_231 (by decide) ?_
                      refine x_lload dX12_span_233 rfl ?_
                      refine x_aload_n dX12_span_235 rfl rfl ?_
                      refine xm_geta dX12_span_236 lf_X12_105 vma_50 ?_
                      refine x_iload dX12_span_239 rfl ?_
                      refine xm_iald 50 dX12_span_241 mf_50 hi hinK hclK ?_
                      refine x_i2l dX12_span_242 ?_
                      refine x_iload dX12_span_243 rfl ?_
                      refine x_i2l dX12_span_245 ?_
                      refine x_lmul dX12_span_246 ?_
                      refine x_ladd dX12_span_247 ?_
                      refine x_lstore dX12_span_248 (by decide) ?_
                      refine x_iinc (c := 1) dX12_span_250 rfl (by decide) ?_
                      refine x_goto (tgt := 61) dX12_span_253 (by decide) ?_
                      refine x_loc _ (?_ : lle _ _) ih
                      refine ⟨rfl, rfl, rfl, rfl, rfl, rfl, ?_, ?_, congrArg some (congrArg Value.int (nI_1 _)), trivial⟩
                      · rw [hst]
                        refine congrArg some (congrArg Value.long ?_)
                        show _ = (spSpan σ0 sort day q what i).1 + (σ0.2 50 i).toInt64 * (cMean (spCell σ0 sort day q i (cn σ0 16)) what).toInt64
                        unfold cMean
                        first
                        | exact absurd h183 h203
                        | exact absurd h203 h183
                        | (rw [if_pos (Int32.not_le.mp h203)])
                        | (rw [if_neg (Int32.not_lt.mpr h203), if_pos h219])
                        | (rw [if_neg (Int32.not_lt.mpr h203), if_neg h219])
                      · rw [hst]
                        refine congrArg some (congrArg Value.long ?_)
                        show _ = (spSpan σ0 sort day q what i).2 + (if 0 < (spCell σ0 sort day q i (cn σ0 16)).2 then (σ0.2 50 i).toInt64 else 0)
                        first
                        | exact absurd h183 h203
                        | exact absurd h203 h183
                        | (rw [if_pos (Int32.not_le.mp h203)])
                        | (rw [if_neg (Int32.not_lt.mpr h203)])
                    · refine x_sipush (v := -900) dX12_span_222 (by decide) ?_
                      refine x_goto (tgt := 231) dX12_span_225 (by decide) ?_
                      refine x_istore dX12_span_231 (by decide) ?_
                      refine x_lload dX12_span_233 rfl ?_
                      refine x_aload_n dX12_span_235 rfl rfl ?_
                      refine xm_geta dX12_span_236 lf_X12_105 vma_50 ?_
                      refine x_iload dX12_span_239 rfl ?_
                      refine xm_iald 50 dX12_span_241 mf_50 hi hinK hclK ?_
                      refine x_i2l dX12_span_242 ?_
                      refine x_iload dX12_span_243 rfl ?_
                      refine x_i2l dX12_span_245 ?_
                      refine x_lmul dX12_span_246 ?_
                      refine x_ladd dX12_span_247 ?_
                      refine x_lstore dX12_span_248 (by decide) ?_
                      refine x_iinc (c := 1) dX12_span_250 rfl (by decide) ?_
                      refine x_goto (tgt := 61) dX12_span_253 (by decide) ?_
                      refine x_loc _ (?_ : lle _ _) ih
                      refine ⟨rfl, rfl, rfl, rfl, rfl, rfl, ?_, ?_, congrArg some (congrArg Value.int (nI_1 _)), trivial⟩
                      · rw [hst]
                        refine congrArg some (congrArg Value.long ?_)
                        show _ = (spSpan σ0 sort day q what i).1 + (σ0.2 50 i).toInt64 * (cMean (spCell σ0 sort day q i (cn σ0 16)) what).toInt64
                        unfold cMean
                        first
                        | exact absurd h183 h203
                        | exact absurd h203 h183
                        | (rw [if_pos (Int32.not_le.mp h203)])
                        | (rw [if_neg (Int32.not_lt.mpr h203), if_pos h219])
                        | (rw [if_neg (Int32.not_lt.mpr h203), if_neg h219])
                      · rw [hst]
                        refine congrArg some (congrArg Value.long ?_)
                        show _ = (spSpan σ0 sort day q what i).2 + (if 0 < (spCell σ0 sort day q i (cn σ0 16)).2 then (σ0.2 50 i).toInt64 else 0)
                        first
                        | exact absurd h183 h203
                        | exact absurd h203 h183
                        | (rw [if_pos (Int32.not_le.mp h203)])
                        | (rw [if_neg (Int32.not_lt.mpr h203)])
                  · refine x_bipush (v := 100) dX12_span_206 (by decide) ?_
                    refine x_iload dX12_span_208 rfl ?_
                    refine x_imul dX12_span_210 ?_
                    refine x_iload dX12_span_211 rfl ?_
                    refine x_idiv dX12_span_213 (fun z => by rw [z] at h203; exact absurd h203 (by decide)) ?_
                    refine x_goto (tgt := 231) dX12_span_214 (by decide) ?_
                    refine x_istore dX12_span_231 (by decide) ?_
                    refine x_lload dX12_span_233 rfl ?_
                    refine x_aload_n dX12_span_235 rfl rfl ?_
                    refine xm_geta dX12_span_236 lf_X12_105 vma_50 ?_
                    refine x_iload dX12_span_239 rfl ?_
                    refine xm_iald 50 dX12_span_241 mf_50 hi hinK hclK ?_
                    refine x_i2l dX12_span_242 ?_
                    refine x_iload dX12_span_243 rfl ?_
                    refine x_i2l dX12_span_245 ?_
                    refine x_lmul dX12_span_246 ?_
                    refine x_ladd dX12_span_247 ?_
                    refine x_lstore dX12_span_248 (by decide) ?_
                    refine x_iinc (c := 1) dX12_span_250 rfl (by decide) ?_
                    refine x_goto (tgt := 61) dX12_span_253 (by decide) ?_
                    refine x_loc _ (?_ : lle _ _) ih
                    refine ⟨rfl, rfl, rfl, rfl, rfl, rfl, ?_, ?_, congrArg some (congrArg Value.int (nI_1 _)), trivial⟩
                    · rw [hst]
                      refine congrArg some (congrArg Value.long ?_)
                      show _ = (spSpan σ0 sort day q what i).1 + (σ0.2 50 i).toInt64 * (cMean (spCell σ0 sort day q i (cn σ0 16)) what).toInt64
                      unfold cMean
                      first
                      | exact absurd h183 h203
                      | exact absurd h203 h183
                      | (rw [if_pos (Int32.not_le.mp h203)])
                      | (rw [if_neg (Int32.not_lt.mpr h203), if_pos h219])
                      | (rw [if_neg (Int32.not_lt.mpr h203), if_neg h219])
                    · rw [hst]
                      refine congrArg some (congrArg Value.long ?_)
                      show _ = (spSpan σ0 sort day q what i).2 + (if 0 < (spCell σ0 sort day q i (cn σ0 16)).2 then (σ0.2 50 i).toInt64 else 0)
                      first
                      | exact absurd h183 h203
                      | exact absurd h203 h183
                      | (rw [if_pos (Int32.not_le.mp h203)])
                      | (rw [if_neg (Int32.not_lt.mpr h203)])
                · refine x_aload_n dX12_span_186 rfl rfl ?_
                  refine xm_geta dX12_span_187 lf_X12_105 vma_50 ?_
                  refine x_iload dX12_span_190 rfl ?_
                  refine xm_iald 50 dX12_span_192 mf_50 hi hinK hclK ?_
                  refine x_i2l dX12_span_193 ?_
                  refine x_goto (tgt := 198) dX12_span_194 (by decide) ?_
                  refine x_ladd dX12_span_198 ?_
                  refine x_lstore dX12_span_199 (by decide) ?_
                  refine x_iload dX12_span_201 rfl ?_
                  refine x_if_le (tgt := 217) dX12_span_203 (by decide) (fun h203 => ?_) (fun h203 => ?_)
                  · refine x_iload dX12_span_217 rfl ?_
                    refine x_if_ne (tgt := 228) dX12_span_219 (by decide) (fun h219 => ?_) (fun h219 => ?_)
                    · refine x_sipush (v := 900) dX12_span_228 (by decide) ?_
                      refine x_istore dX12_span_231 (by decide) ?_
                      refine x_lload dX12_span_233 rfl ?_
                      refine x_aload_n dX12_span_235 rfl rfl ?_
                      refine xm_geta dX12_span_236 lf_X12_105 vma_50 ?_
                      refine x_iload dX12_span_239 rfl ?_
                      refine xm_iald 50 dX12_span_241 mf_50 hi hinK hclK ?_
                      refine x_i2l dX12_span_242 ?_
                      refine x_iload dX12_span_243 rfl ?_
                      refine x_i2l dX12_span_245 ?_
                      refine x_lmul dX12_span_246 ?_
                      refine x_ladd dX12_span_247 ?_
                      refine x_lstore dX12_span_248 (by decide) ?_
                      refine x_iinc (c := 1) dX12_span_250 rfl (by decide) ?_
                      refine x_goto (tgt := 61) dX12_span_253 (by decide) ?_
                      refine x_loc _ (?_ : lle _ _) ih
                      refine ⟨rfl, rfl, rfl, rfl, rfl, rfl, ?_, ?_, congrArg some (congrArg Value.int (nI_1 _)), trivial⟩
                      · rw [hst]
                        refine congrArg some (congrArg Value.long ?_)
                        show _ = (spSpan σ0 sort day q what i).1 + (σ0.2 50 i).toInt64 * (cMean (spCell σ0 sort day q i (cn σ0 16)) what).toInt64
                        unfold cMean
                        first
                        | exact absurd h183 h203
                        | exact absurd h203 h183
                        | (rw [if_pos (Int32.not_le.mp h203)])
                        | (rw [if_neg (Int32.not_lt.mpr h203), if_pos h219])
                        | (rw [if_neg (Int32.not_lt.mpr h203), if_neg h219])
                      · rw [hst]
                        refine congrArg some (congrArg Value.long ?_)
                        show _ = (spSpan σ0 sort day q what i).2 + (if 0 < (spCell σ0 sort day q i (cn σ0 16)).2 then (σ0.2 50 i).toInt64 else 0)
                        first
                        | exact absurd h183 h203
                        | exact absurd h203 h183
                        | (rw [if_pos (Int32.not_le.mp h203)])
                        | (rw [if_neg (Int32.not_lt.mpr h203)])
                    · refine x_sipush (v := -900) dX12_span_222 (by decide) ?_
                      refine x_goto (tgt := 231) dX12_span_225 (by decide) ?_
                      refine x_istore dX12_span_231 (by decide) ?_
                      refine x_lload dX12_span_233 rfl ?_
                      refine x_aload_n dX12_span_235 rfl rfl ?_
                      refine xm_geta dX12_span_236 lf_X12_105 vma_50 ?_
                      refine x_iload dX12_span_239 rfl ?_
                      refine xm_iald 50 dX12_span_241 mf_50 hi hinK hclK ?_
                      refine x_i2l dX12_span_242 ?_
                      refine x_iload dX12_span_243 rfl ?_
                      refine x_i2l dX12_span_245 ?_
                      refine x_lmul dX12_span_246 ?_
                      refine x_ladd dX12_span_247 ?_
                      refine x_lstore dX12_span_248 (by decide) ?_
                      refine x_iinc (c := 1) dX12_span_250 rfl (by decide) ?_
                      refine x_goto (tgt := 61) dX12_span_253 (by decide) ?_
                      refine x_loc _ (?_ : lle _ _) ih
                      refine ⟨rfl, rfl, rfl, rfl, rfl, rfl, ?_, ?_, congrArg some (congrArg Value.int (nI_1 _)), trivial⟩
                      · rw [hst]
                        refine congrArg some (congrArg Value.long ?_)
                        show _ = (spSpan σ0 sort day q what i).1 + (σ0.2 50 i).toInt64 * (cMean (spCell σ0 sort day q i (cn σ0 16)) what).toInt64
                        unfold cMean
                        first
                        | exact absurd h183 h203
                        | exact absurd h203 h183
                        | (rw [if_pos (Int32.not_le.mp h203)])
                        | (rw [if_neg (Int32.not_lt.mpr h203), if_pos h219])
                        | (rw [if_neg (Int32.not_lt.mpr h203), if_neg h219])
                      · rw [hst]
                        refine congrArg some (congrArg Value.long ?_)
                        show _ = (spSpan σ0 sort day q what i).2 + (if 0 < (spCell σ0 sort day q i (cn σ0 16)).2 then (σ0.2 50 i).toInt64 else 0)
                        first
                        | exact absurd h183 h203
                        | exact absurd h203 h183
                        | (rw [if_pos (Int32.not_le.mp h203)])
                        | (rw [if_neg (Int32.not_lt.mpr h203)])
                  · refine x_bipush (v := 100) dX12_span_206 (by decide) ?_
                    refine x_iload dX12_span_208 rfl ?_
                    refine x_imul dX12_span_210 ?_
                    refine x_iload dX12_span_211 rfl ?_
                    refine x_idiv dX12_span_213 (fun z => by rw [z] at h203; exact absurd h203 (by decide)) ?_
                    refine x_goto (tgt := 231) dX12_span_214 (by decide) ?_
                    refine x_istore dX12_span_231 (by decide) ?_
                    refine x_lload dX12_span_233 rfl ?_
                    refine x_aload_n dX12_span_235 rfl rfl ?_
                    refine xm_geta dX12_span_236 lf_X12_105 vma_50 ?_
                    refine x_iload dX12_span_239 rfl ?_
                    refine xm_iald 50 dX12_span_241 mf_50 hi hinK hclK ?_
                    refine x_i2l dX12_span_242 ?_
                    refine x_iload dX12_span_243 rfl ?_
                    refine x_i2l dX12_span_245 ?_
                    refine x_lmul dX12_span_246 ?_
                    refine x_ladd dX12_span_247 ?_
                    refine x_lstore dX12_span_248 (by decide) ?_
                    refine x_iinc (c := 1) dX12_span_250 rfl (by decide) ?_
                    refine x_goto (tgt := 61) dX12_span_253 (by decide) ?_
                    refine x_loc _ (?_ : lle _ _) ih
                    refine ⟨rfl, rfl, rfl, rfl, rfl, rfl, ?_, ?_, congrArg some (congrArg Value.int (nI_1 _)), trivial⟩
                    · rw [hst]
                      refine congrArg some (congrArg Value.long ?_)
                      show _ = (spSpan σ0 sort day q what i).1 + (σ0.2 50 i).toInt64 * (cMean (spCell σ0 sort day q i (cn σ0 16)) what).toInt64
                      unfold cMean
                      first
                      | exact absurd h183 h203
                      | exact absurd h203 h183
                      | (rw [if_pos (Int32.not_le.mp h203)])
                      | (rw [if_neg (Int32.not_lt.mpr h203), if_pos h219])
                      | (rw [if_neg (Int32.not_lt.mpr h203), if_neg h219])
                    · rw [hst]
                      refine congrArg some (congrArg Value.long ?_)
                      show _ = (spSpan σ0 sort day q what i).2 + (if 0 < (spCell σ0 sort day q i (cn σ0 16)).2 then (σ0.2 50 i).toInt64 else 0)
                      first
                      | exact absurd h183 h203
                      | exact absurd h203 h183
                      | (rw [if_pos (Int32.not_le.mp h203)])
                      | (rw [if_neg (Int32.not_lt.mpr h203)])
              · intro l hltl ihl
                have hin : vp_in (nI l) 200 := vp_in_nI (by omega) (by decide)
                have hcl : (nI l).toNatClampNeg = l := nI_clamp (by omega)
                have hin2 : vp_in (σ0.2 8 l) 24 := in_lt (hp l hltl).1 (hp l hltl).2 hp1 hp2 (by decide)
                have hsl : spCell σ0 sort day q i (l + 1) = if σ0.2 10 l = sort ∧ σ0.2 9 l = day ∧ σ0.2 14 l ≤ q ∧ σ0.2 2 (σ0.2 8 l).toNatClampNeg = nI i / 4 ∧ strat (σ0.2 3 (σ0.2 8 l).toNatClampNeg) = nI i - nI i / 4 * 4 then ((spCell σ0 sort day q i l).1 + σ0.2 11 l, (spCell σ0 sort day q i l).2 + 1) else spCell σ0 sort day q i l := rfl
                refine x_iload dX12_span_77 rfl ?_
                refine x_aload_n dX12_span_79 rfl rfl ?_
                refine xm_geti dX12_span_80 lf_X12_152 vmi_16 ?_
                refine x_icmp_ge (tgt := 179) dX12_span_83 (by decide) (fun z => absurd z (loopF hl1 hltl (by omega))) (fun _ => ?_)
                refine x_aload_n dX12_span_86 rfl rfl ?_
                refine xm_geta dX12_span_87 lf_X12_28 vma_8 ?_
                refine x_iload dX12_span_90 rfl ?_
                refine xm_iald 8 dX12_span_92 mf_8 hi hin hcl ?_
                refine x_istore dX12_span_93 (by decide) ?_
                refine x_aload_n dX12_span_95 rfl rfl ?_
                refine xm_geta dX12_span_96 lf_X12_34 vma_10 ?_
                refine x_iload dX12_span_99 rfl ?_
                refine xm_iald 10 dX12_span_101 mf_10 hi hin hcl ?_
                refine x_iload_n dX12_span_102 rfl rfl ?_
                refine x_icmp_ne (tgt := 173) dX12_span_103 (by decide) (fun h103 => ?_) (fun h103 => ?_)
                · refine x_iinc (c := 1) dX12_span_173 rfl (by decide) ?_
                  refine x_goto (tgt := 77) dX12_span_176 (by decide) ?_
                  refine x_loc _ (?_ : lle _ _) ihl
                  refine ⟨rfl, rfl, rfl, rfl, rfl, rfl, rfl, rfl, rfl, ?_, ?_, ?_, trivial⟩
                  · show some (Value.int _) = some (Value.int (spCell σ0 sort day q i (l + 1)).1)
                    clear ih ihl hq hst; grind
                  · show some (Value.int _) = some (Value.int (spCell σ0 sort day q i (l + 1)).2)
                    clear ih ihl hq hst; grind
                  · show some (Value.int _) = some (Value.int (nI (l + 1)))
                    rw [← nI_1]
                · refine x_aload_n dX12_span_106 rfl rfl ?_
                  refine xm_geta dX12_span_107 lf_X12_31 vma_9 ?_
                  refine x_iload dX12_span_110 rfl ?_
                  refine xm_iald 9 dX12_span_112 mf_9 hi hin hcl ?_
                  refine x_iload_n dX12_span_113 rfl rfl ?_
                  refine x_icmp_ne (tgt := 173) dX12_span_114 (by decide) (fun h114 => ?_) (fun h114 => ?_)
                  · refine x_iinc (c := 1) dX12_span_173 rfl (by decide) ?_
                    refine x_goto (tgt := 77) dX12_span_176 (by decide) ?_
                    refine x_loc _ (?_ : lle _ _) ihl
                    refine ⟨rfl, rfl, rfl, rfl, rfl, rfl, rfl, rfl, rfl, ?_, ?_, ?_, trivial⟩
                    · show some (Value.int _) = some (Value.int (spCell σ0 sort day q i (l + 1)).1)
                      clear ih ihl hq hst; grind
                    · show some (Value.int _) = some (Value.int (spCell σ0 sort day q i (l + 1)).2)
                      clear ih ihl hq hst; grind
                    · show some (Value.int _) = some (Value.int (nI (l + 1)))
                      rw [← nI_1]
                  · refine x_aload_n dX12_span_117 rfl rfl ?_
                    refine xm_geta dX12_span_118 lf_X12_46 vma_14 ?_
                    refine x_iload dX12_span_121 rfl ?_
                    refine xm_iald 14 dX12_span_123 mf_14 hi hin hcl ?_
                    refine x_iload_n dX12_span_124 rfl rfl ?_
                    refine x_icmp_gt (tgt := 173) dX12_span_125 (by decide) (fun h125 => ?_) (fun h125 => ?_)
                    · refine x_iinc (c := 1) dX12_span_173 rfl (by decide) ?_
                      refine x_goto (tgt := 77) dX12_span_176 (by decide) ?_
                      refine x_loc _ (?_ : lle _ _) ihl
                      refine ⟨rfl, rfl, rfl, rfl, rfl, rfl, rfl, rfl, rfl, ?_, ?_, ?_, trivial⟩
                      · show some (Value.int _) = some (Value.int (spCell σ0 sort day q i (l + 1)).1)
                        clear ih ihl hq hst; grind
                      · show some (Value.int _) = some (Value.int (spCell σ0 sort day q i (l + 1)).2)
                        clear ih ihl hq hst; grind
                      · show some (Value.int _) = some (Value.int (nI (l + 1)))
                        rw [← nI_1]
                    · refine x_aload_n dX12_span_128 rfl rfl ?_
                      refine xm_geta dX12_span_129 lf_X12_9 vma_2 ?_
                      refine x_iload dX12_span_132 rfl ?_
                      refine xm_iald 2 dX12_span_134 mf_2 hi hin2 rfl ?_
                      refine x_iload dX12_span_135 rfl ?_
                      refine x_iconst (v := 4) dX12_span_137 (by decide) ?_
                      refine x_idiv dX12_span_138 (by decide) ?_
                      refine x_icmp_ne (tgt := 173) dX12_span_139 (by decide) (fun h139 => ?_) (fun h139 => ?_)
                      · refine x_iinc (c := 1) dX12_span_173 rfl (by decide) ?_
                        refine x_goto (tgt := 77) dX12_span_176 (by decide) ?_
                        refine x_loc _ (?_ : lle _ _) ihl
                        refine ⟨rfl, rfl, rfl, rfl, rfl, rfl, rfl, rfl, rfl, ?_, ?_, ?_, trivial⟩
                        · show some (Value.int _) = some (Value.int (spCell σ0 sort day q i (l + 1)).1)
                          clear ih ihl hq hst; grind
                        · show some (Value.int _) = some (Value.int (spCell σ0 sort day q i (l + 1)).2)
                          clear ih ihl hq hst; grind
                        · show some (Value.int _) = some (Value.int (nI (l + 1)))
                          rw [← nI_1]
                      · refine x_aload_n dX12_span_142 rfl rfl ?_
                        refine x_iload dX12_span_143 rfl ?_
                        refine x_cV1 dX12_span_145 lv_X12_348 mm_obj rfl rfl rfl  (c_X12_stratum hi hin2 rfl ?_)
                        refine x_iload dX12_span_148 rfl ?_
                        refine x_iconst (v := 4) dX12_span_150 (by decide) ?_
                        refine x_irem dX12_span_151 (by decide) ?_
                        refine x_icmp_eq (tgt := 158) dX12_span_152 (by decide) (fun h152 => ?_) (fun h152 => ?_)
                        · refine x_iload dX12_span_158 rfl ?_
                          refine x_aload_n dX12_span_160 rfl rfl ?_
                          refine xm_geta dX12_span_161 lf_X12_37 vma_11 ?_
                          refine x_iload dX12_span_164 rfl ?_
                          refine xm_iald 11 dX12_span_166 mf_11 hi hin hcl ?_
                          refine x_iadd dX12_span_167 ?_
                          refine x_istore dX12_span_168 (by decide) ?_
                          refine x_iinc (c := 1) dX12_span_170 rfl (by decide) ?_
                          refine x_iinc (c := 1) dX12_span_173 rfl (by decide) ?_
                          refine x_goto (tgt := 77) dX12_span_176 (by decide) ?_
                          refine x_loc _ (?_ : lle _ _) ihl
                          refine ⟨rfl, rfl, rfl, rfl, rfl, rfl, rfl, rfl, rfl, ?_, ?_, ?_, trivial⟩
                          · show some (Value.int _) = some (Value.int (spCell σ0 sort day q i (l + 1)).1)
                            clear ih ihl hq hst; grind
                          · show some (Value.int _) = some (Value.int (spCell σ0 sort day q i (l + 1)).2)
                            clear ih ihl hq hst; grind
                          · show some (Value.int _) = some (Value.int (nI (l + 1)))
                            rw [← nI_1]
                        · refine x_goto (tgt := 173) dX12_span_155 (by decide) ?_
                          refine x_iinc (c := 1) dX12_span_173 rfl (by decide) ?_
                          refine x_goto (tgt := 77) dX12_span_176 (by decide) ?_
                          refine x_loc _ (?_ : lle _ _) ihl
                          refine ⟨rfl, rfl, rfl, rfl, rfl, rfl, rfl, rfl, rfl, ?_, ?_, ?_, trivial⟩
                          · show some (Value.int _) = some (Value.int (spCell σ0 sort day q i (l + 1)).1)
                            clear ih ihl hq hst; grind
                          · show some (Value.int _) = some (Value.int (spCell σ0 sort day q i (l + 1)).2)
                            clear ih ihl hq hst; grind
                          · show some (Value.int _) = some (Value.int (nI (l + 1)))
                            rw [← nI_1]
          · refine x_ldcw dX12_span_48 tb1627 ?_
            exact x_ireturn dX12_span_51 rfl rfl (fan_f hq (fun z => by first | exact z.1 h13 | exact h20 z.2.1 | exact h27 z.2.2.1 | exact h35 z.2.2.2.1 | exact h45 z.2.2.2.2))
end MDI
