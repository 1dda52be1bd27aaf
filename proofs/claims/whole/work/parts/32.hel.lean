/-! the model's methods, 10: what readers hold of a line; first of the rules -/
theorem having_s (σ : MS) (q v : Int32) (l r : Nat) : spHav σ q v l (r + 1) = if mk σ q (nI r) l = v then spHav σ q v l r + 1 else spHav σ q v l r := by
  unfold spHav; rw [fold_s]
theorem held_s (σ : MS) (q : Int32) (l v : Nat) : spHeld σ q l (v + 1) = if (spHeld σ q l v).2 < spHav σ q (nI v) l 6 then (nI v, spHav σ q (nI v) l 6) else spHeld σ q l v := by
  unfold spHeld; rw [fold_s]
section MDK
variable {G : Gam} {d : Nat} {k : Nat × Nat} {ad : Nat → Nat} {σ σ0 : MS} {M : Mem} {Q : Option Value → Mem → Prop}
theorem c_X12_held {l q : Int32} (hi : adOK ad) (h0 : seti σ 0 0 = σ0) (hc : Cnt σ0) (hq : Q (some (.int (aHeld σ0 l q))) (mm ad σ0)) : CT G (d + 3) (0, 0) MX12_held [.ref (ad 99), .int l, .int q] (mm ad σ) Q := by
  obtain ⟨hl1, hl2⟩ := hc.b 16 (b := 200) (by decide)
  refine CT.of rfl (Nat.le_of_ble_eq_true rfl) ?_
  refine x_aload_n dX12_held_0 rfl rfl ?_
  refine x_iconst (v := 0) dX12_held_1 (by decide) ?_
  refine xm_puti dX12_held_2 lp_X12_138 vmq_0 vmn_0 vmf_0 ?_
  rw [h0]
  refine x_aload_n dX12_held_5 rfl rfl ?_
  refine x_iload_n dX12_held_6 rfl rfl ?_
  refine x_iload_n dX12_held_7 rfl rfl ?_
  refine x_cV2 dX12_held_8 lv_X12_305 mm_obj rfl rfl rfl  (c_X12_isLineBy hi hc ?_)
  refine x_if_ne_b (tgt := 16) dX12_held_11 (by decide) (fun h11 => ?_) (fun h11 => ?_)
  · have hq := fan_t hq h11
    obtain ⟨j, hj, rfl⟩ := of_lt h11.1.1 h11.1.2 hl1 (by omega)
    rw [nI_clamp (by omega)] at hq
    refine x_iconst (v := -1) dX12_held_16 (by decide) ?_
    refine x_istore_n dX12_held_17 rfl (by decide) ?_
    refine x_iconst (v := 1) dX12_held_18 (by decide) ?_
    refine x_istore dX12_held_19 (by decide) ?_
    refine x_iconst (v := 0) dX12_held_21 (by decide) ?_
    refine x_istore dX12_held_22 (by decide) ?_
    refine x_loc [(0, .ref (ad 99)), (1, .int (nI j)), (2, .int q), (3, .int (spHeld σ0 q j 0).1), (4, .int (spHeld σ0 q j 0).2), (5, .int (nI 0))] ⟨rfl, rfl, rfl, rfl, rfl, rfl, trivial⟩ ?_
    refine loop_up (P := fun v => XJ G (d + 3) (0, 0) MX12_held (mm ad σ0) [(0, .ref (ad 99)), (1, .int (nI j)), (2, .int q), (3, .int (spHeld σ0 q j v).1), (4, .int (spHeld σ0 q j v).2), (5, .int (nI v))] [] 24 Q) (n := 10) ?_ ?_ 0 (Nat.zero_le _)
    · refine x_iload dX12_held_24 rfl ?_
      refine x_bipush (v := 10) dX12_held_26 (by decide) ?_
      refine x_icmp_ge (tgt := 96) dX12_held_28 (by decide) (fun _ => ?_) (fun z => absurd (loopT (show (10 : Int32) = nI 10 from rfl)) z)
      refine x_iload_n dX12_held_96 rfl rfl ?_
      exact x_ireturn dX12_held_97 rfl rfl (hq)
    · intro v hltv ihv
      refine x_iload dX12_held_24 rfl ?_
      refine x_bipush (v := 10) dX12_held_26 (by decide) ?_
      refine x_icmp_ge (tgt := 96) dX12_held_28 (by decide) (fun z => absurd z (loopF (show (10 : Int32) = nI 10 from rfl) hltv (by omega))) (fun _ => ?_)
      refine x_iconst (v := 0) dX12_held_31 (by decide) ?_
      refine x_istore dX12_held_32 (by decide) ?_
      refine x_iconst (v := 0) dX12_held_34 (by decide) ?_
      refine x_istore dX12_held_35 (by decide) ?_
      refine x_loc [(0, .ref (ad 99)), (1, .int (nI j)), (2, .int q), (3, .int (spHeld σ0 q j v).1), (4, .int (spHeld σ0 q j v).2), (5, .int (nI v)), (6, .int (spHav σ0 q (nI v) j 0)), (7, .int (nI 0))] ⟨rfl, rfl, rfl, rfl, rfl, rfl, rfl, rfl, trivial⟩ ?_
      refine loop_up (P := fun r => XJ G (d + 3) (0, 0) MX12_held (mm ad σ0) [(0, .ref (ad 99)), (1, .int (nI j)), (2, .int q), (3, .int (spHeld σ0 q j v).1), (4, .int (spHeld σ0 q j v).2), (5, .int (nI v)), (6, .int (spHav σ0 q (nI v) j r)), (7, .int (nI r))] [] 37 Q) (n := 6) ?_ ?_ 0 (Nat.zero_le _)
      · refine x_iload dX12_held_37 rfl ?_
        refine x_bipush (v := 6) dX12_held_39 (by decide) ?_
        refine x_icmp_ge (tgt := 73) dX12_held_41 (by decide) (fun _ => ?_) (fun z => absurd (loopT (show (6 : Int32) = nI 6 from rfl)) z)
        refine x_iload dX12_held_73 rfl ?_
        refine x_iload dX12_held_75 rfl ?_
        refine x_icmp_gt (tgt := 83) dX12_held_77 (by decide) (fun h77 => ?_) (fun h77 => ?_)
        · refine x_iload dX12_held_83 rfl ?_
          refine x_istore_n dX12_held_85 rfl (by decide) ?_
          refine x_iload dX12_held_86 rfl ?_
          refine x_istore dX12_held_88 (by decide) ?_
          refine x_iinc (c := 1) dX12_held_90 rfl (by decide) ?_
          refine x_goto (tgt := 24) dX12_held_93 (by decide) ?_
          have hst := held_s σ0 q j v
          refine x_loc _ (?_ : lle _ _) ihv
          first
          | (rw [if_pos h77] at hst
             rw [hst]
             exact ⟨rfl, rfl, rfl, rfl, rfl, congrArg some (congrArg Value.int (nI_1 _)), trivial⟩)
          | (rw [if_neg h77] at hst
             rw [hst]
             exact ⟨rfl, rfl, rfl, rfl, rfl, congrArg some (congrArg Value.int (nI_1 _)), trivial⟩)
        · refine x_goto (tgt := 90) dX12_held_80 (by decide) ?_
          refine x_iinc (c := 1) dX12_held_90 rfl (by decide) ?_
          refine x_goto (tgt := 24) dX12_held_93 (by decide) ?_
          have hst := held_s σ0 q j v
          refine x_loc _ (?_ : lle _ _) ihv
          first
          | (rw [if_pos h77] at hst
             rw [hst]
             exact ⟨rfl, rfl, rfl, rfl, rfl, congrArg some (congrArg Value.int (nI_1 _)), trivial⟩)
          | (rw [if_neg h77] at hst
             rw [hst]
             exact ⟨rfl, rfl, rfl, rfl, rfl, congrArg some (congrArg Value.int (nI_1 _)), trivial⟩)
      · intro r hltr ihr
        have hst := having_s σ0 q (nI v) j r
        refine x_iload dX12_held_37 rfl ?_
        refine x_bipush (v := 6) dX12_held_39 (by decide) ?_
        refine x_icmp_ge (tgt := 73) dX12_held_41 (by decide) (fun z => absurd z (loopF (show (6 : Int32) = nI 6 from rfl) hltr (by omega))) (fun _ => ?_)
        refine x_iload dX12_held_44 rfl ?_
        refine x_aload_n dX12_held_46 rfl rfl ?_
        refine x_iload dX12_held_47 rfl ?_
        refine x_iload_n dX12_held_49 rfl rfl ?_
        refine x_iload_n dX12_held_50 rfl rfl ?_
        refine x_cV3 dX12_held_51 lv_X12_341 mm_obj rfl rfl rfl  (c_X12_markOf hi hc ?_)
        refine x_iload dX12_held_54 rfl ?_
        refine x_icmp_ne (tgt := 63) dX12_held_56 (by decide) (fun h56 => ?_) (fun h56 => ?_)
        · refine x_iconst (v := 0) dX12_held_63 (by decide) ?_
          refine x_iadd dX12_held_64 ?_
          refine x_istore dX12_held_65 (by decide) ?_
          refine x_iinc (c := 1) dX12_held_67 rfl (by decide) ?_
          refine x_goto (tgt := 37) dX12_held_70 (by decide) ?_
          refine x_loc _ (?_ : lle _ _) ihr
          refine ⟨rfl, rfl, rfl, rfl, rfl, rfl, ?_, ?_, trivial⟩
          · skip
            rw [hst]
            first
            | (rw [if_pos (show mk σ0 q (nI r) j = nI v from h56)]; rfl)
            | (rw [if_neg (show ¬ mk σ0 q (nI r) j = nI v from h56)]; exact congrArg some (congrArg Value.int (Int32.add_zero _)))
          · show some (Value.int _) = some (Value.int (nI (r + 1)))
            rw [← nI_1]
        · refine x_iconst (v := 1) dX12_held_59 (by decide) ?_
          refine x_goto (tgt := 64) dX12_held_60 (by decide) ?_
          refine x_iadd dX12_held_64 ?_
          refine x_istore dX12_held_65 (by decide) ?_
          refine x_iinc (c := 1) dX12_held_67 rfl (by decide) ?_
          refine x_goto (tgt := 37) dX12_held_70 (by decide) ?_
          refine x_loc _ (?_ : lle _ _) ihr
          refine ⟨rfl, rfl, rfl, rfl, rfl, rfl, ?_, ?_, trivial⟩
          · skip
            rw [hst]
            first
            | (rw [if_pos (show mk σ0 q (nI r) j = nI v from h56)]; rfl)
            | (rw [if_neg (show ¬ mk σ0 q (nI r) j = nI v from h56)]; exact congrArg some (congrArg Value.int (Int32.add_zero _)))
          · show some (Value.int _) = some (Value.int (nI (r + 1)))
            rw [← nI_1]
  · refine x_iconst (v := -1) dX12_held_14 (by decide) ?_
    exact x_ireturn dX12_held_15 rfl rfl (fan_f hq h11)
end MDK
