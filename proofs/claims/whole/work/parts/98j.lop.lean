/-! the law, 4: the switch, the loop -/
section LOP
variable {G : Gam} {τ ad : Nat → Nat} {b o i g L : Nat} {xs : Nat → Int32} {M : Mem} {Q : Option Value → Mem → Prop}
theorem La_sw (x : Int32) (hG : GOK G) (hA : adOK ad) (hT : OldT G .int b L (fun j => .int (xs j))) (hL : L ≤ 3584) (hi7 : i + 7 ≤ L) (hS : LwS G τ ad o M) (back : ∀ M', LwS G τ ad o M' → XJ G 101 (3 * g, 810 * g) ML_law M' (lvL b (τ 0) (ad 99) o i) [] 2138 Q) : XJ G 101 (3 * (g + 1), 810 * (g + 1)) ML_law M (lvL b (τ 0) (ad 99) o i) [.int x] 40 Q := by
  by_cases hout : x.toInt < 0 ∨ 40 < x.toInt
  · refine x_tableOut (tgt := 2138) dL_law_40 hout (by decide) ?_
    exact x_room (k1 := (3 * g, 810 * g)) (by show 3 * g ≤ 3 * (g + 1); omega) (by show 810 * g ≤ 810 * (g + 1); omega) (back M hS)
  · obtain ⟨n, rfl, hn⟩ : ∃ n : Nat, x = nI n ∧ n ≤ 40 := ⟨x.toInt.toNat, by rw [← Int32.toInt_inj, nI_toInt (by omega)]; omega, by omega⟩
    have hc : n = 0 ∨ n = 1 ∨ n = 2 ∨ n = 3 ∨ n = 4 ∨ n = 5 ∨ n = 6 ∨ n = 7 ∨ n = 8 ∨ n = 9 ∨ n = 10 ∨ n = 11 ∨ n = 12 ∨ n = 13 ∨ n = 14 ∨ n = 15 ∨ n = 16 ∨ n = 17 ∨ n = 18 ∨ n = 19 ∨ n = 20 ∨ n = 21 ∨ n = 22 ∨ n = 23 ∨ n = 24 ∨ n = 25 ∨ n = 26 ∨ n = 27 ∨ n = 28 ∨ n = 29 ∨ n = 30 ∨ n = 31 ∨ n = 32 ∨ n = 33 ∨ n = 34 ∨ n = 35 ∨ n = 36 ∨ n = 37 ∨ n = 38 ∨ n = 39 ∨ n = 40 := by omega
    rcases hc with rfl | rfl | rfl | rfl | rfl | rfl | rfl | rfl | rfl | rfl | rfl | rfl | rfl | rfl | rfl | rfl | rfl | rfl | rfl | rfl | rfl | rfl | rfl | rfl | rfl | rfl | rfl | rfl | rfl | rfl | rfl | rfl | rfl | rfl | rfl | rfl | rfl | rfl | rfl | rfl | rfl
    · exact x_tableIn (off := 180) (tgt := 220) dL_law_40 (by decide) (by decide) rfl (by decide) (La_days hG hA hT hL hi7 hS back)
    · exact x_tableIn (off := 205) (tgt := 245) dL_law_40 (by decide) (by decide) rfl (by decide) (La_person hG hA hT hL hi7 hS back)
    · exact x_tableIn (off := 254) (tgt := 294) dL_law_40 (by decide) (by decide) rfl (by decide) (La_line hG hA hT hL hi7 hS back)
    · exact x_tableIn (off := 341) (tgt := 381) dL_law_40 (by decide) (by decide) rfl (by decide) (La_told hG hA hT hL hi7 hS back)
    · exact x_tableIn (off := 409) (tgt := 449) dL_law_40 (by decide) (by decide) rfl (by decide) (La_stop hG hA hT hL hi7 hS back)
    · exact x_tableIn (off := 446) (tgt := 486) dL_law_40 (by decide) (by decide) rfl (by decide) (La_stopped hG hA hT hL hi7 hS back)
    · exact x_tableIn (off := 483) (tgt := 523) dL_law_40 (by decide) (by decide) rfl (by decide) (La_feed hG hA hT hL hi7 hS back)
    · exact x_tableIn (off := 556) (tgt := 596) dL_law_40 (by decide) (by decide) rfl (by decide) (La_end hG hA hT hL hi7 hS back)
    · exact x_tableIn (off := 581) (tgt := 621) dL_law_40 (by decide) (by decide) rfl (by decide) (La_fault hG hA hT hL hi7 hS back)
    · exact x_tableIn (off := 594) (tgt := 634) dL_law_40 (by decide) (by decide) rfl (by decide) (La_rule hG hA hT hL hi7 hS back)
    · exact x_tableIn (off := 619) (tgt := 659) dL_law_40 (by decide) (by decide) rfl (by decide) (La_force hG hA hT hL hi7 hS back)
    · exact x_tableIn (off := 656) (tgt := 696) dL_law_40 (by decide) (by decide) rfl (by decide) (La_asked hG hA hT hL hi7 hS back)
    · exact x_tableIn (off := 717) (tgt := 757) dL_law_40 (by decide) (by decide) rfl (by decide) (La_shown hG hA hT hL hi7 hS back)
    · exact x_tableIn (off := 778) (tgt := 818) dL_law_40 (by decide) (by decide) rfl (by decide) (La_digest hG hA hT hL hi7 hS back)
    · exact x_tableIn (off := 851) (tgt := 891) dL_law_40 (by decide) (by decide) rfl (by decide) (La_left hG hA hT hL hi7 hS back)
    · exact x_tableIn (off := 912) (tgt := 952) dL_law_40 (by decide) (by decide) rfl (by decide) (La_happen hG hA hT hL hi7 hS back)
    · exact x_tableIn (off := 989) (tgt := 1029) dL_law_40 (by decide) (by decide) rfl (by decide) (La_truth hG hA hT hL hi7 hS back)
    · exact x_tableIn (off := 1026) (tgt := 1066) dL_law_40 (by decide) (by decide) rfl (by decide) (La_way hG hA hT hL hi7 hS back)
    · exact x_tableIn (off := 1087) (tgt := 1127) dL_law_40 (by decide) (by decide) rfl (by decide) (La_bearers hG hA hT hL hi7 hS back)
    · exact x_tableIn (off := 1124) (tgt := 1164) dL_law_40 (by decide) (by decide) rfl (by decide) (La_mark hG hA hT hL hi7 hS back)
    · exact x_tableIn (off := 1173) (tgt := 1213) dL_law_40 (by decide) (by decide) rfl (by decide) (La_marked hG hA hT hL hi7 hS back)
    · exact x_tableIn (off := 1222) (tgt := 1262) dL_law_40 (by decide) (by decide) rfl (by decide) (La_agree hG hA hT hL hi7 hS back)
    · exact x_tableIn (off := 1283) (tgt := 1323) dL_law_40 (by decide) (by decide) rfl (by decide) (La_habit hG hA hT hL hi7 hS back)
    · exact x_tableIn (off := 1320) (tgt := 1360) dL_law_40 (by decide) (by decide) rfl (by decide) (La_held hG hA hT hL hi7 hS back)
    · exact x_tableIn (off := 1357) (tgt := 1397) dL_law_40 (by decide) (by decide) rfl (by decide) (La_land hG hA hT hL hi7 hS back)
    · exact x_tableIn (off := 1406) (tgt := 1446) dL_law_40 (by decide) (by decide) rfl (by decide) (La_span hG hA hT hL hi7 hS back)
    · exact x_tableIn (off := 1467) (tgt := 1507) dL_law_40 (by decide) (by decide) rfl (by decide) (La_mood hG hA hT hL hi7 hS back)
    · exact x_tableIn (off := 1516) (tgt := 1556) dL_law_40 (by decide) (by decide) rfl (by decide) (La_turn hG hA hT hL hi7 hS back)
    · exact x_tableIn (off := 1577) (tgt := 1617) dL_law_40 (by decide) (by decide) rfl (by decide) (La_last hG hA hT hL hi7 hS back)
    · exact x_tableIn (off := 1614) (tgt := 1654) dL_law_40 (by decide) (by decide) rfl (by decide) (La_lean hG hA hT hL hi7 hS back)
    · exact x_tableIn (off := 1651) (tgt := 1691) dL_law_40 (by decide) (by decide) rfl (by decide) (La_watcher hG hA hT hL hi7 hS back)
    · exact x_tableIn (off := 1688) (tgt := 1728) dL_law_40 (by decide) (by decide) rfl (by decide) (La_want hG hA hT hL hi7 hS back)
    · exact x_tableIn (off := 1725) (tgt := 1765) dL_law_40 (by decide) (by decide) rfl (by decide) (La_table hG hA hT hL hi7 hS back)
    · exact x_tableIn (off := 1750) (tgt := 1790) dL_law_40 (by decide) (by decide) rfl (by decide) (La_alike hG hA hT hL hi7 hS back)
    · exact x_tableIn (off := 1787) (tgt := 1827) dL_law_40 (by decide) (by decide) rfl (by decide) (La_hide hG hA hT hL hi7 hS back)
    · exact x_tableIn (off := 1812) (tgt := 1852) dL_law_40 (by decide) (by decide) rfl (by decide) (La_question hG hA hT hL hi7 hS back)
    · exact x_tableIn (off := 1849) (tgt := 1889) dL_law_40 (by decide) (by decide) rfl (by decide) (La_buy hG hA hT hL hi7 hS back)
    · exact x_tableIn (off := 1874) (tgt := 1914) dL_law_40 (by decide) (by decide) rfl (by decide) (La_judge hG hA hT hL hi7 hS back)
    · exact x_tableIn (off := 1911) (tgt := 1951) dL_law_40 (by decide) (by decide) rfl (by decide) (La_lot hG hA hT hL hi7 hS back)
    · exact x_tableIn (off := 1992) (tgt := 2032) dL_law_40 (by decide) (by decide) rfl (by decide) (La_beside hG hA hT hL hi7 hS back)
    · exact x_tableIn (off := 2073) (tgt := 2113) dL_law_40 (by decide) (by decide) rfl (by decide) (La_count hG hA hT hL hi7 hS back)
theorem sub_7 {L : Nat} (h : L ≤ 3584) : (nI L - 7).toInt = (L : Int) - 7 := by
  have e7 : (7 : Int32).toInt = 7 := rfl
  rw [Int32.toInt_sub, nI_toInt (by omega), e7]
  exact bm32 ⟨by omega, by omega⟩
theorem La_loop (hG : GOK G) (hA : adOK ad) (hT : OldT G .int b L (fun j => .int (xs j))) (hL : L ≤ 3584) (hq : ∀ M', Q (some (.int 1)) M') : ∀ (g i : Nat) (M : Mem), L ≤ i + 7 * g + 6 → i ≤ 4000 → LwS G τ ad o M → XJ G 101 (3 * g, 810 * g) ML_law M (lvL b (τ 0) (ad 99) o i) [] 23 Q := by
  intro g
  induction g with
  | zero =>
    intro i M h1 h2 hS
    refine x_iload dL_law_23 rfl ?_
    refine x_aload_n dL_law_25 rfl rfl ?_
    refine x_olen dL_law_26 hT rfl ?_
    refine x_bipush (v := 7) dL_law_27 (by decide) ?_
    refine x_isub dL_law_29 ?_
    refine x_icmp_gt (tgt := 2144) dL_law_30 (by decide) (fun _ => ?_) (fun h => absurd ?_ h)
    · refine x_iconst (v := 1) dL_law_2144 (by decide) ?_
      exact x_ireturn dL_law_2145 rfl (by decide) (hq _)
    · show nI L - 7 < nI i
      rw [Int32.lt_iff_toInt_lt, sub_7 hL, nI_toInt (by omega)]
      omega
  | succ g ih =>
    intro i M h1 h2 hS
    refine x_iload dL_law_23 rfl ?_
    refine x_aload_n dL_law_25 rfl rfl ?_
    refine x_olen dL_law_26 hT rfl ?_
    refine x_bipush (v := 7) dL_law_27 (by decide) ?_
    refine x_isub dL_law_29 ?_
    refine x_icmp_gt (tgt := 2144) dL_law_30 (by decide) (fun _ => ?_) (fun h => ?_)
    · refine x_iconst (v := 1) dL_law_2144 (by decide) ?_
      exact x_ireturn dL_law_2145 rfl (by decide) (hq _)
    · have hi7 : i + 7 ≤ L := by
        have h' : ¬ nI L - 7 < nI i := h
        rw [Int32.lt_iff_toInt_lt, sub_7 hL, nI_toInt (by omega)] at h'
        omega
      refine x_aload_n dL_law_33 rfl rfl ?_
      refine x_iload dL_law_34 rfl ?_
      refine x_oiald (v := .int (xs i)) dL_law_36 hT (vp_in_nI (by omega) (by omega)) (by rw [nI_clamp (by omega)]) ?_
      refine x_bipush (v := 63) dL_law_37 (by decide) ?_
      refine x_iand dL_law_39 ?_
      refine La_sw _ hG hA hT hL hi7 hS (fun M' hS' => ?_)
      refine x_iinc (c := 7) dL_law_2138 rfl (by decide) ?_
      refine x_goto (tgt := 23) dL_law_2141 (by decide) ?_
      have e : nI i + 7 = nI (i + 7) := (Int32.ofNat_add i 7).symm
      refine x_loc (lvL b (τ 0) (ad 99) o (i + 7)) ⟨rfl, rfl, rfl, rfl, congrArg (fun v => some (Value.int v)) e, trivial⟩ ?_
      exact ih (i + 7) M' (by omega) (by omega) hS'
end LOP
