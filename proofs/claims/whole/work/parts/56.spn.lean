/-! the class, 6: habits, the land, spans -/
def sumF (f : Nat → Int32) (n : Nat) : Int32 := fold (fun i s => s + f i) 0 n
theorem sumF_s (f : Nat → Int32) (n : Nat) : sumF f (n + 1) = sumF f n + f n := rfl
theorem add4 (a b c e : Int32) : a + b + (c + e) = a + c + (b + e) := by
  rw [Int32.add_assoc, Int32.add_assoc, ← Int32.add_assoc b c e, Int32.add_comm b c, Int32.add_assoc c b e]
theorem sumF_add (f g : Nat → Int32) : ∀ n, sumF (fun i => f i + g i) n = sumF f n + sumF g n
  | 0 => by show (0 : Int32) = 0 + 0; rfl
  | n + 1 => by rw [sumF_s, sumF_s, sumF_s, sumF_add f g n, add4]
theorem sumF_0 : ∀ n, sumF (fun _ => 0) n = 0
  | 0 => rfl
  | n + 1 => by rw [sumF_s, sumF_0 n]; rfl
theorem sumF_x (f : Nat → Nat → Int32) (m : Nat) : ∀ n, sumF (fun l => sumF (fun r => f r l) m) n = sumF (fun r => sumF (fun l => f r l) n) m
  | 0 => (sumF_0 m).symm
  | n + 1 => by
    rw [sumF_s, sumF_x f m n, ← sumF_add]
    rfl
/-- what one pair brings to a habit -/
def hT (σ : MS) (q reader : Int32) (r l : Nat) : Int32 × Int32 := if nI r ≠ reader ∧ mk σ q (nI r) l ≠ -1 ∧ mk σ q reader l ≠ -1 then (mk σ q reader l - mk σ q (nI r) l, 1) else (0, 0)
theorem spHab1_F (σ : MS) (reader q : Int32) (l : Nat) (st : Int32 × Int32) : ∀ n, spHab1 σ reader q l st n = (st.1 + sumF (fun r => (hT σ q reader r l).1) n, st.2 + sumF (fun r => (hT σ q reader r l).2) n)
  | 0 => by
    show st = (st.1 + 0, st.2 + 0)
    rw [Int32.add_zero, Int32.add_zero]
  | n + 1 => by
    have es : spHab1 σ reader q l st (n + 1) = if nI n ≠ reader ∧ mk σ q (nI n) l ≠ -1 ∧ mk σ q reader l ≠ -1 then ((spHab1 σ reader q l st n).1 + (mk σ q reader l - mk σ q (nI n) l), (spHab1 σ reader q l st n).2 + 1) else spHab1 σ reader q l st n := rfl
    rw [es, sumF_s, sumF_s, spHab1_F σ reader q l st n]
    unfold hT
    by_cases z : nI n ≠ reader ∧ mk σ q (nI n) l ≠ -1 ∧ mk σ q reader l ≠ -1
    · rw [if_pos z, if_pos z, Int32.add_assoc, Int32.add_assoc]
    · rw [if_neg z, if_neg z, Int32.add_zero, Int32.add_zero]
theorem spHab_F (σ : MS) (reader q : Int32) : ∀ n, spHab σ reader q n = (sumF (fun l => sumF (fun r => (hT σ q reader r l).1) 6) n, sumF (fun l => sumF (fun r => (hT σ q reader r l).2) 6) n)
  | 0 => rfl
  | n + 1 => by
    have es : spHab σ reader q (n + 1) = spHab1 σ reader q n (spHab σ reader q n) 6 := rfl
    rw [es, spHab1_F, spHab_F σ reader q n]
    rfl
theorem spCell_s (σ : MS) (sort day q : Int32) (k n : Nat) : spCell σ sort day q k (n + 1) = if σ.2 10 n = sort ∧ σ.2 9 n = day ∧ σ.2 14 n ≤ q ∧ σ.2 2 (σ.2 8 n).toNatClampNeg = nI k / 4 ∧ strat (σ.2 3 (σ.2 8 n).toNatClampNeg) = nI k - nI k / 4 * 4 then ((spCell σ sort day q k n).1 + σ.2 11 n, (spCell σ sort day q k n).2 + 1) else spCell σ sort day q k n := rfl
theorem spPeople_s (σ : MS) (n : Nat) : spPeople σ (n + 1) = spPeople σ n + σ.2 50 n := rfl
section CLF
variable {G : Gam} {d : Nat} {τ : Nat → Nat} {ω : Nat → Nat → Nat} {ε : Nat → Nat} {σ κ : MS} {Md : Mem} {M : Mem} {Q : Option Value → Mem → Prop} {k : Nat}
theorem c_X11_habit {r q : Int32} (hW : Wld G τ ω ε σ κ Md) (hM : MkI σ) (hq : ∀ κ', KM κ κ' → Q (some (.int (aHabit σ r q))) (cm τ κ' Md)) : CT G (d + 4) (0, 0) MX11_habit [.ref (τ 0), .int r, .int q] (cm τ κ Md) Q := by
  have hW' := hW
  obtain ⟨hi, hc, hD, hK⟩ := hW
  obtain ⟨hn1, hn2⟩ := hc.b 16 (b := 200) (by decide)
  refine CT.of rfl (Nat.le_of_ble_eq_true rfl) ?_
  refine x_iload_n dX11_habit_0 rfl rfl ?_
  refine x_cS1 dX11_habit_1 ls_X11_316 rfl  (c_X11_isReader ?_)
  refine x_if_eq_b (tgt := 15) dX11_habit_4 (by decide) (fun h4 => ?_) (fun h4 => ?_)
  · refine x_ldcw dX11_habit_15 tb865 ?_
    exact x_ireturn dX11_habit_18 rfl rfl (fan_f (hq κ ⟨rfl, fun _ _ => rfl⟩) (fun z => by first | exact h4 z.1 | exact h12 z.2))
  · refine x_aload_n dX11_habit_7 rfl rfl ?_
    refine x_iload_n dX11_habit_8 rfl rfl ?_
    refine x_cV1 dX11_habit_9 lv_X11_158 (kc hi kf_0) rfl rfl rfl  (c_X11_isKnownDay hW' ?_)
    refine x_if_ne_b (tgt := 19) dX11_habit_12 (by decide) (fun h12 => ?_) (fun h12 => ?_)
    · refine x_aload_n dX11_habit_19 rfl rfl ?_
      refine x_iload_n dX11_habit_20 rfl rfl ?_
      refine x_cV1 dX11_habit_21 lv_X11_322 (kc hi kf_0) rfl rfl rfl  (c_X11_layMarks hW' hM ?_)
      intro κ' hkm hrow
      obtain ⟨m, hm, rfl⟩ := of_le (n := 5) h4.1 h4.2 rfl (by decide)
      have hm6 : m < 6 := by omega
      have hclm : (nI m).toNatClampNeg = m := nI_clamp (by omega)
      have h2 := fan_t (hq κ' hkm) ⟨h4, h12⟩
      rw [spHab_F, sumF_x (fun r l => (hT σ q (nI m) r l).1), sumF_x (fun r l => (hT σ q (nI m) r l).2)] at h2
      refine x_iconst (v := 0) dX11_habit_24 (by decide) ?_
      refine x_istore_n dX11_habit_25 rfl (by decide) ?_
      refine x_iconst (v := 0) dX11_habit_26 (by decide) ?_
      refine x_istore dX11_habit_27 (by decide) ?_
      refine x_iconst (v := 0) dX11_habit_29 (by decide) ?_
      refine x_istore dX11_habit_30 (by decide) ?_
      refine x_loc [(0, .ref (τ 0)), (1, .int (nI m)), (3, .int (sumF (fun r => sumF (fun l => (hT σ q (nI m) r l).1) (cn σ 16)) 0)), (4, .int (sumF (fun r => sumF (fun l => (hT σ q (nI m) r l).2) (cn σ 16)) 0)), (5, .int (nI 0))] ⟨rfl, rfl, rfl, rfl, rfl, trivial⟩ ?_
      refine loop_up (P := fun i => XJ G (d + 4) (0, 0) MX11_habit (cm τ κ' Md) [(0, .ref (τ 0)), (1, .int (nI m)), (3, .int (sumF (fun r => sumF (fun l => (hT σ q (nI m) r l).1) (cn σ 16)) i)), (4, .int (sumF (fun r => sumF (fun l => (hT σ q (nI m) r l).2) (cn σ 16)) i)), (5, .int (nI i))] [] 32 Q) (n := 6) ?_ ?_ 0 (Nat.zero_le _)
      · refine x_iload dX11_habit_32 rfl ?_
        refine x_bipush (v := 6) dX11_habit_34 (by decide) ?_
        refine x_icmp_ge (tgt := 118) dX11_habit_36 (by decide) (fun _ => ?_) (fun z => absurd (loopT (show (6 : Int32) = nI 6 from rfl)) z)
        refine x_iload_n dX11_habit_118 rfl rfl ?_
        refine x_sipush (v := 1000) dX11_habit_119 (by decide) ?_
        refine x_iload dX11_habit_122 rfl ?_
        refine x_cS3 dX11_habit_124 ls_X11_336 rfl  (c_X11_share ?_)
        exact x_ireturn dX11_habit_127 rfl rfl (by rw [Int32.mul_comm _ 1000]; exact h2)
      · intro i hlt ih
        refine x_iload dX11_habit_32 rfl ?_
        refine x_bipush (v := 6) dX11_habit_34 (by decide) ?_
        refine x_icmp_ge (tgt := 118) dX11_habit_36 (by decide) (fun z => absurd z (loopF (show (6 : Int32) = nI 6 from rfl) hlt (by omega))) (fun _ => ?_)
        refine x_iconst (v := 0) dX11_habit_39 (by decide) ?_
        refine x_istore dX11_habit_40 (by decide) ?_
        have hcli : (nI i).toNatClampNeg = i := nI_clamp (by omega)
        refine x_loc [(0, .ref (τ 0)), (1, .int (nI m)), (3, .int (sumF (fun r => sumF (fun l => (hT σ q (nI m) r l).1) (cn σ 16)) i + sumF (fun l => (hT σ q (nI m) i l).1) 0)), (4, .int (sumF (fun r => sumF (fun l => (hT σ q (nI m) r l).2) (cn σ 16)) i + sumF (fun l => (hT σ q (nI m) i l).2) 0)), (5, .int (nI i)), (6, .int (nI 0))] ⟨rfl, rfl, ?_, ?_, rfl, rfl, trivial⟩ ?_
        · show some (Value.int _) = some (Value.int (_ + 0))
          rw [Int32.add_zero]
        · show some (Value.int _) = some (Value.int (_ + 0))
          rw [Int32.add_zero]
        refine loop_up (P := fun j => XJ G (d + 4) (0, 0) MX11_habit (cm τ κ' Md) [(0, .ref (τ 0)), (1, .int (nI m)), (3, .int (sumF (fun r => sumF (fun l => (hT σ q (nI m) r l).1) (cn σ 16)) i + sumF (fun l => (hT σ q (nI m) i l).1) j)), (4, .int (sumF (fun r => sumF (fun l => (hT σ q (nI m) r l).2) (cn σ 16)) i + sumF (fun l => (hT σ q (nI m) i l).2) j)), (5, .int (nI i)), (6, .int (nI j))] [] 42 Q) (n := cn σ 16) ?_ ?_ 0 (Nat.zero_le _)
        · refine x_iload dX11_habit_42 rfl ?_
          refine x_aload_n dX11_habit_44 rfl rfl ?_
          refine x_getf dX11_habit_45 lf_X11_16 (kc hi kf_0) kv_0_2 ?_
          refine x_cV0 dX11_habit_48 lv_X11_100 (hD.lc 2 li_2) rfl rfl rfl (c_lsz_2 hD ?_)
          refine x_icmp_ge (tgt := 112) dX11_habit_51 (by decide) (fun _ => ?_) (fun z => absurd (loopT rfl) z)
          refine x_iinc (c := 1) dX11_habit_112 rfl (by decide) ?_
          refine x_goto (tgt := 32) dX11_habit_115 (by decide) ?_
          refine x_loc _ (?_ : lle _ _) ih
          refine ⟨rfl, rfl, rfl, rfl, ?_, trivial⟩
          show some (Value.int (nI i + 1)) = some (Value.int (nI (i + 1)))
          rw [nI_1]
        · intro j hj ihj
          have hclj : (nI j).toNatClampNeg = j := nI_clamp (by omega)
          have hst : ∀ x y, hT σ q (nI m) i j = (x, y) → ∀ u v, u = sumF (fun r => sumF (fun l => (hT σ q (nI m) r l).1) (cn σ 16)) i + sumF (fun l => (hT σ q (nI m) i l).1) j + x → v = sumF (fun r => sumF (fun l => (hT σ q (nI m) r l).2) (cn σ 16)) i + sumF (fun l => (hT σ q (nI m) i l).2) j + y → XJ G (d + 4) (0, 0) MX11_habit (cm τ κ' Md) [(0, .ref (τ 0)), (1, .int (nI m)), (3, .int u), (4, .int v), (5, .int (nI i)), (6, .int (nI j))] [] 106 Q := by
            intro x y e u v hu hv
            refine x_iinc (c := 1) dX11_habit_106 rfl (by decide) ?_
            refine x_goto (tgt := 42) dX11_habit_109 (by decide) ?_
            refine x_loc _ (?_ : lle _ _) ihj
            refine ⟨rfl, rfl, ?_, ?_, rfl, ?_, trivial⟩
            · show some (Value.int u) = some (Value.int _)
              rw [sumF_s _ j, e, hu, Int32.add_assoc]
            · show some (Value.int v) = some (Value.int _)
              rw [sumF_s _ j, e, hv, Int32.add_assoc]
            · show some (Value.int (nI j + 1)) = some (Value.int (nI (j + 1)))
              rw [nI_1]
          refine x_iload dX11_habit_42 rfl ?_
          refine x_aload_n dX11_habit_44 rfl rfl ?_
          refine x_getf dX11_habit_45 lf_X11_16 (kc hi kf_0) kv_0_2 ?_
          refine x_cV0 dX11_habit_48 lv_X11_100 (hD.lc 2 li_2) rfl rfl rfl (c_lsz_2 hD ?_)
          refine x_icmp_ge (tgt := 112) dX11_habit_51 (by decide) (fun z => absurd z (loopF rfl hj (by omega))) (fun _ => ?_)
          refine x_aload_n dX11_habit_54 rfl rfl ?_
          refine x_getf dX11_habit_55 lf_X11_60 (kc hi kf_0) kv_0_12 ?_
          refine x_iload_n dX11_habit_58 rfl rfl ?_
          refine x_aaload dX11_habit_59 (Or.inl rfl) (kc hi kf_12) (vp_in_nI hm6 (by decide)) (show kV _ _ 12 _ = .ref (τ (40 + m)) by rw [hclm]; rfl) ?_
          refine x_iload dX11_habit_60 rfl ?_
          refine xk_iald (40 + m) dX11_habit_62 (kf_m m hm6) (kr_m m hm6) hi (vp_in_nI (by omega) (by decide)) hclj ?_
          rw [hrow m j hm6 (by omega)]
          refine x_istore dX11_habit_63 (by decide) ?_
          refine x_aload_n dX11_habit_65 rfl rfl ?_
          refine x_getf dX11_habit_66 lf_X11_60 (kc hi kf_0) kv_0_12 ?_
          refine x_iload dX11_habit_69 rfl ?_
          refine x_aaload dX11_habit_71 (Or.inl rfl) (kc hi kf_12) (vp_in_nI hlt (by decide)) (show kV _ _ 12 _ = .ref (τ (40 + i)) by rw [hcli]; rfl) ?_
          refine x_iload dX11_habit_72 rfl ?_
          refine xk_iald (40 + i) dX11_habit_74 (kf_m i hlt) (kr_m i hlt) hi (vp_in_nI (by omega) (by decide)) hclj ?_
          rw [hrow i j hlt (by omega)]
          refine x_istore dX11_habit_75 (by decide) ?_
          refine x_iload dX11_habit_77 rfl ?_
          refine x_iload_n dX11_habit_79 rfl rfl ?_
          refine x_icmp_eq (tgt := 106) dX11_habit_80 (by decide) (fun h80 => ?_) (fun h80 => ?_)
          · first
            | (have hno : ¬ (nI i ≠ nI m ∧ mk σ q (nI i) j ≠ -1 ∧ mk σ q (nI m) j ≠ -1) := by
                 first
                 | exact fun z => z.1 h80
                 | exact fun z => z.2.2 h86
                 | exact fun z => z.2.1 h92
               refine x_loc _ (?_ : lle _ _) (hst _ _ (show hT σ q (nI m) i j = (0, 0) from if_neg hno) _ _ (Int32.add_zero _).symm (Int32.add_zero _).symm)
               exact ⟨rfl, rfl, rfl, rfl, rfl, rfl, trivial⟩)
            | (refine x_loc _ (?_ : lle _ _) (hst _ _ (show hT σ q (nI m) i j = (mk σ q (nI m) j - mk σ q (nI i) j, 1) from if_pos ⟨h80, h92, h86⟩) _ _ rfl rfl)
               exact ⟨rfl, rfl, rfl, rfl, rfl, rfl, trivial⟩)
          · refine x_iload dX11_habit_83 rfl ?_
            refine x_iconst (v := -1) dX11_habit_85 (by decide) ?_
            refine x_icmp_eq (tgt := 106) dX11_habit_86 (by decide) (fun h86 => ?_) (fun h86 => ?_)
            · first
              | (have hno : ¬ (nI i ≠ nI m ∧ mk σ q (nI i) j ≠ -1 ∧ mk σ q (nI m) j ≠ -1) := by
                   first
                   | exact fun z => z.1 h80
                   | exact fun z => z.2.2 h86
                   | exact fun z => z.2.1 h92
                 refine x_loc _ (?_ : lle _ _) (hst _ _ (show hT σ q (nI m) i j = (0, 0) from if_neg hno) _ _ (Int32.add_zero _).symm (Int32.add_zero _).symm)
                 exact ⟨rfl, rfl, rfl, rfl, rfl, rfl, trivial⟩)
              | (refine x_loc _ (?_ : lle _ _) (hst _ _ (show hT σ q (nI m) i j = (mk σ q (nI m) j - mk σ q (nI i) j, 1) from if_pos ⟨h80, h92, h86⟩) _ _ rfl rfl)
                 exact ⟨rfl, rfl, rfl, rfl, rfl, rfl, trivial⟩)
            · refine x_iload dX11_habit_89 rfl ?_
              refine x_iconst (v := -1) dX11_habit_91 (by decide) ?_
              refine x_icmp_eq (tgt := 106) dX11_habit_92 (by decide) (fun h92 => ?_) (fun h92 => ?_)
              · first
                | (have hno : ¬ (nI i ≠ nI m ∧ mk σ q (nI i) j ≠ -1 ∧ mk σ q (nI m) j ≠ -1) := by
                     first
                     | exact fun z => z.1 h80
                     | exact fun z => z.2.2 h86
                     | exact fun z => z.2.1 h92
                   refine x_loc _ (?_ : lle _ _) (hst _ _ (show hT σ q (nI m) i j = (0, 0) from if_neg hno) _ _ (Int32.add_zero _).symm (Int32.add_zero _).symm)
                   exact ⟨rfl, rfl, rfl, rfl, rfl, rfl, trivial⟩)
                | (refine x_loc _ (?_ : lle _ _) (hst _ _ (show hT σ q (nI m) i j = (mk σ q (nI m) j - mk σ q (nI i) j, 1) from if_pos ⟨h80, h92, h86⟩) _ _ rfl rfl)
                   exact ⟨rfl, rfl, rfl, rfl, rfl, rfl, trivial⟩)
              · refine x_iload_n dX11_habit_95 rfl rfl ?_
                refine x_iload dX11_habit_96 rfl ?_
                refine x_iload dX11_habit_98 rfl ?_
                refine x_isub dX11_habit_100 ?_
                refine x_iadd dX11_habit_101 ?_
                refine x_istore_n dX11_habit_102 rfl (by decide) ?_
                refine x_iinc (c := 1) dX11_habit_103 rfl (by decide) ?_
                first
                | (have hno : ¬ (nI i ≠ nI m ∧ mk σ q (nI i) j ≠ -1 ∧ mk σ q (nI m) j ≠ -1) := by
                     first
                     | exact fun z => z.1 h80
                     | exact fun z => z.2.2 h86
                     | exact fun z => z.2.1 h92
                   refine x_loc _ (?_ : lle _ _) (hst _ _ (show hT σ q (nI m) i j = (0, 0) from if_neg hno) _ _ (Int32.add_zero _).symm (Int32.add_zero _).symm)
                   exact ⟨rfl, rfl, rfl, rfl, rfl, rfl, trivial⟩)
                | (refine x_loc _ (?_ : lle _ _) (hst _ _ (show hT σ q (nI m) i j = (mk σ q (nI m) j - mk σ q (nI i) j, 1) from if_pos ⟨h80, h92, h86⟩) _ _ rfl rfl)
                   exact ⟨rfl, rfl, rfl, rfl, rfl, rfl, trivial⟩)
    · refine x_ldcw dX11_habit_15 tb865 ?_
      exact x_ireturn dX11_habit_18 rfl rfl (fan_f (hq κ ⟨rfl, fun _ _ => rfl⟩) (fun z => by first | exact h4 z.1 | exact h12 z.2))
theorem c_X11_allPeople (hW : Wld G τ ω ε σ κ Md) (hq : Q (some (.int (spPeople σ 32))) (cm τ κ Md)) : CT G d (0, 0) MX11_allPeople [.ref (τ 0)] (cm τ κ Md) Q := by
  obtain ⟨hi, hc, hD, hK⟩ := hW
  refine CT.of rfl (Nat.le_of_ble_eq_true rfl) ?_
  refine x_iconst (v := 0) dX11_allPeople_0 (by decide) ?_
  refine x_istore_n dX11_allPeople_1 rfl (by decide) ?_
  refine x_iconst (v := 0) dX11_allPeople_2 (by decide) ?_
  refine x_istore_n dX11_allPeople_3 rfl (by decide) ?_
  refine x_loc [(0, .ref (τ 0)), (1, .int (spPeople σ (4 * 0))), (2, .int (nI 0))] ⟨rfl, rfl, rfl, trivial⟩ ?_
  refine loop_up (P := fun i => XJ G d (0, 0) MX11_allPeople (cm τ κ Md) [(0, .ref (τ 0)), (1, .int (spPeople σ (4 * i))), (2, .int (nI i))] [] 4 Q) (n := 8) ?_ ?_ 0 (Nat.zero_le _)
  · refine x_iload_n dX11_allPeople_4 rfl rfl ?_
    refine x_bipush (v := 8) dX11_allPeople_5 (by decide) ?_
    refine x_icmp_ge (tgt := 40) dX11_allPeople_7 (by decide) (fun _ => ?_) (fun z => absurd (loopT (show (8 : Int32) = nI 8 from rfl)) z)
    refine x_iload_n dX11_allPeople_40 rfl rfl ?_
    exact x_ireturn dX11_allPeople_41 rfl rfl (hq)
  · intro i hlt ih
    refine x_iload_n dX11_allPeople_4 rfl rfl ?_
    refine x_bipush (v := 8) dX11_allPeople_5 (by decide) ?_
    refine x_icmp_ge (tgt := 40) dX11_allPeople_7 (by decide) (fun z => absurd z (loopF (show (8 : Int32) = nI 8 from rfl) hlt (by omega))) (fun _ => ?_)
    refine x_iconst (v := 0) dX11_allPeople_10 (by decide) ?_
    refine x_istore_n dX11_allPeople_11 rfl (by decide) ?_
    have hcli : (nI i).toNatClampNeg = i := nI_clamp (by omega)
    refine x_loc [(0, .ref (τ 0)), (1, .int (spPeople σ (4 * i + 0))), (2, .int (nI i)), (3, .int (nI 0))] ⟨rfl, rfl, rfl, rfl, trivial⟩ ?_
    refine loop_up (P := fun j => XJ G d (0, 0) MX11_allPeople (cm τ κ Md) [(0, .ref (τ 0)), (1, .int (spPeople σ (4 * i + j))), (2, .int (nI i)), (3, .int (nI j))] [] 12 Q) (n := 4) ?_ ?_ 0 (Nat.zero_le _)
    · refine x_iload_n dX11_allPeople_12 rfl rfl ?_
      refine x_iconst (v := 4) dX11_allPeople_13 (by decide) ?_
      refine x_icmp_ge (tgt := 34) dX11_allPeople_14 (by decide) (fun _ => ?_) (fun z => absurd (by decide) z)
      refine x_iinc (c := 1) dX11_allPeople_34 rfl (by decide) ?_
      refine x_goto (tgt := 4) dX11_allPeople_37 (by decide) ?_
      refine x_loc _ (?_ : lle _ _) ih
      refine ⟨rfl, rfl, ?_, trivial⟩
      show some (Value.int (nI i + 1)) = some (Value.int (nI (i + 1)))
      rw [nI_1]
    · intro j hj ihj
      have hclj : (nI j).toNatClampNeg = j := nI_clamp (by omega)
      refine x_iload_n dX11_allPeople_12 rfl rfl ?_
      refine x_iconst (v := 4) dX11_allPeople_13 (by decide) ?_
      refine x_icmp_ge (tgt := 34) dX11_allPeople_14 (by decide) (fun z => absurd z (nI_ge (b := 4) hj (by decide))) (fun _ => ?_)
      refine x_iload_n dX11_allPeople_17 rfl rfl ?_
      refine x_aload_n dX11_allPeople_18 rfl rfl ?_
      refine x_getf dX11_allPeople_19 lf_X11_57 (kc hi kf_0) kv_0_11 ?_
      refine x_iload_n dX11_allPeople_22 rfl rfl ?_
      refine x_aaload dX11_allPeople_23 (Or.inl rfl) (kc hi kf_11) (vp_in_nI hlt (by decide)) (show kV _ _ 11 _ = .ref (τ (30 + i)) by rw [hcli]; rfl) ?_
      refine x_iload_n dX11_allPeople_24 rfl rfl ?_
      refine xk_iald (30 + i) dX11_allPeople_25 (kf_p i hlt) (kr_p i hlt) hi (vp_in_nI hj (by decide)) hclj ?_
      rw [hK.2.2.2.2 i j hlt hj]
      refine x_iadd dX11_allPeople_26 ?_
      refine x_istore_n dX11_allPeople_27 rfl (by decide) ?_
      refine x_iinc (c := 1) dX11_allPeople_28 rfl (by decide) ?_
      refine x_goto (tgt := 12) dX11_allPeople_31 (by decide) ?_
      refine x_loc _ (?_ : lle _ _) ihj
      refine ⟨rfl, rfl, rfl, ?_, trivial⟩
      show some (Value.int (nI j + 1)) = some (Value.int (nI (j + 1)))
      rw [nI_1]
theorem c_X4_livesIn {p : Nat} {a b : Int32} (hD : Dyn G τ ω ε σ Md) (hp : p < cn σ 15) (hq : Q (some (.int (bI (σ.2 2 p = a ∧ strat (σ.2 3 p) = b)))) (cm τ κ Md)) : CT G d (0, 0) MX4_livesIn [.ref (ω 1 p), .int a, .int b] (cm τ κ Md) Q := by
  refine CT.of rfl (Nat.le_of_ble_eq_true rfl) ?_
  refine x_aload_n dX4_livesIn_0 rfl rfl ?_
  refine x_getf dX4_livesIn_1 lf_X4_13 (ob_1 hD hp) ov_1_1 ?_
  refine x_iload_n dX4_livesIn_4 rfl rfl ?_
  refine x_icmp_ne (tgt := 20) dX4_livesIn_5 (by decide) (fun h5 => ?_) (fun h5 => ?_)
  · refine x_iconst (v := 0) dX4_livesIn_20 (by decide) ?_
    exact x_ireturn dX4_livesIn_21 rfl rfl (fin hq (by first | exact bI_t ⟨h5, h13⟩ | exact bI_f (fun z => h5 z.1) | exact bI_f (fun z => h13 z.2)))
  · refine x_aload_n dX4_livesIn_8 rfl rfl ?_
    refine x_getf dX4_livesIn_9 lf_X4_22 (ob_1 hD hp) ov_1_4 ?_
    refine x_iload_n dX4_livesIn_12 rfl rfl ?_
    refine x_icmp_ne (tgt := 20) dX4_livesIn_13 (by decide) (fun h13 => ?_) (fun h13 => ?_)
    · refine x_iconst (v := 0) dX4_livesIn_20 (by decide) ?_
      exact x_ireturn dX4_livesIn_21 rfl rfl (fin hq (by first | exact bI_t ⟨h5, h13⟩ | exact bI_f (fun z => h5 z.1) | exact bI_f (fun z => h13 z.2)))
    · refine x_iconst (v := 1) dX4_livesIn_16 (by decide) ?_
      refine x_goto (tgt := 21) dX4_livesIn_17 (by decide) ?_
      exact x_ireturn dX4_livesIn_21 rfl rfl (fin hq (by first | exact bI_t ⟨h5, h13⟩ | exact bI_f (fun z => h5 z.1) | exact bI_f (fun z => h13 z.2)))
/-- a mean as the class tells it -/
def mnV (s : Int32 × Int32) : Int32 := if s.2 = 0 then -1000000 else s.1 * 100 / s.2
theorem k_div : ∀ p, p < 8 → ∀ s, s < 4 → nI (4 * p + s) / 4 = nI p ∧ nI (4 * p + s) - nI (4 * p + s) / 4 * 4 = nI s := by decide +kernel
theorem c_X11_meanMood {p s : Nat} {sort day q : Int32} (hW : Wld G τ ω ε σ κ Md) (hL : LinP σ) (hp : p < 8) (hs : s < 4) (hq : Q (some (.int (mnV (spCell σ sort day q (4 * p + s) (cn σ 16))))) (cm τ κ Md)) : CT G (d + 3) (0, 0) MX11_meanMood [.ref (τ 0), .int (nI p), .int (nI s), .int sort, .int day, .int q] (cm τ κ Md) Q := by
  obtain ⟨hi, hc, hD, hK⟩ := hW
  obtain ⟨hl1, hl2⟩ := hc.b 16 (b := 200) (by decide)
  obtain ⟨hp1, hp2⟩ := hc.b 15 (b := 24) (by decide)
  obtain ⟨kd1, kd2⟩ := k_div p hp s hs
  refine CT.of rfl (Nat.le_of_ble_eq_true rfl) ?_
  refine x_iconst (v := 0) dX11_meanMood_0 (by decide) ?_
  refine x_istore dX11_meanMood_1 (by decide) ?_
  refine x_iconst (v := 0) dX11_meanMood_3 (by decide) ?_
  refine x_istore dX11_meanMood_4 (by decide) ?_
  refine x_iconst (v := 0) dX11_meanMood_6 (by decide) ?_
  refine x_istore dX11_meanMood_7 (by decide) ?_
  refine x_loc [(0, .ref (τ 0)), (1, .int (nI p)), (2, .int (nI s)), (3, .int sort), (4, .int day), (5, .int q), (6, .int (spCell σ sort day q (4 * p + s) 0).1), (7, .int (spCell σ sort day q (4 * p + s) 0).2), (8, .int (nI 0))] ⟨rfl, rfl, rfl, rfl, rfl, rfl, rfl, rfl, rfl, trivial⟩ ?_
  refine loop_up (P := fun i => XJ G (d + 3) (0, 0) MX11_meanMood (cm τ κ Md) [(0, .ref (τ 0)), (1, .int (nI p)), (2, .int (nI s)), (3, .int sort), (4, .int day), (5, .int q), (6, .int (spCell σ sort day q (4 * p + s) i).1), (7, .int (spCell σ sort day q (4 * p + s) i).2), (8, .int (nI i))] [] 9 Q) (n := cn σ 16) ?_ ?_ 0 (Nat.zero_le _)
  · refine x_iload dX11_meanMood_9 rfl ?_
    refine x_aload_n dX11_meanMood_11 rfl rfl ?_
    refine x_getf dX11_meanMood_12 lf_X11_16 (kc hi kf_0) kv_0_2 ?_
    refine x_cV0 dX11_meanMood_15 lv_X11_100 (hD.lc 2 li_2) rfl rfl rfl (c_lsz_2 hD ?_)
    refine x_icmp_ge (tgt := 88) dX11_meanMood_18 (by decide) (fun _ => ?_) (fun z => absurd (loopT rfl) z)
    refine x_iload dX11_meanMood_88 rfl ?_
    refine x_if_ne (tgt := 99) dX11_meanMood_90 (by decide) (fun h90 => ?_) (fun h90 => ?_)
    · refine x_iload dX11_meanMood_99 rfl ?_
      refine x_bipush (v := 100) dX11_meanMood_101 (by decide) ?_
      refine x_iload dX11_meanMood_103 rfl ?_
      refine x_cS3 dX11_meanMood_105 ls_X11_336 rfl  (c_X11_share ?_)
      exact x_ireturn dX11_meanMood_108 rfl rfl (by
unfold mnV at hq
first
| (rw [if_pos h90] at hq; exact hq)
| (rw [if_neg h90] at hq; rw [if_neg h90]; exact hq))
    · refine x_ldcw dX11_meanMood_93 tb865 ?_
      refine x_goto (tgt := 108) dX11_meanMood_96 (by decide) ?_
      exact x_ireturn dX11_meanMood_108 rfl rfl (by
unfold mnV at hq
first
| (rw [if_pos h90] at hq; exact hq)
| (rw [if_neg h90] at hq; rw [if_neg h90]; exact hq))
  · intro i hlt ih
    have es : spCell σ sort day q (4 * p + s) (i + 1) = if σ.2 10 i = sort ∧ σ.2 9 i = day ∧ σ.2 14 i ≤ q ∧ σ.2 2 (pw σ i) = nI p ∧ strat (σ.2 3 (pw σ i)) = nI s then ((spCell σ sort day q (4 * p + s) i).1 + σ.2 11 i, (spCell σ sort day q (4 * p + s) i).2 + 1) else spCell σ sort day q (4 * p + s) i := by
      rw [spCell_s, kd2, kd1]
      rfl
    refine x_iload dX11_meanMood_9 rfl ?_
    refine x_aload_n dX11_meanMood_11 rfl rfl ?_
    refine x_getf dX11_meanMood_12 lf_X11_16 (kc hi kf_0) kv_0_2 ?_
    refine x_cV0 dX11_meanMood_15 lv_X11_100 (hD.lc 2 li_2) rfl rfl rfl (c_lsz_2 hD ?_)
    refine x_icmp_ge (tgt := 88) dX11_meanMood_18 (by decide) (fun z => absurd z (loopF rfl hlt (by omega))) (fun _ => ?_)
    refine x_aload_n dX11_meanMood_21 rfl rfl ?_
    refine x_getf dX11_meanMood_22 lf_X11_16 (kc hi kf_0) kv_0_2 ?_
    refine x_iload dX11_meanMood_25 rfl ?_
    refine x_cV1 dX11_meanMood_27 lv_X11_126 (hD.lc 2 li_2) rfl rfl rfl (c_lget (k := 2) hD li_2 hlt ?_)
    refine x_cast (q := (_, _, _)) dX11_meanMood_30 (show vwCl[2]? = some _ from rfl) tb367 (ob_2 hD hlt) ?_
    refine x_astore dX11_meanMood_33 (by decide) ?_
    refine x_aload dX11_meanMood_35 rfl ?_
    refine x_getf dX11_meanMood_37 lf_X11_247 (ob_2 hD hlt) ov_2_2 ?_
    refine x_iload_n dX11_meanMood_40 rfl rfl ?_
    refine x_icmp_ne (tgt := 82) dX11_meanMood_41 (by decide) (fun h41 => ?_) (fun h41 => ?_)
    · refine x_iinc (c := 1) dX11_meanMood_82 rfl (by decide) ?_
      refine x_goto (tgt := 9) dX11_meanMood_85 (by decide) ?_
      refine x_loc _ (?_ : lle _ _) ih
      refine ⟨rfl, rfl, rfl, rfl, rfl, rfl, ?_, ?_, ?_, trivial⟩
      · show some (Value.int _) = some (Value.int _)
        rw [es]
        first
        | rw [if_neg (fun z => h41 z.1)]
        | rw [if_neg (fun z => h53 ⟨z.2.1, z.2.2.1⟩)]
        | rw [if_neg (fun z => h66 z.2.2.2)]
        | rw [if_pos ⟨h41, h53.1, h53.2, h66⟩]
      · show some (Value.int _) = some (Value.int _)
        rw [es]
        first
        | rw [if_neg (fun z => h41 z.1)]
        | rw [if_neg (fun z => h53 ⟨z.2.1, z.2.2.1⟩)]
        | rw [if_neg (fun z => h66 z.2.2.2)]
        | rw [if_pos ⟨h41, h53.1, h53.2, h66⟩]
      · show some (Value.int _) = some (Value.int (nI (i + 1)))
        rw [← nI_1]
    · refine x_aload dX11_meanMood_44 rfl ?_
      refine x_iload dX11_meanMood_46 rfl ?_
      refine x_iload dX11_meanMood_48 rfl ?_
      refine x_cV2 dX11_meanMood_50 lv_X11_264 (ob_2 hD hlt) rfl rfl rfl  (c_X1_isFor hD hlt ?_)
      refine x_if_eq_b (tgt := 82) dX11_meanMood_53 (by decide) (fun h53 => ?_) (fun h53 => ?_)
      · refine x_iinc (c := 1) dX11_meanMood_82 rfl (by decide) ?_
        refine x_goto (tgt := 9) dX11_meanMood_85 (by decide) ?_
        refine x_loc _ (?_ : lle _ _) ih
        refine ⟨rfl, rfl, rfl, rfl, rfl, rfl, ?_, ?_, ?_, trivial⟩
        · show some (Value.int _) = some (Value.int _)
          rw [es]
          first
          | rw [if_neg (fun z => h41 z.1)]
          | rw [if_neg (fun z => h53 ⟨z.2.1, z.2.2.1⟩)]
          | rw [if_neg (fun z => h66 z.2.2.2)]
          | rw [if_pos ⟨h41, h53.1, h53.2, h66⟩]
        · show some (Value.int _) = some (Value.int _)
          rw [es]
          first
          | rw [if_neg (fun z => h41 z.1)]
          | rw [if_neg (fun z => h53 ⟨z.2.1, z.2.2.1⟩)]
          | rw [if_neg (fun z => h66 z.2.2.2)]
          | rw [if_pos ⟨h41, h53.1, h53.2, h66⟩]
        · show some (Value.int _) = some (Value.int (nI (i + 1)))
          rw [← nI_1]
      · refine x_aload dX11_meanMood_56 rfl ?_
        refine x_getf dX11_meanMood_58 lf_X11_243 (ob_2 hD hlt) ov_2_0 ?_
        refine x_iload_n dX11_meanMood_61 rfl rfl ?_
        refine x_iload_n dX11_meanMood_62 rfl rfl ?_
        refine x_cV2 dX11_meanMood_63 lv_X11_349 (ob_1 hD (hD.wr hlt)) rfl rfl rfl  (c_X4_livesIn hD (hD.wr hlt) ?_)
        refine x_if_eq_b (tgt := 82) dX11_meanMood_66 (by decide) (fun h66 => ?_) (fun h66 => ?_)
        · refine x_iinc (c := 1) dX11_meanMood_82 rfl (by decide) ?_
          refine x_goto (tgt := 9) dX11_meanMood_85 (by decide) ?_
          refine x_loc _ (?_ : lle _ _) ih
          refine ⟨rfl, rfl, rfl, rfl, rfl, rfl, ?_, ?_, ?_, trivial⟩
          · show some (Value.int _) = some (Value.int _)
            rw [es]
            first
            | rw [if_neg (fun z => h41 z.1)]
            | rw [if_neg (fun z => h53 ⟨z.2.1, z.2.2.1⟩)]
            | rw [if_neg (fun z => h66 z.2.2.2)]
            | rw [if_pos ⟨h41, h53.1, h53.2, h66⟩]
          · show some (Value.int _) = some (Value.int _)
            rw [es]
            first
            | rw [if_neg (fun z => h41 z.1)]
            | rw [if_neg (fun z => h53 ⟨z.2.1, z.2.2.1⟩)]
            | rw [if_neg (fun z => h66 z.2.2.2)]
            | rw [if_pos ⟨h41, h53.1, h53.2, h66⟩]
          · show some (Value.int _) = some (Value.int (nI (i + 1)))
            rw [← nI_1]
        · refine x_iload dX11_meanMood_69 rfl ?_
          refine x_aload dX11_meanMood_71 rfl ?_
          refine x_getf dX11_meanMood_73 lf_X11_250 (ob_2 hD hlt) ov_2_3 ?_
          refine x_iadd dX11_meanMood_76 ?_
          refine x_istore dX11_meanMood_77 (by decide) ?_
          refine x_iinc (c := 1) dX11_meanMood_79 rfl (by decide) ?_
          refine x_iinc (c := 1) dX11_meanMood_82 rfl (by decide) ?_
          refine x_goto (tgt := 9) dX11_meanMood_85 (by decide) ?_
          refine x_loc _ (?_ : lle _ _) ih
          refine ⟨rfl, rfl, rfl, rfl, rfl, rfl, ?_, ?_, ?_, trivial⟩
          · show some (Value.int _) = some (Value.int _)
            rw [es]
            first
            | rw [if_neg (fun z => h41 z.1)]
            | rw [if_neg (fun z => h53 ⟨z.2.1, z.2.2.1⟩)]
            | rw [if_neg (fun z => h66 z.2.2.2)]
            | rw [if_pos ⟨h41, h53.1, h53.2, h66⟩]
          · show some (Value.int _) = some (Value.int _)
            rw [es]
            first
            | rw [if_neg (fun z => h41 z.1)]
            | rw [if_neg (fun z => h53 ⟨z.2.1, z.2.2.1⟩)]
            | rw [if_neg (fun z => h66 z.2.2.2)]
            | rw [if_pos ⟨h41, h53.1, h53.2, h66⟩]
          · show some (Value.int _) = some (Value.int (nI (i + 1)))
            rw [← nI_1]
end CLF
