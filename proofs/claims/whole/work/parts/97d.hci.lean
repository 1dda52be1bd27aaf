/-! the house is made -/
def k00 : MS := (fun _ => 0, fun _ _ => 0)
theorem cm_cs {τ : Nat → Nat} {κ : MS} {Md : Mem} {b : Nat} {c : Cel} (h : cm τ κ Md b = some c) : (∃ q ∈ kArr, b = τ q.1 ∧ c = (q.2.1, q.2.2, kV τ κ q.1)) ∨ Md b = some c := by
  have H : ∀ (l : List (Nat × Nat × Nat)), cmA τ κ Md l b = some c → (∃ q ∈ l, b = τ q.1 ∧ c = (q.2.1, q.2.2, kV τ κ q.1)) ∨ Md b = some c := by
    intro l
    induction l with
    | nil => intro h; exact Or.inr h
    | cons q t ih =>
      intro h
      obtain ⟨k, c0, n0⟩ := q
      have h' : (if b = τ k then some (c0, n0, kV τ κ k) else cmA τ κ Md t b) = some c := h
      by_cases e : b = τ k
      · rw [if_pos e] at h'
        cases h'
        exact Or.inl ⟨_, List.mem_cons_self, e, rfl⟩
      · rw [if_neg e] at h'
        rcases ih h' with ⟨r, hr, h1, h2⟩ | h1
        · exact Or.inl ⟨r, List.mem_cons_of_mem _ hr, h1, h2⟩
        · exact Or.inr h1
  exact H kArr h
theorem Kn.at {M : Mem} {L : List (Nat × Cel)} (hK : Kn M L) (i : Nat) {x : Nat × Cel} (h : L[i]? = some x) : M x.1 = some x.2 := hK.1 x (List.mem_of_getElem? h)
/-- the empty lists -/
def Md0 (τ : Nat → Nat) (e : Nat) : Mem := fun a => if a = τ 1 ∨ a = τ 2 ∨ a = τ 3 ∨ a = τ 4 ∨ a = τ 5 ∨ a = τ 6 ∨ a = τ 7 then some (0, 3, fL 0 e (nI 0)) else none
theorem Md0_at {τ : Nat → Nat} {e k : Nat} (hk : isLi k) : Md0 τ e (τ k) = some (0, 3, fL 0 e (nI 0)) := by
  have h9 : k = 1 ∨ k = 2 ∨ k = 3 ∨ k = 4 ∨ k = 5 ∨ k = 6 ∨ k = 7 := by have := hk.1; have := hk.2; omega
  unfold Md0
  refine if_pos ?_
  rcases h9 with rfl | rfl | rfl | rfl | rfl | rfl | rfl <;> simp
theorem Md0_cs {τ : Nat → Nat} {e a : Nat} {c : Cel} (h : Md0 τ e a = some c) : ∃ k, isLi k ∧ a = τ k ∧ c = (0, 3, fL 0 e (nI 0)) := by
  unfold Md0 at h
  by_cases z : a = τ 1 ∨ a = τ 2 ∨ a = τ 3 ∨ a = τ 4 ∨ a = τ 5 ∨ a = τ 6 ∨ a = τ 7
  · rw [if_pos z] at h
    cases h
    rcases z with z | z | z | z | z | z | z
    · exact ⟨1, ⟨by decide, by decide⟩, z, rfl⟩
    · exact ⟨2, ⟨by decide, by decide⟩, z, rfl⟩
    · exact ⟨3, ⟨by decide, by decide⟩, z, rfl⟩
    · exact ⟨4, ⟨by decide, by decide⟩, z, rfl⟩
    · exact ⟨5, ⟨by decide, by decide⟩, z, rfl⟩
    · exact ⟨6, ⟨by decide, by decide⟩, z, rfl⟩
    · exact ⟨7, ⟨by decide, by decide⟩, z, rfl⟩
  · rw [if_neg z] at h; cases h
theorem cn_00 {k : Nat} (h : k ≠ 26) : cn s00 k = 0 := by
  show (s00.1 k).toNatClampNeg = 0
  have : s00.1 k = 0 := by
    show (bif Nat.beq k 26 then nI 18 else 0) = 0
    rw [beq_f h]; rfl
  rw [this]; rfl
theorem Dyn_00 {G : Gam} {τ : Nat → Nat} {e : Nat} (hi : adOK τ) (hE : OldE G e) (hge : ∀ k, isLi k → G.2.1.heap.size ≤ τ k) : Dyn G τ (fun _ _ => 0) (fun _ => e) s00 (Md0 τ e) := by
  have hcK : ∀ k, isLi k → cn s00 (cK k) = 0 := fun k hk => cn_00 (by
    have h9 : k = 1 ∨ k = 2 ∨ k = 3 ∨ k = 4 ∨ k = 5 ∨ k = 6 ∨ k = 7 := by have := hk.1; have := hk.2; omega
    rcases h9 with rfl | rfl | rfl | rfl | rfl | rfl | rfl <;> decide)
  have hnone : Md0 τ e e = none := by
    cases z : Md0 τ e e with
    | none => rfl
    | some c =>
      obtain ⟨k, hk, e1, -⟩ := Md0_cs z
      have := hge k hk
      have := hE.lt
      omega
  refine ⟨fun q hq => ?_, fun k hk => ?_, fun k i hk hij => ?_, fun j k hj hk hne hns => ?_, fun r hr => ?_, fun l hl => ?_⟩
  · cases z : Md0 τ e (τ q.1) with
    | none => rfl
    | some c =>
      obtain ⟨k, hk, e1, -⟩ := Md0_cs z
      have hlt := kArr_lt q hq
      have := hi q.1 k hlt (by have := hk.2; omega) e1
      have hall : ∀ q ∈ kArr, ¬ (1 ≤ q.1 ∧ q.1 ≤ 7) := by decide
      exact absurd (by rw [this]; exact hk) (hall q hq)
  · refine ⟨0, 0, fun _ => .null, ?_, Or.inl ⟨hcK k hk, hE, hnone⟩⟩
    rw [hcK k hk]; exact Md0_at hk
  · rw [hcK k hk] at hij; omega
  · exact absurd hnone hns
  · rw [cn_00 (by decide)] at hr; omega
  · rw [cn_00 (by decide)] at hl; omega
section HCI
variable {G : Gam} {d : Nat} {Q : Option Value → Mem → Prop}
set_option maxHeartbeats 2000000 in
theorem c_X11_init {M0 : Mem} {m e : Nat} (hm : M0 m = some (12, 17, fun j => defaultValue (vwTy 12 j))) (hE : OldE G e) (hz : ZCom G) (hl : Lit G RX11 63 pLetters) (hq : ∀ τ Md, adOK τ → τ 0 = m → Dyn G τ (fun _ _ => 0) (fun _ => e) s00 Md → Q none (cm τ k00 Md)) : CT G (d + 4) (41, 2258) MX11_init [.ref m] M0 Q := by
  obtain ⟨tx, sa, hlR, hlS⟩ := hl
  obtain ⟨va, hlO, -⟩ := id hlS
  refine CT.of rfl (Nat.le_of_ble_eq_true rfl) ?_
  have hK : Kn M0 [(m, (12, 17, fV (fun j => defaultValue (vwTy 12 j)) []))] := ⟨fun x hx => by rw [List.mem_singleton.mp hx]; exact hm, by simp⟩
  refine x_aload_n dX11_init_0 rfl rfl ?_
  refine x_objInit dX11_init_1 tb37 (Nat.le_of_ble_eq_true rfl) ?_
  refine x_aload_n dX11_init_4 rfl rfl ?_
  refine x_new (q := (_, _, _)) dX11_init_5 (show vwCl[0]? = some _ from rfl) tb40 (by decide) (fun h1 hn1 => ?_)
  refine x_room (k1 := (40, 2255)) (by decide) (by decide) ?_
  refine x_dup dX11_init_8 rfl ?_
  refine x_cI0 dX11_init_9 li_X11_9 rfl rfl (c_lst_init (e := e) mset_eq hE ?_)
  rw [mset_mset]
  have hm1 := (hK.new (c := (0, 3, fL 0 e (nI 0))) hn1).swap
  refine x_putF dX11_init_12 lp_X11_10 rfl (hm1.1 _ List.mem_cons_self) rfl rfl ?_
  rw [updV_fV]
  refine x_abs hm1.put (fun M1 hK1 => ?_)
  clear hm1 hK
  refine x_aload_n dX11_init_15 rfl rfl ?_
  refine x_new (q := (_, _, _)) dX11_init_16 (show vwCl[0]? = some _ from rfl) tb40 (by decide) (fun h2 hn2 => ?_)
  refine x_room (k1 := (39, 2252)) (by decide) (by decide) ?_
  refine x_dup dX11_init_19 rfl ?_
  refine x_cI0 dX11_init_20 li_X11_9 rfl rfl (c_lst_init (e := e) mset_eq hE ?_)
  rw [mset_mset]
  have hm2 := (hK1.new (c := (0, 3, fL 0 e (nI 0))) hn2).swap
  refine x_putF dX11_init_23 lp_X11_16 rfl (hm2.1 _ List.mem_cons_self) rfl rfl ?_
  rw [updV_fV]
  refine x_abs hm2.put (fun M2 hK2 => ?_)
  clear hm2 hK1
  refine x_aload_n dX11_init_26 rfl rfl ?_
  refine x_new (q := (_, _, _)) dX11_init_27 (show vwCl[0]? = some _ from rfl) tb40 (by decide) (fun h3 hn3 => ?_)
  refine x_room (k1 := (38, 2249)) (by decide) (by decide) ?_
  refine x_dup dX11_init_30 rfl ?_
  refine x_cI0 dX11_init_31 li_X11_9 rfl rfl (c_lst_init (e := e) mset_eq hE ?_)
  rw [mset_mset]
  have hm3 := (hK2.new (c := (0, 3, fL 0 e (nI 0))) hn3).swap
  refine x_putF dX11_init_34 lp_X11_19 rfl (hm3.1 _ List.mem_cons_self) rfl rfl ?_
  rw [updV_fV]
  refine x_abs hm3.put (fun M3 hK3 => ?_)
  clear hm3 hK2
  refine x_aload_n dX11_init_37 rfl rfl ?_
  refine x_new (q := (_, _, _)) dX11_init_38 (show vwCl[0]? = some _ from rfl) tb40 (by decide) (fun h4 hn4 => ?_)
  refine x_room (k1 := (37, 2246)) (by decide) (by decide) ?_
  refine x_dup dX11_init_41 rfl ?_
  refine x_cI0 dX11_init_42 li_X11_9 rfl rfl (c_lst_init (e := e) mset_eq hE ?_)
  rw [mset_mset]
  have hm4 := (hK3.new (c := (0, 3, fL 0 e (nI 0))) hn4).swap
  refine x_putF dX11_init_45 lp_X11_22 rfl (hm4.1 _ List.mem_cons_self) rfl rfl ?_
  rw [updV_fV]
  refine x_abs hm4.put (fun M4 hK4 => ?_)
  clear hm4 hK3
  refine x_aload_n dX11_init_48 rfl rfl ?_
  refine x_new (q := (_, _, _)) dX11_init_49 (show vwCl[0]? = some _ from rfl) tb40 (by decide) (fun h5 hn5 => ?_)
  refine x_room (k1 := (36, 2243)) (by decide) (by decide) ?_
  refine x_dup dX11_init_52 rfl ?_
  refine x_cI0 dX11_init_53 li_X11_9 rfl rfl (c_lst_init (e := e) mset_eq hE ?_)
  rw [mset_mset]
  have hm5 := (hK4.new (c := (0, 3, fL 0 e (nI 0))) hn5).swap
  refine x_putF dX11_init_56 lp_X11_25 rfl (hm5.1 _ List.mem_cons_self) rfl rfl ?_
  rw [updV_fV]
  refine x_abs hm5.put (fun M5 hK5 => ?_)
  clear hm5 hK4
  refine x_aload_n dX11_init_59 rfl rfl ?_
  refine x_new (q := (_, _, _)) dX11_init_60 (show vwCl[0]? = some _ from rfl) tb40 (by decide) (fun h6 hn6 => ?_)
  refine x_room (k1 := (35, 2240)) (by decide) (by decide) ?_
  refine x_dup dX11_init_63 rfl ?_
  refine x_cI0 dX11_init_64 li_X11_9 rfl rfl (c_lst_init (e := e) mset_eq hE ?_)
  rw [mset_mset]
  have hm6 := (hK5.new (c := (0, 3, fL 0 e (nI 0))) hn6).swap
  refine x_putF dX11_init_67 lp_X11_28 rfl (hm6.1 _ List.mem_cons_self) rfl rfl ?_
  rw [updV_fV]
  refine x_abs hm6.put (fun M6 hK6 => ?_)
  clear hm6 hK5
  refine x_aload_n dX11_init_70 rfl rfl ?_
  refine x_new (q := (_, _, _)) dX11_init_71 (show vwCl[0]? = some _ from rfl) tb40 (by decide) (fun h7 hn7 => ?_)
  refine x_room (k1 := (34, 2237)) (by decide) (by decide) ?_
  refine x_dup dX11_init_74 rfl ?_
  refine x_cI0 dX11_init_75 li_X11_9 rfl rfl (c_lst_init (e := e) mset_eq hE ?_)
  rw [mset_mset]
  have hm7 := (hK6.new (c := (0, 3, fL 0 e (nI 0))) hn7).swap
  refine x_putF dX11_init_78 lp_X11_31 rfl (hm7.1 _ List.mem_cons_self) rfl rfl ?_
  rw [updV_fV]
  refine x_abs hm7.put (fun M7 hK7 => ?_)
  clear hm7 hK6
  refine x_aload_n dX11_init_81 rfl rfl ?_
  refine x_new (q := (_, _, _)) dX11_init_82 (show vwCl[10]? = some _ from rfl) tb66 (by decide) (fun h8 hn8 => ?_)
  refine x_room (k1 := (33, 2232)) (by decide) (by decide) ?_
  refine x_dup dX11_init_85 rfl ?_
  refine x_rIN0 (mc := 2) (ms := 320) dX11_init_86 li_X11_36 rfl rfl ⟨by decide, by decide⟩ (c_X9_init mset_eq (fun N8 h17 h18 hI8 => ?_))
  refine x_room (k1 := (31, 1912)) (by decide) (by decide) ?_
  have hm8 := Kn.bring (A := _ :: aC _) ((hK7.new hn8).ofOI hI8)
  refine x_putF dX11_init_89 lp_X11_37 rfl (hm8.1 _ List.mem_cons_self) rfl rfl ?_
  rw [updV_fV]
  refine x_abs hm8.put (fun M8 hK8 => ?_)
  clear hm8 hK7
  refine x_aload_n dX11_init_92 rfl rfl ?_
  refine x_new (q := (_, _, _)) dX11_init_93 (show vwCl[9]? = some _ from rfl) tb90 (by decide) (fun h9 hn9 => ?_)
  refine x_room (k1 := (30, 1903)) (by decide) (by decide) ?_
  refine x_dup dX11_init_96 rfl ?_
  refine x_rIN0 (mc := 6) (ms := 40) dX11_init_97 li_X11_43 rfl rfl ⟨by decide, by decide⟩ (c_X8_init mset_eq (fun N9 h20 h21 h22 h23 h24 h25 hI9 => ?_))
  refine x_room (k1 := (24, 1863)) (by decide) (by decide) ?_
  have hm9 := Kn.bring (A := _ :: aC _) ((hK8.new hn9).ofOI hI9)
  refine x_putF dX11_init_100 lp_X11_44 rfl (hm9.1 _ List.mem_cons_self) rfl rfl ?_
  rw [updV_fV]
  refine x_abs hm9.put (fun M9 hK9 => ?_)
  clear hm9 hK8
  refine x_aload_n dX11_init_103 rfl rfl ?_
  refine x_new (q := (_, _, _)) dX11_init_104 (show vwCl[11]? = some _ from rfl) tb124 (by decide) (fun h10 hn10 => ?_)
  refine x_room (k1 := (23, 1860)) (by decide) (by decide) ?_
  refine x_dup dX11_init_107 rfl ?_
  refine x_rIN0 (mc := 2) (ms := 400) dX11_init_108 li_X11_50 rfl rfl ⟨by decide, by decide⟩ (c_X10_init mset_eq (fun N10 h26 h27 hI10 => ?_))
  refine x_room (k1 := (21, 1460)) (by decide) (by decide) ?_
  have hm10 := Kn.bring (A := _ :: aC _) ((hK9.new hn10).ofOI hI10)
  refine x_putF dX11_init_111 lp_X11_51 rfl (hm10.1 _ List.mem_cons_self) rfl rfl ?_
  rw [updV_fV]
  refine x_abs hm10.put (fun M10 hK10 => ?_)
  clear hm10 hK9
  refine x_aload_n dX11_init_114 rfl rfl ?_
  refine x_bipush (v := 8) dX11_init_115 (by decide) ?_
  refine x_iconst (v := 4) dX11_init_117 (by decide) ?_
  refine x_mna (n := 8) (k0 := 4) dX11_init_118 tb140 (by decide) (by decide) rfl rfl (by decide) (by decide) ⟨by decide, by decide⟩ (fun h11 hn11 => ?_)
  refine x_room (k1 := (12, 1420)) (by decide) (by decide) ?_
  have hm11 := Kn.bring (A := _ :: rC h11 8 4) (hK10.rows hn11)
  refine x_putF dX11_init_122 lp_X11_57 rfl (hm11.1 _ List.mem_cons_self) rfl rfl ?_
  rw [updV_fV]
  refine x_abs hm11.put (fun M11 hK11 => ?_)
  clear hm11 hK10
  refine x_aload_n dX11_init_125 rfl rfl ?_
  refine x_bipush (v := 6) dX11_init_126 (by decide) ?_
  refine x_sipush (v := 200) dX11_init_128 (by decide) ?_
  refine x_mna (n := 6) (k0 := 200) dX11_init_131 tb140 (by decide) (by decide) rfl rfl (by decide) (by decide) ⟨by decide, by decide⟩ (fun h12 hn12 => ?_)
  refine x_room (k1 := (5, 214)) (by decide) (by decide) ?_
  have hm12 := Kn.bring (A := _ :: rC h12 6 200) (hK11.rows hn12)
  refine x_putF dX11_init_135 lp_X11_60 rfl (hm12.1 _ List.mem_cons_self) rfl rfl ?_
  rw [updV_fV]
  refine x_abs hm12.put (fun M12 hK12 => ?_)
  clear hm12 hK11
  refine x_aload_n dX11_init_138 rfl rfl ?_
  refine x_ldcS dX11_init_139 hlR ?_
  refine x_oV0 dX11_init_141 lv_X11_65 hlO rfl rfl (c_J0_length hz hlS ?_)
  refine x_newa (ci := 100) (N := 8) dX11_init_144 rfl (by decide) (by decide) tb89 (nI_pos (n := 8) (by decide)) (nI_clamp (n := 8) (by decide)) (by decide) ⟨by decide, by decide⟩ (fun h13 hn13 => ?_)
  refine x_room (k1 := (4, 206)) (by decide) (by decide) ?_
  have hm13 := (hK12.new (c := (100, 8, fun _ => defaultValue (tyA 100))) hn13).swap
  refine x_putF dX11_init_146 lp_X11_71 rfl (hm13.1 _ List.mem_cons_self) rfl rfl ?_
  rw [updV_fV]
  refine x_abs hm13.put (fun M13 hK13 => ?_)
  clear hm13 hK12
  refine x_aload_n dX11_init_149 rfl rfl ?_
  refine x_new (q := (_, _, _)) dX11_init_150 (show vwCl[4]? = some _ from rfl) tb153 (by decide) (fun h14 hn14 => ?_)
  refine x_room (k1 := (3, 204)) (by decide) (by decide) ?_
  refine x_dup dX11_init_153 rfl ?_
  refine x_rIN0 (mc := 1) (ms := 160) dX11_init_154 li_X11_77 rfl rfl ⟨by decide, by decide⟩ (c_X3_init mset_eq (fun N14 h19 hI14 => ?_))
  refine x_room (k1 := (2, 44)) (by decide) (by decide) ?_
  have hm14 := Kn.bring (A := _ :: aC _) ((hK13.new hn14).ofOI hI14)
  refine x_putF dX11_init_157 lp_X11_78 rfl (hm14.1 _ List.mem_cons_self) rfl rfl ?_
  rw [updV_fV]
  refine x_abs hm14.put (fun M14 hK14 => ?_)
  clear hm14 hK13
  refine x_aload_n dX11_init_160 rfl rfl ?_
  refine x_bipush (v := 20) dX11_init_161 (by decide) ?_
  refine x_newa (ci := 100) (N := 20) dX11_init_163 rfl (by decide) (by decide) tb89 (by decide) rfl (by decide) ⟨by decide, by decide⟩ (fun h15 hn15 => ?_)
  refine x_room (k1 := (1, 24)) (by decide) (by decide) ?_
  have hm15 := (hK14.new (c := (100, 20, fun _ => defaultValue (tyA 100))) hn15).swap
  refine x_putF dX11_init_165 lp_X11_82 rfl (hm15.1 _ List.mem_cons_self) rfl rfl ?_
  rw [updV_fV]
  refine x_abs hm15.put (fun M15 hK15 => ?_)
  clear hm15 hK14
  refine x_aload_n dX11_init_168 rfl rfl ?_
  refine x_bipush (v := 24) dX11_init_169 (by decide) ?_
  refine x_newa (ci := 100) (N := 24) dX11_init_171 rfl (by decide) (by decide) tb89 (by decide) rfl (by decide) ⟨by decide, by decide⟩ (fun h16 hn16 => ?_)
  refine x_room (k1 := (0, 0)) (by decide) (by decide) ?_
  have hm16 := (hK15.new (c := (100, 24, fun _ => defaultValue (tyA 100))) hn16).swap
  refine x_putF dX11_init_173 lp_X11_85 rfl (hm16.1 _ List.mem_cons_self) rfl rfl ?_
  rw [updV_fV]
  refine x_abs hm16.put (fun M16 hK16 => ?_)
  clear hm16 hK15
  refine x_aload_n dX11_init_176 rfl rfl ?_
  refine x_iconst (v := 0) dX11_init_177 (by decide) ?_
  have hm17 := hK16
  refine x_putf dX11_init_178 lp_X11_88 (hm17.1 _ List.mem_cons_self) rfl rfl ?_
  rw [updV_fV]
  refine x_abs hm17.put (fun M17 hK17 => ?_)
  clear hm17 hK16
  obtain ⟨τ, hi, ht⟩ := padA [(0, m), (16, h16), (15, h15), (14, h14), (19, h19), (13, h13), (12, h12), (40, h12 + 1 + 0), (41, h12 + 1 + 1), (42, h12 + 1 + 2), (43, h12 + 1 + 3), (44, h12 + 1 + 4), (45, h12 + 1 + 5), (11, h11), (30, h11 + 1 + 0), (31, h11 + 1 + 1), (32, h11 + 1 + 2), (33, h11 + 1 + 3), (34, h11 + 1 + 4), (35, h11 + 1 + 5), (36, h11 + 1 + 6), (37, h11 + 1 + 7), (10, h10), (27, h27), (26, h26), (9, h9), (25, h25), (24, h24), (23, h23), (22, h22), (21, h21), (20, h20), (8, h8), (18, h18), (17, h17), (7, h7), (6, h6), (5, h5), (4, h4), (3, h3), (2, h2), (1, h1)] (show ([0, 16, 15, 14, 19, 13, 12, 40, 41, 42, 43, 44, 45, 11, 30, 31, 32, 33, 34, 35, 36, 37, 10, 27, 26, 9, 25, 24, 23, 22, 21, 20, 8, 18, 17, 7, 6, 5, 4, 3, 2, 1] : List Nat).Nodup from by decide) hK17.2
  have t0 : τ 0 = m := ht _ (List.mem_of_getElem? (i := 0) rfl)
  have t16 : τ 16 = h16 := ht _ (List.mem_of_getElem? (i := 1) rfl)
  have t15 : τ 15 = h15 := ht _ (List.mem_of_getElem? (i := 2) rfl)
  have t14 : τ 14 = h14 := ht _ (List.mem_of_getElem? (i := 3) rfl)
  have t19 : τ 19 = h19 := ht _ (List.mem_of_getElem? (i := 4) rfl)
  have t13 : τ 13 = h13 := ht _ (List.mem_of_getElem? (i := 5) rfl)
  have t12 : τ 12 = h12 := ht _ (List.mem_of_getElem? (i := 6) rfl)
  have t40 : τ 40 = h12 + 1 + 0 := ht _ (List.mem_of_getElem? (i := 7) rfl)
  have t41 : τ 41 = h12 + 1 + 1 := ht _ (List.mem_of_getElem? (i := 8) rfl)
  have t42 : τ 42 = h12 + 1 + 2 := ht _ (List.mem_of_getElem? (i := 9) rfl)
  have t43 : τ 43 = h12 + 1 + 3 := ht _ (List.mem_of_getElem? (i := 10) rfl)
  have t44 : τ 44 = h12 + 1 + 4 := ht _ (List.mem_of_getElem? (i := 11) rfl)
  have t45 : τ 45 = h12 + 1 + 5 := ht _ (List.mem_of_getElem? (i := 12) rfl)
  have t11 : τ 11 = h11 := ht _ (List.mem_of_getElem? (i := 13) rfl)
  have t30 : τ 30 = h11 + 1 + 0 := ht _ (List.mem_of_getElem? (i := 14) rfl)
  have t31 : τ 31 = h11 + 1 + 1 := ht _ (List.mem_of_getElem? (i := 15) rfl)
  have t32 : τ 32 = h11 + 1 + 2 := ht _ (List.mem_of_getElem? (i := 16) rfl)
  have t33 : τ 33 = h11 + 1 + 3 := ht _ (List.mem_of_getElem? (i := 17) rfl)
  have t34 : τ 34 = h11 + 1 + 4 := ht _ (List.mem_of_getElem? (i := 18) rfl)
  have t35 : τ 35 = h11 + 1 + 5 := ht _ (List.mem_of_getElem? (i := 19) rfl)
  have t36 : τ 36 = h11 + 1 + 6 := ht _ (List.mem_of_getElem? (i := 20) rfl)
  have t37 : τ 37 = h11 + 1 + 7 := ht _ (List.mem_of_getElem? (i := 21) rfl)
  have t10 : τ 10 = h10 := ht _ (List.mem_of_getElem? (i := 22) rfl)
  have t27 : τ 27 = h27 := ht _ (List.mem_of_getElem? (i := 23) rfl)
  have t26 : τ 26 = h26 := ht _ (List.mem_of_getElem? (i := 24) rfl)
  have t9 : τ 9 = h9 := ht _ (List.mem_of_getElem? (i := 25) rfl)
  have t25 : τ 25 = h25 := ht _ (List.mem_of_getElem? (i := 26) rfl)
  have t24 : τ 24 = h24 := ht _ (List.mem_of_getElem? (i := 27) rfl)
  have t23 : τ 23 = h23 := ht _ (List.mem_of_getElem? (i := 28) rfl)
  have t22 : τ 22 = h22 := ht _ (List.mem_of_getElem? (i := 29) rfl)
  have t21 : τ 21 = h21 := ht _ (List.mem_of_getElem? (i := 30) rfl)
  have t20 : τ 20 = h20 := ht _ (List.mem_of_getElem? (i := 31) rfl)
  have t8 : τ 8 = h8 := ht _ (List.mem_of_getElem? (i := 32) rfl)
  have t18 : τ 18 = h18 := ht _ (List.mem_of_getElem? (i := 33) rfl)
  have t17 : τ 17 = h17 := ht _ (List.mem_of_getElem? (i := 34) rfl)
  have t7 : τ 7 = h7 := ht _ (List.mem_of_getElem? (i := 35) rfl)
  have t6 : τ 6 = h6 := ht _ (List.mem_of_getElem? (i := 36) rfl)
  have t5 : τ 5 = h5 := ht _ (List.mem_of_getElem? (i := 37) rfl)
  have t4 : τ 4 = h4 := ht _ (List.mem_of_getElem? (i := 38) rfl)
  have t3 : τ 3 = h3 := ht _ (List.mem_of_getElem? (i := 39) rfl)
  have t2 : τ 2 = h2 := ht _ (List.mem_of_getElem? (i := 40) rfl)
  have t1 : τ 1 = h1 := ht _ (List.mem_of_getElem? (i := 41) rfl)
  have H : ∀ q ∈ kArr, ∃ f, M17 (τ q.1) = some (q.2.1, q.2.2, f) ∧ ∀ j, j < q.2.2 → f j = kV τ k00 q.1 j := by
    intro q hq
    rcases List.mem_cons.mp hq with rfl | hq
    · refine ⟨_, by rw [t0]; exact hK17.at 0 rfl, fun j hj => ?_⟩
      match j, hj with
      | 0, _ => rfl
      | 1, _ => exact congrArg Value.ref t1.symm
      | 2, _ => exact congrArg Value.ref t2.symm
      | 3, _ => exact congrArg Value.ref t3.symm
      | 4, _ => exact congrArg Value.ref t4.symm
      | 5, _ => exact congrArg Value.ref t5.symm
      | 6, _ => exact congrArg Value.ref t6.symm
      | 7, _ => exact congrArg Value.ref t7.symm
      | 8, _ => exact congrArg Value.ref t8.symm
      | 9, _ => exact congrArg Value.ref t9.symm
      | 10, _ => exact congrArg Value.ref t10.symm
      | 11, _ => exact congrArg Value.ref t11.symm
      | 12, _ => exact congrArg Value.ref t12.symm
      | 13, _ => exact congrArg Value.ref t13.symm
      | 14, _ => exact congrArg Value.ref t14.symm
      | 15, _ => exact congrArg Value.ref t15.symm
      | 16, _ => exact congrArg Value.ref t16.symm
      | j + 17, h9 => exact absurd h9 (by show ¬ (j + 17 < 17); omega)
    rcases List.mem_cons.mp hq with rfl | hq
    · refine ⟨_, by rw [t8]; exact hK17.at 32 rfl, fun j hj => ?_⟩
      match j, hj with
      | 0, _ => exact congrArg Value.ref t17.symm
      | 1, _ => rfl
      | 2, _ => rfl
      | 3, _ => exact congrArg Value.ref t18.symm
      | 4, _ => rfl
    rcases List.mem_cons.mp hq with rfl | hq
    · refine ⟨_, by rw [t9]; exact hK17.at 25 rfl, fun j hj => ?_⟩
      match j, hj with
      | 0, _ => exact congrArg Value.ref t20.symm
      | 1, _ => exact congrArg Value.ref t21.symm
      | 2, _ => rfl
      | 3, _ => exact congrArg Value.ref t22.symm
      | 4, _ => exact congrArg Value.ref t23.symm
      | 5, _ => rfl
      | 6, _ => exact congrArg Value.ref t24.symm
      | 7, _ => exact congrArg Value.ref t25.symm
      | 8, _ => rfl
    rcases List.mem_cons.mp hq with rfl | hq
    · refine ⟨_, by rw [t10]; exact hK17.at 22 rfl, fun j hj => ?_⟩
      match j, hj with
      | 0, _ => exact congrArg Value.ref t26.symm
      | 1, _ => exact congrArg Value.ref t27.symm
      | 2, _ => rfl
    rcases List.mem_cons.mp hq with rfl | hq
    · refine ⟨_, by rw [t11]; exact hK17.at 13 rfl, fun j hj => ?_⟩
      match j, hj with
      | 0, _ => exact congrArg Value.ref t30.symm
      | 1, _ => exact congrArg Value.ref t31.symm
      | 2, _ => exact congrArg Value.ref t32.symm
      | 3, _ => exact congrArg Value.ref t33.symm
      | 4, _ => exact congrArg Value.ref t34.symm
      | 5, _ => exact congrArg Value.ref t35.symm
      | 6, _ => exact congrArg Value.ref t36.symm
      | 7, _ => exact congrArg Value.ref t37.symm
    rcases List.mem_cons.mp hq with rfl | hq
    · refine ⟨_, by rw [t12]; exact hK17.at 6 rfl, fun j hj => ?_⟩
      match j, hj with
      | 0, _ => exact congrArg Value.ref t40.symm
      | 1, _ => exact congrArg Value.ref t41.symm
      | 2, _ => exact congrArg Value.ref t42.symm
      | 3, _ => exact congrArg Value.ref t43.symm
      | 4, _ => exact congrArg Value.ref t44.symm
      | 5, _ => exact congrArg Value.ref t45.symm
    rcases List.mem_cons.mp hq with rfl | hq
    · refine ⟨_, by rw [t13]; exact hK17.at 5 rfl, fun j hj => ?_⟩
      rfl
    rcases List.mem_cons.mp hq with rfl | hq
    · refine ⟨_, by rw [t14]; exact hK17.at 3 rfl, fun j hj => ?_⟩
      match j, hj with
      | 0, _ => exact congrArg Value.ref t19.symm
      | 1, _ => rfl
    rcases List.mem_cons.mp hq with rfl | hq
    · refine ⟨_, by rw [t15]; exact hK17.at 2 rfl, fun j hj => ?_⟩
      rfl
    rcases List.mem_cons.mp hq with rfl | hq
    · refine ⟨_, by rw [t16]; exact hK17.at 1 rfl, fun j hj => ?_⟩
      rfl
    rcases List.mem_cons.mp hq with rfl | hq
    · refine ⟨_, by rw [t17]; exact hK17.at 34 rfl, fun j hj => ?_⟩
      rfl
    rcases List.mem_cons.mp hq with rfl | hq
    · refine ⟨_, by rw [t18]; exact hK17.at 33 rfl, fun j hj => ?_⟩
      rfl
    rcases List.mem_cons.mp hq with rfl | hq
    · refine ⟨_, by rw [t19]; exact hK17.at 4 rfl, fun j hj => ?_⟩
      rfl
    rcases List.mem_cons.mp hq with rfl | hq
    · refine ⟨_, by rw [t20]; exact hK17.at 31 rfl, fun j hj => ?_⟩
      rfl
    rcases List.mem_cons.mp hq with rfl | hq
    · refine ⟨_, by rw [t21]; exact hK17.at 30 rfl, fun j hj => ?_⟩
      rfl
    rcases List.mem_cons.mp hq with rfl | hq
    · refine ⟨_, by rw [t22]; exact hK17.at 29 rfl, fun j hj => ?_⟩
      rfl
    rcases List.mem_cons.mp hq with rfl | hq
    · refine ⟨_, by rw [t23]; exact hK17.at 28 rfl, fun j hj => ?_⟩
      rfl
    rcases List.mem_cons.mp hq with rfl | hq
    · refine ⟨_, by rw [t24]; exact hK17.at 27 rfl, fun j hj => ?_⟩
      rfl
    rcases List.mem_cons.mp hq with rfl | hq
    · refine ⟨_, by rw [t25]; exact hK17.at 26 rfl, fun j hj => ?_⟩
      rfl
    rcases List.mem_cons.mp hq with rfl | hq
    · refine ⟨_, by rw [t26]; exact hK17.at 24 rfl, fun j hj => ?_⟩
      rfl
    rcases List.mem_cons.mp hq with rfl | hq
    · refine ⟨_, by rw [t27]; exact hK17.at 23 rfl, fun j hj => ?_⟩
      rfl
    rcases List.mem_cons.mp hq with rfl | hq
    · refine ⟨_, by rw [t30]; exact hK17.at 14 rfl, fun j hj => ?_⟩
      rfl
    rcases List.mem_cons.mp hq with rfl | hq
    · refine ⟨_, by rw [t31]; exact hK17.at 15 rfl, fun j hj => ?_⟩
      rfl
    rcases List.mem_cons.mp hq with rfl | hq
    · refine ⟨_, by rw [t32]; exact hK17.at 16 rfl, fun j hj => ?_⟩
      rfl
    rcases List.mem_cons.mp hq with rfl | hq
    · refine ⟨_, by rw [t33]; exact hK17.at 17 rfl, fun j hj => ?_⟩
      rfl
    rcases List.mem_cons.mp hq with rfl | hq
    · refine ⟨_, by rw [t34]; exact hK17.at 18 rfl, fun j hj => ?_⟩
      rfl
    rcases List.mem_cons.mp hq with rfl | hq
    · refine ⟨_, by rw [t35]; exact hK17.at 19 rfl, fun j hj => ?_⟩
      rfl
    rcases List.mem_cons.mp hq with rfl | hq
    · refine ⟨_, by rw [t36]; exact hK17.at 20 rfl, fun j hj => ?_⟩
      rfl
    rcases List.mem_cons.mp hq with rfl | hq
    · refine ⟨_, by rw [t37]; exact hK17.at 21 rfl, fun j hj => ?_⟩
      rfl
    rcases List.mem_cons.mp hq with rfl | hq
    · refine ⟨_, by rw [t40]; exact hK17.at 7 rfl, fun j hj => ?_⟩
      rfl
    rcases List.mem_cons.mp hq with rfl | hq
    · refine ⟨_, by rw [t41]; exact hK17.at 8 rfl, fun j hj => ?_⟩
      rfl
    rcases List.mem_cons.mp hq with rfl | hq
    · refine ⟨_, by rw [t42]; exact hK17.at 9 rfl, fun j hj => ?_⟩
      rfl
    rcases List.mem_cons.mp hq with rfl | hq
    · refine ⟨_, by rw [t43]; exact hK17.at 10 rfl, fun j hj => ?_⟩
      rfl
    rcases List.mem_cons.mp hq with rfl | hq
    · refine ⟨_, by rw [t44]; exact hK17.at 11 rfl, fun j hj => ?_⟩
      rfl
    rcases List.mem_cons.mp hq with rfl | hq
    · refine ⟨_, by rw [t45]; exact hK17.at 12 rfl, fun j hj => ?_⟩
      rfl
    cases hq
  refine x_rel (fun hge => ?_)
  have hgl : ∀ k, isLi k → M17 (τ k) = some (0, 3, fL 0 e (nI 0)) := by
    intro k hk
    have h9 : k = 1 ∨ k = 2 ∨ k = 3 ∨ k = 4 ∨ k = 5 ∨ k = 6 ∨ k = 7 := by have := hk.1; have := hk.2; omega
    rcases h9 with rfl | rfl | rfl | rfl | rfl | rfl | rfl
    · rw [t1]; exact hK17.at 41 rfl
    · rw [t2]; exact hK17.at 40 rfl
    · rw [t3]; exact hK17.at 39 rfl
    · rw [t4]; exact hK17.at 38 rfl
    · rw [t5]; exact hK17.at 37 rfl
    · rw [t6]; exact hK17.at 36 rfl
    · rw [t7]; exact hK17.at 35 rfl
  have hDy := Dyn_00 hi hE (fun k hk => hge _ _ (hgl k hk))
  refine x_mext (M' := cm τ k00 (Md0 τ e)) (fun b c' hb => ?_) (x_return dX11_init_181 rfl (hq τ (Md0 τ e) hi t0 hDy))
  rcases cm_cs hb with ⟨q, hqm, e1, e2⟩ | h1
  · obtain ⟨f, g1, g2⟩ := H q hqm
    subst e2
    exact ⟨f, by rw [e1]; exact g1, g2⟩
  · obtain ⟨k, hk, e1, e2⟩ := Md0_cs h1
    subst e2
    exact ⟨_, by rw [e1]; exact hgl k hk, fun _ _ => rfl⟩
end HCI
