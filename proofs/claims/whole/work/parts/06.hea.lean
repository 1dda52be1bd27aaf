/-! cells: fields, arrays, new ones -/
def mset (M : Mem) (a : Nat) (c : Cel) : Mem := fun b => if b = a then some c else M b
theorem mset_eq {M : Mem} {a : Nat} {c : Cel} : mset M a c a = some c := if_pos rfl
theorem mset_ne {M : Mem} {a b : Nat} {c : Cel} (h : b ≠ a) : mset M a c b = M b := if_neg h
theorem updV_eq {f : Nat → Value} {k : Nat} {v : Value} : updV f k v k = v := if_pos rfl
theorem updV_ne {f : Nat → Value} {k j : Nat} {v : Value} (h : j ≠ k) : updV f k v j = f j := if_neg h
def vwTy (ci : Nat) : Nat → FieldType := match ci with
  | 0 => tyJx4a65c
  | 1 => tyX0
  | 2 => tyX1
  | 3 => tyX2
  | 4 => tyX3
  | 5 => tyX4
  | 6 => tyX5
  | 7 => tyX6
  | 8 => tyX7
  | 9 => tyX8
  | 10 => tyX9
  | 11 => tyX10
  | 12 => tyX11
  | _ => tyX12
theorem vw_all {P : Nat → vw_C → Prop} (h0 : P 0 (RJx4a65c, TJx4a65c, 3)) (h1 : P 1 (RX0, TX0, 5)) (h2 : P 2 (RX1, TX1, 7)) (h3 : P 3 (RX2, TX2, 4)) (h4 : P 4 (RX3, TX3, 2)) (h5 : P 5 (RX4, TX4, 5)) (h6 : P 6 (RX5, TX5, 2)) (h7 : P 7 (RX6, TX6, 3)) (h8 : P 8 (RX7, TX7, 3)) (h9 : P 9 (RX8, TX8, 9)) (h10 : P 10 (RX9, TX9, 5)) (h11 : P 11 (RX10, TX10, 3)) (h12 : P 12 (RX11, TX11, 17)) (h13 : P 13 (RX12, TX12, 66)) {ci : Nat} {q : vw_C} (hq : vwCl[ci]? = some q) : P ci q := by
  match ci, hq with
  | 0, hq => cases hq; exact h0
  | 1, hq => cases hq; exact h1
  | 2, hq => cases hq; exact h2
  | 3, hq => cases hq; exact h3
  | 4, hq => cases hq; exact h4
  | 5, hq => cases hq; exact h5
  | 6, hq => cases hq; exact h6
  | 7, hq => cases hq; exact h7
  | 8, hq => cases hq; exact h8
  | 9, hq => cases hq; exact h9
  | 10, hq => cases hq; exact h10
  | 11, hq => cases hq; exact h11
  | 12, hq => cases hq; exact h12
  | 13, hq => cases hq; exact h13
  | ci + 14, hq => simp [vwCl] at hq
theorem vw_lt {ci : Nat} {q : vw_C} (hq : vwCl[ci]? = some q) : ci < 14 := (List.getElem?_eq_some_iff.mp hq).1
theorem vwTy_ok {ci : Nat} {q : vw_C} (hq : vwCl[ci]? = some q) : ∀ k, k < q.2.2 → parseFieldDescriptor (q.2.1 k).2.2.1 = some (vwTy ci k) :=
  vw_all (P := fun ci q => ∀ k, k < q.2.2 → parseFieldDescriptor (q.2.1 k).2.2.1 = some (vwTy ci k)) tyJx4a65c_ok tyX0_ok tyX1_ok tyX2_ok tyX3_ok tyX4_ok tyX5_ok tyX6_ok tyX7_ok tyX8_ok tyX9_ok tyX10_ok tyX11_ok tyX12_ok hq
theorem vwNm_ok {ci : Nat} {q : vw_C} (hq : vwCl[ci]? = some q) : ∀ a, a < q.2.2 → ∀ b, b < q.2.2 → a ≠ b → (q.2.1 a).2.1 ≠ (q.2.1 b).2.1 :=
  vw_all (P := fun _ q => ∀ a, a < q.2.2 → ∀ b, b < q.2.2 → a ≠ b → (q.2.1 a).2.1 ≠ (q.2.1 b).2.1) nmJx4a65c nmX0 nmX1 nmX2 nmX3 nmX4 nmX5 nmX6 nmX7 nmX8 nmX9 nmX10 nmX11 nmX12 hq
theorem tb_r {w : Cond} (h : w ∈ tables_1) : w ∈ lw_tbl := List.mem_append_right _ h
theorem cl_0 : ∀ w ∈ wsJx4a65c0, w ∈ lw_tbl := by decide +kernel
theorem cl_1 : ∀ w ∈ wsX00, w ∈ lw_tbl := by decide +kernel
theorem cl_2 : ∀ w ∈ wsX10, w ∈ lw_tbl := by decide +kernel
theorem cl_3 : ∀ w ∈ wsX20, w ∈ lw_tbl := by decide +kernel
theorem cl_4 : ∀ w ∈ wsX30, w ∈ lw_tbl := by decide +kernel
theorem cl_5 : ∀ w ∈ wsX40, w ∈ lw_tbl := by decide +kernel
theorem cl_6 : ∀ w ∈ wsX50, w ∈ lw_tbl := by decide +kernel
theorem cl_7 : ∀ w ∈ wsX60, w ∈ lw_tbl := by decide +kernel
theorem cl_8 : ∀ w ∈ wsX70, w ∈ lw_tbl := by decide +kernel
theorem cl_9 : ∀ w ∈ wsX80, w ∈ lw_tbl := by decide +kernel
theorem cl_10 : ∀ w ∈ wsX90, w ∈ lw_tbl := by decide +kernel
theorem cl_11 : ∀ w ∈ wsX100, w ∈ lw_tbl := by decide +kernel
theorem cl_12 : ∀ w ∈ wsX110, w ∈ lw_tbl := by decide +kernel
theorem cl_13 : ∀ w ∈ wsX120, w ∈ lw_tbl := by decide +kernel
theorem cl_in {ci : Nat} {q : vw_C} (hq : vwCl[ci]? = some q) : ∀ w ∈ u_ws q.1 q.2.1 q.2.2, w ∈ lw_tbl :=
  vw_all (P := fun _ q => ∀ w ∈ u_ws q.1 q.2.1 q.2.2, w ∈ lw_tbl) cl_0 cl_1 cl_2 cl_3 cl_4 cl_5 cl_6 cl_7 cl_8 cl_9 cl_10 cl_11 cl_12 cl_13 hq
theorem cl_ini {ci : Nat} {q : vw_C} (hq : vwCl[ci]? = some q) : Cond.instantiable q.1 q.2.2 ∈ lw_tbl ∧ Cond.initialized q.1 ∈ lw_tbl :=
  vw_all (P := fun _ q => Cond.instantiable q.1 q.2.2 ∈ lw_tbl ∧ Cond.initialized q.1 ∈ lw_tbl) (by decide +kernel) (by decide +kernel) (by decide +kernel) (by decide +kernel) (by decide +kernel) (by decide +kernel) (by decide +kernel) (by decide +kernel) (by decide +kernel) (by decide +kernel) (by decide +kernel) (by decide +kernel) (by decide +kernel) (by decide +kernel) hq
theorem cl_hts {G : Gam} {args : Array Value} {s : State} (hB : BaseOK G) (hW : G.2.1.WarmedH s.vm) {ci : Nat} {q : vw_C} (hq : vwCl[ci]? = some q) : ∀ w ∈ u_ws q.1 q.2.1 q.2.2, w.before args s = true := by
  intro w hw
  refine tb_good hB (cl_in hq w hw) ?_ hW
  unfold u_ws at hw
  obtain ⟨j, -, rfl⟩ := List.mem_map.mp hw
  unfold u_lay
  split <;> rfl
def LkF (own : String) (idx ci k : Nat) : Prop := ∃ q : vw_C, vwCl[ci]? = some q ∧ k < q.2.2 ∧ (Cond.fieldLink own idx q.1 (q.2.1 k).2.1 (q.2.1 k).2.2.1 ∈ lw_tbl ∨ ∃ host, Cond.fieldLinkNest own idx q.1 (q.2.1 k).2.1 (q.2.1 k).2.2.1 host ∈ lw_tbl) ∧ ((q.2.1 k).1 = q.1 ∨ Cond.sameField q.1 (q.2.1 k).1 (q.2.1 k).2.1 (q.2.1 k).2.2.1 ∈ lw_tbl)
def LkP (own : String) (idx ci k : Nat) : Prop := ∃ q : vw_C, vwCl[ci]? = some q ∧ k < q.2.2 ∧ Cond.fieldLink own idx q.1 (q.2.1 k).2.1 (q.2.1 k).2.2.1 ∈ lw_tbl ∧ ((q.2.1 k).1 = q.1 ∨ Cond.sameField q.1 (q.2.1 k).1 (q.2.1 k).2.1 (q.2.1 k).2.2.1 ∈ lw_tbl) ∧ (q.2.1 k).2.2.2 = false
def LkPF (own : String) (idx ci k : Nat) : Prop := ∃ q : vw_C, vwCl[ci]? = some q ∧ k < q.2.2 ∧ Cond.fieldLink own idx q.1 (q.2.1 k).2.1 (q.2.1 k).2.2.1 ∈ lw_tbl ∧ (q.2.1 k).1 = own ∧ q.1 = own ∧ (q.2.1 k).2.2.2 = true
theorem same_of {G : Gam} {args : Array Value} {s : State} {C O n dd : String} (hB : BaseOK G) (hW : G.2.1.WarmedH s.vm) (h : O = C ∨ Cond.sameField C O n dd ∈ lw_tbl) : ∀ x, s.fieldFound? O n dd = some x → s.fieldFound? C n dd = some x := by
  rcases h with h | h
  · subst h; exact fun _ z => z
  · exact fun x z => u_same (tb_good (args := args) hB h rfl hW) x z
theorem cAt_obj {D : va_G} {tA : Nat → ClassId} {a ci n : Nat} {f : Nat → Value} {H : Heap} {q : vw_C} (h : cAt D tA a (ci, n, f) H) (hq : vwCl[ci]? = some q) : q.2.2 = n ∧ t_OB a (D.1 ci) q.2.2 (D.2 ci) H f := by
  rcases h with ⟨-, q', h1, h2, h3⟩ | ⟨h1, -⟩
  · cases h1.symm.trans hq
    exact ⟨h2, h3⟩
  · exact absurd h1 (by have := vw_lt hq; show ¬ 100 ≤ ci; omega)
theorem cAt_arr {D : va_G} {tA : Nat → ClassId} {a ci n : Nat} {f : Nat → Value} {H : Heap} (h : cAt D tA a (ci, n, f) H) (hq : 100 ≤ ci) : H[a]? = some (arrV (tA ci) n f) := by
  rcases h with ⟨h1, -⟩ | ⟨-, h2⟩
  · exact absurd h1 (by show ¬ ci < 100; omega)
  · exact h2
theorem cAt_lt {D : va_G} {tA : Nat → ClassId} {a : Nat} {c : Cel} {H : Heap} (h : cAt D tA a c H) : a < H.size := by
  rcases h with ⟨-, q, -, -, cell, h, -⟩ | ⟨-, h⟩
  · exact (Array.getElem?_eq_some_iff.mp h).1
  · exact (Array.getElem?_eq_some_iff.mp h).1
theorem cAt_kept {D : va_G} {tA : Nat → ClassId} {a : Nat} {c : Cel} {H H1 : Heap} (h : cAt D tA a c H) (hq : H1[a]? = H[a]?) : cAt D tA a c H1 := by
  rcases h with ⟨h1, q, h2, h3, h4⟩ | ⟨h1, h2⟩
  · exact Or.inl ⟨h1, q, h2, h3, h4.kept hq⟩
  · exact Or.inr ⟨h1, hq.trans h2⟩
theorem arrK_w {G : Gam} (hB : BaseOK G) {s : State} (hW : G.2.1.WarmedH s.vm) {k : Nat} (h1 : 100 ≤ k) (h2 : k < 107) : ArrOfT s (G.2.2.2 k) (tyA k) := arrOfT_moved hW.alike (hB.2.2 k h1 h2).1
/-- the memory behind one cell's change -/
theorem XH_set {G : Gam} {k : Nat × Nat} {M : Mem} {R : Room} {s : State} {A : Nat → Prop} {H H1 : Heap} {locs : List Loc} {cells slots a j : Nat} {c0 c : Cel} (hH : XH G k M R s A H locs cells slots) (hM : M a = some c0) (hz : H1.size = H.size) (hq : ∀ q, q ≠ a → H1[q]? = H[q]?) (hc : cAt G.2.2.1 G.2.2.2 a c H1) : XH G k (mset M a c) R s A H1 (locs ++ [⟨a, j⟩]) cells slots := by
  refine ⟨fun b e he => ?_, fun b e he => ?_, hH.2.2.1.put hz hq (hH.2.1 a c0 hM), hH.2.2.2⟩
  · by_cases hb : b = a
    · subst hb
      rw [mset_eq] at he
      cases he
      exact ⟨(hH.1 b c0 hM).1, hc⟩
    · rw [mset_ne hb] at he
      exact ⟨(hH.1 b e he).1, cAt_kept (hH.1 b e he).2 (hq b hb)⟩
  · by_cases hb : b = a
    · subst hb; exact hH.2.1 b c0 hM
    · rw [mset_ne hb] at he; exact hH.2.1 b e he
/-- the memory behind a new cell -/
theorem XH_new {G : Gam} {k : Nat × Nat} {M : Mem} {R : Room} {s : State} {A : Nat → Prop} {H H1 : Heap} {locs : List Loc} {cells slots mc ms : Nat} {c : Cel} (hO : OldOK G s.heap) (hA : ∀ q, s.heap.size ≤ q → A q) (hH : XH G k M R s A H locs cells slots) (hz : H.size ≤ H1.size) (hq : ∀ q, q < H.size → H1[q]? = H[q]?) (hc : cAt G.2.2.1 G.2.2.2 H.size c H1) (hk : mc ≤ k.1 ∧ ms ≤ k.2) : XH G (k.1 - mc, k.2 - ms) (mset M H.size c) R s A H1 locs (cells + mc) (slots + ms) := by
  refine ⟨fun b e he => ?_, fun b e he => ?_, ⟨Nat.le_trans hH.2.2.1.1 hz, fun q h1 h2 => (hq q (Nat.lt_of_lt_of_le h1 hH.2.2.1.1)).trans (hH.2.2.1.2.1 q h1 h2), hH.2.2.1.2.2⟩, ?_, ?_⟩
  · by_cases hb : b = H.size
    · subst hb
      rw [mset_eq] at he
      cases he
      exact ⟨Nat.le_trans hO.1 hH.2.2.1.1, hc⟩
    · rw [mset_ne hb] at he
      exact ⟨(hH.1 b e he).1, cAt_kept (hH.1 b e he).2 (hq b (cAt_lt (hH.1 b e he).2))⟩
  · by_cases hb : b = H.size
    · subst hb; exact hA _ hH.2.2.1.1
    · rw [mset_ne hb] at he; exact hH.2.1 b e he
  · have := hH.2.2.2.1; show cells + mc + (k.1 - mc) ≤ _; have := hk.1; omega
  · have := hH.2.2.2.2; show slots + ms + (k.2 - ms) ≤ _; have := hk.2; omega
theorem fresh_of {G : Gam} {k : Nat × Nat} {M : Mem} {R : Room} {s : State} {A : Nat → Prop} {H : Heap} {locs : List Loc} {cells slots : Nat} (hH : XH G k M R s A H locs cells slots) : M H.size = none := by
  cases h : M H.size with
  | none => rfl
  | some c => exact absurd (cAt_lt (hH.1 _ c h).2) (Nat.lt_irrefl _)
section XF
variable {G : Gam} {d : Nat} {k : Nat × Nat} {Y : MR} {M : Mem} {lv : Lv} {st : List Value} {pc : Nat} {Q : Option Value → Mem → Prop}
theorem x_getf {idx ci kf n a : Nat} {f : Nat → Value} {v : Value} (hd : decode Y.2.1 pc = .ok (.getfield idx, 3)) (hlk : LkF Y.1.cls idx ci kf) (hM : M a = some (ci, n, f)) (hv : f kf = v) (kk : XJ G d k Y M lv (v :: st) (pc + 3) Q) : XJ G d k Y M lv (.ref a :: st) pc Q := by
  intro p e R s m args below meth c H locs cells slots A ls hC hH hl
  obtain ⟨q, hq, hk, hlink, hsm⟩ := hlk
  have hW := hC.2.2.2.2.2.2.2.2.1
  obtain ⟨-, cell, q1, q2, q3, q4⟩ := cAt_obj (hH.1 a _ hM).2 hq
  obtain ⟨hS, hfc, kC, hkC, hkind⟩ := (bs_K hC.1 hW).1 ci _ hq
  obtain ⟨cf, kf', fi, fd, hi, hsl⟩ := hS kf hk
  have hts := cl_hts (args := args) hC.1 hW hq
  have hst := (u_facts hfc hkC (u_lays hts (fun w h => h) hk) hi).1
  have hslot : cell.slots[fd.slot]? = some v := by rw [hsl, q4 kf hk, hv]
  have hkn : cell.vm ≠ .unknown := by rw [q3]; exact fun h => by cases h
  have hi' := same_of (args := args) hC.1 hW hsm _ hi
  have kk' := kk p e R s m args below meth c H locs cells slots A ls hC hH hl
  rcases hlink with hlink | ⟨host, hlink⟩
  · exact W.getf hC.2.1 hC.2.2.1 hC.2.2.2.2.2.1 (tb_good hC.1 hlink rfl hW) hi' hst q1 hkn hslot rfl rfl hd kk'
  · exact va_Wgetf hC.2.1 hC.2.2.1 hC.2.2.2.2.2.1 (tb_nestF hC.1 hlink hW) hi' hst q1 hkn hslot rfl rfl hd kk'
theorem vw_apart {s : State} {args : Array Value} {D : va_G} {ci : Nat} {q : vw_C} (hq : vwCl[ci]? = some q) (hts : ∀ w ∈ u_ws q.1 q.2.1 q.2.2, w.before args s = true) (hK : va_K D vwCl [] s) : ∀ x y, x < q.2.2 → y < q.2.2 → x ≠ y → D.2 ci x ≠ D.2 ci y :=
  va_apart (own := "") hts (fun w h => h) (vwTy ci) (vwTy_ok hq) (vwNm_ok hq) hK hq
theorem x_putf {idx ci kf n a : Nat} {f : Nat → Value} {v : Value} (hd : decode Y.2.1 pc = .ok (.putfield idx, 3)) (hlk : LkP Y.1.cls idx ci kf) (hM : M a = some (ci, n, f)) (hn : narrow (vwTy ci kf) v = v) (hfit : fits (vwTy ci kf) v = true) (kk : XJ G d k Y (mset M a (ci, n, updV f kf v)) lv st (pc + 3) Q) : XJ G d k Y M lv (v :: .ref a :: st) pc Q := by
  intro p e R s m args below meth c H locs cells slots A ls hC hH hl
  obtain ⟨q, hq, hk, hlink, hsm, hfin⟩ := hlk
  have hW := hC.2.2.2.2.2.2.2.2.1
  obtain ⟨hN, cell, q1, q2, q3, q4⟩ := cAt_obj (hH.1 a _ hM).2 hq
  have hKK := bs_K hC.1 hW
  obtain ⟨hS, hfc, kC, hkC, hkind⟩ := hKK.1 ci _ hq
  obtain ⟨cf, kf', fi, fd, hi, hsl⟩ := hS kf hk
  have hts := cl_hts (args := args) hC.1 hW hq
  have hap := vw_apart hq hts hKK
  have hst := (u_facts hfc hkC (u_lays hts (fun w h => h) hk) hi).1
  have hlay := hts _ (u_in_lay hk)
  unfold u_lay at hlay
  rw [if_neg (by rw [hfin]; decide)] at hlay
  have h6 := u_store hfc hkC hkind hlay hi (vwTy_ok hq kf hk) hn hfit
  refine W.putK hC.2.1 hC.2.2.1 (f := fd) ⟨hC.2.2.2.2.2.1, tb_good hC.1 hlink rfl hW, ⟨_, _, _, same_of (args := args) hC.1 hW hsm _ hi⟩, hst⟩ (by rw [q2]; exact h6) q1 q3 (by rw [hsl]; exact k2_hasslot (q4 kf hk)) rfl rfl hd fun H' e1 e2 e3 => ?_
  rw [hsl] at e1 ⊢
  refine kk p e R s m args below meth c H' _ cells slots A ls hC (XH_set hH hM e2 e3 ?_) hl
  exact Or.inl ⟨Nat.lt_of_lt_of_le (vw_lt hq) (by decide), q, hq, hN, _, e1, q2, q3, t_set q4 hap hk v⟩
theorem x_putF {idx ci kf n a : Nat} {f : Nat → Value} {v : Value} (hd : decode Y.2.1 pc = .ok (.putfield idx, 3)) (hlk : LkPF Y.1.cls idx ci kf) (hini : Y.1.name = "<init>") (hM : M a = some (ci, n, f)) (hn : narrow (vwTy ci kf) v = v) (hfit : fits (vwTy ci kf) v = true) (kk : XJ G d k Y (mset M a (ci, n, updV f kf v)) lv st (pc + 3) Q) : XJ G d k Y M lv (v :: .ref a :: st) pc Q := by
  intro p e R s m args below meth c H locs cells slots A ls hC hH hl
  obtain ⟨q, hq, hk, hlink, hdecl, hown2, hfin⟩ := hlk
  have hW := hC.2.2.2.2.2.2.2.2.1
  obtain ⟨hN, cell, q1, q2, q3, q4⟩ := cAt_obj (hH.1 a _ hM).2 hq
  have hKK := bs_K hC.1 hW
  obtain ⟨hS, hfc, kC, hkC, hkind⟩ := hKK.1 ci _ hq
  obtain ⟨cf, kf', fi, fd, hi, hsl⟩ := hS kf hk
  have hts := cl_hts (args := args) hC.1 hW hq
  have hap := vw_apart hq hts hKK
  have hst := (u_facts hfc hkC (u_lays hts (fun w h => h) hk) hi).1
  have h6 := u_fits hfc hkC hkind (u_lays hts (fun w h => h) hk) hi (vwTy_ok hq kf hk) hn hfit
  have hi' : s.fieldFound? q.1 (q.2.1 kf).2.1 (q.2.1 kf).2.2.1 = some (cf, kf', fi, fd) := by rw [hown2, ← hdecl]; exact hi
  have hlay := hts _ (u_in_lay hk)
  unfold u_lay at hlay
  rw [if_pos hfin] at hlay
  have hcf : m.cls = cf := by
    obtain ⟨_, _, c', _, _, _, -, -, hf', -, -, -, hown3, -⟩ := Cond.laysFinal_spec hlay
    have e1 : c' = cf := by have := hi.symm.trans hf'; simp at this; exact this.1.symm
    rw [hdecl] at hown3
    rw [← e1]; exact Option.some.inj (hC.2.2.2.2.2.1.symm.trans hown3)
  refine W.putFinK hC.2.1 hC.2.2.1 hC.2.2.2.2.2.1 (tb_good hC.1 hlink rfl hW) hi' hst hcf (hC.2.2.2.2.2.2.2.1.trans hini) (by rw [q2]; exact h6) q1 q3 (by rw [hsl]; exact k2_hasslot (q4 kf hk)) rfl rfl hd fun H' e1 e2 e3 => ?_
  rw [hsl] at e1 ⊢
  refine kk p e R s m args below meth c H' _ cells slots A ls hC (XH_set hH hM e2 e3 ?_) hl
  exact Or.inl ⟨Nat.lt_of_lt_of_le (vw_lt hq) (by decide), q, hq, hN, _, e1, q2, q3, t_set q4 hap hk v⟩
end XF
