/-! each call on both sides: the same answer, all facts kept -/
def GOK (G : Gam) : Prop := SXm G ∧ RLit G ∧ TLit G ∧ ThOK G ∧ ZHid G ∧ ∃ mi, ZMir G mi
def DD : Nat := 100
/-- one call: the class at x, the model at m -/
def Pr (G : Gam) (k : Nat × Nat) (Yc Ym : MR) (av : List Value) (τ ad : Nat → Nat) (σ κ : MS) (Md : Mem) : Prop := ∃ (a : Int32) (σN : MS),
  (∀ Q : Option Value → Mem → Prop, (∀ κ' ω' ε' Md', Bn G τ ω' ε' σN κ' Md' → Q (some (.int a)) (cm τ κ' Md')) → CT G 100 k Yc (.ref (τ 0) :: av) (cm τ κ Md) Q) ∧
  (∀ Q : Option Value → Mem → Prop, (∀ σ', Eqv σN σ' → Q (some (.int a)) (mm ad σ')) → CT G 100 (0, 0) Ym (.ref (ad 99) :: av) (mm ad σ) Q)
section PRS
variable {G : Gam} {τ ad : Nat → Nat} {ω : Nat → Nat → Nat} {ε : Nat → Nat} {σ σ' κ κ' : MS} {Md Md' : Mem}
theorem Bn_k (h : Wld G τ ω ε σ κ' Md) (h1 : κ'.1 98 = κ.1 98) (h2 : κ'.2 24 = κ.2 24) (h3 : κ'.2 25 = κ.2 25) (hB : Bn G τ ω ε σ κ Md) : Bn G τ ω ε σ κ' Md := ⟨h, hB.2.1, Pln_k h1 h2 h3 hB.2.2.1, hB.2.2.2⟩
theorem Bn_KM (h : KM κ κ') (hB : Bn G τ ω ε σ κ Md) : Bn G τ ω ε σ κ' Md := Bn_k (Wld_KM h hB.1) (by rw [h.1]) (h.2 24 (Or.inl (by decide))) (h.2 25 (Or.inl (by decide))) hB
theorem Bn_KT (h : KT κ κ') (hB : Bn G τ ω ε σ κ Md) : Bn G τ ω ε σ κ' Md := Bn_k (Wld_KT h hB.1) (h.1 98 (by decide)) (h.2 24 (by decide) (by decide)) (h.2 25 (by decide) (by decide)) hB
theorem Bn_KL (h : KL κ κ') (hB : Bn G τ ω ε σ κ Md) : Bn G τ ω ε σ κ' Md := Bn_k (Wld_KL h hB.1) (by rw [h.1]) (h.2 24 (by decide)) (h.2 25 (by decide)) hB
theorem Bn_KX (h : KX κ κ') (hB : Bn G τ ω ε σ κ Md) : Bn G τ ω ε σ κ' Md := Bn_k (Wld_KX h hB.1) (h.1 98 (by decide)) (h.2 24 (by decide) (by decide)) (h.2 25 (by decide) (by decide)) hB
theorem Bn_KD (h : KD κ κ') (hB : Bn G τ ω ε σ κ Md) : Bn G τ ω ε σ κ' Md := Bn_k (Wld_KD h hB.1) (h.1 98 (by decide)) (h.2 24 (by decide) (by decide) (by decide)) (h.2 25 (by decide) (by decide) (by decide)) hB
theorem Bn_KR (h : KR κ κ') (hB : Bn G τ ω ε σ κ Md) : Bn G τ ω ε σ κ' Md := Bn_k ⟨hB.1.1, hB.1.2.1, hB.1.2.2.1, Kap_KR h hB.1.2.2.2⟩ (h.1 98 (by decide) (by decide)) (h.2 24 (by decide)) (h.2 25 (by decide)) hB
theorem Pln_c (h59 : σ'.1 59 = σ.1 59) (h60 : σ'.1 60 = σ.1 60) (h53 : σ'.2 53 = σ.2 53) (h54 : σ'.2 54 = σ.2 54) (h55 : σ'.2 55 = σ.2 55) (h56 : σ'.2 56 = σ.2 56) (h : Pln σ κ) : Pln σ' κ := by
  refine Pln_E (fun k hk => ?_) (fun k hk => ?_) h
  · rcases List.mem_cons.mp hk with rfl | hk
    · exact h59
    · rw [List.mem_singleton.mp hk]; exact h60
  · rcases List.mem_cons.mp hk with rfl | hk
    · exact h53
    · rcases List.mem_cons.mp hk with rfl | hk
      · exact h54
      · rcases List.mem_cons.mp hk with rfl | hk
        · exact h55
        · rw [List.mem_singleton.mp hk]; exact h56
theorem pr_stopped {p : Int32} {q : Int32} (hG : GOK G) (hA : adOK ad) (hB : Bn G τ ω ε σ κ Md) : Pr G (0, 0) MX11_stopped MX12_stopped [.int p, .int q] τ ad σ κ Md := by
  have hB0 := Bn_E (Eqv_0 (v := 0)) hB
  have hi := hB0.1.1
  have hc0 := hB0.1.2.1
  obtain ⟨⟨hLP, hLF, hLB, hMB, hTB⟩, ⟨hRO, hRD, hCd⟩, hPO, hMk, hBy, hQB, hPp, hHo⟩ := hB0.2.1
  have hLe := hB0.2.2.2
  obtain ⟨hSX, hRL, hTL, hTh, hZH, mi, hZM⟩ := hG
  exact ⟨aStopped (seti σ 0 0) p q, (seti σ 0 0), fun Q hq => c_X11_stopped hB0.1 (hq _ _ _ _ hB0), fun Q hq => c_X12_stopped hA rfl hc0 (hq _ Eqv.rf)⟩
theorem pr_force {day : Int32} {q : Int32} (hG : GOK G) (hA : adOK ad) (hB : Bn G τ ω ε σ κ Md) : Pr G (0, 0) MX11_force MX12_force [.int day, .int q] τ ad σ κ Md := by
  have hB0 := Bn_E (Eqv_0 (v := 0)) hB
  have hi := hB0.1.1
  have hc0 := hB0.1.2.1
  obtain ⟨⟨hLP, hLF, hLB, hMB, hTB⟩, ⟨hRO, hRD, hCd⟩, hPO, hMk, hBy, hQB, hPp, hHo⟩ := hB0.2.1
  have hLe := hB0.2.2.2
  obtain ⟨hSX, hRL, hTL, hTh, hZH, mi, hZM⟩ := hG
  exact ⟨aForce (seti σ 0 0) day q, (seti σ 0 0), fun Q hq => c_X11_force hB0.1 hRD (hq _ _ _ _ hB0), fun Q hq => c_X12_force hA rfl hc0 (hq _ Eqv.rf)⟩
theorem pr_truth {l : Int32} {q : Int32} (hG : GOK G) (hA : adOK ad) (hB : Bn G τ ω ε σ κ Md) : Pr G (0, 0) MX11_truth MX12_truth [.int l, .int q] τ ad σ κ Md := by
  have hB0 := Bn_E (Eqv_0 (v := 0)) hB
  have hi := hB0.1.1
  have hc0 := hB0.1.2.1
  obtain ⟨⟨hLP, hLF, hLB, hMB, hTB⟩, ⟨hRO, hRD, hCd⟩, hPO, hMk, hBy, hQB, hPp, hHo⟩ := hB0.2.1
  have hLe := hB0.2.2.2
  obtain ⟨hSX, hRL, hTL, hTh, hZH, mi, hZM⟩ := hG
  exact ⟨aTruth (seti σ 0 0) l q, (seti σ 0 0), fun Q hq => c_X11_truth hB0.1 hLP (hq _ _ _ _ hB0), fun Q hq => c_X12_truth hA rfl hc0 hLP (hq _ Eqv.rf)⟩
theorem pr_bearers {say : Int32} {q : Int32} (hG : GOK G) (hA : adOK ad) (hB : Bn G τ ω ε σ κ Md) : Pr G (0, 0) MX11_bearers MX12_bearers [.int say, .int q] τ ad σ κ Md := by
  have hB0 := Bn_E (Eqv_0 (v := 0)) hB
  have hi := hB0.1.1
  have hc0 := hB0.1.2.1
  obtain ⟨⟨hLP, hLF, hLB, hMB, hTB⟩, ⟨hRO, hRD, hCd⟩, hPO, hMk, hBy, hQB, hPp, hHo⟩ := hB0.2.1
  have hLe := hB0.2.2.2
  obtain ⟨hSX, hRL, hTL, hTh, hZH, mi, hZM⟩ := hG
  exact ⟨aBear (seti σ 0 0) say q, (seti σ 0 0), fun Q hq => c_X11_bearers hB0.1 (hq _ _ _ _ hB0), fun Q hq => c_X12_bearers hA rfl hc0 (hq _ Eqv.rf)⟩
theorem pr_span {sort : Int32} {day : Int32} {q : Int32} {what : Int32} (hG : GOK G) (hA : adOK ad) (hB : Bn G τ ω ε σ κ Md) : Pr G (0, 0) MX11_span MX12_span [.int sort, .int day, .int q, .int what] τ ad σ κ Md := by
  have hB0 := Bn_E (Eqv_0 (v := 0)) hB
  have hi := hB0.1.1
  have hc0 := hB0.1.2.1
  obtain ⟨⟨hLP, hLF, hLB, hMB, hTB⟩, ⟨hRO, hRD, hCd⟩, hPO, hMk, hBy, hQB, hPp, hHo⟩ := hB0.2.1
  have hLe := hB0.2.2.2
  obtain ⟨hSX, hRL, hTL, hTh, hZH, mi, hZM⟩ := hG
  exact ⟨aSpan (seti σ 0 0) sort day q what, (seti σ 0 0), fun Q hq => c_X11_span hB0.1 hLP hMB hPp (hq _ _ _ _ hB0), fun Q hq => c_X12_span hA rfl hc0 hLP (hq _ Eqv.rf)⟩
theorem pr_mood {day : Int32} {q : Int32} {what : Int32} (hG : GOK G) (hA : adOK ad) (hB : Bn G τ ω ε σ κ Md) : Pr G (0, 0) MX11_mood MX12_mood [.int day, .int q, .int what] τ ad σ κ Md := by
  have hB0 := Bn_E (Eqv_0 (v := 0)) hB
  have hi := hB0.1.1
  have hc0 := hB0.1.2.1
  obtain ⟨⟨hLP, hLF, hLB, hMB, hTB⟩, ⟨hRO, hRD, hCd⟩, hPO, hMk, hBy, hQB, hPp, hHo⟩ := hB0.2.1
  have hLe := hB0.2.2.2
  obtain ⟨hSX, hRL, hTL, hTh, hZH, mi, hZM⟩ := hG
  exact ⟨aMood (seti σ 0 0) day q what, (seti σ 0 0), fun Q hq => c_X11_mood hB0.1 (hq _ _ _ _ hB0), fun Q hq => c_X12_mood hA rfl hc0 (hq _ Eqv.rf)⟩
theorem pr_last {p : Int32} {q : Int32} (hG : GOK G) (hA : adOK ad) (hB : Bn G τ ω ε σ κ Md) : Pr G (0, 0) MX11_last MX12_last [.int p, .int q] τ ad σ κ Md := by
  have hB0 := Bn_E (Eqv_0 (v := 0)) hB
  have hi := hB0.1.1
  have hc0 := hB0.1.2.1
  obtain ⟨⟨hLP, hLF, hLB, hMB, hTB⟩, ⟨hRO, hRD, hCd⟩, hPO, hMk, hBy, hQB, hPp, hHo⟩ := hB0.2.1
  have hLe := hB0.2.2.2
  obtain ⟨hSX, hRL, hTL, hTh, hZH, mi, hZM⟩ := hG
  exact ⟨aLast (seti σ 0 0) p q, (seti σ 0 0), fun Q hq => c_X11_last hB0.1 hLB (hq _ _ _ _ hB0), fun Q hq => c_X12_last hA rfl hc0 (hq _ Eqv.rf)⟩
theorem pr_lean {sort : Int32} {q : Int32} (hG : GOK G) (hA : adOK ad) (hB : Bn G τ ω ε σ κ Md) : Pr G (0, 0) MX11_lean MX12_lean [.int sort, .int q] τ ad σ κ Md := by
  have hB0 := Bn_E (Eqv_0 (v := 0)) hB
  have hi := hB0.1.1
  have hc0 := hB0.1.2.1
  obtain ⟨⟨hLP, hLF, hLB, hMB, hTB⟩, ⟨hRO, hRD, hCd⟩, hPO, hMk, hBy, hQB, hPp, hHo⟩ := hB0.2.1
  have hLe := hB0.2.2.2
  obtain ⟨hSX, hRL, hTL, hTh, hZH, mi, hZM⟩ := hG
  exact ⟨aLean (seti σ 0 0) sort q, (seti σ 0 0), fun Q hq => c_X11_lean hB0.1 hLB (hq _ _ _ _ hB0), fun Q hq => c_X12_lean hA rfl hc0 (hq _ Eqv.rf)⟩
theorem pr_alike {p : Int32} {by' : Int32} (hG : GOK G) (hA : adOK ad) (hB : Bn G τ ω ε σ κ Md) : Pr G (0, 0) MX11_alike MX12_alike [.int p, .int by'] τ ad σ κ Md := by
  have hB0 := Bn_E (Eqv_0 (v := 0)) hB
  have hi := hB0.1.1
  have hc0 := hB0.1.2.1
  obtain ⟨⟨hLP, hLF, hLB, hMB, hTB⟩, ⟨hRO, hRD, hCd⟩, hPO, hMk, hBy, hQB, hPp, hHo⟩ := hB0.2.1
  have hLe := hB0.2.2.2
  obtain ⟨hSX, hRL, hTL, hTh, hZH, mi, hZM⟩ := hG
  exact ⟨aAlike (seti σ 0 0) p by', (seti σ 0 0), fun Q hq => c_X11_alike hB0.1 (hq _ _ _ _ hB0), fun Q hq => c_X12_alike hA rfl hc0 (hq _ Eqv.rf)⟩
theorem pr_hide {m : Int32} (hG : GOK G) (hA : adOK ad) (hB : Bn G τ ω ε σ κ Md) : Pr G (0, 0) MX11_hide MX12_hide [.int m] τ ad σ κ Md := by
  have hB0 := Bn_E (Eqv_0 (v := 0)) hB
  have hi := hB0.1.1
  have hc0 := hB0.1.2.1
  obtain ⟨⟨hLP, hLF, hLB, hMB, hTB⟩, ⟨hRO, hRD, hCd⟩, hPO, hMk, hBy, hQB, hPp, hHo⟩ := hB0.2.1
  have hLe := hB0.2.2.2
  obtain ⟨hSX, hRL, hTL, hTh, hZH, mi, hZM⟩ := hG
  exact ⟨aHide (seti σ 0 0) m, (seti σ 0 0), fun Q hq => c_X11_hide hB0.1 hZH (hq _ _ _ _ hB0), fun Q hq => c_X12_hide hA rfl hc0 (hq _ Eqv.rf)⟩
theorem pr_buy {coin : Int32} (hG : GOK G) (hA : adOK ad) (hB : Bn G τ ω ε σ κ Md) : Pr G (0, 0) MX11_buy MX12_buy [.int coin] τ ad σ κ Md := by
  have hB0 := Bn_E (Eqv_0 (v := 0)) hB
  have hi := hB0.1.1
  have hc0 := hB0.1.2.1
  obtain ⟨⟨hLP, hLF, hLB, hMB, hTB⟩, ⟨hRO, hRD, hCd⟩, hPO, hMk, hBy, hQB, hPp, hHo⟩ := hB0.2.1
  have hLe := hB0.2.2.2
  obtain ⟨hSX, hRL, hTL, hTh, hZH, mi, hZM⟩ := hG
  exact ⟨aBuy (seti σ 0 0) coin, (seti σ 0 0), fun Q hq => c_X11_buy hB0.1 hQB (hq _ _ _ _ hB0), fun Q hq => c_X12_buy hA rfl hc0 (hq _ Eqv.rf)⟩
theorem pr_judge {set : Int32} {coin : Int32} (hG : GOK G) (hA : adOK ad) (hB : Bn G τ ω ε σ κ Md) : Pr G (0, 0) MX11_judge MX12_judge [.int set, .int coin] τ ad σ κ Md := by
  have hB0 := Bn_E (Eqv_0 (v := 0)) hB
  have hi := hB0.1.1
  have hc0 := hB0.1.2.1
  obtain ⟨⟨hLP, hLF, hLB, hMB, hTB⟩, ⟨hRO, hRD, hCd⟩, hPO, hMk, hBy, hQB, hPp, hHo⟩ := hB0.2.1
  have hLe := hB0.2.2.2
  obtain ⟨hSX, hRL, hTL, hTh, hZH, mi, hZM⟩ := hG
  exact ⟨aJudge (seti σ 0 0) set coin, (seti σ 0 0), fun Q hq => c_X11_judge hB0.1 (hq _ _ _ _ hB0), fun Q hq => c_X12_judge hA rfl hc0 (hq _ Eqv.rf)⟩
theorem pr_count {w : Int32} (hG : GOK G) (hA : adOK ad) (hB : Bn G τ ω ε σ κ Md) : Pr G (0, 0) MX11_count MX12_count [.int w] τ ad σ κ Md := by
  have hB0 := Bn_E (Eqv_0 (v := 0)) hB
  have hi := hB0.1.1
  have hc0 := hB0.1.2.1
  obtain ⟨⟨hLP, hLF, hLB, hMB, hTB⟩, ⟨hRO, hRD, hCd⟩, hPO, hMk, hBy, hQB, hPp, hHo⟩ := hB0.2.1
  have hLe := hB0.2.2.2
  obtain ⟨hSX, hRL, hTL, hTh, hZH, mi, hZM⟩ := hG
  exact ⟨aCount (seti σ 0 0) w, (seti σ 0 0), fun Q hq => c_X11_count hB0.1 (hq _ _ _ _ hB0), fun Q hq => c_X12_count hA rfl hc0 (hq _ Eqv.rf)⟩
theorem pr_way {p : Int32} {say : Int32} {q : Int32} {what : Int32} (hG : GOK G) (hA : adOK ad) (hB : Bn G τ ω ε σ κ Md) : Pr G (0, 0) MX11_way MX12_way [.int p, .int say, .int q, .int what] τ ad σ κ Md := by
  have hB0 := Bn_E (Eqv_0 (v := 0)) hB
  have hi := hB0.1.1
  have hc0 := hB0.1.2.1
  obtain ⟨⟨hLP, hLF, hLB, hMB, hTB⟩, ⟨hRO, hRD, hCd⟩, hPO, hMk, hBy, hQB, hPp, hHo⟩ := hB0.2.1
  have hLe := hB0.2.2.2
  obtain ⟨hSX, hRL, hTL, hTh, hZH, mi, hZM⟩ := hG
  exact ⟨aWay (seti σ 0 0) p say q what, (seti σ 0 0), fun Q hq => c_X11_way hB0.1 hLF (hq _ _ _ _ hB0), fun Q hq => c_X12_way hA rfl hc0 hLF (fun σ' hs => hq _ (Eqv_d hs))⟩
theorem pr_marked {r : Int32} {l : Int32} {q : Int32} (hG : GOK G) (hA : adOK ad) (hB : Bn G τ ω ε σ κ Md) : Pr G (0, 0) MX11_marked MX12_marked [.int r, .int l, .int q] τ ad σ κ Md := by
  have hB0 := Bn_E (Eqv_0 (v := 0)) hB
  have hi := hB0.1.1
  have hc0 := hB0.1.2.1
  obtain ⟨⟨hLP, hLF, hLB, hMB, hTB⟩, ⟨hRO, hRD, hCd⟩, hPO, hMk, hBy, hQB, hPp, hHo⟩ := hB0.2.1
  have hLe := hB0.2.2.2
  obtain ⟨hSX, hRL, hTL, hTh, hZH, mi, hZM⟩ := hG
  exact ⟨aMarked (seti σ 0 0) r l q, (seti σ 0 0), fun Q hq => c_X11_marked hB0.1 hMk (fun κ' hk => hq _ _ _ _ (Bn_KM hk hB0)), fun Q hq => c_X12_marked hA rfl hc0 (hq _ Eqv.rf)⟩
theorem pr_agree {a : Int32} {b : Int32} {q : Int32} {w : Int32} (hG : GOK G) (hA : adOK ad) (hB : Bn G τ ω ε σ κ Md) : Pr G (0, 0) MX11_agree MX12_agree [.int a, .int b, .int q, .int w] τ ad σ κ Md := by
  have hB0 := Bn_E (Eqv_0 (v := 0)) hB
  have hi := hB0.1.1
  have hc0 := hB0.1.2.1
  obtain ⟨⟨hLP, hLF, hLB, hMB, hTB⟩, ⟨hRO, hRD, hCd⟩, hPO, hMk, hBy, hQB, hPp, hHo⟩ := hB0.2.1
  have hLe := hB0.2.2.2
  obtain ⟨hSX, hRL, hTL, hTh, hZH, mi, hZM⟩ := hG
  exact ⟨aAgree (seti σ 0 0) a b q w, (seti σ 0 0), fun Q hq => c_X11_agree hB0.1 hMk (fun κ' hk => hq _ _ _ _ (Bn_KM hk hB0)), fun Q hq => c_X12_agree hA rfl hc0 (hq _ Eqv.rf)⟩
theorem pr_habit {r : Int32} {q : Int32} (hG : GOK G) (hA : adOK ad) (hB : Bn G τ ω ε σ κ Md) : Pr G (0, 0) MX11_habit MX12_habit [.int r, .int q] τ ad σ κ Md := by
  have hB0 := Bn_E (Eqv_0 (v := 0)) hB
  have hi := hB0.1.1
  have hc0 := hB0.1.2.1
  obtain ⟨⟨hLP, hLF, hLB, hMB, hTB⟩, ⟨hRO, hRD, hCd⟩, hPO, hMk, hBy, hQB, hPp, hHo⟩ := hB0.2.1
  have hLe := hB0.2.2.2
  obtain ⟨hSX, hRL, hTL, hTh, hZH, mi, hZM⟩ := hG
  exact ⟨aHabit (seti σ 0 0) r q, (seti σ 0 0), fun Q hq => c_X11_habit hB0.1 hMk (fun κ' hk => hq _ _ _ _ (Bn_KM hk hB0)), fun Q hq => c_X12_habit hA rfl hc0 (hq _ Eqv.rf)⟩
theorem pr_held {l : Int32} {q : Int32} (hG : GOK G) (hA : adOK ad) (hB : Bn G τ ω ε σ κ Md) : Pr G (0, 0) MX11_held MX12_held [.int l, .int q] τ ad σ κ Md := by
  have hB0 := Bn_E (Eqv_0 (v := 0)) hB
  have hi := hB0.1.1
  have hc0 := hB0.1.2.1
  obtain ⟨⟨hLP, hLF, hLB, hMB, hTB⟩, ⟨hRO, hRD, hCd⟩, hPO, hMk, hBy, hQB, hPp, hHo⟩ := hB0.2.1
  have hLe := hB0.2.2.2
  obtain ⟨hSX, hRL, hTL, hTh, hZH, mi, hZM⟩ := hG
  exact ⟨aHeld (seti σ 0 0) l q, (seti σ 0 0), fun Q hq => c_X11_held hB0.1 hMk (fun κ' hk => hq _ _ _ _ (Bn_KM hk hB0)), fun Q hq => c_X12_held hA rfl hc0 (hq _ Eqv.rf)⟩
theorem pr_turn {a : Int32} {b : Int32} {q : Int32} {what : Int32} (hG : GOK G) (hA : adOK ad) (hB : Bn G τ ω ε σ κ Md) : Pr G (0, 0) MX11_turn MX12_turn [.int a, .int b, .int q, .int what] τ ad σ κ Md := by
  have hB0 := Bn_E (Eqv_0 (v := 0)) hB
  have hi := hB0.1.1
  have hc0 := hB0.1.2.1
  obtain ⟨⟨hLP, hLF, hLB, hMB, hTB⟩, ⟨hRO, hRD, hCd⟩, hPO, hMk, hBy, hQB, hPp, hHo⟩ := hB0.2.1
  have hLe := hB0.2.2.2
  obtain ⟨hSX, hRL, hTL, hTh, hZH, mi, hZM⟩ := hG
  exact ⟨aTurn (seti σ 0 0) a b q what, (seti σ 0 0), fun Q hq => c_X11_turn hB0.1 hLB hMB (fun κ' hk => hq _ _ _ _ (Bn_KT hk hB0)), fun Q hq => c_X12_turn hA rfl hc0 (fun σ' hs => hq _ (Eqv_t hs))⟩
theorem pr_lot {n : Int32} {seed : Int64} {i : Int32} (hG : GOK G) (hA : adOK ad) (hB : Bn G τ ω ε σ κ Md) : Pr G (0, 0) MX11_lot MX12_lot [.int n, .long seed, .int i] τ ad σ κ Md := by
  have hB0 := Bn_E (Eqv_0 (v := 0)) hB
  have hi := hB0.1.1
  have hc0 := hB0.1.2.1
  obtain ⟨⟨hLP, hLF, hLB, hMB, hTB⟩, ⟨hRO, hRD, hCd⟩, hPO, hMk, hBy, hQB, hPp, hHo⟩ := hB0.2.1
  have hLe := hB0.2.2.2
  obtain ⟨hSX, hRL, hTL, hTh, hZH, mi, hZM⟩ := hG
  exact ⟨aLot (seti σ 0 0) n seed i, (seti σ 0 0), fun Q hq => c_X11_lot hB0.1 (fun κ' hk => hq _ _ _ _ (Bn_KL hk hB0)), fun Q hq => c_X12_lot hA rfl hc0 (fun σ' hs => hq _ (Eqv_d hs))⟩
theorem pr_beside {n : Int32} {seed : Int64} {day : Int32} (hG : GOK G) (hA : adOK ad) (hB : Bn G τ ω ε σ κ Md) : Pr G (0, 0) MX11_beside MX12_beside [.int n, .long seed, .int day] τ ad σ κ Md := by
  have hB0 := Bn_E (Eqv_0 (v := 0)) hB
  have hi := hB0.1.1
  have hc0 := hB0.1.2.1
  obtain ⟨⟨hLP, hLF, hLB, hMB, hTB⟩, ⟨hRO, hRD, hCd⟩, hPO, hMk, hBy, hQB, hPp, hHo⟩ := hB0.2.1
  have hLe := hB0.2.2.2
  obtain ⟨hSX, hRL, hTL, hTh, hZH, mi, hZM⟩ := hG
  exact ⟨aBes (seti σ 0 0) n seed day, (seti σ 0 0), fun Q hq => c_X11_beside hB0.1 hLP hTB (fun κ' hk => hq _ _ _ _ (Bn_KL hk hB0)), fun Q hq => c_X12_beside hA rfl hc0 hLP (fun σ' hs => hq _ (Eqv_d hs))⟩
theorem pr_asked {p : Int32} {day : Int32} {sort : Int32} {q : Int32} (hG : GOK G) (hA : adOK ad) (hB : Bn G τ ω ε σ κ Md) : Pr G (0, 0) MX11_asked MX12_asked [.int p, .int day, .int sort, .int q] τ ad σ κ Md := by
  have hB0 := Bn_E (Eqv_0 (v := 0)) hB
  have hi := hB0.1.1
  have hc0 := hB0.1.2.1
  obtain ⟨⟨hLP, hLF, hLB, hMB, hTB⟩, ⟨hRO, hRD, hCd⟩, hPO, hMk, hBy, hQB, hPp, hHo⟩ := hB0.2.1
  have hLe := hB0.2.2.2
  obtain ⟨hSX, hRL, hTL, hTh, hZH, mi, hZM⟩ := hG
  exact ⟨aAsk (seti σ 0 0) p day sort q, (seti σ 0 0), fun Q hq => c_X11_asked hB0.1 hRL hCd hRD (fun κ' hk => hq _ _ _ _ (Bn_KX hk hB0)), fun Q hq => c_X12_asked hA rfl hc0 hSX hLe hRO hPO (fun σ' hs => hq _ (Eqv_s hs))⟩
theorem pr_shown {l : Int32} {day : Int32} {rank : Int32} {q : Int32} (hG : GOK G) (hA : adOK ad) (hB : Bn G τ ω ε σ κ Md) : Pr G (0, 0) MX11_shown MX12_shown [.int l, .int day, .int rank, .int q] τ ad σ κ Md := by
  have hB0 := Bn_E (Eqv_0 (v := 0)) hB
  have hi := hB0.1.1
  have hc0 := hB0.1.2.1
  obtain ⟨⟨hLP, hLF, hLB, hMB, hTB⟩, ⟨hRO, hRD, hCd⟩, hPO, hMk, hBy, hQB, hPp, hHo⟩ := hB0.2.1
  have hLe := hB0.2.2.2
  obtain ⟨hSX, hRL, hTL, hTh, hZH, mi, hZM⟩ := hG
  exact ⟨aShown (seti σ 0 0) l day rank q, (seti σ 0 0), fun Q hq => c_X11_shown hB0.1 hRL hCd hRD hLP hLB (fun κ' hk => hq _ _ _ _ (Bn_KX hk hB0)), fun Q hq => c_X12_shown hA rfl hc0 hSX hLe hRO hPO hLP hLB (fun σ' hs => hq _ (Eqv_s hs))⟩
theorem pr_digest {of : Int32} {day : Int32} {rank : Int32} {q : Int32} {i : Int32} (hG : GOK G) (hA : adOK ad) (hB : Bn G τ ω ε σ κ Md) : Pr G (0, 0) MX11_digest MX12_digest [.int of, .int day, .int rank, .int q, .int i] τ ad σ κ Md := by
  have hB0 := Bn_E (Eqv_0 (v := 0)) hB
  have hi := hB0.1.1
  have hc0 := hB0.1.2.1
  obtain ⟨⟨hLP, hLF, hLB, hMB, hTB⟩, ⟨hRO, hRD, hCd⟩, hPO, hMk, hBy, hQB, hPp, hHo⟩ := hB0.2.1
  have hLe := hB0.2.2.2
  obtain ⟨hSX, hRL, hTL, hTh, hZH, mi, hZM⟩ := hG
  exact ⟨aDig (seti σ 0 0) of day rank q i, (seti σ 0 0), fun Q hq => c_X11_digest hB0.1 hRL hCd hRD hLP (fun κ' hk => hq _ _ _ _ (Bn_KD hk hB0)), fun Q hq => c_X12_digest hA rfl ⟨hc0, hSX, hLe, hRO, hPO, hLP, hLB⟩ (fun σ' hs => hq _ (Eqv_s hs))⟩
theorem pr_left {of : Int32} {day : Int32} {rank : Int32} {q : Int32} (hG : GOK G) (hA : adOK ad) (hB : Bn G τ ω ε σ κ Md) : Pr G (0, 0) MX11_left MX12_left [.int of, .int day, .int rank, .int q] τ ad σ κ Md := by
  have hB0 := Bn_E (Eqv_0 (v := 0)) hB
  have hi := hB0.1.1
  have hc0 := hB0.1.2.1
  obtain ⟨⟨hLP, hLF, hLB, hMB, hTB⟩, ⟨hRO, hRD, hCd⟩, hPO, hMk, hBy, hQB, hPp, hHo⟩ := hB0.2.1
  have hLe := hB0.2.2.2
  obtain ⟨hSX, hRL, hTL, hTh, hZH, mi, hZM⟩ := hG
  exact ⟨aLeft (seti σ 0 0) of day rank q, (seti σ 0 0), fun Q hq => c_X11_left hB0.1 hRL hCd hRD hLP (fun κ' hk => hq _ _ _ _ (Bn_KD hk hB0)), fun Q hq => c_X12_left hA rfl ⟨hc0, hSX, hLe, hRO, hPO, hLP, hLB⟩ (fun σ' hs => hq _ (Eqv_s hs))⟩
theorem pr_fault (hG : GOK G) (hA : adOK ad) (hB : Bn G τ ω ε σ κ Md) : Pr G (0, 0) MX11_fault MX12_fault [] τ ad σ κ Md := by
  have hB0 := Bn_E (Eqv_0 (v := 0)) hB
  have hi := hB0.1.1
  have hc0 := hB0.1.2.1
  obtain ⟨⟨hLP, hLF, hLB, hMB, hTB⟩, ⟨hRO, hRD, hCd⟩, hPO, hMk, hBy, hQB, hPp, hHo⟩ := hB0.2.1
  have hLe := hB0.2.2.2
  obtain ⟨hSX, hRL, hTL, hTh, hZH, mi, hZM⟩ := hG
  exact ⟨aFau ((seti σ 0 0).2 18) (cn (seti σ 0 0) 24), (seti σ 0 0), fun Q hq => c_X11_fault hB0.1 hTL hBy (fun κ' hk => hq _ _ _ _ (Bn_KR hk hB0)), fun Q hq => c_X12_fault hA rfl hc0 hSX hLe (fun σ' hs => hq _ (Eqv_s hs))⟩
theorem pr_table {w : Int32} (hG : GOK G) (hA : adOK ad) (hB : Bn G τ ω ε σ κ Md) : Pr G (0, 0) MX11_table MX12_table [.int w] τ ad σ κ Md := by
  have hB0 := Bn_E (Eqv_0 (v := 0)) hB
  have hi := hB0.1.1
  have hc0 := hB0.1.2.1
  obtain ⟨⟨hLP, hLF, hLB, hMB, hTB⟩, ⟨hRO, hRD, hCd⟩, hPO, hMk, hBy, hQB, hPp, hHo⟩ := hB0.2.1
  have hLe := hB0.2.2.2
  obtain ⟨hSX, hRL, hTL, hTh, hZH, mi, hZM⟩ := hG
  have h8 := (hc0.b 60 (b := 8) (by decide)).2
  refine ⟨aTab (seti σ 0 0) w, (seti σ 0 0), fun Q hq => c_X11_table hi hc0 hB0.1.2.2.2.2.2.2.1 hB0.2.2.1 (hq _ _ _ _ hB0), fun Q hq => ?_⟩
  have e : (100 : Nat) = (97 - cn (seti σ 0 0) 60) + cn (seti σ 0 0) 60 + 3 := by omega
  rw [e]
  refine c_X12_table hA rfl hc0 (fun hn => ?_) (fun t ht hp => ?_)
  · have := hq _ Eqv.rf
    rw [show aTab (seti σ 0 0) w = -2 from cI_f hn] at this
    exact this
  · have := hq _ (Eqv_w t)
    rw [show aTab (seti σ 0 0) w = _ from cI_t hp, ← ht] at this
    exact this
theorem N_person {a b c : Int32} (h : Kap σ κ) (h2 : Pln σ κ) (h3 : LetOK σ) : Kap (nPerson σ a b c) κ ∧ Pln (nPerson σ a b c) κ ∧ LetOK (nPerson σ a b c) := by
  unfold nPerson
  by_cases hp : pPerson σ a b c
  · rw [cI_t hp]
    exact ⟨h, Pln_c (σ := σ) rfl rfl rfl rfl rfl rfl h2, h3⟩
  · rw [cI_f hp]; exact ⟨h, h2, h3⟩
theorem pr_person {a : Int32} {b : Int32} {c : Int32} (hG : GOK G) (hA : adOK ad) (hB : Bn G τ ω ε σ κ Md) : Pr G (2, 410) MX11_person MX12_person [.int a, .int b, .int c] τ ad σ κ Md := by
  have hB0 := Bn_E (Eqv_0 (v := 0)) hB
  have hi := hB0.1.1
  have hc0 := hB0.1.2.1
  obtain ⟨⟨hLP, hLF, hLB, hMB, hTB⟩, ⟨hRO, hRD, hCd⟩, hPO, hMk, hBy, hQB, hPp, hHo⟩ := hB0.2.1
  have hLe := hB0.2.2.2
  obtain ⟨hSX, hRL, hTL, hTh, hZH, mi, hZM⟩ := hG
  obtain ⟨k1, k2⟩ := K_person (a := a) (b := b) (c := c) hc0 hB0.2.1
  obtain ⟨n1, n2, n3⟩ := N_person (a := a) (b := b) (c := c) hB0.1.2.2.2 hB0.2.2.1 hB0.2.2.2
  exact ⟨aPerson (seti σ 0 0) a b c, nPerson (seti σ 0 0) a b c, fun Q hq => c_X11_person hB0.1 hZM (fun Md' ω' ε' hD => hq _ _ _ _ ⟨⟨hi, k1, hD, n1⟩, k2, n2, n3⟩), fun Q hq => c_X12_person hA rfl hc0 (hq _ Eqv.rf)⟩
theorem N_stop {a b : Int32} (h : Kap σ κ) (h2 : Pln σ κ) (h3 : LetOK σ) : Kap (nStop σ a b) κ ∧ Pln (nStop σ a b) κ ∧ LetOK (nStop σ a b) := by
  unfold nStop
  by_cases hp : pStop σ a b
  · rw [cI_t hp]
    exact ⟨h, Pln_c (σ := σ) rfl rfl rfl rfl rfl rfl h2, h3⟩
  · rw [cI_f hp]; exact ⟨h, h2, h3⟩
theorem pr_stop {a : Int32} {b : Int32} (hG : GOK G) (hA : adOK ad) (hB : Bn G τ ω ε σ κ Md) : Pr G (2, 410) MX11_stop MX12_stop [.int a, .int b] τ ad σ κ Md := by
  have hB0 := Bn_E (Eqv_0 (v := 0)) hB
  have hi := hB0.1.1
  have hc0 := hB0.1.2.1
  obtain ⟨⟨hLP, hLF, hLB, hMB, hTB⟩, ⟨hRO, hRD, hCd⟩, hPO, hMk, hBy, hQB, hPp, hHo⟩ := hB0.2.1
  have hLe := hB0.2.2.2
  obtain ⟨hSX, hRL, hTL, hTh, hZH, mi, hZM⟩ := hG
  obtain ⟨k1, k2⟩ := K_stop (a := a) (b := b) hc0 hB0.2.1
  obtain ⟨n1, n2, n3⟩ := N_stop (a := a) (b := b) hB0.1.2.2.2 hB0.2.2.1 hB0.2.2.2
  exact ⟨aStop (seti σ 0 0) a b, nStop (seti σ 0 0) a b, fun Q hq => c_X11_stop hB0.1 hZM (fun Md' ω' ε' hD => hq _ _ _ _ ⟨⟨hi, k1, hD, n1⟩, k2, n2, n3⟩), fun Q hq => c_X12_stop hA rfl hc0 (hq _ Eqv.rf)⟩
theorem N_line {p day sort mood say src : Int32} (h : Kap σ κ) (h2 : Pln σ κ) (h3 : LetOK σ) : Kap (nLine σ p day sort mood say src) κ ∧ Pln (nLine σ p day sort mood say src) κ ∧ LetOK (nLine σ p day sort mood say src) := by
  unfold nLine
  by_cases hp : pLine σ p day sort mood say src
  · rw [cI_t hp]
    exact ⟨h, Pln_c (σ := σ) rfl rfl rfl rfl rfl rfl h2, h3⟩
  · rw [cI_f hp]; exact ⟨h, h2, h3⟩
theorem pr_line {p : Int32} {day : Int32} {sort : Int32} {mood : Int32} {say : Int32} {src : Int32} (hG : GOK G) (hA : adOK ad) (hB : Bn G τ ω ε σ κ Md) : Pr G (2, 410) MX11_line MX12_line [.int p, .int day, .int sort, .int mood, .int say, .int src] τ ad σ κ Md := by
  have hB0 := Bn_E (Eqv_0 (v := 0)) hB
  have hi := hB0.1.1
  have hc0 := hB0.1.2.1
  obtain ⟨⟨hLP, hLF, hLB, hMB, hTB⟩, ⟨hRO, hRD, hCd⟩, hPO, hMk, hBy, hQB, hPp, hHo⟩ := hB0.2.1
  have hLe := hB0.2.2.2
  obtain ⟨hSX, hRL, hTL, hTh, hZH, mi, hZM⟩ := hG
  obtain ⟨k1, k2⟩ := K_line (p := p) (day := day) (sort := sort) (mood := mood) (say := say) (src := src) hc0 hB0.2.1
  obtain ⟨n1, n2, n3⟩ := N_line (p := p) (day := day) (sort := sort) (mood := mood) (say := say) (src := src) hB0.1.2.2.2 hB0.2.2.1 hB0.2.2.2
  exact ⟨aLine (seti σ 0 0) p day sort mood say src, nLine (seti σ 0 0) p day sort mood say src, fun Q hq => c_X11_line hB0.1 hZM (fun Md' ω' ε' hD => hq _ _ _ _ ⟨⟨hi, k1, hD, n1⟩, k2, n2, n3⟩), fun Q hq => c_X12_line hA rfl hc0 (hq _ Eqv.rf)⟩
theorem N_happen {a b c z : Int32} (h : Kap σ κ) (h2 : Pln σ κ) (h3 : LetOK σ) : Kap (nHappen σ a b c z) κ ∧ Pln (nHappen σ a b c z) κ ∧ LetOK (nHappen σ a b c z) := by
  unfold nHappen
  by_cases hp : pHappen σ a b c
  · rw [cI_t hp]
    exact ⟨h, Pln_c (σ := σ) rfl rfl rfl rfl rfl rfl h2, h3⟩
  · rw [cI_f hp]; exact ⟨h, h2, h3⟩
theorem pr_happen {a : Int32} {b : Int32} {c : Int32} {z : Int32} (hz : z = 0 ∨ z = 1) (hG : GOK G) (hA : adOK ad) (hB : Bn G τ ω ε σ κ Md) : Pr G (2, 410) MX11_happen MX12_happen [.int a, .int b, .int c, .int z] τ ad σ κ Md := by
  have hB0 := Bn_E (Eqv_0 (v := 0)) hB
  have hi := hB0.1.1
  have hc0 := hB0.1.2.1
  obtain ⟨⟨hLP, hLF, hLB, hMB, hTB⟩, ⟨hRO, hRD, hCd⟩, hPO, hMk, hBy, hQB, hPp, hHo⟩ := hB0.2.1
  have hLe := hB0.2.2.2
  obtain ⟨hSX, hRL, hTL, hTh, hZH, mi, hZM⟩ := hG
  obtain ⟨k1, k2⟩ := K_happen (a := a) (b := b) (c := c) (z := z) hc0 hB0.2.1
  obtain ⟨n1, n2, n3⟩ := N_happen (a := a) (b := b) (c := c) (z := z) hB0.1.2.2.2 hB0.2.2.1 hB0.2.2.2
  exact ⟨aHappen (seti σ 0 0) a b c, nHappen (seti σ 0 0) a b c z, fun Q hq => c_X11_happen hz hB0.1 hZM (fun Md' ω' ε' hD => hq _ _ _ _ ⟨⟨hi, k1, hD, n1⟩, k2, n2, n3⟩), fun Q hq => c_X12_happen hA rfl hc0 (hq _ Eqv.rf)⟩
theorem N_mark {r l v : Int32} (h : Kap σ κ) (h2 : Pln σ κ) (h3 : LetOK σ) : Kap (nMark σ r l v) κ ∧ Pln (nMark σ r l v) κ ∧ LetOK (nMark σ r l v) := by
  unfold nMark
  by_cases hp : pMark σ r l v
  · rw [cI_t hp]
    exact ⟨h, Pln_c (σ := σ) rfl rfl rfl rfl rfl rfl h2, h3⟩
  · rw [cI_f hp]; exact ⟨h, h2, h3⟩
theorem pr_mark {r : Int32} {l : Int32} {v : Int32} (hG : GOK G) (hA : adOK ad) (hB : Bn G τ ω ε σ κ Md) : Pr G (2, 410) MX11_mark MX12_mark [.int r, .int l, .int v] τ ad σ κ Md := by
  have hB0 := Bn_E (Eqv_0 (v := 0)) hB
  have hi := hB0.1.1
  have hc0 := hB0.1.2.1
  obtain ⟨⟨hLP, hLF, hLB, hMB, hTB⟩, ⟨hRO, hRD, hCd⟩, hPO, hMk, hBy, hQB, hPp, hHo⟩ := hB0.2.1
  have hLe := hB0.2.2.2
  obtain ⟨hSX, hRL, hTL, hTh, hZH, mi, hZM⟩ := hG
  obtain ⟨k1, k2⟩ := K_mark (r := r) (l := l) (v := v) hc0 hB0.2.1
  obtain ⟨n1, n2, n3⟩ := N_mark (r := r) (l := l) (v := v) hB0.1.2.2.2 hB0.2.2.1 hB0.2.2.2
  exact ⟨aMark (seti σ 0 0) r l v, nMark (seti σ 0 0) r l v, fun Q hq => c_X11_mark hB0.1 hZM (fun Md' ω' ε' hD => hq _ _ _ _ ⟨⟨hi, k1, hD, n1⟩, k2, n2, n3⟩), fun Q hq => c_X12_mark hA rfl hc0 (hq _ Eqv.rf)⟩
theorem N_question {a b : Int32} (h : Kap σ κ) (h2 : Pln σ κ) (h3 : LetOK σ) : Kap (nQuest σ a b) κ ∧ Pln (nQuest σ a b) κ ∧ LetOK (nQuest σ a b) := by
  unfold nQuest
  by_cases hp : pQuest σ a b
  · rw [cI_t hp]
    exact ⟨h, Pln_c (σ := σ) rfl rfl rfl rfl rfl rfl h2, h3⟩
  · rw [cI_f hp]; exact ⟨h, h2, h3⟩
theorem pr_question {a : Int32} {b : Int32} (hG : GOK G) (hA : adOK ad) (hB : Bn G τ ω ε σ κ Md) : Pr G (2, 410) MX11_question MX12_question [.int a, .int b] τ ad σ κ Md := by
  have hB0 := Bn_E (Eqv_0 (v := 0)) hB
  have hi := hB0.1.1
  have hc0 := hB0.1.2.1
  obtain ⟨⟨hLP, hLF, hLB, hMB, hTB⟩, ⟨hRO, hRD, hCd⟩, hPO, hMk, hBy, hQB, hPp, hHo⟩ := hB0.2.1
  have hLe := hB0.2.2.2
  obtain ⟨hSX, hRL, hTL, hTh, hZH, mi, hZM⟩ := hG
  obtain ⟨k1, k2⟩ := K_quest (a := a) (b := b) hc0 hB0.2.1
  obtain ⟨n1, n2, n3⟩ := N_question (a := a) (b := b) hB0.1.2.2.2 hB0.2.2.1 hB0.2.2.2
  exact ⟨aQuest (seti σ 0 0) a b, nQuest (seti σ 0 0) a b, fun Q hq => c_X11_question hB0.1 hZM (fun Md' ω' ε' hD => hq _ _ _ _ ⟨⟨hi, k1, hD, n1⟩, k2, n2, n3⟩), fun Q hq => c_X12_question hA rfl hc0 (hq _ Eqv.rf)⟩
theorem fr_days {n : Int32} : (∀ k, k ≠ 1 → (nDays σ n).1 k = σ.1 k) ∧ (nDays σ n).2 = σ.2 := by
  unfold nDays
  by_cases hp : pDays σ n
  · rw [cI_t hp]; exact ⟨fun k hk => updB_ne hk, rfl⟩
  · rw [cI_f hp]; exact ⟨fun _ _ => rfl, rfl⟩
theorem fr_land {a b c : Int32} : (nLand σ a b c).1 = σ.1 ∧ ∀ r, r ≠ 50 → (nLand σ a b c).2 r = σ.2 r := by
  unfold nLand
  by_cases hp : pLand a b c
  · rw [cI_t hp]; exact ⟨rfl, fun r hr => seta_ne hr⟩
  · rw [cI_f hp]; exact ⟨rfl, fun _ _ => rfl⟩
theorem fr_end {n : Int32} : (∀ k, k ≠ 24 → (nEnd σ n).1 k = σ.1 k) ∧ (nEnd σ n).2 = σ.2 := by
  unfold nEnd
  by_cases hp : pEnd σ n
  · rw [cI_t hp]; exact ⟨fun k hk => updB_ne hk, rfl⟩
  · rw [cI_f hp]; exact ⟨fun _ _ => rfl, rfl⟩
theorem fr_rule {fr : Int32} : (∀ k, k ≠ 24 → k ≠ 25 → (nRule σ fr).1 k = σ.1 k) ∧ ∀ r, r ≠ 19 → r ≠ 20 → r ≠ 21 → r ≠ 22 → (nRule σ fr).2 r = σ.2 r := by
  unfold nRule
  by_cases hp : pRuleT σ fr
  · rw [cI_t hp]; exact ⟨fun k => oRule_1, fun r => oRule_2⟩
  · rw [cI_f hp]; exact ⟨fun _ _ _ => rfl, fun _ _ _ _ _ => rfl⟩
theorem fr_watch {a b : Int32} : (∀ k, k ≠ 59 → (nWatch σ a b).1 k = σ.1 k) ∧ ∀ r, r ≠ 53 → r ≠ 54 → (nWatch σ a b).2 r = σ.2 r := by
  unfold nWatch
  by_cases hp : pWatch σ a b
  · rw [cI_t hp]; exact ⟨fun k hk => updB_ne hk, fun r h1 h2 => (seta_ne h2).trans (seta_ne h1)⟩
  · rw [cI_f hp]; exact ⟨fun _ _ => rfl, fun _ _ _ => rfl⟩
theorem fr_want {a b : Int32} : (∀ k, k ≠ 60 → (nWant σ a b).1 k = σ.1 k) ∧ ∀ r, r ≠ 55 → r ≠ 56 → (nWant σ a b).2 r = σ.2 r := by
  unfold nWant
  by_cases hp : pWant σ a b
  · rw [cI_t hp]; exact ⟨fun k hk => updB_ne hk, fun r h1 h2 => (seta_ne h2).trans (seta_ne h1)⟩
  · rw [cI_f hp]; exact ⟨fun _ _ => rfl, fun _ _ _ => rfl⟩
theorem Let_of (h : σ'.2 23 = σ.2 23) (h3 : LetOK σ) : LetOK σ' := fun c hc => by rw [h]; exact h3 c hc
theorem Kap_of (hK : Kap σ κ) (s1 : κ'.1 0 = σ'.1 1) (hT : Tp σ' κ') (s5 : σ'.1 59 = σ.1 59) (s6 : σ'.1 60 = σ.1 60) (s53 : σ'.2 53 = σ.2 53) (s54 : σ'.2 54 = σ.2 54) (s55 : σ'.2 55 = σ.2 55) (s56 : σ'.2 56 = σ.2 56) (s50 : σ'.2 50 = σ.2 50) (k92 : κ'.1 92 = κ.1 92) (k95 : κ'.1 95 = κ.1 95) (k20 : κ'.2 20 = κ.2 20) (k21 : κ'.2 21 = κ.2 21) (k22 : κ'.2 22 = κ.2 22) (k23 : κ'.2 23 = κ.2 23) (k3 : ∀ p, p < 8 → κ'.2 (30 + p) = κ.2 (30 + p)) : Kap σ' κ' := by
  obtain ⟨-, -, -, ⟨t1, t2, t3, t4⟩, k5⟩ := hK
  refine ⟨s1, hT.1, hT.2, ⟨?_, ?_, ?_, ?_⟩, ?_⟩
  · rw [s5, k92]; exact t1
  · rw [s6, k95]; exact t2
  · unfold cn; rw [s5, s53, s54, k20, k21]; exact t3
  · unfold cn; rw [s6, s55, s56, k22, k23]; exact t4
  · intro p s hp hs
    rw [s50, k3 p hp]; exact k5 p s hp hs
theorem pr_days {n : Int32} (hG : GOK G) (hA : adOK ad) (hB : Bn G τ ω ε σ κ Md) : Pr G (0, 0) MX11_days MX12_days [.int n] τ ad σ κ Md := by
  have hB0 := Bn_E (Eqv_0 (v := 0)) hB
  have hi := hB0.1.1
  have hc0 := hB0.1.2.1
  obtain ⟨⟨hLP, hLF, hLB, hMB, hTB⟩, ⟨hRO, hRD, hCd⟩, hPO, hMk, hBy, hQB, hPp, hHo⟩ := hB0.2.1
  have hLe := hB0.2.2.2
  obtain ⟨hSX, hRL, hTL, hTh, hZH, mi, hZM⟩ := hG
  obtain ⟨k1, k2⟩ := K_days (n := n) hc0 hB0.2.1
  obtain ⟨f1, f2⟩ := fr_days (σ := (seti σ 0 0)) (n := n)
  refine ⟨aDays (seti σ 0 0) n, nDays (seti σ 0 0) n, fun Q hq => c_X11_days hB0.1 (fun κ' h1 h2 h3 => hq _ _ _ _ ⟨⟨hi, k1, Dyn_E (fun k hk => f1 k ((by decide : ∀ k ∈ dI, k ≠ 1) k hk)) (fun r _ => congrFun f2 r) hB0.1.2.2.1, ?_⟩, k2, ?_, Let_of (congrFun f2 23) hLe⟩), fun Q hq => c_X12_days rfl (hq _ Eqv.rf)⟩
  · refine Kap_of hB0.1.2.2.2 h1 ?_ (f1 59 (by decide)) (f1 60 (by decide)) (congrFun f2 53) (congrFun f2 54) (congrFun f2 55) (congrFun f2 56) (congrFun f2 50) (h2 92 (by decide)) (h2 95 (by decide)) (by rw [h3]) (by rw [h3]) (by rw [h3]) (by rw [h3]) (fun p _ => by rw [h3])
    refine ⟨by rw [h2 81 (by decide), f1 24 (by decide)]; exact hB0.1.2.2.2.2.1, fun i hi => ?_⟩
    rw [h3, f2]
    exact hB0.1.2.2.2.2.2.1 i (by unfold cn at hi; rw [f1 24 (by decide)] at hi; exact hi)
  · exact Pln_k (κ := κ) (h2 98 (by decide)) (by rw [h3]) (by rw [h3]) (Pln_c (f1 59 (by decide)) (f1 60 (by decide)) (congrFun f2 53) (congrFun f2 54) (congrFun f2 55) (congrFun f2 56) hB0.2.2.1)
theorem pr_land {a : Int32} {b : Int32} {c : Int32} (hG : GOK G) (hA : adOK ad) (hB : Bn G τ ω ε σ κ Md) : Pr G (0, 0) MX11_land MX12_land [.int a, .int b, .int c] τ ad σ κ Md := by
  have hB0 := Bn_E (Eqv_0 (v := 0)) hB
  have hi := hB0.1.1
  have hc0 := hB0.1.2.1
  obtain ⟨⟨hLP, hLF, hLB, hMB, hTB⟩, ⟨hRO, hRD, hCd⟩, hPO, hMk, hBy, hQB, hPp, hHo⟩ := hB0.2.1
  have hLe := hB0.2.2.2
  obtain ⟨hSX, hRL, hTL, hTh, hZH, mi, hZM⟩ := hG
  obtain ⟨k1, k2⟩ := K_land (a := a) (b := b) (c := c) hc0 hB0.2.1
  obtain ⟨f1, f2⟩ := fr_land (σ := (seti σ 0 0)) (a := a) (b := b) (c := c)
  refine ⟨aLand a b c, nLand (seti σ 0 0) a b c, fun Q hq => c_X11_land hB0.1 (fun κ' h1 h2 h3 => hq _ _ _ _ ⟨⟨hi, k1, Dyn_E (fun k _ => congrFun f1 k) (fun r hr => f2 r ((by decide : ∀ k ∈ dA, k ≠ 50) r hr)) hB0.1.2.2.1, h1⟩, k2, ?_, Let_of (f2 23 (by decide)) hLe⟩), fun Q hq => c_X12_land hA rfl (hq _ Eqv.rf)⟩
  exact Pln_k (κ := κ) (by rw [h3]) (h2 24 (Or.inl (by decide))) (h2 25 (Or.inl (by decide))) (Pln_c (congrFun f1 59) (congrFun f1 60) (f2 53 (by decide)) (f2 54 (by decide)) (f2 55 (by decide)) (f2 56 (by decide)) hB0.2.2.1)
theorem pr_feed {a : Int32} {b : Int32} {c : Int32} {e : Int32} {f : Int32} (hG : GOK G) (hA : adOK ad) (hB : Bn G τ ω ε σ κ Md) : Pr G (0, 0) MX11_feed MX12_feed [.int a, .int b, .int c, .int e, .int f] τ ad σ κ Md := by
  have hB0 := Bn_E (Eqv_0 (v := 0)) hB
  have hi := hB0.1.1
  have hc0 := hB0.1.2.1
  obtain ⟨⟨hLP, hLF, hLB, hMB, hTB⟩, ⟨hRO, hRD, hCd⟩, hPO, hMk, hBy, hQB, hPp, hHo⟩ := hB0.2.1
  have hLe := hB0.2.2.2
  obtain ⟨hSX, hRL, hTL, hTh, hZH, mi, hZM⟩ := hG
  obtain ⟨k1, k2⟩ := K_feed (a := a) (b := b) (c := c) (e := e) (f := f) hc0 hB0.2.1
  obtain ⟨f1, f2⟩ := fed_of (seti σ 0 0) a b c e f
  refine ⟨aFeed (seti σ 0 0) a b c e f, nFeed (seti σ 0 0) a b c e f, fun Q hq => c_X11_feed hi hc0 ⟨hB0.1.2.2.2.2.1, hB0.1.2.2.2.2.2.1⟩ (fun κ' h1 h2 => hq _ _ _ _ ⟨⟨hi, k1, Dyn_E (fun k hk => f1 k ((by decide : ∀ k ∈ dI, k ≠ 24) k hk)) (fun r hr => f2 r ((by decide : ∀ k ∈ dA, k ≠ 18) r hr)) hB0.1.2.2.1, Kap_KF h1 f1 f2 h2 hB0.1.2.2.2⟩, k2, ?_, Let_of (f2 23 (by decide)) hLe⟩), fun Q hq => c_X12_feed hA rfl hc0 (hq _ Eqv.rf)⟩
  exact Pln_k (κ := κ) (h1.1 98 (by decide)) (h1.2 24 (by decide)) (h1.2 25 (by decide)) (Pln_c (f1 59 (by decide)) (f1 60 (by decide)) (f2 53 (by decide)) (f2 54 (by decide)) (f2 55 (by decide)) (f2 56 (by decide)) hB0.2.2.1)
theorem pr_end {n : Int32} (hG : GOK G) (hA : adOK ad) (hB : Bn G τ ω ε σ κ Md) : Pr G (0, 0) MX11_end MX12_end [.int n] τ ad σ κ Md := by
  have hB0 := Bn_E (Eqv_0 (v := 0)) hB
  have hi := hB0.1.1
  have hc0 := hB0.1.2.1
  obtain ⟨⟨hLP, hLF, hLB, hMB, hTB⟩, ⟨hRO, hRD, hCd⟩, hPO, hMk, hBy, hQB, hPp, hHo⟩ := hB0.2.1
  have hLe := hB0.2.2.2
  obtain ⟨hSX, hRL, hTL, hTh, hZH, mi, hZM⟩ := hG
  obtain ⟨k1, k2⟩ := K_end (n := n) hc0 hB0.2.1
  obtain ⟨f1, f2⟩ := fr_end (σ := (seti σ 0 0)) (n := n)
  refine ⟨aEnd (seti σ 0 0) n, nEnd (seti σ 0 0) n, fun Q hq => c_X11_end hi hc0 ⟨hB0.1.2.2.2.2.1, hB0.1.2.2.2.2.2.1⟩ (fun κ' h1 h2 => hq _ _ _ _ ⟨⟨hi, k1, Dyn_E (fun k hk => f1 k ((by decide : ∀ k ∈ dI, k ≠ 24) k hk)) (fun r hr => congrFun f2 r) hB0.1.2.2.1, Kap_KF h1 f1 (fun r _ => congrFun f2 r) h2 hB0.1.2.2.2⟩, k2, ?_, Let_of (congrFun f2 23) hLe⟩), fun Q hq => c_X12_end rfl (hq _ Eqv.rf)⟩
  exact Pln_k (κ := κ) (h1.1 98 (by decide)) (h1.2 24 (by decide)) (h1.2 25 (by decide)) (Pln_c (f1 59 (by decide)) (f1 60 (by decide)) (congrFun f2 53) (congrFun f2 54) (congrFun f2 55) (congrFun f2 56) hB0.2.2.1)
theorem pr_rule {fr : Int32} (hG : GOK G) (hA : adOK ad) (hB : Bn G τ ω ε σ κ Md) : Pr G (3, 810) MX11_rule MX12_rule [.int fr] τ ad σ κ Md := by
  have hB0 := Bn_E (Eqv_0 (v := 0)) hB
  have hi := hB0.1.1
  have hc0 := hB0.1.2.1
  obtain ⟨⟨hLP, hLF, hLB, hMB, hTB⟩, ⟨hRO, hRD, hCd⟩, hPO, hMk, hBy, hQB, hPp, hHo⟩ := hB0.2.1
  have hLe := hB0.2.2.2
  obtain ⟨hSX, hRL, hTL, hTh, hZH, mi, hZM⟩ := hG
  obtain ⟨k1, k2⟩ := K_rule (fr := fr) hc0 hB0.2.1
  obtain ⟨f1, f2⟩ := fr_rule (σ := (seti σ 0 0)) (fr := fr)
  have hR : ∀ r, r < cn (seti σ 0 0) 25 → ((seti σ 0 0).2 20 r).toNatClampNeg ≤ 160 := fun r hr => by
    obtain ⟨n, q, cs, h1, h2, -⟩ := hRO r hr
    rw [h1, nI_clamp (by omega)]; exact h2
  refine ⟨aRule (seti σ 0 0) fr, nRule (seti σ 0 0) fr, fun Q hq => c_X11_rule hB0.1 hTL hBy hZM hR (fun κ' Md' ω' ε' h1 h2 h3 => hq _ _ _ _ ⟨⟨hi, k1, h3, ?_⟩, k2, ?_, Let_of (f2 23 (by decide) (by decide) (by decide) (by decide)) hLe⟩), fun Q hq => c_X12_rule hA rfl hc0 hSX hLe hBy (fun σ' hs => hq _ (Eqv_s hs))⟩
  · exact Kap_of hB0.1.2.2.2 (by rw [h1.1 0 (by decide) (by decide) (by decide), f1 1 (by decide) (by decide)]; exact hB0.1.2.2.2.1) h2 (f1 59 (by decide) (by decide)) (f1 60 (by decide) (by decide)) (f2 53 (by decide) (by decide) (by decide) (by decide)) (f2 54 (by decide) (by decide) (by decide) (by decide)) (f2 55 (by decide) (by decide) (by decide) (by decide)) (f2 56 (by decide) (by decide) (by decide) (by decide)) (f2 50 (by decide) (by decide) (by decide) (by decide)) (h1.1 92 (by decide) (by decide) (by decide)) (h1.1 95 (by decide) (by decide) (by decide)) (h1.2 20 (by decide) (by decide)) (h1.2 21 (by decide) (by decide)) (h1.2 22 (by decide) (by decide)) (h1.2 23 (by decide) (by decide)) (fun p _ => h1.2 (30 + p) (by omega) (by omega))
  · exact Pln_k (κ := κ) (h1.1 98 (by decide) (by decide) (by decide)) (h1.2 24 (by decide) (by decide)) (h1.2 25 (by decide) (by decide)) (Pln_c (f1 59 (by decide) (by decide)) (f1 60 (by decide) (by decide)) (f2 53 (by decide) (by decide) (by decide) (by decide)) (f2 54 (by decide) (by decide) (by decide) (by decide)) (f2 55 (by decide) (by decide) (by decide) (by decide)) (f2 56 (by decide) (by decide) (by decide) (by decide)) hB0.2.2.1)
theorem pr_watcher {a : Int32} {b : Int32} (hG : GOK G) (hA : adOK ad) (hB : Bn G τ ω ε σ κ Md) : Pr G (0, 0) MX11_watcher MX12_watcher [.int a, .int b] τ ad σ κ Md := by
  have hB0 := Bn_E (Eqv_0 (v := 0)) hB
  have hi := hB0.1.1
  have hc0 := hB0.1.2.1
  obtain ⟨⟨hLP, hLF, hLB, hMB, hTB⟩, ⟨hRO, hRD, hCd⟩, hPO, hMk, hBy, hQB, hPp, hHo⟩ := hB0.2.1
  have hLe := hB0.2.2.2
  obtain ⟨hSX, hRL, hTL, hTh, hZH, mi, hZM⟩ := hG
  have h8 := (hc0.b 60 (b := 8) (by decide)).2
  obtain ⟨k1, k2⟩ := K_watch (a := a) (b := b) hc0 hB0.2.1
  obtain ⟨f1, f2⟩ := fr_watch (σ := (seti σ 0 0)) (a := a) (b := b)
  refine ⟨aWatch (seti σ 0 0) a b, nWatch (seti σ 0 0) a b, fun Q hq => ?_, fun Q hq => c_X12_watcher hA rfl hc0 (hq _ Eqv.rf)⟩
  have e : (100 : Nat) = (94 - cn (seti σ 0 0) 60) + cn (seti σ 0 0) 60 + 6 := by omega
  rw [e]
  refine c_X11_watcher hi hc0 hB0.1.2.2.2.2.2.2.1 hHo hB0.2.2.1 (fun κ' h1 h2 h3 => hq _ _ _ _ ⟨⟨hi, k1, Dyn_E (fun k hk => f1 k ((by decide : ∀ k ∈ dI, k ≠ 59) k hk)) (fun r hr => f2 r ((by decide : ∀ k ∈ dA, k ≠ 53) r hr) ((by decide : ∀ k ∈ dA, k ≠ 54) r hr)) hB0.1.2.2.1, ?_⟩, k2, h3, Let_of (f2 23 (by decide) (by decide)) hLe⟩)
  obtain ⟨c1, c2, c3, -, c5⟩ := hB0.1.2.2.2
  refine ⟨?_, ?_, fun i hi => ?_, h2, fun p s hp hs => ?_⟩
  · rw [h1.1 0 (by decide) (by decide) (by decide), f1 1 (by decide)]; exact c1
  · rw [h1.1 81 (by decide) (by decide) (by decide), f1 24 (by decide)]; exact c2
  · rw [h1.2 17 (Or.inl (by decide)), f2 18 (by decide) (by decide)]
    exact c3 i (by unfold cn at hi; rw [f1 24 (by decide)] at hi; exact hi)
  · rw [h1.2 (30 + p) (Or.inr (by omega)), f2 50 (by decide) (by decide)]; exact c5 p s hp hs
theorem pr_want {a : Int32} {b : Int32} (hG : GOK G) (hA : adOK ad) (hB : Bn G τ ω ε σ κ Md) : Pr G (0, 0) MX11_want MX12_want [.int a, .int b] τ ad σ κ Md := by
  have hB0 := Bn_E (Eqv_0 (v := 0)) hB
  have hi := hB0.1.1
  have hc0 := hB0.1.2.1
  obtain ⟨⟨hLP, hLF, hLB, hMB, hTB⟩, ⟨hRO, hRD, hCd⟩, hPO, hMk, hBy, hQB, hPp, hHo⟩ := hB0.2.1
  have hLe := hB0.2.2.2
  obtain ⟨hSX, hRL, hTL, hTh, hZH, mi, hZM⟩ := hG
  have h8 := (hc0.b 60 (b := 8) (by decide)).2
  obtain ⟨k1, k2⟩ := K_want (a := a) (b := b) hc0 hB0.2.1
  obtain ⟨f1, f2⟩ := fr_want (σ := (seti σ 0 0)) (a := a) (b := b)
  refine ⟨aWant (seti σ 0 0) a b, nWant (seti σ 0 0) a b, fun Q hq => ?_, fun Q hq => c_X12_want hA rfl hc0 (hq _ Eqv.rf)⟩
  have e : (100 : Nat) = (93 - cn (seti σ 0 0) 60) + (cn (seti σ 0 0) 60 + 1) + 6 := by omega
  rw [e]
  refine c_X11_want hi hc0 hB0.1.2.2.2.2.2.2.1 hHo hB0.2.2.1 (fun κ' h1 h2 h3 => hq _ _ _ _ ⟨⟨hi, k1, Dyn_E (fun k hk => f1 k ((by decide : ∀ k ∈ dI, k ≠ 60) k hk)) (fun r hr => f2 r ((by decide : ∀ k ∈ dA, k ≠ 55) r hr) ((by decide : ∀ k ∈ dA, k ≠ 56) r hr)) hB0.1.2.2.1, ?_⟩, k2, h3, Let_of (f2 23 (by decide) (by decide)) hLe⟩)
  obtain ⟨c1, c2, c3, -, c5⟩ := hB0.1.2.2.2
  refine ⟨?_, ?_, fun i hi => ?_, h2, fun p s hp hs => ?_⟩
  · rw [h1.1 0 (by decide) (by decide) (by decide), f1 1 (by decide)]; exact c1
  · rw [h1.1 81 (by decide) (by decide) (by decide), f1 24 (by decide)]; exact c2
  · rw [h1.2 17 (Or.inl (by decide)), f2 18 (by decide) (by decide)]
    exact c3 i (by unfold cn at hi; rw [f1 24 (by decide)] at hi; exact hi)
  · rw [h1.2 (30 + p) (Or.inr (by omega)), f2 50 (by decide) (by decide)]; exact c5 p s hp hs
end PRS
