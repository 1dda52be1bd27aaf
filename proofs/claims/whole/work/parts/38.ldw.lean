/-! a literal by its wide entry -/
section LDW
variable {G : Gam} {d : Nat} {k : Nat × Nat} {Y : MR} {M : Mem} {lv : Lv} {st : List Value} {pc : Nat} {Q : Option Value → Mem → Prop}
theorem x_ldcwS {idx a : Nat} {tx : String} (hd : decode Y.2.1 pc = .ok (.ldc_w idx, 3)) (hR : vk_R Y.1.cls idx tx a G.2.1) (kk : XJ G d k Y M lv (.ref a :: st) (pc + 3) Q) : XJ G d k Y M lv st pc Q := by
  intro p e R s m args below meth c H locs cells slots A ls hC hH hl
  have hR2 := vk_R.warm hC.2.2.2.2.2.2.2.2.1 hR
  have hown := hC.2.2.2.2.2.1
  have hexec := hC.2.1
  have hb := hC.2.2.1
  intro T hT X
  obtain ⟨t, a1, b1⟩ := kk p e R s m args below meth c H locs cells slots A ls hC hH hl T hT X
  refine ⟨t, ?_, b1⟩
  obtain ⟨q, cf, i, a', hk, hcf, hcp, -, hr, hev'⟩ := Cond.stringRef_spec hown hR2.1
  cases hR2.2.symm.trans hev'
  obtain ⟨q', hk', he⟩ := X.warmed.alike.2.2 _ _ hk
  have hr' : q'.resolved[idx]? = some (some (.string a)) := by
    rcases X.warmed.entry hk hk' idx with h | ⟨h, -⟩
    · rw [h]; exact hr
    · rw [hr] at h; cases h
  have hdg : decode c.code pc = .ok (.ldc_w idx, 3) := by rw [hb]; exact hd
  jvm_step X.here [hexec, hdg, ldc_w.wp_string (e := e) (s := T) (f := F0 m pc ls st) X.here.top hk' (by rw [he]; exact hcf) hcp hr']
  exact a1
end LDW
