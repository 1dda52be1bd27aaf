/-! the class, 19: the tape is fed -/
theorem and255 (a b : Int32) (h : ∀ j, j < 8 → a.toBitVec.getLsbD j = b.toBitVec.getLsbD j) : a &&& 255 = b &&& 255 := by
  rw [← Int32.toBitVec_inj, Int32.toBitVec_and, Int32.toBitVec_and]
  refine BitVec.eq_of_getLsbD_eq (fun j hj => ?_)
  rw [BitVec.getLsbD_and, BitVec.getLsbD_and]
  by_cases e : j < 8
  · rw [h j e]
  · have : (Int32.toBitVec 255).getLsbD j = false := by
      have : ∀ j, j < 32 → ¬ j < 8 → (Int32.toBitVec 255).getLsbD j = false := by decide
      exact this j hj e
    rw [this, Bool.and_false, Bool.and_false]
theorem by_u {v : Int32} {i : Nat} (h : i < 4) : (v.toUInt32 >>> ((nI (24 - 8 * i)).toUInt32 &&& Int32.toUInt32 31)).toInt32 &&& 255 = (v >>> ((nI (24 - 8 * i)) &&& 31)) &&& 255 := by
  refine and255 _ _ (fun j hj => ?_)
  have h4 : i = 0 ∨ i = 1 ∨ i = 2 ∨ i = 3 := by omega
  rw [Int32.toBitVec_shiftRight]
  show (v.toUInt32 >>> ((nI (24 - 8 * i)).toUInt32 &&& Int32.toUInt32 31)).toBitVec.getLsbD j = _
  rw [UInt32.toBitVec_shiftRight]
  rcases h4 with rfl | rfl | rfl | rfl
  · show (v.toBitVec >>> (24#32)).getLsbD j = (v.toBitVec.sshiftRight' (24#32)).getLsbD j
    rw [BitVec.ushiftRight_eq', BitVec.sshiftRight_eq', BitVec.getLsbD_ushiftRight, BitVec.getLsbD_sshiftRight, show decide (32 ≤ j) = false from decide_eq_false (by omega), if_pos (by show 24 + j < 32; omega)]
    rfl
  · show (v.toBitVec >>> (16#32)).getLsbD j = (v.toBitVec.sshiftRight' (16#32)).getLsbD j
    rw [BitVec.ushiftRight_eq', BitVec.sshiftRight_eq', BitVec.getLsbD_ushiftRight, BitVec.getLsbD_sshiftRight, show decide (32 ≤ j) = false from decide_eq_false (by omega), if_pos (by show 16 + j < 32; omega)]
    rfl
  · show (v.toBitVec >>> (8#32)).getLsbD j = (v.toBitVec.sshiftRight' (8#32)).getLsbD j
    rw [BitVec.ushiftRight_eq', BitVec.sshiftRight_eq', BitVec.getLsbD_ushiftRight, BitVec.getLsbD_sshiftRight, show decide (32 ≤ j) = false from decide_eq_false (by omega), if_pos (by show 8 + j < 32; omega)]
    rfl
  · show (v.toBitVec >>> (0#32)).getLsbD j = (v.toBitVec.sshiftRight' (0#32)).getLsbD j
    rw [BitVec.ushiftRight_eq', BitVec.sshiftRight_eq', BitVec.getLsbD_ushiftRight, BitVec.getLsbD_sshiftRight, show decide (32 ≤ j) = false from decide_eq_false (by omega), if_pos (by show 0 + j < 32; omega)]
    rfl
theorem by_c {x : Int32} (h0 : 0 ≤ x) (h1 : x ≤ 255) : ((x.toUInt32 % 65536).toInt32).toUInt32.toUInt16.toUInt32.toInt32 = x := by
  obtain ⟨n, hn, rfl⟩ := nI_of2 (M := 255) (n := 255) rfl (Int32.not_lt.mpr h0) h1
  have : ∀ n, n ≤ 255 → (((nI n).toUInt32 % 65536).toInt32).toUInt32.toUInt16.toUInt32.toInt32 = nI n := by
    have h : ∀ n, n < 256 → (((nI n).toUInt32 % 65536).toInt32).toUInt32.toUInt16.toUInt32.toInt32 = nI n := by decide +kernel
    exact fun n hn => h n (by omega)
  exact this n hn
theorem by_s (w : Int32) : ((w.toInt8.toInt32).toInt8.toInt32) &&& 255 = w &&& 255 := by
  refine and255 _ _ (fun j hj => ?_)
  have h32 : j < 32 := by omega
  simp only [Int8.toBitVec_toInt32, Int32.toBitVec_toInt8, BitVec.getLsbD_signExtend, BitVec.getLsbD_setWidth]
  simp [hj, h32, BitVec.getElem_signExtend]
theorem by_r (w : Int32) : 0 ≤ w &&& 255 ∧ w &&& 255 ≤ 255 := by
  have h : (w &&& 255).toBitVec.toNat ≤ 255 := by
    rw [Int32.toBitVec_and, BitVec.toNat_and]
    exact Nat.and_le_right
  have h2 : (w &&& 255).toInt = ((w &&& 255).toBitVec.toNat : Int) := by
    show (w &&& 255).toBitVec.toInt = _
    rw [BitVec.toInt_eq_toNat_cond, if_pos (by omega)]
  rw [Int32.le_iff_toInt_le, Int32.le_iff_toInt_le, h2]
  constructor
  · show (0 : Int) ≤ _; omega
  · show _ ≤ (255 : Int); omega
