/-! ===== bits ===== -/
theorem zo_i (x : Int32) : Int32.ofInt x.toInt = x := Int32.ofInt_toInt x
theorem zb_or (x y c : Int32) : (x ||| y) &&& c = (x &&& c) ||| (y &&& c) := by
  apply Int32.toBitVec_inj.mp
  simp only [Int32.toBitVec_and, Int32.toBitVec_or]
  ext i hi
  simp [Bool.and_or_distrib_right]
theorem zb_and (x y c : Int32) : (x &&& y) &&& c = x &&& (y &&& c) := by
  apply Int32.toBitVec_inj.mp
  simp only [Int32.toBitVec_and]
  ext i hi
  simp [Bool.and_assoc]
theorem zand_or (x y : Int) : zand (zor x y) 31 = zor (zand x 31) (zand y 31) := by
  unfold zand zor
  rw [zo_i, zo_i, zo_i, zb_or]
theorem zand_and (x y : Int) : zand (zand x y) 31 = zand x (zand y 31) := by
  unfold zand
  rw [zo_i, zo_i, zb_and]
theorem zand_0 (x : Int) : zand x 0 = 0 := by
  unfold zand
  have : Int32.ofInt x &&& Int32.ofInt 0 = 0 := by
    apply Int32.toBitVec_inj.mp
    simp
  rw [this]
  rfl
theorem zor_0 {x : Int} (h : -2147483648 ≤ x ∧ x ≤ 2147483647) : zor x 0 = x := by
  unfold zor
  have : Int32.ofInt x ||| Int32.ofInt 0 = Int32.ofInt x := by
    apply Int32.toBitVec_inj.mp
    simp
  rw [this, zto h]
theorem z0_or {x : Int} (h : -2147483648 ≤ x ∧ x ≤ 2147483647) : zor 0 x = x := by
  unfold zor
  have : Int32.ofInt 0 ||| Int32.ofInt x = Int32.ofInt x := by
    apply Int32.toBitVec_inj.mp
    simp
  rw [this, zto h]
theorem zand_31 {x : Int} (h : 0 ≤ x ∧ x ≤ 31) : zand x 31 = x := by
  have e : zand x 31 = ((Int32.ofInt x).toBitVec &&& (Int32.ofInt 31).toBitVec).toInt := rfl
  have hx : (Int32.ofInt x).toBitVec.toInt = x := zto ⟨by omega, by omega⟩
  have hm : (Int32.ofInt x).toBitVec.msb = false := by
    rw [BitVec.msb_eq_toInt, hx]
    simp
    omega
  have hm2 : ((Int32.ofInt x).toBitVec &&& (Int32.ofInt 31).toBitVec).msb = false := by
    rw [BitVec.msb_and, hm, Bool.false_and]
  rw [e, BitVec.toInt_eq_toNat_of_msb hm2, BitVec.toNat_and]
  rw [BitVec.toInt_eq_toNat_of_msb hm] at hx
  have h31 : (Int32.ofInt 31).toBitVec.toNat = 31 := by decide
  rw [h31, show (31 : Nat) = 2 ^ 5 - 1 by decide, Nat.and_two_pow_sub_one_eq_mod]
  omega
theorem z31_bit {i : Nat} (hi : i < 32) (h : 5 ≤ i) : (Int32.ofInt 31).toBitVec[i] = false := by
  have e : (Int32.ofInt 31).toBitVec = 31#32 := by decide
  rw [e, BitVec.getElem_eq_testBit_toNat]
  exact Nat.testBit_lt_two_pow (Nat.lt_of_lt_of_le (by decide : 31 < 2 ^ 5) (Nat.pow_le_pow_right (by decide) h))
theorem zand_shl5 (x : Int) : zand (zshl x 5) 31 = 0 := by
  unfold zand zshl
  rw [zo_i]
  have e : (Int32.ofInt x <<< (Int32.ofInt 5 &&& 31)) &&& Int32.ofInt 31 = 0 := by
    apply Int32.toBitVec_inj.mp
    rw [Int32.toBitVec_and, Int32.toBitVec_shiftLeft]
    have e2 : ((Int32.ofInt 5 &&& 31).toBitVec.smod 32#32) = 5#32 := by decide
    have e3 : (Int32.ofInt x).toBitVec <<< ((Int32.ofInt 5 &&& 31).toBitVec.smod 32#32) = (Int32.ofInt x).toBitVec <<< 5 := by rw [e2]; rfl
    refine Eq.trans (congrArg (fun z => z &&& (Int32.ofInt 31).toBitVec) e3) ?_
    ext i hi
    simp only [BitVec.getElem_and, BitVec.getElem_shiftLeft]
    by_cases h : i < 5
    · simp [h]
    · rw [z31_bit hi (by omega)]
      simp
  rw [e]
  rfl
theorem zand_shl8 (x : Int) : zand (zshl x 8) 31 = 0 := by
  unfold zand zshl
  rw [zo_i]
  have e : (Int32.ofInt x <<< (Int32.ofInt 8 &&& 31)) &&& Int32.ofInt 31 = 0 := by
    apply Int32.toBitVec_inj.mp
    rw [Int32.toBitVec_and, Int32.toBitVec_shiftLeft]
    have e2 : ((Int32.ofInt 8 &&& 31).toBitVec.smod 32#32) = 8#32 := by decide
    have e3 : (Int32.ofInt x).toBitVec <<< ((Int32.ofInt 8 &&& 31).toBitVec.smod 32#32) = (Int32.ofInt x).toBitVec <<< 8 := by rw [e2]; rfl
    refine Eq.trans (congrArg (fun z => z &&& (Int32.ofInt 31).toBitVec) e3) ?_
    ext i hi
    simp only [BitVec.getElem_and, BitVec.getElem_shiftLeft]
    by_cases h : i < 8
    · simp [h]
    · rw [z31_bit hi (by omega)]
      simp
  rw [e]
  rfl
theorem zand_shl17 (x : Int) : zand (zshl x 17) 31 = 0 := by
  unfold zand zshl
  rw [zo_i]
  have e : (Int32.ofInt x <<< (Int32.ofInt 17 &&& 31)) &&& Int32.ofInt 31 = 0 := by
    apply Int32.toBitVec_inj.mp
    rw [Int32.toBitVec_and, Int32.toBitVec_shiftLeft]
    have e2 : ((Int32.ofInt 17 &&& 31).toBitVec.smod 32#32) = 17#32 := by decide
    have e3 : (Int32.ofInt x).toBitVec <<< ((Int32.ofInt 17 &&& 31).toBitVec.smod 32#32) = (Int32.ofInt x).toBitVec <<< 17 := by rw [e2]; rfl
    refine Eq.trans (congrArg (fun z => z &&& (Int32.ofInt 31).toBitVec) e3) ?_
    ext i hi
    simp only [BitVec.getElem_and, BitVec.getElem_shiftLeft]
    by_cases h : i < 17
    · simp [h]
    · rw [z31_bit hi (by omega)]
      simp
  rw [e]
  rfl
theorem zand_shl20 (x : Int) : zand (zshl x 20) 31 = 0 := by
  unfold zand zshl
  rw [zo_i]
  have e : (Int32.ofInt x <<< (Int32.ofInt 20 &&& 31)) &&& Int32.ofInt 31 = 0 := by
    apply Int32.toBitVec_inj.mp
    rw [Int32.toBitVec_and, Int32.toBitVec_shiftLeft]
    have e2 : ((Int32.ofInt 20 &&& 31).toBitVec.smod 32#32) = 20#32 := by decide
    have e3 : (Int32.ofInt x).toBitVec <<< ((Int32.ofInt 20 &&& 31).toBitVec.smod 32#32) = (Int32.ofInt x).toBitVec <<< 20 := by rw [e2]; rfl
    refine Eq.trans (congrArg (fun z => z &&& (Int32.ofInt 31).toBitVec) e3) ?_
    ext i hi
    simp only [BitVec.getElem_and, BitVec.getElem_shiftLeft]
    by_cases h : i < 20
    · simp [h]
    · rw [z31_bit hi (by omega)]
      simp
  rw [e]
  rfl
theorem zl_shape {k len : Int} (h : 0 ≤ len ∧ len ≤ 31) : zand (zor (zshl k 5) len) 31 = len := by
  rw [zand_or, zand_shl5, zand_31 h, z0_or ⟨by omega, by omega⟩]
theorem zl_from (look org : Int) : zand (zor (zand look 255) (zand org (-256))) 31 = zand look 31 := by
  have h := zr_and look 31
  rw [zand_or, zand_and, zand_and, show zand 255 31 = 31 by decide, show zand (-256) 31 = 0 by decide, zand_0, zor_0 h]
theorem zl_blank (look org : Int) : zand (zor (zand look (-129)) (zand org 128)) 31 = zand look 31 := by
  have h := zr_and look 31
  rw [zand_or, zand_and, zand_and, show zand (-129) 31 = 31 by decide, show zand 128 31 = 0 by decide, zand_0, zor_0 h]
theorem zl_paste (l sh : Int) : zand (zor (zand l (-128)) sh) 31 = zand sh 31 := by
  have h := zr_and sh 31
  rw [zand_or, zand_and, show zand (-128) 31 = 0 by decide, zand_0, z0_or h]
theorem zl_orig (a b c : Int) : zand (zor (zor (zshl a 8) (zshl b 17)) (zshl c 20)) 31 = 0 := by
  rw [zand_or, zand_or, zand_shl8, zand_shl17, zand_shl20, z0_or ⟨by omega, by omega⟩, z0_or ⟨by omega, by omega⟩]
theorem zl_or {o sh : Int} (h : zand o 31 = 0) : zand (zor o sh) 31 = zand sh 31 := by
  have h2 := zr_and sh 31
  rw [zand_or, h, z0_or h2]
theorem zl_128 (x : Int) : zand (zor x 128) 31 = zand x 31 := by
  have h := zr_and x 31
  rw [zand_or, show zand 128 31 = 0 by decide, zor_0 h]
theorem zshl1 {k : Int} (h : 0 ≤ k ∧ k ≤ 3) : 1 ≤ zshl 1 k ∧ zshl 1 k ≤ 8 := by
  have : k = 0 ∨ k = 1 ∨ k = 2 ∨ k = 3 := by omega
  rcases this with rfl | rfl | rfl | rfl <;> decide
