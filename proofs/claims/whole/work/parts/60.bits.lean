theorem zb_k (x : Int64) (a : UInt64) (b : Int64) (k : Nat) (hk : k ≤ 56) (ha : (a.toBitVec % 64).toNat = k) (hb : (b.toBitVec.smod 64).toNat = k) : ((x.toUInt64 >>> a).toInt64.toInt32 &&& zI 255) = ((x >>> b) &&& 255).toInt32 := by
  apply Int32.toBitVec_inj.mp
  have h255 : (zI 255).toBitVec = 255#32 := by decide +kernel
  have h255' : (255 : Int64).toBitVec = 255#64 := by decide +kernel
  rw [Int32.toBitVec_and, Int64.toBitVec_toInt32, Int64.toBitVec_toInt32, Int64.toBitVec_and, Int64.toBitVec_shiftRight, h255, h255']
  show ((x.toUInt64 >>> a).toBitVec.signExtend 32) &&& 255#32 = _
  rw [UInt64.toBitVec_shiftRight]
  refine BitVec.eq_of_getLsbD_eq fun i hi => ?_
  have hm : (255#32).getLsbD i = decide (i < 8) := (by decide +kernel : ∀ i, i < 32 → (255#32).getLsbD i = decide (i < 8)) i hi
  have hm' : (255#64).getLsbD i = decide (i < 8) := (by decide +kernel : ∀ i, i < 32 → (255#64).getLsbD i = decide (i < 8)) i hi
  have hx : x.toUInt64.toBitVec = x.toBitVec := rfl
  rw [BitVec.getLsbD_and, BitVec.getLsbD_signExtend, BitVec.getLsbD_signExtend, hm, BitVec.getLsbD_and, hm', hx, if_pos (show i < 64 by omega), if_pos (show i < 64 by omega), BitVec.ushiftRight_eq', ha, BitVec.getLsbD_ushiftRight, BitVec.sshiftRight', hb, BitVec.getLsbD_sshiftRight]
  by_cases h8 : i < 8
  · rw [if_pos (show k + i < 64 by omega)]
    have h1 : decide (i < 32) = true := decide_eq_true hi
    have h2 : decide (64 ≤ i) = false := decide_eq_false (by omega)
    rw [h1, h2]
    simp
  · rw [decide_eq_false h8]
    simp
theorem zbc_bm (x : Int64) {n i : Int} (h0 : 0 ≤ i) (h1 : i < n) (h2 : n ≤ 8) : zbc x n i = zbm x n i := by
  unfold zbc zbm
  rw [show n - 1 - i = (n - 1) - i by omega]
  obtain ⟨j, hj⟩ : ∃ j, (n - 1) - i = j := ⟨_, rfl⟩
  rw [hj]
  have hj8 : 0 ≤ j ∧ j ≤ 7 := by omega
  rcases (show j = 0 ∨ j = 1 ∨ j = 2 ∨ j = 3 ∨ j = 4 ∨ j = 5 ∨ j = 6 ∨ j = 7 by omega) with rfl | rfl | rfl | rfl | rfl | rfl | rfl | rfl
  · exact congrArg Int32.toInt (zb_k x _ _ 0 (by omega) (by decide +kernel) (by decide +kernel))
  · exact congrArg Int32.toInt (zb_k x _ _ 8 (by omega) (by decide +kernel) (by decide +kernel))
  · exact congrArg Int32.toInt (zb_k x _ _ 16 (by omega) (by decide +kernel) (by decide +kernel))
  · exact congrArg Int32.toInt (zb_k x _ _ 24 (by omega) (by decide +kernel) (by decide +kernel))
  · exact congrArg Int32.toInt (zb_k x _ _ 32 (by omega) (by decide +kernel) (by decide +kernel))
  · exact congrArg Int32.toInt (zb_k x _ _ 40 (by omega) (by decide +kernel) (by decide +kernel))
  · exact congrArg Int32.toInt (zb_k x _ _ 48 (by omega) (by decide +kernel) (by decide +kernel))
  · exact congrArg Int32.toInt (zb_k x _ _ 56 (by omega) (by decide +kernel) (by decide +kernel))
theorem zbm_rg (x : Int64) {n i : Int} (h0 : 0 ≤ i) (h1 : i < n) (h2 : n ≤ 8) : 0 ≤ zbm x n i ∧ zbm x n i ≤ 255 := by
  rw [← zbc_bm x h0 h1 h2]
  have h := fun y : Int32 => (show 0 ≤ (y &&& zI 255).toInt ∧ (y &&& zI 255).toInt ≤ 255 by
    have e : (y &&& zI 255).toInt = ((y.toBitVec &&& 255#32).toNat : Int) := by
      have h255 : (zI 255).toBitVec = 255#32 := by decide +kernel
      show ((y &&& zI 255).toBitVec).toInt = _
      rw [Int32.toBitVec_and, h255, BitVec.toInt_eq_toNat_cond]
      have : (y.toBitVec &&& 255#32).toNat ≤ 255 := by rw [BitVec.toNat_and]; exact Nat.and_le_right
      rw [if_pos (by omega)]
    have : (y.toBitVec &&& 255#32).toNat ≤ 255 := by rw [BitVec.toNat_and]; exact Nat.and_le_right
    omega)
  exact h _
