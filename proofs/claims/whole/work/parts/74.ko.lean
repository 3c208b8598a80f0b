/-! the component's calls: the tape, sheets -/
theorem bt_255 {n i : Nat} (hn : 8 ≤ n) : (255#n).getLsbD i = decide (i < 8) := by
  rw [BitVec.getLsbD_ofNat, show (255 : Nat) = 2 ^ 8 - 1 from rfl, Nat.testBit_two_pow_sub_one]
  by_cases h : i < 8
  · simp [h]; omega
  · simp [h]
theorem bt_sh (W : BitVec 64) {n : Nat} (hn : n ≤ 56) : ((W >>> n).setWidth 32 &&& 255#32) = ((W.sshiftRight n) &&& 255#64).setWidth 32 := by
  apply BitVec.eq_of_getLsbD_eq
  intro i hi
  simp only [BitVec.getLsbD_and, BitVec.getLsbD_setWidth, BitVec.getLsbD_ushiftRight, BitVec.getLsbD_sshiftRight, bt_255 (show 8 ≤ 32 by decide), bt_255 (show 8 ≤ 64 by decide)]
  by_cases h8 : i < 8
  · have h1 : n + i < 64 := by omega
    have h2 : ¬ 64 ≤ i := by omega
    simp [hi, h8, h1]
    omega
  · simp [h8]
theorem byt_eq (w : Int64) {k : Nat} (hk : k < 8) : ((w.toUInt64 >>> ((8 * nI k : Int32).toInt64.toUInt64 &&& Int64.toUInt64 63)).toInt64.toInt32 &&& 255) = byt w k := by
  have key : ∀ n : Nat, n ≤ 56 → ((8 * nI k : Int32).toInt64.toUInt64 &&& Int64.toUInt64 63).toBitVec % 64 = BitVec.ofNat 64 n → ((8 * nI k : Int32).toInt64 &&& 63).toBitVec.smod 64 = BitVec.ofNat 64 n → ((w.toUInt64 >>> ((8 * nI k : Int32).toInt64.toUInt64 &&& Int64.toUInt64 63)).toInt64.toInt32 &&& 255) = byt w k := by
    intro n hn h1 h2
    apply Int32.toBitVec_inj.mp
    show BitVec.signExtend 32 (w.toBitVec >>> (((8 * nI k : Int32).toInt64.toUInt64 &&& Int64.toUInt64 63).toBitVec % 64)) &&& 255#32 = BitVec.signExtend 32 ((w.toBitVec.sshiftRight' (((8 * nI k : Int32).toInt64 &&& 63).toBitVec.smod 64)) &&& 255#64)
    rw [h1, h2, BitVec.signExtend_eq_setWidth_of_le _ (by decide), BitVec.signExtend_eq_setWidth_of_le _ (by decide)]
    have e : (BitVec.ofNat 64 n).toNat = n := by
      rw [BitVec.toNat_ofNat]; omega
    have := bt_sh w.toBitVec hn
    unfold BitVec.sshiftRight'
    rw [BitVec.ushiftRight_eq', e]
    exact this
  match k, hk with
  | 0, _ => exact key 0 (by decide) (by decide) (by decide)
  | 1, _ => exact key 8 (by decide) (by decide) (by decide)
  | 2, _ => exact key 16 (by decide) (by decide) (by decide)
  | 3, _ => exact key 24 (by decide) (by decide) (by decide)
  | 4, _ => exact key 32 (by decide) (by decide) (by decide)
  | 5, _ => exact key 40 (by decide) (by decide) (by decide)
  | 6, _ => exact key 48 (by decide) (by decide) (by decide)
  | 7, _ => exact key 56 (by decide) (by decide) (by decide)
  | n + 8, h => omega
