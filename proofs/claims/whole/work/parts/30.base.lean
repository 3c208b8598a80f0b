/-! contracts, first: what stands alone -/
theorem mx_gss {h : MXH} {i : Nat} {x : va_E} (hi : (h[i]?).isSome = true) : (h.set i x)[i]? = some x := by
  cases hq : h[i]? with
  | none => rw [hq] at hi; cases hi
  | some y => exact List.getElem?_set_self (List.getElem?_eq_some_iff.mp hq).1
/-- a truth value as an int -/
def bi_ (b : Bool) : Int32 := bif b then 1 else 0
theorem bi_01 (b : Bool) : bi_ b = 0 ∨ bi_ b = 1 := by cases b <;> simp [bi_]
theorem bi_eq0 (b : Bool) : (bi_ b = 0) = (b = false) := by cases b <;> simp [bi_]
theorem mx_01a : ((0 : Int32) = 0 ∨ (0 : Int32) = 1) := Or.inl rfl
theorem mx_01b : ((1 : Int32) = 0 ∨ (1 : Int32) = 1) := Or.inr rfl
theorem mx_iteQ {p : Prop} [Decidable p] {Q : MXP} {h : MXH} {x y : Int32} : (if p then Q (some (.int x)) h else Q (some (.int y)) h) = Q (some (.int (if p then x else y))) h := by split <;> rfl
section CT
variable {X : MXX} {d : Nat} {h : MXH} {Q : MXP}
theorem c_held {v lo hi : Int32} : ev_ X d 125 [.int v, .int lo, .int hi] h Q = Q (some (.int (if v < lo then lo else if hi < v then hi else v))) h := by
  simp only [i125_0, i125_1, i125_2, i125_5, i125_6, i125_9, i125_10, i125_11, i125_14, i125_15, i125_18, i125_19, i125_e, mx_iteQ]
theorem c_in {v lo hi : Int64} : ev_ X d 124 [.long v, .long lo, .long hi] h Q = Q (some (.int (bi_ (decide (lo ≤ v ∧ v ≤ hi))))) h := by
  simp only [i124_0, i124_1, i124_2, i124_3, i124_6, i124_7, i124_9, i124_10, i124_13, i124_14, i124_17, i124_e, i124_18 mx_01a, i124_18 mx_01b, mx_iteQ]
  congr 3
  have h1 := lg_cmp_ge v lo
  have h2 := lg_cmp_le v hi
  by_cases a : lo ≤ v
  · by_cases b : v ≤ hi
    · simp [bi_, a, b, ← Int32.not_le, h1.mpr a, h2.mpr b]
    · simp [bi_, a, b, ← Int32.not_le, h1.mpr a, mt h2.mp b]
  · simp [bi_, a, ← Int32.not_le, mt h1.mp a]
theorem c_se {a n : Nat} {m : Nat → Int32} {s w : Int32} (ha : h[a]? = some (.inl (0, n, .inl m))) (hin : mx_in (20 + 8 * s + w) n = true) : ev_ X d 129 [.ref a, .int s, .int w] h Q = Q (some (.int (m (20 + 8 * s + w).toNatClampNeg))) h := by
  simp only [i129_0, i129_1, i129_3, i129_5, i129_6, i129_7, i129_8, i129_9, i129_10, i129_11, i129_e, ik_, ia_, ha, hin, true_and]
end CT
