/-! base: reads and writes of cells; the reference's own object -/
theorem mx_gss {h : MXH} {i : Nat} {x : va_E} (hi : (h[i]?).isSome = true) : (h.set i x)[i]? = some x := by
  cases hq : h[i]? with
  | none => rw [hq] at hi; cases hi
  | some y => exact List.getElem?_set_self (List.getElem?_eq_some_iff.mp hq).1
/-- a truth value as an int -/
def bi_ (b : Bool) : Int32 := bif b then 1 else 0
theorem bi_01 (b : Bool) : bi_ b = 0 ∨ bi_ b = 1 := by cases b <;> simp [bi_]
theorem bi_eq0 (b : Bool) : (bi_ b = 0) = (b = false) := by cases b <;> simp [bi_]
theorem bi_ite (p : Prop) [Decidable p] : (if p then (1 : Int32) else 0) = bi_ (decide p) := by by_cases h : p <;> simp [bi_, h]
theorem bi_iten (p : Prop) [Decidable p] : (if p then (0 : Int32) else 1) = bi_ (decide (¬ p)) := by by_cases h : p <;> simp [bi_, h]
theorem mx_01a : ((0 : Int32) = 0 ∨ (0 : Int32) = 1) := Or.inl rfl
theorem mx_01b : ((1 : Int32) = 0 ∨ (1 : Int32) = 1) := Or.inr rfl
theorem mx_iteQ {p : Prop} [Decidable p] {Q : MXP} {h : MXH} {x y : Int32} : (if p then Q (some (.int x)) h else Q (some (.int y)) h) = Q (some (.int (if p then x else y))) h := by split <;> rfl
theorem mx_nl_i {x : Int32} : (mx_nl (.int x) = true) = True := by simp [mx_nl]
theorem mx_nl_r {x : Nat} : (mx_nl (.ref x) = true) = True := by simp [mx_nl]
theorem mx_nl_n : (mx_nl .null = true) = True := by simp [mx_nl]
theorem mx_nl_f {x : UInt32} : (mx_nl (.float x) = true) = True := by simp [mx_nl]
theorem mx_nl_d {x : UInt64} : (mx_nl (.double x) = true) = True := by simp [mx_nl]
section SN
variable {h : MXH} {a b j k : Nat} {x : va_E} {i : Int32} {v : Value} {cs : List (Nat × Nat)}
theorem gv_sn (hab : a ≠ b) : gv_ (h.set a x) b j = gv_ h b j := by unfold gv_; rw [List.getElem?_set_ne hab]
theorem gk_sn (hab : a ≠ b) : gk_ (h.set a x) b j cs = gk_ h b j cs := by unfold gk_; rw [List.getElem?_set_ne hab]
theorem pk_sn (hab : a ≠ b) : pk_ k (h.set a x) b j v cs = pk_ k h b j v cs := by unfold pk_; rw [List.getElem?_set_ne hab]
theorem ia_sn (hab : a ≠ b) : ia_ (h.set a x) b i = ia_ h b i := by unfold ia_; rw [List.getElem?_set_ne hab]
theorem ik_sn (hab : a ≠ b) : ik_ (h.set a x) b i = ik_ h b i := by unfold ik_; rw [List.getElem?_set_ne hab]
theorem ba_sn (hab : a ≠ b) : ba_ (h.set a x) b i = ba_ h b i := by unfold ba_; rw [List.getElem?_set_ne hab]
theorem bk_sn (hab : a ≠ b) : bk_ (h.set a x) b i = bk_ h b i := by unfold bk_; rw [List.getElem?_set_ne hab]
theorem al_sn (hab : a ≠ b) : al_ (h.set a x) b = al_ h b := by unfold al_; rw [List.getElem?_set_ne hab]
theorem co_sn (hab : a ≠ b) : co_ (h.set a x) b = co_ h b := by unfold co_; rw [List.getElem?_set_ne hab]
/-- a row of ints, known -/
theorem ar_ia {n : Nat} {f : Nat → Int32} (ha : h[a]? = some (.inl (0, n, .inl f))) : ia_ h a i = f i.toNatClampNeg := by unfold ia_; rw [ha]; rfl
theorem ar_ik {n : Nat} {f : Nat → Int32} (ha : h[a]? = some (.inl (0, n, .inl f))) : ik_ h a i = mx_in i n := by unfold ik_; rw [ha]; rfl
theorem ar_is {n : Nat} {f : Nat → Int32} {y : Int32} (ha : h[a]? = some (.inl (0, n, .inl f))) : is_ h a i y = h.set a (.inl (0, n, .inl (upd f i.toNatClampNeg y))) := by unfold is_; rw [ha]; rfl
theorem ar_al {n : Nat} {f : Nat → Int32} (ha : h[a]? = some (.inl (0, n, .inl f))) : al_ h a = some n := by unfold al_; rw [ha]; rfl
theorem br_ba {n : Nat} {f : Nat → Int32} (ha : h[a]? = some (.inl (1, n, .inl f))) : ba_ h a i = f i.toNatClampNeg := by unfold ba_; rw [ha]; rfl
theorem br_bk {n : Nat} {f : Nat → Int32} (ha : h[a]? = some (.inl (1, n, .inl f))) : bk_ h a i = mx_in i n := by unfold bk_; rw [ha]; rfl
theorem br_bs {n : Nat} {f : Nat → Int32} {y : Int32} (ha : h[a]? = some (.inl (1, n, .inl f))) : bs_ h a i y = h.set a (.inl (1, n, .inl (upd f i.toNatClampNeg (vp_nar .boolean y)))) := by unfold bs_; rw [ha]; rfl
theorem ob_co {ci : Nat} {fs : List Value} (ha : h[a]? = some (.inr (ci, fs))) : co_ h a = some ci := by unfold co_; rw [ha]
theorem mx_inN {c n : Nat} (hc : c < n) (hn : n < 2 ^ 31) : mx_in (nI c) n = true := by
  unfold mx_in
  rw [nI_clamp (Nat.lt_trans hc hn)]
  simp [nI_pos' (Nat.lt_trans hc hn), hc]
end SN
/-- the reference's object, its int fields in v -/
def mof (v : Nat → Int32) : List Value := [.ref 97, .ref 98, .ref 99, .int (v 3), .ref 100, .int (v 5), .int (v 6), .int (v 7), .int (v 8), .int (v 9), .int (v 10), .ref 101, .ref 102, .int (v 13), .ref 103, .ref 104, .ref 105, .ref 106, .int (v 18), .int (v 19), .ref 107, .ref 108, .ref 109, .ref 110]
section MO
variable {h : MXH} {v : Nat → Int32} {x : Int32}
theorem mo_gv (ho : h[96]? = some (.inr (12, mof v))) : gv_ h 96 0 = .ref 97 ∧ gv_ h 96 1 = .ref 98 ∧ gv_ h 96 2 = .ref 99 ∧ gv_ h 96 3 = .int (v 3) ∧ gv_ h 96 4 = .ref 100 ∧ gv_ h 96 5 = .int (v 5) ∧ gv_ h 96 6 = .int (v 6) ∧ gv_ h 96 7 = .int (v 7) ∧ gv_ h 96 8 = .int (v 8) ∧ gv_ h 96 9 = .int (v 9) ∧ gv_ h 96 10 = .int (v 10) ∧ gv_ h 96 11 = .ref 101 ∧ gv_ h 96 12 = .ref 102 ∧ gv_ h 96 13 = .int (v 13) ∧ gv_ h 96 14 = .ref 103 ∧ gv_ h 96 15 = .ref 104 ∧ gv_ h 96 16 = .ref 105 ∧ gv_ h 96 17 = .ref 106 ∧ gv_ h 96 18 = .int (v 18) ∧ gv_ h 96 19 = .int (v 19) ∧ gv_ h 96 20 = .ref 107 ∧ gv_ h 96 21 = .ref 108 ∧ gv_ h 96 22 = .ref 109 ∧ gv_ h 96 23 = .ref 110 := by
  unfold gv_; rw [ho]; exact ⟨rfl, rfl, rfl, rfl, rfl, rfl, rfl, rfl, rfl, rfl, rfl, rfl, rfl, rfl, rfl, rfl, rfl, rfl, rfl, rfl, rfl, rfl, rfl, rfl⟩
theorem mo_gk (ho : h[96]? = some (.inr (12, mof v))) : gk_ h 96 0 [(12, 0)] = true ∧ gk_ h 96 1 [(12, 0)] = true ∧ gk_ h 96 2 [(12, 0)] = true ∧ gk_ h 96 3 [(12, 0)] = true ∧ gk_ h 96 4 [(12, 0)] = true ∧ gk_ h 96 5 [(12, 0)] = true ∧ gk_ h 96 6 [(12, 0)] = true ∧ gk_ h 96 7 [(12, 0)] = true ∧ gk_ h 96 8 [(12, 0)] = true ∧ gk_ h 96 9 [(12, 0)] = true ∧ gk_ h 96 10 [(12, 0)] = true ∧ gk_ h 96 11 [(12, 0)] = true ∧ gk_ h 96 12 [(12, 0)] = true ∧ gk_ h 96 13 [(12, 0)] = true ∧ gk_ h 96 14 [(12, 0)] = true ∧ gk_ h 96 15 [(12, 0)] = true ∧ gk_ h 96 16 [(12, 0)] = true ∧ gk_ h 96 17 [(12, 0)] = true ∧ gk_ h 96 18 [(12, 0)] = true ∧ gk_ h 96 19 [(12, 0)] = true ∧ gk_ h 96 20 [(12, 0)] = true ∧ gk_ h 96 21 [(12, 0)] = true ∧ gk_ h 96 22 [(12, 0)] = true ∧ gk_ h 96 23 [(12, 0)] = true := by
  unfold gk_; rw [ho]; exact ⟨rfl, rfl, rfl, rfl, rfl, rfl, rfl, rfl, rfl, rfl, rfl, rfl, rfl, rfl, rfl, rfl, rfl, rfl, rfl, rfl, rfl, rfl, rfl, rfl⟩
theorem mo_pk3 {k : Nat} (ho : h[96]? = some (.inr (12, mof v))) : pk_ k h 96 3 (.int x) [(12, 0)] = true := by
  unfold pk_; rw [ho]; simp only [ft12_3]; rfl
theorem mo_pf3 (ho : h[96]? = some (.inr (12, mof v))) : pf_ h 96 3 (.int x) = h.set 96 (.inr (12, mof (upd v 3 x))) := by
  unfold pf_; rw [ho]; rfl
theorem mo_pk5 {k : Nat} (ho : h[96]? = some (.inr (12, mof v))) : pk_ k h 96 5 (.int x) [(12, 0)] = true := by
  unfold pk_; rw [ho]; simp only [ft12_5]; rfl
theorem mo_pf5 (ho : h[96]? = some (.inr (12, mof v))) : pf_ h 96 5 (.int x) = h.set 96 (.inr (12, mof (upd v 5 x))) := by
  unfold pf_; rw [ho]; rfl
theorem mo_pk6 {k : Nat} (ho : h[96]? = some (.inr (12, mof v))) : pk_ k h 96 6 (.int x) [(12, 0)] = true := by
  unfold pk_; rw [ho]; simp only [ft12_6]; rfl
theorem mo_pf6 (ho : h[96]? = some (.inr (12, mof v))) : pf_ h 96 6 (.int x) = h.set 96 (.inr (12, mof (upd v 6 x))) := by
  unfold pf_; rw [ho]; rfl
theorem mo_pk7 {k : Nat} (ho : h[96]? = some (.inr (12, mof v))) : pk_ k h 96 7 (.int x) [(12, 0)] = true := by
  unfold pk_; rw [ho]; simp only [ft12_7]; rfl
theorem mo_pf7 (ho : h[96]? = some (.inr (12, mof v))) : pf_ h 96 7 (.int x) = h.set 96 (.inr (12, mof (upd v 7 x))) := by
  unfold pf_; rw [ho]; rfl
theorem mo_pk8 {k : Nat} (ho : h[96]? = some (.inr (12, mof v))) : pk_ k h 96 8 (.int x) [(12, 0)] = true := by
  unfold pk_; rw [ho]; simp only [ft12_8]; rfl
theorem mo_pf8 (ho : h[96]? = some (.inr (12, mof v))) : pf_ h 96 8 (.int x) = h.set 96 (.inr (12, mof (upd v 8 x))) := by
  unfold pf_; rw [ho]; rfl
theorem mo_pk9 {k : Nat} (ho : h[96]? = some (.inr (12, mof v))) : pk_ k h 96 9 (.int x) [(12, 0)] = true := by
  unfold pk_; rw [ho]; simp only [ft12_9]; rfl
theorem mo_pf9 (ho : h[96]? = some (.inr (12, mof v))) : pf_ h 96 9 (.int x) = h.set 96 (.inr (12, mof (upd v 9 x))) := by
  unfold pf_; rw [ho]; rfl
theorem mo_pk13 {k : Nat} (ho : h[96]? = some (.inr (12, mof v))) : pk_ k h 96 13 (.int x) [(12, 0)] = true := by
  unfold pk_; rw [ho]; simp only [ft12_13]; rfl
theorem mo_pf13 (ho : h[96]? = some (.inr (12, mof v))) : pf_ h 96 13 (.int x) = h.set 96 (.inr (12, mof (upd v 13 x))) := by
  unfold pf_; rw [ho]; rfl
theorem mo_pk18 {k : Nat} (ho : h[96]? = some (.inr (12, mof v))) : pk_ k h 96 18 (.int x) [(12, 0)] = true := by
  unfold pk_; rw [ho]; simp only [ft12_18]; rfl
theorem mo_pf18 (ho : h[96]? = some (.inr (12, mof v))) : pf_ h 96 18 (.int x) = h.set 96 (.inr (12, mof (upd v 18 x))) := by
  unfold pf_; rw [ho]; rfl
theorem mo_pk19 {k : Nat} (ho : h[96]? = some (.inr (12, mof v))) : pk_ k h 96 19 (.int x) [(12, 0)] = true := by
  unfold pk_; rw [ho]; simp only [ft12_19]; rfl
theorem mo_pf19 (ho : h[96]? = some (.inr (12, mof v))) : pf_ h 96 19 (.int x) = h.set 96 (.inr (12, mof (upd v 19 x))) := by
  unfold pf_; rw [ho]; rfl
theorem mo_pk10 {k : Nat} {b : Bool} (ho : h[96]? = some (.inr (12, mof v))) : pk_ k h 96 10 (.int (bi_ b)) [(12, 0)] = true := by
  unfold pk_; rw [ho]; simp only [ft12_10]; cases b <;> rfl
theorem mo_pf10 (ho : h[96]? = some (.inr (12, mof v))) : pf_ h 96 10 (.int x) = h.set 96 (.inr (12, mof (upd v 10 x))) := by
  unfold pf_; rw [ho]; rfl
end MO
section SE
variable {X : MXX} {d : Nat} {h : MXH} {Q : MXP}
def hd_ (v lo hi : Int32) : Int32 := if v < lo then lo else if hi < v then hi else v
theorem c_held {v lo hi : Int32} : ev_ X d 125 [.int v, .int lo, .int hi] h Q = Q (some (.int (hd_ v lo hi))) h := by
  simp only [i125_0, i125_1, i125_2, i125_5, i125_6, i125_9, i125_10, i125_11, i125_14, i125_15, i125_18, i125_19, i125_e, mx_iteQ]
  congr 3
  unfold hd_
  by_cases a : lo ≤ v
  · by_cases b : v ≤ hi
    · rw [if_pos a, if_pos b, if_neg (Int32.not_lt.mpr a), if_neg (Int32.not_lt.mpr b)]
    · rw [if_pos a, if_neg b, if_neg (Int32.not_lt.mpr a), if_pos (Int32.not_le.mp b)]
  · rw [if_neg a, if_pos (Int32.not_le.mp a)]
theorem c_in {v lo hi : Int64} : ev_ X d 124 [.long v, .long lo, .long hi] h Q = Q (some (.int (bi_ (decide (lo ≤ v ∧ v ≤ hi))))) h := by
  simp only [i124_0, i124_1, i124_2, i124_3, i124_6, i124_7, i124_9, i124_10, i124_13, i124_14, i124_17, i124_e, i124_18 mx_01a, i124_18 mx_01b, mx_iteQ]
  congr 3
  have h1 := lg_cmp_ge v lo
  have h2 := lg_cmp_le v hi
  by_cases a : lo ≤ v
  · by_cases b : v ≤ hi
    · simp [bi_, a, b, ← Int32.not_le, h1.mpr a, h2.mpr b]
    · simp [bi_, a, b, ← Int32.not_le, h1.mpr a, mt h2.mp b]
  · simp [bi_, a, ← Int32.not_le, mt h1.mp a]
theorem mx_ix (a b s w : Nat) : (nI a + nI b * nI s + nI w : Int32) = nI (a + b * s + w) := by rw [pk_mul, nI_add, nI_add]
theorem c_se0 {a s : Nat} {m : Nat → Int32} (ha : h[a]? = some (.inl (0, 280, .inl m))) (hs : s < 6) : ev_ X d 129 [.ref a, .int (nI s), .int 0] h Q = Q (some (.int (m (20 + 8 * s + 0)))) h := by
  have e : (20 + 8 * nI s + 0 : Int32) = nI (20 + 8 * s + 0) := mx_ix 20 8 s 0
  simp only [i129_0, i129_1, i129_3, i129_5, i129_6, i129_7, i129_8, i129_9, i129_10, i129_11, i129_e, ar_ik ha, ar_ia ha, e, mx_inN (show 20 + 8 * s + 0 < 280 by omega) (by decide), nI_clamp (show 20 + 8 * s + 0 < 2 ^ 31 by omega), true_and]
theorem c_se1 {a s : Nat} {m : Nat → Int32} (ha : h[a]? = some (.inl (0, 280, .inl m))) (hs : s < 6) : ev_ X d 129 [.ref a, .int (nI s), .int 1] h Q = Q (some (.int (m (20 + 8 * s + 1)))) h := by
  have e : (20 + 8 * nI s + 1 : Int32) = nI (20 + 8 * s + 1) := mx_ix 20 8 s 1
  simp only [i129_0, i129_1, i129_3, i129_5, i129_6, i129_7, i129_8, i129_9, i129_10, i129_11, i129_e, ar_ik ha, ar_ia ha, e, mx_inN (show 20 + 8 * s + 1 < 280 by omega) (by decide), nI_clamp (show 20 + 8 * s + 1 < 2 ^ 31 by omega), true_and]
theorem c_se2 {a s : Nat} {m : Nat → Int32} (ha : h[a]? = some (.inl (0, 280, .inl m))) (hs : s < 6) : ev_ X d 129 [.ref a, .int (nI s), .int 2] h Q = Q (some (.int (m (20 + 8 * s + 2)))) h := by
  have e : (20 + 8 * nI s + 2 : Int32) = nI (20 + 8 * s + 2) := mx_ix 20 8 s 2
  simp only [i129_0, i129_1, i129_3, i129_5, i129_6, i129_7, i129_8, i129_9, i129_10, i129_11, i129_e, ar_ik ha, ar_ia ha, e, mx_inN (show 20 + 8 * s + 2 < 280 by omega) (by decide), nI_clamp (show 20 + 8 * s + 2 < 2 ^ 31 by omega), true_and]
theorem c_se3 {a s : Nat} {m : Nat → Int32} (ha : h[a]? = some (.inl (0, 280, .inl m))) (hs : s < 6) : ev_ X d 129 [.ref a, .int (nI s), .int 3] h Q = Q (some (.int (m (20 + 8 * s + 3)))) h := by
  have e : (20 + 8 * nI s + 3 : Int32) = nI (20 + 8 * s + 3) := mx_ix 20 8 s 3
  simp only [i129_0, i129_1, i129_3, i129_5, i129_6, i129_7, i129_8, i129_9, i129_10, i129_11, i129_e, ar_ik ha, ar_ia ha, e, mx_inN (show 20 + 8 * s + 3 < 280 by omega) (by decide), nI_clamp (show 20 + 8 * s + 3 < 2 ^ 31 by omega), true_and]
theorem c_se4 {a s : Nat} {m : Nat → Int32} (ha : h[a]? = some (.inl (0, 280, .inl m))) (hs : s < 6) : ev_ X d 129 [.ref a, .int (nI s), .int 4] h Q = Q (some (.int (m (20 + 8 * s + 4)))) h := by
  have e : (20 + 8 * nI s + 4 : Int32) = nI (20 + 8 * s + 4) := mx_ix 20 8 s 4
  simp only [i129_0, i129_1, i129_3, i129_5, i129_6, i129_7, i129_8, i129_9, i129_10, i129_11, i129_e, ar_ik ha, ar_ia ha, e, mx_inN (show 20 + 8 * s + 4 < 280 by omega) (by decide), nI_clamp (show 20 + 8 * s + 4 < 2 ^ 31 by omega), true_and]
theorem c_se5 {a s : Nat} {m : Nat → Int32} (ha : h[a]? = some (.inl (0, 280, .inl m))) (hs : s < 6) : ev_ X d 129 [.ref a, .int (nI s), .int 5] h Q = Q (some (.int (m (20 + 8 * s + 5)))) h := by
  have e : (20 + 8 * nI s + 5 : Int32) = nI (20 + 8 * s + 5) := mx_ix 20 8 s 5
  simp only [i129_0, i129_1, i129_3, i129_5, i129_6, i129_7, i129_8, i129_9, i129_10, i129_11, i129_e, ar_ik ha, ar_ia ha, e, mx_inN (show 20 + 8 * s + 5 < 280 by omega) (by decide), nI_clamp (show 20 + 8 * s + 5 < 2 ^ 31 by omega), true_and]
theorem c_se6 {a s : Nat} {m : Nat → Int32} (ha : h[a]? = some (.inl (0, 280, .inl m))) (hs : s < 6) : ev_ X d 129 [.ref a, .int (nI s), .int 6] h Q = Q (some (.int (m (20 + 8 * s + 6)))) h := by
  have e : (20 + 8 * nI s + 6 : Int32) = nI (20 + 8 * s + 6) := mx_ix 20 8 s 6
  simp only [i129_0, i129_1, i129_3, i129_5, i129_6, i129_7, i129_8, i129_9, i129_10, i129_11, i129_e, ar_ik ha, ar_ia ha, e, mx_inN (show 20 + 8 * s + 6 < 280 by omega) (by decide), nI_clamp (show 20 + 8 * s + 6 < 2 ^ 31 by omega), true_and]
theorem c_so0 {a s : Nat} {m : Nat → Int32} (ha : h[a]? = some (.inl (0, 280, .inl m))) (hs : s < 8) : ev_ X d 130 [.ref a, .int (nI s), .int 0] h Q = Q (some (.int (m (70 + 4 * s + 0)))) h := by
  have e : (70 + 4 * nI s + 0 : Int32) = nI (70 + 4 * s + 0) := mx_ix 70 4 s 0
  simp only [i130_0, i130_1, i130_3, i130_4, i130_5, i130_6, i130_7, i130_8, i130_9, i130_10, i130_e, ar_ik ha, ar_ia ha, e, mx_inN (show 70 + 4 * s + 0 < 280 by omega) (by decide), nI_clamp (show 70 + 4 * s + 0 < 2 ^ 31 by omega), true_and]
theorem c_so1 {a s : Nat} {m : Nat → Int32} (ha : h[a]? = some (.inl (0, 280, .inl m))) (hs : s < 8) : ev_ X d 130 [.ref a, .int (nI s), .int 1] h Q = Q (some (.int (m (70 + 4 * s + 1)))) h := by
  have e : (70 + 4 * nI s + 1 : Int32) = nI (70 + 4 * s + 1) := mx_ix 70 4 s 1
  simp only [i130_0, i130_1, i130_3, i130_4, i130_5, i130_6, i130_7, i130_8, i130_9, i130_10, i130_e, ar_ik ha, ar_ia ha, e, mx_inN (show 70 + 4 * s + 1 < 280 by omega) (by decide), nI_clamp (show 70 + 4 * s + 1 < 2 ^ 31 by omega), true_and]
theorem c_so2 {a s : Nat} {m : Nat → Int32} (ha : h[a]? = some (.inl (0, 280, .inl m))) (hs : s < 8) : ev_ X d 130 [.ref a, .int (nI s), .int 2] h Q = Q (some (.int (m (70 + 4 * s + 2)))) h := by
  have e : (70 + 4 * nI s + 2 : Int32) = nI (70 + 4 * s + 2) := mx_ix 70 4 s 2
  simp only [i130_0, i130_1, i130_3, i130_4, i130_5, i130_6, i130_7, i130_8, i130_9, i130_10, i130_e, ar_ik ha, ar_ia ha, e, mx_inN (show 70 + 4 * s + 2 < 280 by omega) (by decide), nI_clamp (show 70 + 4 * s + 2 < 2 ^ 31 by omega), true_and]
theorem c_so3 {a s : Nat} {m : Nat → Int32} (ha : h[a]? = some (.inl (0, 280, .inl m))) (hs : s < 8) : ev_ X d 130 [.ref a, .int (nI s), .int 3] h Q = Q (some (.int (m (70 + 4 * s + 3)))) h := by
  have e : (70 + 4 * nI s + 3 : Int32) = nI (70 + 4 * s + 3) := mx_ix 70 4 s 3
  simp only [i130_0, i130_1, i130_3, i130_4, i130_5, i130_6, i130_7, i130_8, i130_9, i130_10, i130_e, ar_ik ha, ar_ia ha, e, mx_inN (show 70 + 4 * s + 3 < 280 by omega) (by decide), nI_clamp (show 70 + 4 * s + 3 < 2 ^ 31 by omega), true_and]
end SE
