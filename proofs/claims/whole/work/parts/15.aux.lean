theorem mx_t1 {a p q : Prop} (h : a = (p ∧ q)) (hp : p) : a = q := by rw [h]; exact propext ⟨fun h => h.2, fun h => ⟨hp, h⟩⟩
theorem mx_ite {p : Prop} [Decidable p] {A B : Prop} : (if decide p = true then A else B) = if p then A else B := by
  by_cases hp : p <;> simp [hp]
theorem mx_ret_ {k pc d : Nat} {X : MXX} {l : List Value} {h : MXH} {ty : FieldType} {x : Int32} (hr : mx_rt k = some ty) (hn : narrow ty (.int x) = .int x) : mx_step X d k pc .ireturn l [.int x] h = some (.inr (.inl (some (.int x)))) := by
  simp only [mx_step, mx_ret, hr]
  rw [if_pos hn]
theorem mx_retI {k pc d : Nat} {X : MXX} {l : List Value} {h : MXH} {x : Int32} (hr : mx_rt k = some .int) : mx_step X d k pc .ireturn l [.int x] h = some (.inr (.inl (some (.int x)))) := mx_ret_ hr rfl
theorem mx_retZ {k pc d : Nat} {X : MXX} {l : List Value} {h : MXH} {x : Int32} (hx : x = 0 ∨ x = 1) (hr : mx_rt k = some .boolean) : mx_step X d k pc .ireturn l [.int x] h = some (.inr (.inl (some (.int x)))) := mx_ret_ hr (by rcases hx with rfl | rfl <;> rfl)
theorem mx_retA {k pc d a : Nat} {X : MXX} {l : List Value} {h : MXH} {C : String} (hr : mx_rt k = some (.object C)) : mx_step X d k pc .areturn l [.ref a] h = some (.inr (.inl (some (.ref a)))) := by
  simp only [mx_step, hr]; rfl
theorem mx_retV {k pc d : Nat} {X : MXX} {l : List Value} {h : MXH} (hr : mx_rt k = none) : mx_step X d k pc .return_ l [] h = some (.inr (.inl none)) := by
  simp only [mx_step, hr]
theorem mx_lko {α : Type} {t : List (Nat × α)} {k o idx : Nat} {r : α} (hk : mx_ow k = o) (h : idx < 10000 ∧ mx_pk t (o * 10000 + idx) = some r) : mx_lk t k idx = some r := by
  unfold mx_lk
  rw [if_pos h.1, hk]
  exact h.2
theorem mx_fdo {k o idx : Nat} {r : Nat × Nat × Nat × List (Nat × Nat)} (hk : mx_ow k = o) (h : idx < 10000 ∧ mx_pk mx_F (o * 10000 + idx) = some r) : mx_fd k idx = some r := mx_lko hk h
def mx_clo (o idx : Nat) : Option (Nat × Nat × List MXQ) := match mx_pk mx_CT o with
  | some t => mx_pk t idx
  | none => none
theorem mx_clk {k o idx : Nat} {r : Nat × Nat × List MXQ} (hk : mx_ow k = o) (h : mx_clo o idx = some r) : mx_cl k idx = some r := by
  unfold mx_cl
  rw [hk]
  exact h
section MXR2
variable {X : MXX} {d k pc len : Nat} {l st : List Value} {h : MXH} {Q : MXP}
theorem R_iconst {n : Int} {v : Int32} (hat : mx_at k pc = some (.iconst n, len)) (hv : Int32.ofInt n = v) : ex_ X d k pc l st h Q = ex_ X d k (pc + 1) l (.int v :: st) h Q := by subst hv; exact ex_nx hat rfl
theorem R_bipush {n : Int} {v : Int32} (hat : mx_at k pc = some (.bipush n, len)) (hv : (Int8.ofInt n).toInt32 = v) : ex_ X d k pc l st h Q = ex_ X d k (pc + 2) l (.int v :: st) h Q := by subst hv; exact ex_nx hat rfl
theorem R_sipush {n : Int} {v : Int32} (hat : mx_at k pc = some (.sipush n, len)) (hv : (Int16.ofInt n).toInt32 = v) : ex_ X d k pc l st h Q = ex_ X d k (pc + 3) l (.int v :: st) h Q := by subst hv; exact ex_nx hat rfl
theorem R_ldc {o idx p : Nat} {v : Int32} (hat : mx_at k pc = some (.ldc idx, len)) (ho : o ≠ 10) (hk : mx_ow k = o) (hv : idx < 10000 ∧ mx_pk mx_KI (o * 10000 + idx) = some (v, p)) : ex_ X d k pc l st h Q = ex_ X d k (pc + 2) l (.int v :: st) h Q := by
  refine ex_nx hat ?_
  have h1 : mx_lc k idx = some (.int v) := by
    unfold mx_lc
    rw [if_neg (by rw [hk]; exact fun q => ho q.1), if_neg (by rw [hk]; exact fun q => ho q.1), mx_lko hk hv]
  simp only [mx_step, h1]
  rfl
theorem R_ldcw {o idx p : Nat} {v : Int32} (hat : mx_at k pc = some (.ldc_w idx, len)) (hk : mx_ow k = o) (hv : idx < 10000 ∧ mx_pk mx_KI (o * 10000 + idx) = some (v, p)) : ex_ X d k pc l st h Q = ex_ X d k (pc + 3) l (.int v :: st) h Q := by
  refine ex_nx hat ?_
  simp only [mx_step, mx_lko hk hv]
  rfl
theorem R_ldc2 {o idx p : Nat} {v : Int64} (hat : mx_at k pc = some (.ldc2_w idx, len)) (hk : mx_ow k = o) (hv : idx < 10000 ∧ mx_pk mx_KL (o * 10000 + idx) = some (v, p)) : ex_ X d k pc l st h Q = ex_ X d k (pc + 3) l (.long v :: st) h Q := by
  refine ex_nx hat ?_
  simp only [mx_step, mx_lko hk hv]
  rfl
theorem R_ldcS {idx : Nat} {v : Value} (hat : mx_at k pc = some (.ldc idx, len)) (hv : mx_lc k idx = some v) : ex_ X d k pc l st h Q = ex_ X d k (pc + 2) l (v :: st) h Q := by
  refine ex_nx hat ?_
  simp only [mx_step, hv]
  rfl
theorem R_gets {idx : Nat} {v : Value} (hat : mx_at k pc = some (.getstatic idx, len)) (hv : mx_gs k idx = some v) : ex_ X d k pc l st h Q = ex_ X d k (pc + 3) l (v :: st) h Q := by
  refine ex_nx hat ?_
  simp only [mx_step, hv]
  rfl
theorem R_stat {idx n k' q0 nl : Nat} {q : Nat × Nat × List Nat} {rows : List MXQ} {as rest st2 : List Value} (hat : mx_at k pc = some (.invokestatic idx, len)) (hc : mx_cl k idx = some (0, n, (q0, k', q) :: rows)) (hn : n ≤ st2.length) (hd : st2.drop n = rest) (has : (st2.take n).reverse = as) (hr : rest.length ≤ 4) (hml : mx_ml k' = nl) (hm : (mx_sl as).length ≤ nl) : ex_ X (d + 1) k pc l st2 h Q = ev_ X d k' as h (fun r h' => ex_ X (d + 1) k (pc + 3) l (r.toList ++ rest) h' Q) := by
  refine ex_call hat ?_
  simp only [mx_step, mx_cS, hc]
  rw [if_pos hn, has, hd]
  simp [mx_go, hr, hml, hm]
theorem R_ctor {idx n k' q0 nl kd a : Nat} {q : Nat × Nat × List Nat} {rows : List MXQ} {as rest st2 : List Value} (hat : mx_at k pc = some (.invokespecial idx, len)) (hc : mx_cl k idx = some (kd, n, (q0, k', q) :: rows)) (hkd : kd = 1 ∨ kd = 2) (hn : n ≤ st2.length) (hd : st2.drop n = .ref a :: rest) (has : (st2.take n).reverse = as) (hr : rest.length ≤ 4) (hml : mx_ml k' = nl) (hm : (mx_sl (.ref a :: as)).length ≤ nl) : ex_ X (d + 1) k pc l st2 h Q = ev_ X d k' (.ref a :: as) h (fun r h' => ex_ X (d + 1) k (pc + 3) l (r.toList ++ rest) h' Q) := by
  refine ex_call hat ?_
  have h6 : kd ≠ 6 := by omega
  simp only [mx_step, mx_cI, hc]
  rw [if_pos hn, hd]
  simp only
  rw [if_pos hkd, has]
  simp [mx_go, hr, hml, hm]
end MXR2
theorem fd30055 : 55 < 10000 ∧ mx_pk mx_F (3 * 10000 + 55) = some (0, 3, 88, [(3, 0)]) := by decide +kernel
theorem fd110205 : 205 < 10000 ∧ mx_pk mx_F (11 * 10000 + 205) = some (0, 3, 89, [(3, 0)]) := by decide +kernel
theorem fd30059 : 59 < 10000 ∧ mx_pk mx_F (3 * 10000 + 59) = some (1, 3, 90, [(3, 0)]) := by decide +kernel
theorem fd110167 : 167 < 10000 ∧ mx_pk mx_F (11 * 10000 + 167) = some (1, 3, 91, [(3, 0)]) := by decide +kernel
theorem fd30062 : 62 < 10000 ∧ mx_pk mx_F (3 * 10000 + 62) = some (2, 3, 92, [(3, 0)]) := by decide +kernel
theorem fd110173 : 173 < 10000 ∧ mx_pk mx_F (11 * 10000 + 173) = some (2, 3, 93, [(3, 0)]) := by decide +kernel
theorem fd30009 : 9 < 10000 ∧ mx_pk mx_F (3 * 10000 + 9) = some (3, 3, 94, [(3, 0)]) := by decide +kernel
theorem fd110234 : 234 < 10000 ∧ mx_pk mx_F (11 * 10000 + 234) = some (3, 3, 95, [(3, 0)]) := by decide +kernel
theorem fd30015 : 15 < 10000 ∧ mx_pk mx_F (3 * 10000 + 15) = some (4, 3, 96, [(3, 0)]) := by decide +kernel
theorem fd110170 : 170 < 10000 ∧ mx_pk mx_F (11 * 10000 + 170) = some (4, 3, 97, [(3, 0)]) := by decide +kernel
theorem fd30021 : 21 < 10000 ∧ mx_pk mx_F (3 * 10000 + 21) = some (5, 3, 98, [(3, 0)]) := by decide +kernel
theorem fd110197 : 197 < 10000 ∧ mx_pk mx_F (11 * 10000 + 197) = some (5, 3, 99, [(3, 0)]) := by decide +kernel
theorem fd30027 : 27 < 10000 ∧ mx_pk mx_F (3 * 10000 + 27) = some (6, 3, 100, [(3, 0)]) := by decide +kernel
theorem fd110108 : 108 < 10000 ∧ mx_pk mx_F (11 * 10000 + 108) = some (6, 3, 101, [(3, 0)]) := by decide +kernel
theorem fd110076 : 76 < 10000 ∧ mx_pk mx_F (11 * 10000 + 76) = some (7, 3, 102, [(3, 0)]) := by decide +kernel
theorem fd30071 : 71 < 10000 ∧ mx_pk mx_F (3 * 10000 + 71) = some (7, 3, 103, [(3, 0)]) := by decide +kernel
theorem fd30031 : 31 < 10000 ∧ mx_pk mx_F (3 * 10000 + 31) = some (8, 3, 104, [(3, 0)]) := by decide +kernel
theorem fd110099 : 99 < 10000 ∧ mx_pk mx_F (11 * 10000 + 99) = some (8, 3, 105, [(3, 0)]) := by decide +kernel
theorem fd30034 : 34 < 10000 ∧ mx_pk mx_F (3 * 10000 + 34) = some (9, 3, 106, [(3, 0)]) := by decide +kernel
theorem fd110102 : 102 < 10000 ∧ mx_pk mx_F (11 * 10000 + 102) = some (9, 3, 107, [(3, 0)]) := by decide +kernel
theorem fd30037 : 37 < 10000 ∧ mx_pk mx_F (3 * 10000 + 37) = some (10, 3, 108, [(3, 0)]) := by decide +kernel
theorem fd110105 : 105 < 10000 ∧ mx_pk mx_F (11 * 10000 + 105) = some (10, 3, 109, [(3, 0)]) := by decide +kernel
theorem fd30040 : 40 < 10000 ∧ mx_pk mx_F (3 * 10000 + 40) = some (11, 3, 110, [(3, 0)]) := by decide +kernel
theorem fd30074 : 74 < 10000 ∧ mx_pk mx_F (3 * 10000 + 74) = some (12, 3, 111, [(3, 0)]) := by decide +kernel
theorem fd110127 : 127 < 10000 ∧ mx_pk mx_F (11 * 10000 + 127) = some (12, 3, 112, [(3, 0)]) := by decide +kernel
theorem fd30043 : 43 < 10000 ∧ mx_pk mx_F (3 * 10000 + 43) = some (13, 3, 113, [(3, 0)]) := by decide +kernel
theorem fd110137 : 137 < 10000 ∧ mx_pk mx_F (11 * 10000 + 137) = some (13, 3, 114, [(3, 0)]) := by decide +kernel
theorem fd30046 : 46 < 10000 ∧ mx_pk mx_F (3 * 10000 + 46) = some (14, 3, 115, [(3, 0)]) := by decide +kernel
theorem fd110140 : 140 < 10000 ∧ mx_pk mx_F (11 * 10000 + 140) = some (14, 3, 116, [(3, 0)]) := by decide +kernel
theorem fd30049 : 49 < 10000 ∧ mx_pk mx_F (3 * 10000 + 49) = some (15, 3, 117, [(3, 0)]) := by decide +kernel
theorem fd110143 : 143 < 10000 ∧ mx_pk mx_F (11 * 10000 + 143) = some (15, 3, 118, [(3, 0)]) := by decide +kernel
theorem fd30052 : 52 < 10000 ∧ mx_pk mx_F (3 * 10000 + 52) = some (16, 3, 119, [(3, 0)]) := by decide +kernel
theorem fd110146 : 146 < 10000 ∧ mx_pk mx_F (11 * 10000 + 146) = some (16, 3, 120, [(3, 0)]) := by decide +kernel
theorem fd50007 : 7 < 10000 ∧ mx_pk mx_F (5 * 10000 + 7) = some (0, 5, 163, [(5, 0)]) := by decide +kernel
theorem fd100054 : 54 < 10000 ∧ mx_pk mx_F (10 * 10000 + 54) = some (0, 5, 164, [(5, 0)]) := by decide +kernel
theorem fd110261 : 261 < 10000 ∧ mx_pk mx_F (11 * 10000 + 261) = some (0, 5, 165, [(5, 0)]) := by decide +kernel
theorem fd100020 : 20 < 10000 ∧ mx_pk mx_F (10 * 10000 + 20) = some (1, 5, 166, [(5, 0)]) := by decide +kernel
theorem fd50013 : 13 < 10000 ∧ mx_pk mx_F (5 * 10000 + 13) = some (1, 5, 167, [(5, 0)]) := by decide +kernel
theorem fd110176 : 176 < 10000 ∧ mx_pk mx_F (11 * 10000 + 176) = some (1, 5, 168, [(5, 0)]) := by decide +kernel
theorem fd70009 : 9 < 10000 ∧ mx_pk mx_F (7 * 10000 + 9) = some (0, 7, 182, [(7, 0)]) := by decide +kernel
theorem fd110159 : 159 < 10000 ∧ mx_pk mx_F (11 * 10000 + 159) = some (0, 7, 183, [(7, 0)]) := by decide +kernel
theorem fd70015 : 15 < 10000 ∧ mx_pk mx_F (7 * 10000 + 15) = some (1, 7, 184, [(7, 0)]) := by decide +kernel
theorem fd110272 : 272 < 10000 ∧ mx_pk mx_F (11 * 10000 + 272) = some (1, 7, 185, [(7, 0)]) := by decide +kernel
theorem fd70019 : 19 < 10000 ∧ mx_pk mx_F (7 * 10000 + 19) = some (2, 7, 186, [(7, 0)]) := by decide +kernel
theorem fd110161 : 161 < 10000 ∧ mx_pk mx_F (11 * 10000 + 161) = some (2, 7, 187, [(7, 0)]) := by decide +kernel
theorem fd110012 : 12 < 10000 ∧ mx_pk mx_F (11 * 10000 + 12) = some (0, 11, 195, [(11, 0)]) := by decide +kernel
theorem fd110021 : 21 < 10000 ∧ mx_pk mx_F (11 * 10000 + 21) = some (1, 11, 196, [(11, 0)]) := by decide +kernel
theorem fd110025 : 25 < 10000 ∧ mx_pk mx_F (11 * 10000 + 25) = some (2, 11, 197, [(11, 0)]) := by decide +kernel
theorem fd110028 : 28 < 10000 ∧ mx_pk mx_F (11 * 10000 + 28) = some (3, 11, 198, [(11, 0)]) := by decide +kernel
theorem fd110032 : 32 < 10000 ∧ mx_pk mx_F (11 * 10000 + 32) = some (4, 11, 199, [(11, 0)]) := by decide +kernel
theorem fd110035 : 35 < 10000 ∧ mx_pk mx_F (11 * 10000 + 35) = some (5, 11, 200, [(11, 0)]) := by decide +kernel
theorem fd110038 : 38 < 10000 ∧ mx_pk mx_F (11 * 10000 + 38) = some (6, 11, 201, [(11, 0)]) := by decide +kernel
theorem fd110286 : 286 < 10000 ∧ mx_pk mx_F (11 * 10000 + 286) = some (7, 11, 202, [(11, 0)]) := by decide +kernel
theorem fd110289 : 289 < 10000 ∧ mx_pk mx_F (11 * 10000 + 289) = some (8, 11, 203, [(11, 0)]) := by decide +kernel
theorem fd110041 : 41 < 10000 ∧ mx_pk mx_F (11 * 10000 + 41) = some (9, 11, 204, [(11, 0)]) := by decide +kernel
theorem fd110046 : 46 < 10000 ∧ mx_pk mx_F (11 * 10000 + 46) = some (10, 11, 205, [(11, 0)]) := by decide +kernel
theorem fd110050 : 50 < 10000 ∧ mx_pk mx_F (11 * 10000 + 50) = some (11, 11, 206, [(11, 0)]) := by decide +kernel
theorem fd110054 : 54 < 10000 ∧ mx_pk mx_F (11 * 10000 + 54) = some (12, 11, 207, [(11, 0)]) := by decide +kernel
theorem fd110057 : 57 < 10000 ∧ mx_pk mx_F (11 * 10000 + 57) = some (13, 11, 208, [(11, 0)]) := by decide +kernel
theorem fd110061 : 61 < 10000 ∧ mx_pk mx_F (11 * 10000 + 61) = some (14, 11, 209, [(11, 0)]) := by decide +kernel
theorem fd110064 : 64 < 10000 ∧ mx_pk mx_F (11 * 10000 + 64) = some (15, 11, 210, [(11, 0)]) := by decide +kernel
theorem fd110238 : 238 < 10000 ∧ mx_pk mx_F (11 * 10000 + 238) = some (16, 11, 211, [(11, 0)]) := by decide +kernel
theorem fd60007 : 7 < 10000 ∧ mx_pk mx_F (6 * 10000 + 7) = some (0, 6, 271, [(0, 0), (1, 0), (2, 0), (4, 0), (6, 0), (8, 0), (9, 0)]) := by decide +kernel
theorem fd90032 : 32 < 10000 ∧ mx_pk mx_F (9 * 10000 + 32) = some (0, 9, 272, [(9, 273)]) := by decide +kernel
theorem fd60013 : 13 < 10000 ∧ mx_pk mx_F (6 * 10000 + 13) = some (1, 6, 274, [(0, 0), (1, 0), (2, 0), (4, 0), (6, 0), (8, 0), (9, 0)]) := by decide +kernel
theorem fd30077 : 77 < 10000 ∧ mx_pk mx_F (3 * 10000 + 77) = some (1, 6, 275, [(0, 0), (1, 0), (2, 0), (4, 0), (6, 0), (8, 0), (9, 0)]) := by decide +kernel
theorem fd60016 : 16 < 10000 ∧ mx_pk mx_F (6 * 10000 + 16) = some (2, 6, 276, [(0, 0), (1, 0), (2, 0), (4, 0), (6, 0), (8, 0), (9, 0)]) := by decide +kernel
theorem fd80011 : 11 < 10000 ∧ mx_pk mx_F (8 * 10000 + 11) = some (2, 8, 277, [(2, 278), (8, 278)]) := by decide +kernel
theorem fd9 : 9 < 10000 ∧ mx_pk mx_F (0 * 10000 + 9) = some (2, 0, 279, [(0, 280), (4, 280)]) := by decide +kernel
theorem fd10013 : 13 < 10000 ∧ mx_pk mx_F (1 * 10000 + 13) = some (2, 1, 281, [(1, 282), (9, 282)]) := by decide +kernel
theorem fd20013 : 13 < 10000 ∧ mx_pk mx_F (2 * 10000 + 13) = some (2, 2, 283, [(2, 284)]) := by decide +kernel
theorem fd40031 : 31 < 10000 ∧ mx_pk mx_F (4 * 10000 + 31) = some (2, 4, 285, [(4, 286)]) := by decide +kernel
theorem fd110116 : 116 < 10000 ∧ mx_pk mx_F (11 * 10000 + 116) = some (2, 6, 287, [(0, 0), (1, 0), (2, 0), (4, 0), (6, 0), (8, 0), (9, 0)]) := by decide +kernel
theorem fd30080 : 80 < 10000 ∧ mx_pk mx_F (3 * 10000 + 80) = some (2, 6, 288, [(0, 0), (1, 0), (2, 0), (4, 0), (6, 0), (8, 0), (9, 0)]) := by decide +kernel
theorem fd60019 : 19 < 10000 ∧ mx_pk mx_F (6 * 10000 + 19) = some (3, 6, 289, [(0, 0), (1, 0), (2, 0), (4, 0), (6, 0), (8, 0), (9, 0)]) := by decide +kernel
theorem fd90011 : 11 < 10000 ∧ mx_pk mx_F (9 * 10000 + 11) = some (3, 9, 290, [(9, 291)]) := by decide +kernel
theorem fd40017 : 17 < 10000 ∧ mx_pk mx_F (4 * 10000 + 17) = some (3, 4, 292, [(4, 293)]) := by decide +kernel
theorem fd30083 : 83 < 10000 ∧ mx_pk mx_F (3 * 10000 + 83) = some (3, 6, 294, [(0, 0), (1, 0), (2, 0), (4, 0), (6, 0), (8, 0), (9, 0)]) := by decide +kernel
theorem fd60022 : 22 < 10000 ∧ mx_pk mx_F (6 * 10000 + 22) = some (4, 6, 295, [(0, 0), (1, 0), (2, 0), (4, 0), (6, 0), (8, 0), (9, 0)]) := by decide +kernel
theorem fd30086 : 86 < 10000 ∧ mx_pk mx_F (3 * 10000 + 86) = some (4, 6, 296, [(0, 0), (1, 0), (2, 0), (4, 0), (6, 0), (8, 0), (9, 0)]) := by decide +kernel
theorem fd100016 : 16 < 10000 ∧ mx_pk mx_F (10 * 10000 + 16) = some (0, 10, 547, [(10, 0)]) := by decide +kernel
theorem fd100023 : 23 < 10000 ∧ mx_pk mx_F (10 * 10000 + 23) = some (1, 10, 548, [(10, 0)]) := by decide +kernel
theorem fd100030 : 30 < 10000 ∧ mx_pk mx_F (10 * 10000 + 30) = some (2, 10, 549, [(10, 0)]) := by decide +kernel
theorem fd100051 : 51 < 10000 ∧ mx_pk mx_F (10 * 10000 + 51) = some (3, 10, 550, [(10, 0)]) := by decide +kernel
theorem fd110194 : 194 < 10000 ∧ mx_pk mx_F (11 * 10000 + 194) = some (3, 10, 551, [(10, 0)]) := by decide +kernel
theorem fd100034 : 34 < 10000 ∧ mx_pk mx_F (10 * 10000 + 34) = some (4, 10, 552, [(10, 0)]) := by decide +kernel
theorem fd100038 : 38 < 10000 ∧ mx_pk mx_F (10 * 10000 + 38) = some (5, 10, 553, [(10, 0)]) := by decide +kernel
theorem fd100041 : 41 < 10000 ∧ mx_pk mx_F (10 * 10000 + 41) = some (6, 10, 554, [(10, 0)]) := by decide +kernel
theorem fd100044 : 44 < 10000 ∧ mx_pk mx_F (10 * 10000 + 44) = some (7, 10, 555, [(10, 0)]) := by decide +kernel
theorem fd100009 : 9 < 10000 ∧ mx_pk mx_F (10 * 10000 + 9) = some (8, 10, 556, [(10, 0)]) := by decide +kernel
theorem fd100013 : 13 < 10000 ∧ mx_pk mx_F (10 * 10000 + 13) = some (9, 10, 557, [(10, 0)]) := by decide +kernel
theorem fd120007 : 7 < 10000 ∧ mx_pk mx_F (12 * 10000 + 7) = some (0, 12, 989, [(12, 0)]) := by decide +kernel
theorem fd120013 : 13 < 10000 ∧ mx_pk mx_F (12 * 10000 + 13) = some (1, 12, 990, [(12, 0)]) := by decide +kernel
theorem fd120016 : 16 < 10000 ∧ mx_pk mx_F (12 * 10000 + 16) = some (2, 12, 991, [(12, 0)]) := by decide +kernel
theorem fd120288 : 288 < 10000 ∧ mx_pk mx_F (12 * 10000 + 288) = some (3, 12, 992, [(12, 0)]) := by decide +kernel
theorem fd120019 : 19 < 10000 ∧ mx_pk mx_F (12 * 10000 + 19) = some (4, 12, 993, [(12, 0)]) := by decide +kernel
theorem fd120068 : 68 < 10000 ∧ mx_pk mx_F (12 * 10000 + 68) = some (5, 12, 994, [(12, 0)]) := by decide +kernel
theorem fd120058 : 58 < 10000 ∧ mx_pk mx_F (12 * 10000 + 58) = some (6, 12, 995, [(12, 0)]) := by decide +kernel
theorem fd120062 : 62 < 10000 ∧ mx_pk mx_F (12 * 10000 + 62) = some (7, 12, 996, [(12, 0)]) := by decide +kernel
theorem fd120065 : 65 < 10000 ∧ mx_pk mx_F (12 * 10000 + 65) = some (8, 12, 997, [(12, 0)]) := by decide +kernel
theorem fd120105 : 105 < 10000 ∧ mx_pk mx_F (12 * 10000 + 105) = some (9, 12, 998, [(12, 0)]) := by decide +kernel
theorem fd120075 : 75 < 10000 ∧ mx_pk mx_F (12 * 10000 + 75) = some (10, 12, 999, [(12, 0)]) := by decide +kernel
theorem fd120022 : 22 < 10000 ∧ mx_pk mx_F (12 * 10000 + 22) = some (11, 12, 1000, [(12, 0)]) := by decide +kernel
theorem fd120025 : 25 < 10000 ∧ mx_pk mx_F (12 * 10000 + 25) = some (12, 12, 1001, [(12, 0)]) := by decide +kernel
theorem fd120079 : 79 < 10000 ∧ mx_pk mx_F (12 * 10000 + 79) = some (13, 12, 1002, [(12, 0)]) := by decide +kernel
theorem fd120028 : 28 < 10000 ∧ mx_pk mx_F (12 * 10000 + 28) = some (14, 12, 1003, [(12, 0)]) := by decide +kernel
theorem fd120031 : 31 < 10000 ∧ mx_pk mx_F (12 * 10000 + 31) = some (15, 12, 1004, [(12, 0)]) := by decide +kernel
theorem fd120035 : 35 < 10000 ∧ mx_pk mx_F (12 * 10000 + 35) = some (16, 12, 1005, [(12, 0)]) := by decide +kernel
theorem fd120038 : 38 < 10000 ∧ mx_pk mx_F (12 * 10000 + 38) = some (17, 12, 1006, [(12, 0)]) := by decide +kernel
theorem fd120261 : 261 < 10000 ∧ mx_pk mx_F (12 * 10000 + 261) = some (18, 12, 1007, [(12, 0)]) := by decide +kernel
theorem fd120264 : 264 < 10000 ∧ mx_pk mx_F (12 * 10000 + 264) = some (19, 12, 1008, [(12, 0)]) := by decide +kernel
theorem fd120041 : 41 < 10000 ∧ mx_pk mx_F (12 * 10000 + 41) = some (20, 12, 1009, [(12, 0)]) := by decide +kernel
theorem fd120044 : 44 < 10000 ∧ mx_pk mx_F (12 * 10000 + 44) = some (21, 12, 1010, [(12, 0)]) := by decide +kernel
theorem fd120047 : 47 < 10000 ∧ mx_pk mx_F (12 * 10000 + 47) = some (22, 12, 1011, [(12, 0)]) := by decide +kernel
theorem fd120050 : 50 < 10000 ∧ mx_pk mx_F (12 * 10000 + 50) = some (23, 12, 1012, [(12, 0)]) := by decide +kernel
theorem cl210007 : 7 < 10000 ∧ mx_pk mx_CL (21 * 10000 + 7) = some (11, 70) := by decide +kernel
theorem cl110009 : 9 < 10000 ∧ mx_pk mx_CL (11 * 10000 + 9) = some (3, 78) := by decide +kernel
theorem cl30019 : 19 < 10000 ∧ mx_pk mx_CL (3 * 10000 + 19) = some (10, 84) := by decide +kernel
theorem cl30025 : 25 < 10000 ∧ mx_pk mx_CL (3 * 10000 + 25) = some (6, 86) := by decide +kernel
theorem cl110016 : 16 < 10000 ∧ mx_pk mx_CL (11 * 10000 + 16) = some (5, 157) := by decide +kernel
theorem cl110044 : 44 < 10000 ∧ mx_pk mx_CL (11 * 10000 + 44) = some (7, 174) := by decide +kernel
theorem cl110302 : 302 < 10000 ∧ mx_pk mx_CL (11 * 10000 + 302) = some (0, 262) := by decide +kernel
theorem cl110307 : 307 < 10000 ∧ mx_pk mx_CL (11 * 10000 + 307) = some (8, 308) := by decide +kernel
theorem cl110310 : 310 < 10000 ∧ mx_pk mx_CL (11 * 10000 + 310) = some (2, 320) := by decide +kernel
theorem cl110313 : 313 < 10000 ∧ mx_pk mx_CL (11 * 10000 + 313) = some (1, 332) := by decide +kernel
theorem cl110316 : 316 < 10000 ∧ mx_pk mx_CL (11 * 10000 + 316) = some (9, 344) := by decide +kernel
theorem cl110319 : 319 < 10000 ∧ mx_pk mx_CL (11 * 10000 + 319) = some (4, 356) := by decide +kernel
theorem cl110117 : 117 < 10000 ∧ mx_pk mx_CL (11 * 10000 + 117) = some (6, 368) := by decide +kernel
theorem cl110183 : 183 < 10000 ∧ mx_pk mx_CL (11 * 10000 + 183) = some (10, 539) := by decide +kernel
theorem cl210010 : 10 < 10000 ∧ mx_pk mx_CL (21 * 10000 + 10) = some (12, 983) := by decide +kernel
theorem ki110299 : 299 < 10000 ∧ mx_pk mx_KI (11 * 10000 + 299) = some ((-1000000000), 258) := by decide +kernel
theorem ki110300 : 300 < 10000 ∧ mx_pk mx_KI (11 * 10000 + 300) = some ((-99999999), 469) := by decide +kernel
theorem ki110301 : 301 < 10000 ∧ mx_pk mx_KI (11 * 10000 + 301) = some (99999999, 470) := by decide +kernel
theorem ki170227 : 227 < 10000 ∧ mx_pk mx_KI (17 * 10000 + 227) = some (65536, 649) := by decide +kernel
theorem ki130110 : 110 < 10000 ∧ mx_pk mx_KI (13 * 10000 + 110) = some (55232, 688) := by decide +kernel
theorem ki130076 : 76 < 10000 ∧ mx_pk mx_KI (13 * 10000 + 76) = some (56320, 692) := by decide +kernel
theorem ki30138 : 138 < 10000 ∧ mx_pk mx_KI (3 * 10000 + 138) = some ((-99999999), 720) := by decide +kernel
theorem ki30139 : 139 < 10000 ∧ mx_pk mx_KI (3 * 10000 + 139) = some (99999999, 721) := by decide +kernel
theorem ki110211 : 211 < 10000 ∧ mx_pk mx_KI (11 * 10000 + 211) = some (1103515245, 735) := by decide +kernel
theorem ki110226 : 226 < 10000 ∧ mx_pk mx_KI (11 * 10000 + 226) = some ((-100000000), 778) := by decide +kernel
theorem ki120053 : 53 < 10000 ∧ mx_pk mx_KI (12 * 10000 + 53) = some ((-1000000000), 1075) := by decide +kernel
theorem ki120218 : 218 < 10000 ∧ mx_pk mx_KI (12 * 10000 + 218) = some ((-99999999), 1261) := by decide +kernel
theorem ki120219 : 219 < 10000 ∧ mx_pk mx_KI (12 * 10000 + 219) = some (99999999, 1262) := by decide +kernel
theorem ki120241 : 241 < 10000 ∧ mx_pk mx_KI (12 * 10000 + 241) = some (1103515245, 1275) := by decide +kernel
theorem ki120255 : 255 < 10000 ∧ mx_pk mx_KI (12 * 10000 + 255) = some ((-100000000), 1309) := by decide +kernel
theorem kl120129 : 129 < 10000 ∧ mx_pk mx_KL (12 * 10000 + 129) = some (8, 1067) := by decide +kernel
theorem kl120134 : 134 < 10000 ∧ mx_pk mx_KL (12 * 10000 + 134) = some (255, 1076) := by decide +kernel
theorem kl120121 : 121 < 10000 ∧ mx_pk mx_KL (12 * 10000 + 121) = some (48, 1133) := by decide +kernel
theorem kl120123 : 123 < 10000 ∧ mx_pk mx_KL (12 * 10000 + 123) = some (57, 1134) := by decide +kernel
theorem kl120148 : 148 < 10000 ∧ mx_pk mx_KL (12 * 10000 + 148) = some (6, 1154) := by decide +kernel
theorem kl120150 : 150 < 10000 ∧ mx_pk mx_KL (12 * 10000 + 150) = some (99, 1155) := by decide +kernel
theorem kl120152 : 152 < 10000 ∧ mx_pk mx_KL (12 * 10000 + 152) = some (9999, 1156) := by decide +kernel
theorem kl120179 : 179 < 10000 ∧ mx_pk mx_KL (12 * 10000 + 179) = some (2, 1189) := by decide +kernel
theorem kl120181 : 181 < 10000 ∧ mx_pk mx_KL (12 * 10000 + 181) = some ((-99999999), 1190) := by decide +kernel
theorem kl120183 : 183 < 10000 ∧ mx_pk mx_KL (12 * 10000 + 183) = some (99999999, 1191) := by decide +kernel
theorem kl120185 : 185 < 10000 ∧ mx_pk mx_KL (12 * 10000 + 185) = some ((-1), 1192) := by decide +kernel
theorem kl120187 : 187 < 10000 ∧ mx_pk mx_KL (12 * 10000 + 187) = some (999, 1193) := by decide +kernel
theorem kl120193 : 193 < 10000 ∧ mx_pk mx_KL (12 * 10000 + 193) = some (9, 1212) := by decide +kernel
theorem kl120208 : 208 < 10000 ∧ mx_pk mx_KL (12 * 10000 + 208) = some (4, 1225) := by decide +kernel
theorem kl120256 : 256 < 10000 ∧ mx_pk mx_KL (12 * 10000 + 256) = some (3, 1239) := by decide +kernel
theorem kl120216 : 216 < 10000 ∧ mx_pk mx_KL (12 * 10000 + 216) = some (40, 1244) := by decide +kernel
theorem kl120236 : 236 < 10000 ∧ mx_pk mx_KL (12 * 10000 + 236) = some (60, 1249) := by decide +kernel
theorem kl120294 : 294 < 10000 ∧ mx_pk mx_KL (12 * 10000 + 294) = some (5, 1412) := by decide +kernel
theorem kl210052 : 52 < 10000 ∧ mx_pk mx_KL (21 * 10000 + 52) = some (4294967295, 1413) := by decide +kernel
set_option maxRecDepth 20000 in
theorem cc0_1 : mx_clo 0 1 = some (1, 5, [(99, 40, 0, 0, [267, 268, 54])]) := rfl
set_option maxRecDepth 20000 in
theorem cc0_13 : mx_clo 0 13 = some (4, 1, [(5, 36, 5, 999, [853, 529, 530, 51])]) := rfl
set_option maxRecDepth 20000 in
theorem cc0_19 : mx_clo 0 19 = some (3, 2, [(99, 44, 6, 999, [854, 849, 307, 847, 54])]) := rfl
set_option maxRecDepth 20000 in
theorem cc0_23 : mx_clo 0 23 = some (4, 2, [(0, 45, 0, 45, [855, 856, 860, 858, 860, 54]), (4, 45, 0, 45, [855, 856, 860, 859, 860, 54])]) := rfl
set_option maxRecDepth 20000 in
theorem cc1_1 : mx_clo 1 1 = some (1, 5, [(99, 40, 0, 0, [337, 268, 54])]) := rfl
set_option maxRecDepth 20000 in
theorem cc1_7 : mx_clo 1 7 = some (3, 2, [(99, 41, 6, 999, [403, 396, 343, 394, 54])]) := rfl
set_option maxRecDepth 20000 in
theorem cc1_17 : mx_clo 1 17 = some (4, 1, [(5, 36, 5, 999, [891, 529, 530, 51])]) := rfl
set_option maxRecDepth 20000 in
theorem cc1_23 : mx_clo 1 23 = some (3, 2, [(99, 46, 6, 999, [892, 886, 343, 884, 54])]) := rfl
set_option maxRecDepth 20000 in
theorem cc1_27 : mx_clo 1 27 = some (4, 2, [(1, 43, 1, 43, [893, 894, 827, 896, 827, 54]), (9, 43, 1, 43, [893, 894, 827, 897, 827, 54])]) := rfl
set_option maxRecDepth 20000 in
theorem cc2_1 : mx_clo 2 1 = some (1, 5, [(99, 52, 0, 0, [325, 311, 56])]) := rfl
set_option maxRecDepth 20000 in
theorem cc2_7 : mx_clo 2 7 = some (3, 2, [(99, 53, 8, 999, [407, 1414, 331, 408, 56])]) := rfl
set_option maxRecDepth 20000 in
theorem cc2_17 : mx_clo 2 17 = some (4, 1, [(5, 36, 5, 999, [835, 529, 530, 51])]) := rfl
set_option maxRecDepth 20000 in
theorem cc2_23 : mx_clo 2 23 = some (3, 2, [(99, 45, 8, 1, [876, 877, 331, 860, 54, 319])]) := rfl
set_option maxRecDepth 20000 in
theorem cc2_27 : mx_clo 2 27 = some (3, 2, [(99, 54, 8, 999, [836, 1417, 331, 837, 56])]) := rfl
set_option maxRecDepth 20000 in
theorem cc3_3 : mx_clo 3 3 = some (6, 0, [(99, 0, 0, 0, [83, 76, 77])]) := rfl
set_option maxRecDepth 20000 in
theorem cc3_65 : mx_clo 3 65 = some (7, 5, [(99, 0, 0, 0, [751, 753, 752, 68])]) := rfl
set_option maxRecDepth 20000 in
theorem cc3_89 : mx_clo 3 89 = some (4, 2, [(0, 1, 6, 41, [393, 396, 394, 397, 398, 55]), (1, 4, 6, 41, [393, 396, 394, 400, 401, 58]), (2, 7, 6, 41, [393, 396, 394, 404, 405, 57]), (4, 31, 6, 41, [393, 396, 394, 411, 412, 60]), (6, 41, 6, 999, [393, 394, 395, 54]), (8, 53, 6, 41, [393, 396, 394, 419, 408, 56]), (9, 56, 6, 41, [393, 396, 394, 420, 421, 59])]) := rfl
set_option maxRecDepth 20000 in
theorem cc3_93 : mx_clo 3 93 = some (0, 1, [(99, 28, 0, 0, [428, 429, 50])]) := rfl
set_option maxRecDepth 20000 in
theorem cc3_97 : mx_clo 3 97 = some (4, 1, [(3, 18, 3, 999, [435, 436, 437, 50])]) := rfl
set_option maxRecDepth 20000 in
theorem cc3_100 : mx_clo 3 100 = some (4, 4, [(10, 60, 10, 999, [458, 459, 460, 62])]) := rfl
set_option maxRecDepth 20000 in
theorem cc3_104 : mx_clo 3 104 = some (4, 5, [(3, 16, 3, 999, [454, 455, 456, 50])]) := rfl
set_option maxRecDepth 20000 in
theorem cc3_107 : mx_clo 3 107 = some (4, 2, [(0, 42, 6, 42, [439, 442, 440, 443, 440, 54]), (1, 42, 6, 42, [439, 442, 440, 444, 440, 54]), (2, 42, 6, 42, [439, 442, 440, 445, 440, 54]), (4, 32, 6, 42, [439, 442, 440, 446, 415, 60]), (6, 42, 6, 999, [439, 440, 441, 54]), (8, 42, 6, 42, [439, 442, 440, 447, 440, 54]), (9, 42, 6, 42, [439, 442, 440, 448, 440, 54])]) := rfl
set_option maxRecDepth 20000 in
theorem cc3_111 : mx_clo 3 111 = some (4, 2, [(3, 17, 3, 999, [450, 451, 452, 50])]) := rfl
set_option maxRecDepth 20000 in
theorem cc3_114 : mx_clo 3 114 = some (8, 2, [(99, 0, 0, 0, [434, 425, 61, 426])]) := rfl
set_option maxRecDepth 20000 in
theorem cc3_119 : mx_clo 3 119 = some (4, 0, [(3, 21, 3, 999, [713, 715, 9, 50])]) := rfl
set_option maxRecDepth 20000 in
theorem cc3_122 : mx_clo 3 122 = some (4, 0, [(3, 22, 3, 999, [722, 724, 10, 50])]) := rfl
set_option maxRecDepth 20000 in
theorem cc3_125 : mx_clo 3 125 = some (4, 1, [(3, 23, 3, 999, [726, 728, 11, 50])]) := rfl
set_option maxRecDepth 20000 in
theorem cc3_129 : mx_clo 3 129 = some (9, 2, [(99, 0, 0, 0, [431, 432, 61, 433])]) := rfl
set_option maxRecDepth 20000 in
theorem cc3_132 : mx_clo 3 132 = some (0, 1, [(99, 29, 0, 0, [717, 718, 50])]) := rfl
set_option maxRecDepth 20000 in
theorem cc3_135 : mx_clo 3 135 = some (4, 1, [(3, 15, 3, 999, [730, 503, 504, 50])]) := rfl
set_option maxRecDepth 20000 in
theorem cc4_1 : mx_clo 4 1 = some (1, 5, [(99, 0, 0, 0, [361, 265, 55])]) := rfl
set_option maxRecDepth 20000 in
theorem cc4_7 : mx_clo 4 7 = some (4, 2, [(4, 32, 4, 999, [414, 415, 416, 60])]) := rfl
set_option maxRecDepth 20000 in
theorem cc4_13 : mx_clo 4 13 = some (3, 2, [(99, 1, 0, 999, [418, 1415, 367, 398, 55])]) := rfl
set_option maxRecDepth 20000 in
theorem cc4_21 : mx_clo 4 21 = some (4, 1, [(5, 36, 5, 999, [867, 529, 530, 51])]) := rfl
set_option maxRecDepth 20000 in
theorem cc4_27 : mx_clo 4 27 = some (3, 2, [(99, 2, 0, 999, [868, 1418, 367, 851, 55])]) := rfl
set_option maxRecDepth 20000 in
theorem cc4_34 : mx_clo 4 34 = some (4, 2, [(4, 33, 4, 999, [902, 865, 1427, 60])]) := rfl
set_option maxRecDepth 20000 in
theorem cc4_35 : mx_clo 4 35 = some (3, 2, [(99, 46, 0, 1, [903, 904, 367, 884, 54, 307])]) := rfl
set_option maxRecDepth 20000 in
theorem cc5_1 : mx_clo 5 1 = some (6, 0, [(99, 0, 0, 0, [162, 76, 77])]) := rfl
set_option maxRecDepth 20000 in
theorem cc5_17 : mx_clo 5 17 = some (9, 2, [(99, 0, 0, 0, [953, 432, 61, 433])]) := rfl
set_option maxRecDepth 20000 in
theorem cc5_23 : mx_clo 5 23 = some (7, 5, [(99, 0, 0, 0, [954, 753, 752, 68])]) := rfl
set_option maxRecDepth 20000 in
theorem cc6_1 : mx_clo 6 1 = some (6, 0, [(99, 0, 0, 0, [270, 76, 77])]) := rfl
set_option maxRecDepth 20000 in
theorem cc6_25 : mx_clo 6 25 = some (4, 1, [(5, 36, 5, 999, [845, 529, 530, 51])]) := rfl
set_option maxRecDepth 20000 in
theorem cc6_31 : mx_clo 6 31 = some (4, 2, [(0, 43, 6, 43, [872, 829, 827, 830, 827, 54]), (1, 43, 6, 43, [872, 829, 827, 831, 827, 54]), (2, 9, 6, 43, [872, 829, 827, 832, 833, 57]), (4, 43, 6, 43, [872, 829, 827, 841, 827, 54]), (6, 43, 6, 999, [872, 827, 828, 54]), (8, 54, 6, 43, [872, 829, 827, 842, 837, 56]), (9, 43, 6, 43, [872, 829, 827, 843, 827, 54])]) := rfl
set_option maxRecDepth 20000 in
theorem cc6_35 : mx_clo 6 35 = some (4, 2, [(0, 2, 6, 44, [909, 849, 847, 850, 851, 55]), (1, 44, 6, 44, [909, 849, 847, 862, 847, 54]), (2, 44, 6, 44, [909, 849, 847, 863, 847, 54]), (4, 33, 6, 44, [909, 849, 847, 864, 865, 60]), (6, 44, 6, 999, [909, 847, 848, 54]), (8, 44, 6, 44, [909, 849, 847, 869, 847, 54]), (9, 44, 6, 44, [909, 849, 847, 870, 847, 54])]) := rfl
set_option maxRecDepth 20000 in
theorem cc6_38 : mx_clo 6 38 = some (4, 2, [(0, 45, 6, 45, [910, 1419, 860, 1420, 860, 54]), (1, 45, 6, 45, [910, 1419, 860, 1421, 860, 54]), (2, 8, 6, 45, [910, 1419, 860, 1422, 874, 57]), (4, 45, 6, 45, [910, 1419, 860, 1423, 860, 54]), (6, 45, 6, 999, [910, 860, 1424, 54]), (8, 45, 6, 45, [910, 1419, 860, 1425, 860, 54]), (9, 57, 6, 45, [910, 1419, 860, 1426, 878, 59])]) := rfl
set_option maxRecDepth 20000 in
theorem cc7_3 : mx_clo 7 3 = some (6, 0, [(99, 0, 0, 0, [181, 76, 77])]) := rfl
set_option maxRecDepth 20000 in
theorem cc7_22 : mx_clo 7 22 = some (0, 2, [(99, 217, 0, 0, [926, 927, 69])]) := rfl
set_option maxRecDepth 20000 in
theorem cc8_1 : mx_clo 8 1 = some (1, 5, [(99, 40, 0, 0, [313, 268, 54])]) := rfl
set_option maxRecDepth 20000 in
theorem cc8_7 : mx_clo 8 7 = some (3, 2, [(99, 41, 6, 999, [410, 396, 319, 394, 54])]) := rfl
set_option maxRecDepth 20000 in
theorem cc8_17 : mx_clo 8 17 = some (4, 1, [(5, 36, 5, 999, [839, 529, 530, 51])]) := rfl
set_option maxRecDepth 20000 in
theorem cc8_23 : mx_clo 8 23 = some (3, 2, [(99, 43, 6, 999, [840, 829, 319, 827, 54])]) := rfl
set_option maxRecDepth 20000 in
theorem cc9_1 : mx_clo 9 1 = some (1, 5, [(99, 3, 0, 0, [349, 335, 58])]) := rfl
set_option maxRecDepth 20000 in
theorem cc9_7 : mx_clo 9 7 = some (3, 2, [(99, 4, 1, 999, [423, 1416, 355, 401, 58])]) := rfl
set_option maxRecDepth 20000 in
theorem cc9_17 : mx_clo 9 17 = some (8, 2, [(99, 0, 0, 0, [424, 425, 61, 426])]) := rfl
set_option maxRecDepth 20000 in
theorem cc9_22 : mx_clo 9 22 = some (4, 1, [(5, 36, 5, 999, [880, 529, 530, 51])]) := rfl
set_option maxRecDepth 20000 in
theorem cc9_28 : mx_clo 9 28 = some (3, 2, [(99, 45, 1, 1, [881, 882, 355, 860, 54, 343])]) := rfl
set_option maxRecDepth 20000 in
theorem cc10_1 : mx_clo 10 1 = some (6, 0, [(99, 0, 0, 0, [544, 76, 77])]) := rfl
set_option maxRecDepth 20000 in
theorem cc10_47 : mx_clo 10 47 = some (4, 2, [(10, 65, 10, 999, [584, 586, 3, 62])]) := rfl
set_option maxRecDepth 20000 in
theorem cc10_57 : mx_clo 10 57 = some (4, 1, [(10, 66, 10, 999, [588, 590, 4, 62])]) := rfl
set_option maxRecDepth 20000 in
theorem cc10_61 : mx_clo 10 61 = some (4, 0, [(10, 61, 10, 999, [592, 594, 5, 62])]) := rfl
set_option maxRecDepth 20000 in
theorem cc10_65 : mx_clo 10 65 = some (0, 1, [(99, 63, 0, 0, [693, 694, 62])]) := rfl
set_option maxRecDepth 20000 in
theorem cc10_68 : mx_clo 10 68 = some (4, 3, [(10, 64, 10, 999, [600, 602, 7, 62])]) := rfl
set_option maxRecDepth 20000 in
theorem cc10_72 : mx_clo 10 72 = some (4, 2, [(10, 67, 10, 999, [596, 598, 6, 62])]) := rfl
set_option maxRecDepth 20000 in
theorem cc10_75 : mx_clo 10 75 = some (0, 1, [(99, 62, 0, 0, [604, 605, 62])]) := rfl
set_option maxRecDepth 20000 in
theorem cc10_79 : mx_clo 10 79 = some (4, 0, [(10, 68, 10, 999, [607, 609, 8, 62])]) := rfl
set_option maxRecDepth 20000 in
theorem cc10_82 : mx_clo 10 82 = some (4, 1, [(15, 209, 15, 999, [611, 612, 613, 63])]) := rfl
set_option maxRecDepth 20000 in
theorem cc11_3 : mx_clo 11 3 = some (6, 0, [(99, 0, 0, 0, [75, 76, 77])]) := rfl
set_option maxRecDepth 20000 in
theorem cc11_11 : mx_clo 11 11 = some (2, 0, [(99, 10, 0, 0, [81, 50])]) := rfl
set_option maxRecDepth 20000 in
theorem cc11_18 : mx_clo 11 18 = some (1, 1, [(99, 35, 0, 0, [159, 160, 51])]) := rfl
set_option maxRecDepth 20000 in
theorem cc11_67 : mx_clo 11 67 = some (2, 0, [(99, 47, 0, 0, [179, 52])]) := rfl
set_option maxRecDepth 20000 in
theorem cc11_68 : mx_clo 11 68 = some (0, 3, [(99, 107, 0, 0, [251, 252, 49])]) := rfl
set_option maxRecDepth 20000 in
theorem cc11_72 : mx_clo 11 72 = some (4, 1, [(11, 106, 11, 999, [254, 256, 0, 49])]) := rfl
set_option maxRecDepth 20000 in
theorem cc11_79 : mx_clo 11 79 = some (0, 5, [(99, 117, 0, 0, [259, 260, 49])]) := rfl
set_option maxRecDepth 20000 in
theorem cc11_83 : mx_clo 11 83 = some (4, 1, [(3, 12, 3, 999, [377, 378, 379, 50])]) := rfl
set_option maxRecDepth 20000 in
theorem cc11_87 : mx_clo 11 87 = some (4, 1, [(11, 108, 11, 999, [385, 387, 1, 49])]) := rfl
set_option maxRecDepth 20000 in
theorem cc11_91 : mx_clo 11 91 = some (4, 2, [(3, 14, 3, 999, [389, 390, 391, 50])]) := rfl
set_option maxRecDepth 20000 in
theorem cc11_95 : mx_clo 11 95 = some (0, 2, [(99, 115, 0, 0, [466, 467, 49])]) := rfl
set_option maxRecDepth 20000 in
theorem cc11_112 : mx_clo 11 112 = some (0, 2, [(99, 118, 0, 0, [475, 476, 49])]) := rfl
set_option maxRecDepth 20000 in
theorem cc11_121 : mx_clo 11 121 = some (4, 2, [(3, 17, 3, 999, [482, 451, 452, 50])]) := rfl
set_option maxRecDepth 20000 in
theorem cc11_124 : mx_clo 11 124 = some (0, 3, [(99, 114, 0, 0, [487, 488, 49])]) := rfl
set_option maxRecDepth 20000 in
theorem cc11_130 : mx_clo 11 130 = some (4, 3, [(3, 13, 3, 999, [490, 491, 492, 50])]) := rfl
set_option maxRecDepth 20000 in
theorem cc11_134 : mx_clo 11 134 = some (4, 1, [(11, 109, 11, 999, [498, 500, 2, 49])]) := rfl
set_option maxRecDepth 20000 in
theorem cc11_149 : mx_clo 11 149 = some (4, 1, [(3, 15, 3, 999, [502, 503, 504, 50])]) := rfl
set_option maxRecDepth 20000 in
theorem cc11_152 : mx_clo 11 152 = some (0, 1, [(99, 110, 0, 0, [510, 511, 49])]) := rfl
set_option maxRecDepth 20000 in
theorem cc11_155 : mx_clo 11 155 = some (4, 0, [(7, 48, 7, 999, [513, 514, 515, 52])]) := rfl
set_option maxRecDepth 20000 in
theorem cc11_164 : mx_clo 11 164 = some (0, 2, [(99, 116, 0, 0, [521, 522, 49])]) := rfl
set_option maxRecDepth 20000 in
theorem cc11_177 : mx_clo 11 177 = some (4, 1, [(5, 36, 5, 999, [528, 529, 530, 51])]) := rfl
set_option maxRecDepth 20000 in
theorem cc11_180 : mx_clo 11 180 = some (0, 1, [(99, 111, 0, 0, [536, 537, 49])]) := rfl
set_option maxRecDepth 20000 in
theorem cc11_185 : mx_clo 11 185 = some (1, 2, [(99, 58, 0, 0, [541, 542, 62])]) := rfl
set_option maxRecDepth 20000 in
theorem cc11_188 : mx_clo 11 188 = some (4, 0, [(10, 59, 10, 999, [580, 581, 582, 62])]) := rfl
set_option maxRecDepth 20000 in
theorem cc11_191 : mx_clo 11 191 = some (4, 0, [(5, 37, 5, 999, [696, 697, 698, 51])]) := rfl
set_option maxRecDepth 20000 in
theorem cc11_201 : mx_clo 11 201 = some (4, 5, [(3, 16, 3, 999, [704, 455, 456, 50])]) := rfl
set_option maxRecDepth 20000 in
theorem cc11_208 : mx_clo 11 208 = some (4, 1, [(3, 20, 3, 999, [709, 710, 711, 50])]) := rfl
set_option maxRecDepth 20000 in
theorem cc11_212 : mx_clo 11 212 = some (0, 1, [(99, 112, 0, 0, [740, 741, 49])]) := rfl
set_option maxRecDepth 20000 in
theorem cc11_215 : mx_clo 11 215 = some (4, 1, [(11, 119, 11, 999, [743, 745, 12, 49])]) := rfl
set_option maxRecDepth 20000 in
theorem cc11_219 : mx_clo 11 219 = some (4, 0, [(3, 25, 3, 999, [762, 763, 764, 50])]) := rfl
set_option maxRecDepth 20000 in
theorem cc11_223 : mx_clo 11 223 = some (4, 0, [(3, 27, 3, 999, [770, 771, 772, 50])]) := rfl
set_option maxRecDepth 20000 in
theorem cc11_227 : mx_clo 11 227 = some (4, 3, [(11, 120, 11, 999, [779, 781, 13, 49])]) := rfl
set_option maxRecDepth 20000 in
theorem cc11_230 : mx_clo 11 230 = some (4, 1, [(3, 11, 3, 999, [747, 748, 749, 50])]) := rfl
set_option maxRecDepth 20000 in
theorem cc11_241 : mx_clo 11 241 = some (4, 5, [(11, 121, 11, 999, [799, 801, 14, 49])]) := rfl
set_option maxRecDepth 20000 in
theorem cc11_245 : mx_clo 11 245 = some (4, 0, [(3, 24, 3, 999, [814, 815, 816, 50])]) := rfl
set_option maxRecDepth 20000 in
theorem cc11_248 : mx_clo 11 248 = some (4, 2, [(0, 43, 6, 43, [826, 829, 827, 830, 827, 54]), (1, 43, 6, 43, [826, 829, 827, 831, 827, 54]), (2, 9, 6, 43, [826, 829, 827, 832, 833, 57]), (4, 43, 6, 43, [826, 829, 827, 841, 827, 54]), (6, 43, 6, 999, [826, 827, 828, 54]), (8, 54, 6, 43, [826, 829, 827, 842, 837, 56]), (9, 43, 6, 43, [826, 829, 827, 843, 827, 54])]) := rfl
set_option maxRecDepth 20000 in
theorem cc11_252 : mx_clo 11 252 = some (4, 2, [(0, 2, 6, 44, [846, 849, 847, 850, 851, 55]), (1, 44, 6, 44, [846, 849, 847, 862, 847, 54]), (2, 44, 6, 44, [846, 849, 847, 863, 847, 54]), (4, 33, 6, 44, [846, 849, 847, 864, 865, 60]), (6, 44, 6, 999, [846, 847, 848, 54]), (8, 44, 6, 44, [846, 849, 847, 869, 847, 54]), (9, 44, 6, 44, [846, 849, 847, 870, 847, 54])]) := rfl
set_option maxRecDepth 20000 in
theorem cc11_255 : mx_clo 11 255 = some (4, 2, [(0, 45, 6, 45, [873, 1419, 860, 1420, 860, 54]), (1, 45, 6, 45, [873, 1419, 860, 1421, 860, 54]), (2, 8, 6, 45, [873, 1419, 860, 1422, 874, 57]), (4, 45, 6, 45, [873, 1419, 860, 1423, 860, 54]), (6, 45, 6, 999, [873, 860, 1424, 54]), (8, 45, 6, 45, [873, 1419, 860, 1425, 860, 54]), (9, 57, 6, 45, [873, 1419, 860, 1426, 878, 59])]) := rfl
set_option maxRecDepth 20000 in
theorem cc11_258 : mx_clo 11 258 = some (4, 2, [(0, 46, 6, 46, [883, 886, 884, 887, 884, 54]), (1, 5, 6, 46, [883, 886, 884, 888, 889, 58]), (2, 46, 6, 46, [883, 886, 884, 898, 884, 54]), (4, 34, 6, 46, [883, 886, 884, 899, 900, 60]), (6, 46, 6, 999, [883, 884, 885, 54]), (8, 46, 6, 46, [883, 886, 884, 906, 884, 54]), (9, 5, 6, 46, [883, 886, 884, 907, 889, 58])]) := rfl
set_option maxRecDepth 20000 in
theorem cc11_262 : mx_clo 11 262 = some (0, 1, [(99, 113, 0, 0, [919, 920, 49])]) := rfl
set_option maxRecDepth 20000 in
theorem cc11_265 : mx_clo 11 265 = some (4, 2, [(7, 49, 7, 999, [922, 923, 924, 52])]) := rfl
set_option maxRecDepth 20000 in
theorem cc11_269 : mx_clo 11 269 = some (4, 2, [(7, 50, 7, 999, [933, 934, 935, 52])]) := rfl
set_option maxRecDepth 20000 in
theorem cc11_275 : mx_clo 11 275 = some (4, 2, [(7, 51, 7, 999, [941, 942, 943, 52])]) := rfl
set_option maxRecDepth 20000 in
theorem cc11_277 : mx_clo 11 277 = some (7, 5, [(99, 0, 0, 0, [803, 753, 752, 68])]) := rfl
set_option maxRecDepth 20000 in
theorem cc11_283 : mx_clo 11 283 = some (4, 1, [(5, 39, 5, 999, [949, 950, 951, 51])]) := rfl
set_option maxRecDepth 20000 in
theorem cc11_292 : mx_clo 11 292 = some (4, 2, [(5, 38, 5, 999, [967, 968, 969, 51])]) := rfl
set_option maxRecDepth 20000 in
theorem cc11_296 : mx_clo 11 296 = some (4, 0, [(3, 26, 3, 999, [975, 976, 977, 50])]) := rfl
set_option maxRecDepth 20000 in
theorem cc11_304 : mx_clo 11 304 = some (1, 5, [(99, 0, 0, 0, [264, 265, 55])]) := rfl
set_option maxRecDepth 20000 in
theorem cc11_309 : mx_clo 11 309 = some (1, 5, [(99, 52, 0, 0, [310, 311, 56])]) := rfl
set_option maxRecDepth 20000 in
theorem cc11_312 : mx_clo 11 312 = some (1, 5, [(99, 6, 0, 0, [322, 323, 57])]) := rfl
set_option maxRecDepth 20000 in
theorem cc11_315 : mx_clo 11 315 = some (1, 5, [(99, 3, 0, 0, [334, 335, 58])]) := rfl
set_option maxRecDepth 20000 in
theorem cc11_318 : mx_clo 11 318 = some (1, 5, [(99, 55, 0, 0, [346, 347, 59])]) := rfl
set_option maxRecDepth 20000 in
theorem cc11_321 : mx_clo 11 321 = some (1, 5, [(99, 30, 0, 0, [358, 359, 60])]) := rfl
set_option maxRecDepth 20000 in
theorem cc11_322 : mx_clo 11 322 = some (1, 5, [(99, 40, 0, 0, [370, 268, 54])]) := rfl
set_option maxRecDepth 20000 in
theorem cc11_326 : mx_clo 11 326 = some (4, 2, [(3, 19, 3, 999, [806, 807, 808, 50])]) := rfl
set_option maxRecDepth 20000 in
theorem cc12_1 : mx_clo 12 1 = some (6, 0, [(99, 0, 0, 0, [988, 76, 77])]) := rfl
set_option maxRecDepth 20000 in
theorem cc12_54 : mx_clo 12 54 = some (0, 3, [(99, 124, 0, 0, [1068, 1069, 53])]) := rfl
set_option maxRecDepth 20000 in
theorem cc12_71 : mx_clo 12 71 = some (4, 0, [(12, 131, 12, 999, [1109, 1111, 23, 53])]) := rfl
set_option maxRecDepth 20000 in
theorem cc12_82 : mx_clo 12 82 = some (4, 0, [(12, 137, 12, 999, [1089, 1091, 18, 53])]) := rfl
set_option maxRecDepth 20000 in
theorem cc12_85 : mx_clo 12 85 = some (4, 1, [(12, 133, 12, 999, [1125, 1127, 27, 53])]) := rfl
set_option maxRecDepth 20000 in
theorem cc12_89 : mx_clo 12 89 = some (4, 1, [(12, 135, 12, 999, [1121, 1123, 26, 53])]) := rfl
set_option maxRecDepth 20000 in
theorem cc12_93 : mx_clo 12 93 = some (4, 0, [(12, 138, 12, 999, [1093, 1095, 19, 53])]) := rfl
set_option maxRecDepth 20000 in
theorem cc12_96 : mx_clo 12 96 = some (4, 0, [(12, 139, 12, 999, [1097, 1099, 20, 53])]) := rfl
set_option maxRecDepth 20000 in
theorem cc12_99 : mx_clo 12 99 = some (4, 0, [(12, 140, 12, 999, [1101, 1103, 21, 53])]) := rfl
set_option maxRecDepth 20000 in
theorem cc12_102 : mx_clo 12 102 = some (4, 0, [(12, 142, 12, 999, [1105, 1107, 22, 53])]) := rfl
set_option maxRecDepth 20000 in
theorem cc12_108 : mx_clo 12 108 = some (4, 0, [(12, 132, 12, 999, [1117, 1119, 25, 53])]) := rfl
set_option maxRecDepth 20000 in
theorem cc12_111 : mx_clo 12 111 = some (4, 0, [(12, 136, 12, 999, [1085, 1087, 17, 53])]) := rfl
set_option maxRecDepth 20000 in
theorem cc12_114 : mx_clo 12 114 = some (4, 1, [(12, 141, 12, 999, [1113, 1115, 24, 53])]) := rfl
set_option maxRecDepth 20000 in
theorem cc12_117 : mx_clo 12 117 = some (4, 1, [(12, 134, 12, 999, [1129, 1131, 28, 53])]) := rfl
set_option maxRecDepth 20000 in
theorem cc12_125 : mx_clo 12 125 = some (0, 3, [(99, 144, 0, 0, [1147, 1148, 53])]) := rfl
set_option maxRecDepth 20000 in
theorem cc12_131 : mx_clo 12 131 = some (4, 1, [(12, 123, 12, 999, [1071, 1073, 15, 53])]) := rfl
set_option maxRecDepth 20000 in
theorem cc12_136 : mx_clo 12 136 = some (4, 3, [(12, 143, 12, 999, [1081, 1083, 16, 53])]) := rfl
set_option maxRecDepth 20000 in
theorem cc12_140 : mx_clo 12 140 = some (4, 2, [(12, 145, 12, 999, [1143, 1145, 30, 53])]) := rfl
set_option maxRecDepth 20000 in
theorem cc12_144 : mx_clo 12 144 = some (4, 5, [(12, 148, 12, 999, [1139, 1141, 29, 53])]) := rfl
set_option maxRecDepth 20000 in
theorem cc12_154 : mx_clo 12 154 = some (0, 3, [(99, 129, 0, 0, [1168, 1169, 53])]) := rfl
set_option maxRecDepth 20000 in
theorem cc12_158 : mx_clo 12 158 = some (0, 2, [(99, 151, 0, 0, [1165, 1166, 53])]) := rfl
set_option maxRecDepth 20000 in
theorem cc12_162 : mx_clo 12 162 = some (0, 3, [(99, 125, 0, 0, [1171, 1172, 53])]) := rfl
set_option maxRecDepth 20000 in
theorem cc12_165 : mx_clo 12 165 = some (0, 2, [(99, 152, 0, 0, [1178, 1179, 53])]) := rfl
set_option maxRecDepth 20000 in
theorem cc12_169 : mx_clo 12 169 = some (4, 3, [(12, 153, 12, 999, [1181, 1183, 33, 53])]) := rfl
set_option maxRecDepth 20000 in
theorem cc12_173 : mx_clo 12 173 = some (4, 1, [(12, 127, 12, 999, [1161, 1163, 31, 53])]) := rfl
set_option maxRecDepth 20000 in
theorem cc12_176 : mx_clo 12 176 = some (4, 2, [(12, 154, 12, 999, [1174, 1176, 32, 53])]) := rfl
set_option maxRecDepth 20000 in
theorem cc12_189 : mx_clo 12 189 = some (0, 2, [(99, 157, 0, 0, [1198, 1199, 53])]) := rfl
set_option maxRecDepth 20000 in
theorem cc12_195 : mx_clo 12 195 = some (0, 3, [(99, 160, 0, 0, [1209, 1210, 53])]) := rfl
set_option maxRecDepth 20000 in
theorem cc12_199 : mx_clo 12 199 = some (4, 3, [(12, 161, 12, 999, [1213, 1215, 34, 53])]) := rfl
set_option maxRecDepth 20000 in
theorem cc12_202 : mx_clo 12 202 = some (0, 3, [(99, 130, 0, 0, [1229, 1230, 53])]) := rfl
set_option maxRecDepth 20000 in
theorem cc12_205 : mx_clo 12 205 = some (4, 1, [(12, 128, 12, 999, [1221, 1223, 35, 53])]) := rfl
set_option maxRecDepth 20000 in
theorem cc12_210 : mx_clo 12 210 = some (0, 2, [(99, 163, 0, 0, [1226, 1227, 53])]) := rfl
set_option maxRecDepth 20000 in
theorem cc12_213 : mx_clo 12 213 = some (0, 1, [(99, 198, 0, 0, [1236, 1237, 53])]) := rfl
set_option maxRecDepth 20000 in
theorem cc12_220 : mx_clo 12 220 = some (4, 1, [(12, 168, 12, 999, [1267, 1269, 39, 53])]) := rfl
set_option maxRecDepth 20000 in
theorem cc12_224 : mx_clo 12 224 = some (0, 3, [(99, 167, 0, 0, [1258, 1259, 53])]) := rfl
set_option maxRecDepth 20000 in
theorem cc12_228 : mx_clo 12 228 = some (4, 2, [(12, 169, 12, 999, [1263, 1265, 38, 53])]) := rfl
set_option maxRecDepth 20000 in
theorem cc12_232 : mx_clo 12 232 = some (4, 1, [(12, 170, 12, 999, [1254, 1256, 37, 53])]) := rfl
set_option maxRecDepth 20000 in
theorem cc12_238 : mx_clo 12 238 = some (4, 2, [(12, 171, 12, 999, [1250, 1252, 36, 53])]) := rfl
set_option maxRecDepth 20000 in
theorem cc12_242 : mx_clo 12 242 = some (0, 2, [(99, 126, 0, 0, [1287, 1288, 53])]) := rfl
set_option maxRecDepth 20000 in
theorem cc12_246 : mx_clo 12 246 = some (0, 1, [(99, 174, 0, 0, [1280, 1281, 53])]) := rfl
set_option maxRecDepth 20000 in
theorem cc12_249 : mx_clo 12 249 = some (4, 1, [(12, 175, 12, 999, [1283, 1285, 40, 53])]) := rfl
set_option maxRecDepth 20000 in
theorem cc12_252 : mx_clo 12 252 = some (0, 1, [(99, 178, 0, 0, [1298, 1299, 53])]) := rfl
set_option maxRecDepth 20000 in
theorem cc12_258 : mx_clo 12 258 = some (0, 2, [(99, 185, 0, 0, [1326, 1327, 53])]) := rfl
set_option maxRecDepth 20000 in
theorem cc12_267 : mx_clo 12 267 = some (4, 1, [(12, 189, 12, 999, [1349, 1351, 43, 53])]) := rfl
set_option maxRecDepth 20000 in
theorem cc12_270 : mx_clo 12 270 = some (0, 1, [(99, 190, 0, 0, [1353, 1354, 53])]) := rfl
set_option maxRecDepth 20000 in
theorem cc12_273 : mx_clo 12 273 = some (4, 2, [(12, 192, 12, 999, [1345, 1347, 42, 53])]) := rfl
set_option maxRecDepth 20000 in
theorem cc12_276 : mx_clo 12 276 = some (4, 0, [(12, 191, 12, 999, [1341, 1343, 41, 53])]) := rfl
set_option maxRecDepth 20000 in
theorem cc12_279 : mx_clo 12 279 = some (4, 2, [(12, 193, 12, 999, [1356, 1358, 44, 53])]) := rfl
set_option maxRecDepth 20000 in
theorem cc12_282 : mx_clo 12 282 = some (4, 2, [(12, 194, 12, 999, [1360, 1362, 45, 53])]) := rfl
set_option maxRecDepth 20000 in
theorem cc12_285 : mx_clo 12 285 = some (4, 2, [(12, 195, 12, 999, [1364, 1366, 46, 53])]) := rfl
set_option maxRecDepth 20000 in
theorem cc12_291 : mx_clo 12 291 = some (4, 0, [(12, 206, 12, 999, [1404, 1406, 47, 53])]) := rfl
set_option maxRecDepth 20000 in
theorem cc15_335 : mx_clo 15 335 = some (4, 0, [(15, 213, 15, 999, [629, 630, 631, 63])]) := rfl
set_option maxRecDepth 20000 in
theorem cc15_492 : mx_clo 15 492 = some (4, 0, [(15, 211, 15, 999, [619, 620, 621, 63])]) := rfl
set_option maxRecDepth 20000 in
theorem cc15_505 : mx_clo 15 505 = some (4, 0, [(15, 212, 15, 999, [625, 626, 627, 63])]) := rfl
set_option maxRecDepth 20000 in
theorem cc15_633 : mx_clo 15 633 = some (4, 2, [(15, 210, 15, 999, [615, 616, 617, 63])]) := rfl
set_option maxRecDepth 20000 in
theorem cc15_637 : mx_clo 15 637 = some (0, 4, [(99, 214, 0, 0, [633, 634, 64])]) := rfl
set_option maxRecDepth 20000 in
theorem cc16_38 : mx_clo 16 38 = some (9, 2, [(99, 0, 0, 0, [640, 432, 61, 433])]) := rfl
set_option maxRecDepth 20000 in
theorem cc16_88 : mx_clo 16 88 = some (0, 1, [(99, 215, 0, 0, [636, 637, 64])]) := rfl
set_option maxRecDepth 20000 in
theorem cc16_92 : mx_clo 16 92 = some (8, 2, [(99, 0, 0, 0, [639, 425, 61, 426])]) := rfl
set_option maxRecDepth 20000 in
theorem cc16_95 : mx_clo 16 95 = some (0, 4, [(99, 216, 0, 0, [641, 642, 64])]) := rfl
set_option maxRecDepth 20000 in
theorem cc21_9 : mx_clo 21 9 = some (1, 0, [(99, 69, 0, 0, [72, 73, 49])]) := rfl
set_option maxRecDepth 20000 in
theorem cc21_12 : mx_clo 21 12 = some (1, 0, [(99, 122, 0, 0, [985, 986, 53])]) := rfl
set_option maxRecDepth 20000 in
theorem cc21_13 : mx_clo 21 13 = some (4, 3, [(11, 70, 11, 999, [247, 248, 249, 49])]) := rfl
set_option maxRecDepth 20000 in
theorem cc21_17 : mx_clo 21 17 = some (4, 3, [(12, 150, 12, 999, [1150, 1151, 1152, 53])]) := rfl
set_option maxRecDepth 20000 in
theorem cc21_18 : mx_clo 21 18 = some (4, 2, [(11, 71, 11, 999, [381, 382, 383, 49])]) := rfl
set_option maxRecDepth 20000 in
theorem cc21_22 : mx_clo 21 22 = some (4, 2, [(12, 155, 12, 999, [1157, 1158, 1159, 53])]) := rfl
set_option maxRecDepth 20000 in
theorem cc21_23 : mx_clo 21 23 = some (4, 3, [(11, 72, 11, 999, [462, 463, 464, 49])]) := rfl
set_option maxRecDepth 20000 in
theorem cc21_26 : mx_clo 21 26 = some (4, 3, [(12, 156, 12, 999, [1185, 1186, 1187, 53])]) := rfl
set_option maxRecDepth 20000 in
theorem cc21_27 : mx_clo 21 27 = some (4, 2, [(11, 73, 11, 999, [471, 472, 473, 49])]) := rfl
set_option maxRecDepth 20000 in
theorem cc21_30 : mx_clo 21 30 = some (4, 2, [(12, 158, 12, 999, [1194, 1195, 1196, 53])]) := rfl
set_option maxRecDepth 20000 in
theorem cc21_31 : mx_clo 21 31 = some (4, 2, [(11, 74, 11, 999, [478, 479, 480, 49])]) := rfl
set_option maxRecDepth 20000 in
theorem cc21_34 : mx_clo 21 34 = some (4, 2, [(12, 159, 12, 999, [1201, 1202, 1203, 53])]) := rfl
set_option maxRecDepth 20000 in
theorem cc21_35 : mx_clo 21 35 = some (4, 3, [(11, 75, 11, 999, [483, 484, 485, 49])]) := rfl
set_option maxRecDepth 20000 in
theorem cc21_38 : mx_clo 21 38 = some (4, 3, [(12, 162, 12, 999, [1205, 1206, 1207, 53])]) := rfl
set_option maxRecDepth 20000 in
theorem cc21_39 : mx_clo 21 39 = some (4, 2, [(11, 76, 11, 999, [494, 495, 496, 49])]) := rfl
set_option maxRecDepth 20000 in
theorem cc21_42 : mx_clo 21 42 = some (4, 2, [(12, 164, 12, 999, [1217, 1218, 1219, 53])]) := rfl
set_option maxRecDepth 20000 in
theorem cc21_43 : mx_clo 21 43 = some (4, 1, [(11, 77, 11, 999, [506, 507, 508, 49])]) := rfl
set_option maxRecDepth 20000 in
theorem cc21_47 : mx_clo 21 47 = some (4, 1, [(12, 165, 12, 999, [1232, 1233, 1234, 53])]) := rfl
set_option maxRecDepth 20000 in
theorem cc21_48 : mx_clo 21 48 = some (4, 2, [(11, 78, 11, 999, [517, 518, 519, 49])]) := rfl
set_option maxRecDepth 20000 in
theorem cc21_51 : mx_clo 21 51 = some (4, 2, [(12, 166, 12, 999, [1240, 1241, 1242, 53])]) := rfl
set_option maxRecDepth 20000 in
theorem cc21_54 : mx_clo 21 54 = some (4, 2, [(11, 79, 11, 999, [524, 525, 526, 49])]) := rfl
set_option maxRecDepth 20000 in
theorem cc21_58 : mx_clo 21 58 = some (4, 2, [(12, 146, 12, 999, [1063, 1064, 1065, 53])]) := rfl
set_option maxRecDepth 20000 in
theorem cc21_59 : mx_clo 21 59 = some (4, 1, [(11, 80, 11, 999, [532, 533, 534, 49])]) := rfl
set_option maxRecDepth 20000 in
theorem cc21_62 : mx_clo 21 62 = some (4, 1, [(12, 147, 12, 999, [1077, 1078, 1079, 53])]) := rfl
set_option maxRecDepth 20000 in
theorem cc21_63 : mx_clo 21 63 = some (4, 5, [(11, 81, 11, 999, [700, 701, 702, 49])]) := rfl
set_option maxRecDepth 20000 in
theorem cc21_67 : mx_clo 21 67 = some (4, 5, [(12, 149, 12, 999, [1135, 1136, 1137, 53])]) := rfl
set_option maxRecDepth 20000 in
theorem cc21_68 : mx_clo 21 68 = some (4, 1, [(11, 82, 11, 999, [705, 706, 707, 49])]) := rfl
set_option maxRecDepth 20000 in
theorem cc21_71 : mx_clo 21 71 = some (4, 1, [(12, 172, 12, 999, [1245, 1246, 1247, 53])]) := rfl
set_option maxRecDepth 20000 in
theorem cc21_72 : mx_clo 21 72 = some (4, 1, [(11, 83, 11, 999, [731, 732, 733, 49])]) := rfl
set_option maxRecDepth 20000 in
theorem cc21_75 : mx_clo 21 75 = some (4, 1, [(12, 173, 12, 999, [1271, 1272, 1273, 53])]) := rfl
set_option maxRecDepth 20000 in
theorem cc21_76 : mx_clo 21 76 = some (4, 3, [(11, 84, 11, 999, [736, 737, 738, 49])]) := rfl
set_option maxRecDepth 20000 in
theorem cc21_79 : mx_clo 21 79 = some (4, 3, [(12, 176, 12, 999, [1276, 1277, 1278, 53])]) := rfl
set_option maxRecDepth 20000 in
theorem cc21_80 : mx_clo 21 80 = some (4, 2, [(11, 85, 11, 999, [754, 755, 756, 49])]) := rfl
set_option maxRecDepth 20000 in
theorem cc21_83 : mx_clo 21 83 = some (4, 2, [(12, 177, 12, 999, [1290, 1291, 1292, 53])]) := rfl
set_option maxRecDepth 20000 in
theorem cc21_84 : mx_clo 21 84 = some (4, 1, [(11, 86, 11, 999, [758, 759, 760, 49])]) := rfl
set_option maxRecDepth 20000 in
theorem cc21_87 : mx_clo 21 87 = some (4, 1, [(12, 179, 12, 999, [1294, 1295, 1296, 53])]) := rfl
set_option maxRecDepth 20000 in
theorem cc21_88 : mx_clo 21 88 = some (4, 1, [(11, 87, 11, 999, [766, 767, 768, 49])]) := rfl
set_option maxRecDepth 20000 in
theorem cc21_91 : mx_clo 21 91 = some (4, 1, [(12, 180, 12, 999, [1301, 1302, 1303, 53])]) := rfl
set_option maxRecDepth 20000 in
theorem cc21_92 : mx_clo 21 92 = some (4, 2, [(11, 88, 11, 999, [774, 775, 776, 49])]) := rfl
set_option maxRecDepth 20000 in
theorem cc21_95 : mx_clo 21 95 = some (4, 2, [(12, 181, 12, 999, [1305, 1306, 1307, 53])]) := rfl
set_option maxRecDepth 20000 in
theorem cc21_96 : mx_clo 21 96 = some (4, 2, [(11, 89, 11, 999, [783, 784, 785, 49])]) := rfl
set_option maxRecDepth 20000 in
theorem cc21_99 : mx_clo 21 99 = some (4, 2, [(12, 182, 12, 999, [1310, 1311, 1312, 53])]) := rfl
set_option maxRecDepth 20000 in
theorem cc21_100 : mx_clo 21 100 = some (4, 2, [(11, 90, 11, 999, [787, 788, 789, 49])]) := rfl
set_option maxRecDepth 20000 in
theorem cc21_103 : mx_clo 21 103 = some (4, 2, [(12, 183, 12, 999, [1314, 1315, 1316, 53])]) := rfl
set_option maxRecDepth 20000 in
theorem cc21_104 : mx_clo 21 104 = some (4, 1, [(11, 91, 11, 999, [791, 792, 793, 49])]) := rfl
set_option maxRecDepth 20000 in
theorem cc21_107 : mx_clo 21 107 = some (4, 1, [(12, 184, 12, 999, [1318, 1319, 1320, 53])]) := rfl
set_option maxRecDepth 20000 in
theorem cc21_108 : mx_clo 21 108 = some (4, 4, [(11, 92, 11, 999, [795, 796, 797, 49])]) := rfl
set_option maxRecDepth 20000 in
theorem cc21_112 : mx_clo 21 112 = some (4, 4, [(12, 186, 12, 999, [1322, 1323, 1324, 53])]) := rfl
set_option maxRecDepth 20000 in
theorem cc21_113 : mx_clo 21 113 = some (4, 1, [(11, 93, 11, 999, [810, 811, 812, 49])]) := rfl
set_option maxRecDepth 20000 in
theorem cc21_116 : mx_clo 21 116 = some (4, 1, [(12, 187, 12, 999, [1329, 1330, 1331, 53])]) := rfl
set_option maxRecDepth 20000 in
theorem cc21_117 : mx_clo 21 117 = some (4, 1, [(11, 94, 11, 999, [818, 819, 820, 49])]) := rfl
set_option maxRecDepth 20000 in
theorem cc21_120 : mx_clo 21 120 = some (4, 1, [(12, 188, 12, 999, [1333, 1334, 1335, 53])]) := rfl
set_option maxRecDepth 20000 in
theorem cc21_121 : mx_clo 21 121 = some (4, 3, [(11, 95, 11, 999, [822, 823, 824, 49])]) := rfl
set_option maxRecDepth 20000 in
theorem cc21_124 : mx_clo 21 124 = some (4, 3, [(12, 196, 12, 999, [1337, 1338, 1339, 53])]) := rfl
set_option maxRecDepth 20000 in
theorem cc21_125 : mx_clo 21 125 = some (4, 1, [(11, 96, 11, 999, [911, 912, 913, 49])]) := rfl
set_option maxRecDepth 20000 in
theorem cc21_128 : mx_clo 21 128 = some (4, 1, [(12, 197, 12, 999, [1368, 1369, 1370, 53])]) := rfl
set_option maxRecDepth 20000 in
theorem cc21_129 : mx_clo 21 129 = some (4, 3, [(11, 97, 11, 999, [915, 916, 917, 49])]) := rfl
set_option maxRecDepth 20000 in
theorem cc21_132 : mx_clo 21 132 = some (4, 3, [(12, 199, 12, 999, [1372, 1373, 1374, 53])]) := rfl
set_option maxRecDepth 20000 in
theorem cc21_133 : mx_clo 21 133 = some (4, 3, [(11, 98, 11, 999, [929, 930, 931, 49])]) := rfl
set_option maxRecDepth 20000 in
theorem cc21_136 : mx_clo 21 136 = some (4, 3, [(12, 200, 12, 999, [1376, 1377, 1378, 53])]) := rfl
set_option maxRecDepth 20000 in
theorem cc21_137 : mx_clo 21 137 = some (4, 5, [(11, 99, 11, 999, [937, 938, 939, 49])]) := rfl
set_option maxRecDepth 20000 in
theorem cc21_140 : mx_clo 21 140 = some (4, 5, [(12, 201, 12, 999, [1380, 1381, 1382, 53])]) := rfl
set_option maxRecDepth 20000 in
theorem cc21_141 : mx_clo 21 141 = some (4, 0, [(11, 100, 11, 999, [945, 946, 947, 49])]) := rfl
set_option maxRecDepth 20000 in
theorem cc21_145 : mx_clo 21 145 = some (4, 0, [(12, 202, 12, 999, [1384, 1385, 1386, 53])]) := rfl
set_option maxRecDepth 20000 in
theorem cc21_146 : mx_clo 21 146 = some (4, 0, [(11, 101, 11, 999, [955, 956, 957, 49])]) := rfl
set_option maxRecDepth 20000 in
theorem cc21_149 : mx_clo 21 149 = some (4, 0, [(12, 203, 12, 999, [1388, 1389, 1390, 53])]) := rfl
set_option maxRecDepth 20000 in
theorem cc21_150 : mx_clo 21 150 = some (4, 1, [(11, 102, 11, 999, [959, 960, 961, 49])]) := rfl
set_option maxRecDepth 20000 in
theorem cc21_153 : mx_clo 21 153 = some (4, 1, [(12, 204, 12, 999, [1392, 1393, 1394, 53])]) := rfl
set_option maxRecDepth 20000 in
theorem cc21_154 : mx_clo 21 154 = some (4, 1, [(11, 103, 11, 999, [963, 964, 965, 49])]) := rfl
set_option maxRecDepth 20000 in
theorem cc21_157 : mx_clo 21 157 = some (4, 1, [(12, 205, 12, 999, [1396, 1397, 1398, 53])]) := rfl
set_option maxRecDepth 20000 in
theorem cc21_158 : mx_clo 21 158 = some (4, 1, [(11, 104, 11, 999, [971, 972, 973, 49])]) := rfl
set_option maxRecDepth 20000 in
theorem cc21_161 : mx_clo 21 161 = some (4, 1, [(12, 207, 12, 999, [1400, 1401, 1402, 53])]) := rfl
set_option maxRecDepth 20000 in
theorem cc21_162 : mx_clo 21 162 = some (4, 1, [(11, 105, 11, 999, [979, 980, 981, 49])]) := rfl
set_option maxRecDepth 20000 in
theorem cc21_165 : mx_clo 21 165 = some (4, 1, [(12, 208, 12, 999, [1408, 1409, 1410, 53])]) := rfl
theorem ow0 : mx_ow 0 = 0 := by decide +kernel
theorem ml0 : mx_ml 0 = 6 := by decide +kernel
theorem rt0 : mx_rt 0 = none := by decide +kernel
theorem ow1 : mx_ow 1 = 0 := by decide +kernel
theorem ml1 : mx_ml 1 = 3 := by decide +kernel
theorem rt1 : mx_rt 1 = (some .int) := by decide +kernel
theorem ow2 : mx_ow 2 = 0 := by decide +kernel
theorem ml2 : mx_ml 2 = 3 := by decide +kernel
theorem rt2 : mx_rt 2 = (some .int) := by decide +kernel
theorem ow3 : mx_ow 3 = 1 := by decide +kernel
theorem ml3 : mx_ml 3 = 6 := by decide +kernel
theorem rt3 : mx_rt 3 = none := by decide +kernel
theorem ow4 : mx_ow 4 = 1 := by decide +kernel
theorem ml4 : mx_ml 4 = 4 := by decide +kernel
theorem rt4 : mx_rt 4 = (some .int) := by decide +kernel
theorem ow5 : mx_ow 5 = 1 := by decide +kernel
theorem ml5 : mx_ml 5 = 3 := by decide +kernel
theorem rt5 : mx_rt 5 = (some .int) := by decide +kernel
theorem ow6 : mx_ow 6 = 2 := by decide +kernel
theorem ml6 : mx_ml 6 = 6 := by decide +kernel
theorem rt6 : mx_rt 6 = none := by decide +kernel
theorem ow7 : mx_ow 7 = 2 := by decide +kernel
theorem ml7 : mx_ml 7 = 4 := by decide +kernel
theorem rt7 : mx_rt 7 = (some .int) := by decide +kernel
theorem ow8 : mx_ow 8 = 2 := by decide +kernel
theorem ml8 : mx_ml 8 = 3 := by decide +kernel
theorem rt8 : mx_rt 8 = (some .int) := by decide +kernel
theorem ow9 : mx_ow 9 = 2 := by decide +kernel
theorem ml9 : mx_ml 9 = 3 := by decide +kernel
theorem rt9 : mx_rt 9 = (some .int) := by decide +kernel
theorem ow10 : mx_ow 10 = 3 := by decide +kernel
theorem ml10 : mx_ml 10 = 1 := by decide +kernel
theorem rt10 : mx_rt 10 = none := by decide +kernel
theorem ow11 : mx_ow 11 = 3 := by decide +kernel
theorem ml11 : mx_ml 11 = 3 := by decide +kernel
theorem rt11 : mx_rt 11 = none := by decide +kernel
theorem ow12 : mx_ow 12 = 3 := by decide +kernel
theorem ml12 : mx_ml 12 = 3 := by decide +kernel
theorem rt12 : mx_rt 12 = (some .int) := by decide +kernel
theorem ow13 : mx_ow 13 = 3 := by decide +kernel
theorem ml13 : mx_ml 13 = 5 := by decide +kernel
theorem rt13 : mx_rt 13 = (some .int) := by decide +kernel
theorem ow14 : mx_ow 14 = 3 := by decide +kernel
theorem ml14 : mx_ml 14 = 4 := by decide +kernel
theorem rt14 : mx_rt 14 = (some .int) := by decide +kernel
theorem ow15 : mx_ow 15 = 3 := by decide +kernel
theorem ml15 : mx_ml 15 = 2 := by decide +kernel
theorem rt15 : mx_rt 15 = (some .int) := by decide +kernel
theorem ow16 : mx_ow 16 = 3 := by decide +kernel
theorem ml16 : mx_ml 16 = 8 := by decide +kernel
theorem rt16 : mx_rt 16 = (some .int) := by decide +kernel
theorem ow17 : mx_ow 17 = 3 := by decide +kernel
theorem ml17 : mx_ml 17 = 3 := by decide +kernel
theorem rt17 : mx_rt 17 = (some .boolean) := by decide +kernel
theorem ow18 : mx_ow 18 = 3 := by decide +kernel
theorem ml18 : mx_ml 18 = 5 := by decide +kernel
theorem rt18 : mx_rt 18 = (some .int) := by decide +kernel
theorem ow19 : mx_ow 19 = 3 := by decide +kernel
theorem ml19 : mx_ml 19 = 3 := by decide +kernel
theorem rt19 : mx_rt 19 = none := by decide +kernel
theorem ow20 : mx_ow 20 = 3 := by decide +kernel
theorem ml20 : mx_ml 20 = 4 := by decide +kernel
theorem rt20 : mx_rt 20 = none := by decide +kernel
theorem ow21 : mx_ow 21 = 3 := by decide +kernel
theorem ml21 : mx_ml 21 = 3 := by decide +kernel
theorem rt21 : mx_rt 21 = none := by decide +kernel
theorem ow22 : mx_ow 22 = 3 := by decide +kernel
theorem ml22 : mx_ml 22 = 3 := by decide +kernel
theorem rt22 : mx_rt 22 = none := by decide +kernel
theorem ow23 : mx_ow 23 = 3 := by decide +kernel
theorem ml23 : mx_ml 23 = 7 := by decide +kernel
theorem rt23 : mx_rt 23 = none := by decide +kernel
theorem ow24 : mx_ow 24 = 3 := by decide +kernel
theorem ml24 : mx_ml 24 = 3 := by decide +kernel
theorem rt24 : mx_rt 24 = (some .int) := by decide +kernel
theorem ow25 : mx_ow 25 = 3 := by decide +kernel
theorem ml25 : mx_ml 25 = 3 := by decide +kernel
theorem rt25 : mx_rt 25 = (some .int) := by decide +kernel
theorem ow26 : mx_ow 26 = 3 := by decide +kernel
theorem ml26 : mx_ml 26 = 3 := by decide +kernel
theorem rt26 : mx_rt 26 = (some .int) := by decide +kernel
theorem ow27 : mx_ow 27 = 3 := by decide +kernel
theorem ml27 : mx_ml 27 = 7 := by decide +kernel
theorem rt27 : mx_rt 27 = (some .int) := by decide +kernel
theorem ow28 : mx_ow 28 = 3 := by decide +kernel
theorem ml28 : mx_ml 28 = 1 := by decide +kernel
theorem rt28 : mx_rt 28 = (some .int) := by decide +kernel
theorem ow29 : mx_ow 29 = 3 := by decide +kernel
theorem ml29 : mx_ml 29 = 1 := by decide +kernel
theorem rt29 : mx_rt 29 = (some .int) := by decide +kernel
theorem ow30 : mx_ow 30 = 4 := by decide +kernel
theorem ml30 : mx_ml 30 = 6 := by decide +kernel
theorem rt30 : mx_rt 30 = none := by decide +kernel
theorem ow31 : mx_ow 31 = 4 := by decide +kernel
theorem ml31 : mx_ml 31 = 3 := by decide +kernel
theorem rt31 : mx_rt 31 = (some .int) := by decide +kernel
theorem ow32 : mx_ow 32 = 4 := by decide +kernel
theorem ml32 : mx_ml 32 = 3 := by decide +kernel
theorem rt32 : mx_rt 32 = (some .boolean) := by decide +kernel
theorem ow33 : mx_ow 33 = 4 := by decide +kernel
theorem ml33 : mx_ml 33 = 3 := by decide +kernel
theorem rt33 : mx_rt 33 = (some .int) := by decide +kernel
theorem ow34 : mx_ow 34 = 4 := by decide +kernel
theorem ml34 : mx_ml 34 = 3 := by decide +kernel
theorem rt34 : mx_rt 34 = (some .int) := by decide +kernel
theorem ow35 : mx_ow 35 = 5 := by decide +kernel
theorem ml35 : mx_ml 35 = 2 := by decide +kernel
theorem rt35 : mx_rt 35 = none := by decide +kernel
theorem ow36 : mx_ow 36 = 5 := by decide +kernel
theorem ml36 : mx_ml 36 = 2 := by decide +kernel
theorem rt36 : mx_rt 36 = (some .boolean) := by decide +kernel
theorem ow37 : mx_ow 37 = 5 := by decide +kernel
theorem ml37 : mx_ml 37 = 1 := by decide +kernel
theorem rt37 : mx_rt 37 = none := by decide +kernel
theorem ow38 : mx_ow 38 = 5 := by decide +kernel
theorem ml38 : mx_ml 38 = 5 := by decide +kernel
theorem rt38 : mx_rt 38 = (some .int) := by decide +kernel
theorem ow39 : mx_ow 39 = 5 := by decide +kernel
theorem ml39 : mx_ml 39 = 3 := by decide +kernel
theorem rt39 : mx_rt 39 = none := by decide +kernel
theorem ow40 : mx_ow 40 = 6 := by decide +kernel
theorem ml40 : mx_ml 40 = 6 := by decide +kernel
theorem rt40 : mx_rt 40 = none := by decide +kernel
theorem ow41 : mx_ow 41 = 6 := by decide +kernel
theorem ml41 : mx_ml 41 = 3 := by decide +kernel
theorem rt41 : mx_rt 41 = (some .int) := by decide +kernel
theorem ow42 : mx_ow 42 = 6 := by decide +kernel
theorem ml42 : mx_ml 42 = 3 := by decide +kernel
theorem rt42 : mx_rt 42 = (some .boolean) := by decide +kernel
theorem ow43 : mx_ow 43 = 6 := by decide +kernel
theorem ml43 : mx_ml 43 = 3 := by decide +kernel
theorem rt43 : mx_rt 43 = (some .int) := by decide +kernel
theorem ow44 : mx_ow 44 = 6 := by decide +kernel
theorem ml44 : mx_ml 44 = 3 := by decide +kernel
theorem rt44 : mx_rt 44 = (some .int) := by decide +kernel
theorem ow45 : mx_ow 45 = 6 := by decide +kernel
theorem ml45 : mx_ml 45 = 3 := by decide +kernel
theorem rt45 : mx_rt 45 = (some .int) := by decide +kernel
theorem ow46 : mx_ow 46 = 6 := by decide +kernel
theorem ml46 : mx_ml 46 = 3 := by decide +kernel
theorem rt46 : mx_rt 46 = (some .int) := by decide +kernel
theorem ow47 : mx_ow 47 = 7 := by decide +kernel
theorem ml47 : mx_ml 47 = 1 := by decide +kernel
theorem rt47 : mx_rt 47 = none := by decide +kernel
theorem ow48 : mx_ow 48 = 7 := by decide +kernel
theorem ml48 : mx_ml 48 = 1 := by decide +kernel
theorem rt48 : mx_rt 48 = (some .boolean) := by decide +kernel
theorem ow49 : mx_ow 49 = 7 := by decide +kernel
theorem ml49 : mx_ml 49 = 3 := by decide +kernel
theorem rt49 : mx_rt 49 = none := by decide +kernel
theorem ow50 : mx_ow 50 = 7 := by decide +kernel
theorem ml50 : mx_ml 50 = 3 := by decide +kernel
theorem rt50 : mx_rt 50 = none := by decide +kernel
theorem ow51 : mx_ow 51 = 7 := by decide +kernel
theorem ml51 : mx_ml 51 = 3 := by decide +kernel
theorem rt51 : mx_rt 51 = (some .boolean) := by decide +kernel
theorem ow52 : mx_ow 52 = 8 := by decide +kernel
theorem ml52 : mx_ml 52 = 6 := by decide +kernel
theorem rt52 : mx_rt 52 = none := by decide +kernel
theorem ow53 : mx_ow 53 = 8 := by decide +kernel
theorem ml53 : mx_ml 53 = 3 := by decide +kernel
theorem rt53 : mx_rt 53 = (some .int) := by decide +kernel
theorem ow54 : mx_ow 54 = 8 := by decide +kernel
theorem ml54 : mx_ml 54 = 3 := by decide +kernel
theorem rt54 : mx_rt 54 = (some .int) := by decide +kernel
theorem ow55 : mx_ow 55 = 9 := by decide +kernel
theorem ml55 : mx_ml 55 = 6 := by decide +kernel
theorem rt55 : mx_rt 55 = none := by decide +kernel
theorem ow56 : mx_ow 56 = 9 := by decide +kernel
theorem ml56 : mx_ml 56 = 3 := by decide +kernel
theorem rt56 : mx_rt 56 = (some .int) := by decide +kernel
theorem ow57 : mx_ow 57 = 9 := by decide +kernel
theorem ml57 : mx_ml 57 = 3 := by decide +kernel
theorem rt57 : mx_rt 57 = (some .int) := by decide +kernel
theorem ow58 : mx_ow 58 = 10 := by decide +kernel
theorem ml58 : mx_ml 58 = 3 := by decide +kernel
theorem rt58 : mx_rt 58 = none := by decide +kernel
theorem ow59 : mx_ow 59 = 10 := by decide +kernel
theorem ml59 : mx_ml 59 = 1 := by decide +kernel
theorem rt59 : mx_rt 59 = (some .boolean) := by decide +kernel
theorem ow60 : mx_ow 60 = 10 := by decide +kernel
theorem ml60 : mx_ml 60 = 8 := by decide +kernel
theorem rt60 : mx_rt 60 = (some .int) := by decide +kernel
theorem ow61 : mx_ow 61 = 10 := by decide +kernel
theorem ml61 : mx_ml 61 = 1 := by decide +kernel
theorem rt61 : mx_rt 61 = (some .int) := by decide +kernel
theorem ow62 : mx_ow 62 = 10 := by decide +kernel
theorem ml62 : mx_ml 62 = 1 := by decide +kernel
theorem rt62 : mx_rt 62 = (some .boolean) := by decide +kernel
theorem ow63 : mx_ow 63 = 10 := by decide +kernel
theorem ml63 : mx_ml 63 = 1 := by decide +kernel
theorem rt63 : mx_rt 63 = (some .int) := by decide +kernel
theorem ow64 : mx_ow 64 = 10 := by decide +kernel
theorem ml64 : mx_ml 64 = 4 := by decide +kernel
theorem rt64 : mx_rt 64 = (some .int) := by decide +kernel
theorem ow65 : mx_ow 65 = 10 := by decide +kernel
theorem ml65 : mx_ml 65 = 8 := by decide +kernel
theorem rt65 : mx_rt 65 = (some .int) := by decide +kernel
theorem ow66 : mx_ow 66 = 10 := by decide +kernel
theorem ml66 : mx_ml 66 = 4 := by decide +kernel
theorem rt66 : mx_rt 66 = (some .int) := by decide +kernel
theorem ow67 : mx_ow 67 = 10 := by decide +kernel
theorem ml67 : mx_ml 67 = 4 := by decide +kernel
theorem rt67 : mx_rt 67 = (some .int) := by decide +kernel
theorem ow68 : mx_ow 68 = 10 := by decide +kernel
theorem ml68 : mx_ml 68 = 3 := by decide +kernel
theorem rt68 : mx_rt 68 = (some .int) := by decide +kernel
theorem ow69 : mx_ow 69 = 11 := by decide +kernel
theorem ml69 : mx_ml 69 = 2 := by decide +kernel
theorem rt69 : mx_rt 69 = none := by decide +kernel
theorem ow70 : mx_ow 70 = 11 := by decide +kernel
theorem ml70 : mx_ml 70 = 5 := by decide +kernel
theorem rt70 : mx_rt 70 = (some .int) := by decide +kernel
theorem ow71 : mx_ow 71 = 11 := by decide +kernel
theorem ml71 : mx_ml 71 = 3 := by decide +kernel
theorem rt71 : mx_rt 71 = (some .int) := by decide +kernel
theorem ow72 : mx_ow 72 = 11 := by decide +kernel
theorem ml72 : mx_ml 72 = 6 := by decide +kernel
theorem rt72 : mx_rt 72 = (some .int) := by decide +kernel
theorem ow73 : mx_ow 73 = 11 := by decide +kernel
theorem ml73 : mx_ml 73 = 4 := by decide +kernel
theorem rt73 : mx_rt 73 = (some .int) := by decide +kernel
theorem ow74 : mx_ow 74 = 11 := by decide +kernel
theorem ml74 : mx_ml 74 = 3 := by decide +kernel
theorem rt74 : mx_rt 74 = (some .int) := by decide +kernel
theorem ow75 : mx_ow 75 = 11 := by decide +kernel
theorem ml75 : mx_ml 75 = 4 := by decide +kernel
theorem rt75 : mx_rt 75 = (some .int) := by decide +kernel
theorem ow76 : mx_ow 76 = 11 := by decide +kernel
theorem ml76 : mx_ml 76 = 3 := by decide +kernel
theorem rt76 : mx_rt 76 = (some .int) := by decide +kernel
theorem ow77 : mx_ow 77 = 11 := by decide +kernel
theorem ml77 : mx_ml 77 = 6 := by decide +kernel
theorem rt77 : mx_rt 77 = (some .int) := by decide +kernel
theorem ow78 : mx_ow 78 = 11 := by decide +kernel
theorem ml78 : mx_ml 78 = 4 := by decide +kernel
theorem rt78 : mx_rt 78 = (some .int) := by decide +kernel
theorem ow79 : mx_ow 79 = 11 := by decide +kernel
theorem ml79 : mx_ml 79 = 5 := by decide +kernel
theorem rt79 : mx_rt 79 = (some .int) := by decide +kernel
theorem ow80 : mx_ow 80 = 11 := by decide +kernel
theorem ml80 : mx_ml 80 = 4 := by decide +kernel
theorem rt80 : mx_rt 80 = (some .int) := by decide +kernel
theorem ow81 : mx_ow 81 = 11 := by decide +kernel
theorem ml81 : mx_ml 81 = 6 := by decide +kernel
theorem rt81 : mx_rt 81 = (some .int) := by decide +kernel
theorem ow82 : mx_ow 82 = 11 := by decide +kernel
theorem ml82 : mx_ml 82 = 2 := by decide +kernel
theorem rt82 : mx_rt 82 = (some .int) := by decide +kernel
theorem ow83 : mx_ow 83 = 11 := by decide +kernel
theorem ml83 : mx_ml 83 = 3 := by decide +kernel
theorem rt83 : mx_rt 83 = (some .int) := by decide +kernel
theorem ow84 : mx_ow 84 = 11 := by decide +kernel
theorem ml84 : mx_ml 84 = 4 := by decide +kernel
theorem rt84 : mx_rt 84 = (some .int) := by decide +kernel
theorem ow85 : mx_ow 85 = 11 := by decide +kernel
theorem ml85 : mx_ml 85 = 3 := by decide +kernel
theorem rt85 : mx_rt 85 = (some .int) := by decide +kernel
theorem ow86 : mx_ow 86 = 11 := by decide +kernel
theorem ml86 : mx_ml 86 = 2 := by decide +kernel
theorem rt86 : mx_rt 86 = (some .int) := by decide +kernel
theorem ow87 : mx_ow 87 = 11 := by decide +kernel
theorem ml87 : mx_ml 87 = 2 := by decide +kernel
theorem rt87 : mx_rt 87 = (some .int) := by decide +kernel
theorem ow88 : mx_ow 88 = 11 := by decide +kernel
theorem ml88 : mx_ml 88 = 7 := by decide +kernel
theorem rt88 : mx_rt 88 = (some .int) := by decide +kernel
theorem ow89 : mx_ow 89 = 11 := by decide +kernel
theorem ml89 : mx_ml 89 = 4 := by decide +kernel
theorem rt89 : mx_rt 89 = (some .int) := by decide +kernel
theorem ow90 : mx_ow 90 = 11 := by decide +kernel
theorem ml90 : mx_ml 90 = 4 := by decide +kernel
theorem rt90 : mx_rt 90 = (some .int) := by decide +kernel
theorem ow91 : mx_ow 91 = 11 := by decide +kernel
theorem ml91 : mx_ml 91 = 6 := by decide +kernel
theorem rt91 : mx_rt 91 = (some .int) := by decide +kernel
theorem ow92 : mx_ow 92 = 11 := by decide +kernel
theorem ml92 : mx_ml 92 = 6 := by decide +kernel
theorem rt92 : mx_rt 92 = (some .int) := by decide +kernel
theorem ow93 : mx_ow 93 = 11 := by decide +kernel
theorem ml93 : mx_ml 93 = 3 := by decide +kernel
theorem rt93 : mx_rt 93 = (some .int) := by decide +kernel
theorem ow94 : mx_ow 94 = 11 := by decide +kernel
theorem ml94 : mx_ml 94 = 3 := by decide +kernel
theorem rt94 : mx_rt 94 = (some .int) := by decide +kernel
theorem ow95 : mx_ow 95 = 11 := by decide +kernel
theorem ml95 : mx_ml 95 = 5 := by decide +kernel
theorem rt95 : mx_rt 95 = (some .int) := by decide +kernel
theorem ow96 : mx_ow 96 = 11 := by decide +kernel
theorem ml96 : mx_ml 96 = 2 := by decide +kernel
theorem rt96 : mx_rt 96 = (some .int) := by decide +kernel
theorem ow97 : mx_ow 97 = 11 := by decide +kernel
theorem ml97 : mx_ml 97 = 4 := by decide +kernel
theorem rt97 : mx_rt 97 = (some .int) := by decide +kernel
theorem ow98 : mx_ow 98 = 11 := by decide +kernel
theorem ml98 : mx_ml 98 = 5 := by decide +kernel
theorem rt98 : mx_rt 98 = (some .int) := by decide +kernel
theorem ow99 : mx_ow 99 = 11 := by decide +kernel
theorem ml99 : mx_ml 99 = 8 := by decide +kernel
theorem rt99 : mx_rt 99 = (some .int) := by decide +kernel
theorem ow100 : mx_ow 100 = 11 := by decide +kernel
theorem ml100 : mx_ml 100 = 1 := by decide +kernel
theorem rt100 : mx_rt 100 = (some .int) := by decide +kernel
theorem ow101 : mx_ow 101 = 11 := by decide +kernel
theorem ml101 : mx_ml 101 = 1 := by decide +kernel
theorem rt101 : mx_rt 101 = (some .int) := by decide +kernel
theorem ow102 : mx_ow 102 = 11 := by decide +kernel
theorem ml102 : mx_ml 102 = 2 := by decide +kernel
theorem rt102 : mx_rt 102 = (some .int) := by decide +kernel
theorem ow103 : mx_ow 103 = 11 := by decide +kernel
theorem ml103 : mx_ml 103 = 4 := by decide +kernel
theorem rt103 : mx_rt 103 = (some .int) := by decide +kernel
theorem ow104 : mx_ow 104 = 11 := by decide +kernel
theorem ml104 : mx_ml 104 = 2 := by decide +kernel
theorem rt104 : mx_rt 104 = (some .int) := by decide +kernel
theorem ow105 : mx_ow 105 = 11 := by decide +kernel
theorem ml105 : mx_ml 105 = 2 := by decide +kernel
theorem rt105 : mx_rt 105 = (some .int) := by decide +kernel
theorem ow106 : mx_ow 106 = 11 := by decide +kernel
theorem ml106 : mx_ml 106 = 2 := by decide +kernel
theorem rt106 : mx_rt 106 = (some .int) := by decide +kernel
theorem ow107 : mx_ow 107 = 11 := by decide +kernel
theorem ml107 : mx_ml 107 = 3 := by decide +kernel
theorem rt107 : mx_rt 107 = (some .boolean) := by decide +kernel
theorem ow108 : mx_ow 108 = 11 := by decide +kernel
theorem ml108 : mx_ml 108 = 2 := by decide +kernel
theorem rt108 : mx_rt 108 = (some .boolean) := by decide +kernel
theorem ow109 : mx_ow 109 = 11 := by decide +kernel
theorem ml109 : mx_ml 109 = 2 := by decide +kernel
theorem rt109 : mx_rt 109 = (some .boolean) := by decide +kernel
theorem ow110 : mx_ow 110 = 11 := by decide +kernel
theorem ml110 : mx_ml 110 = 1 := by decide +kernel
theorem rt110 : mx_rt 110 = (some .boolean) := by decide +kernel
theorem ow111 : mx_ow 111 = 11 := by decide +kernel
theorem ml111 : mx_ml 111 = 1 := by decide +kernel
theorem rt111 : mx_rt 111 = (some .boolean) := by decide +kernel
theorem ow112 : mx_ow 112 = 11 := by decide +kernel
theorem ml112 : mx_ml 112 = 1 := by decide +kernel
theorem rt112 : mx_rt 112 = (some .boolean) := by decide +kernel
theorem ow113 : mx_ow 113 = 11 := by decide +kernel
theorem ml113 : mx_ml 113 = 1 := by decide +kernel
theorem rt113 : mx_rt 113 = (some .boolean) := by decide +kernel
theorem ow114 : mx_ow 114 = 11 := by decide +kernel
theorem ml114 : mx_ml 114 = 3 := by decide +kernel
theorem rt114 : mx_rt 114 = (some .boolean) := by decide +kernel
theorem ow115 : mx_ow 115 = 11 := by decide +kernel
theorem ml115 : mx_ml 115 = 2 := by decide +kernel
theorem rt115 : mx_rt 115 = (some .boolean) := by decide +kernel
theorem ow116 : mx_ow 116 = 11 := by decide +kernel
theorem ml116 : mx_ml 116 = 2 := by decide +kernel
theorem rt116 : mx_rt 116 = (some .boolean) := by decide +kernel
theorem ow117 : mx_ow 117 = 11 := by decide +kernel
theorem ml117 : mx_ml 117 = 5 := by decide +kernel
theorem rt117 : mx_rt 117 = (some (.object "FallingSlates$Seller")) := by decide +kernel
theorem ow118 : mx_ow 118 = 11 := by decide +kernel
theorem ml118 : mx_ml 118 = 2 := by decide +kernel
theorem rt118 : mx_rt 118 = (some .boolean) := by decide +kernel
theorem ow119 : mx_ow 119 = 11 := by decide +kernel
theorem ml119 : mx_ml 119 = 2 := by decide +kernel
theorem rt119 : mx_rt 119 = (some (.object "FallingSlates$Market")) := by decide +kernel
theorem ow120 : mx_ow 120 = 11 := by decide +kernel
theorem ml120 : mx_ml 120 = 4 := by decide +kernel
theorem rt120 : mx_rt 120 = (some .int) := by decide +kernel
theorem ow121 : mx_ow 121 = 11 := by decide +kernel
theorem ml121 : mx_ml 121 = 11 := by decide +kernel
theorem rt121 : mx_rt 121 = none := by decide +kernel
theorem ow122 : mx_ow 122 = 12 := by decide +kernel
theorem ml122 : mx_ml 122 = 1 := by decide +kernel
theorem rt122 : mx_rt 122 = none := by decide +kernel
theorem ow123 : mx_ow 123 = 12 := by decide +kernel
theorem ml123 : mx_ml 123 = 2 := by decide +kernel
theorem rt123 : mx_rt 123 = (some .int) := by decide +kernel
theorem ow124 : mx_ow 124 = 12 := by decide +kernel
theorem ml124 : mx_ml 124 = 6 := by decide +kernel
theorem rt124 : mx_rt 124 = (some .boolean) := by decide +kernel
theorem ow125 : mx_ow 125 = 12 := by decide +kernel
theorem ml125 : mx_ml 125 = 3 := by decide +kernel
theorem rt125 : mx_rt 125 = (some .int) := by decide +kernel
theorem ow126 : mx_ow 126 = 12 := by decide +kernel
theorem ml126 : mx_ml 126 = 3 := by decide +kernel
theorem rt126 : mx_rt 126 = none := by decide +kernel
theorem ow127 : mx_ow 127 = 12 := by decide +kernel
theorem ml127 : mx_ml 127 = 2 := by decide +kernel
theorem rt127 : mx_rt 127 = (some .boolean) := by decide +kernel
theorem ow128 : mx_ow 128 = 12 := by decide +kernel
theorem ml128 : mx_ml 128 = 2 := by decide +kernel
theorem rt128 : mx_rt 128 = (some .boolean) := by decide +kernel
theorem ow129 : mx_ow 129 = 12 := by decide +kernel
theorem ml129 : mx_ml 129 = 3 := by decide +kernel
theorem rt129 : mx_rt 129 = (some .int) := by decide +kernel
theorem ow130 : mx_ow 130 = 12 := by decide +kernel
theorem ml130 : mx_ml 130 = 3 := by decide +kernel
theorem rt130 : mx_rt 130 = (some .int) := by decide +kernel
theorem ow131 : mx_ow 131 = 12 := by decide +kernel
theorem ml131 : mx_ml 131 = 1 := by decide +kernel
theorem rt131 : mx_rt 131 = (some .int) := by decide +kernel
theorem ow132 : mx_ow 132 = 12 := by decide +kernel
theorem ml132 : mx_ml 132 = 1 := by decide +kernel
theorem rt132 : mx_rt 132 = none := by decide +kernel
theorem ow133 : mx_ow 133 = 12 := by decide +kernel
theorem ml133 : mx_ml 133 = 2 := by decide +kernel
theorem rt133 : mx_rt 133 = (some .boolean) := by decide +kernel
theorem ow134 : mx_ow 134 = 12 := by decide +kernel
theorem ml134 : mx_ml 134 = 2 := by decide +kernel
theorem rt134 : mx_rt 134 = (some .int) := by decide +kernel
theorem ow135 : mx_ow 135 = 12 := by decide +kernel
theorem ml135 : mx_ml 135 = 2 := by decide +kernel
theorem rt135 : mx_rt 135 = none := by decide +kernel
theorem ow136 : mx_ow 136 = 12 := by decide +kernel
theorem ml136 : mx_ml 136 = 1 := by decide +kernel
theorem rt136 : mx_rt 136 = none := by decide +kernel
theorem ow137 : mx_ow 137 = 12 := by decide +kernel
theorem ml137 : mx_ml 137 = 1 := by decide +kernel
theorem rt137 : mx_rt 137 = none := by decide +kernel
theorem ow138 : mx_ow 138 = 12 := by decide +kernel
theorem ml138 : mx_ml 138 = 2 := by decide +kernel
theorem rt138 : mx_rt 138 = none := by decide +kernel
theorem ow139 : mx_ow 139 = 12 := by decide +kernel
theorem ml139 : mx_ml 139 = 2 := by decide +kernel
theorem rt139 : mx_rt 139 = none := by decide +kernel
theorem ow140 : mx_ow 140 = 12 := by decide +kernel
theorem ml140 : mx_ml 140 = 2 := by decide +kernel
theorem rt140 : mx_rt 140 = none := by decide +kernel
theorem ow141 : mx_ow 141 = 12 := by decide +kernel
theorem ml141 : mx_ml 141 = 2 := by decide +kernel
theorem rt141 : mx_rt 141 = none := by decide +kernel
theorem ow142 : mx_ow 142 = 12 := by decide +kernel
theorem ml142 : mx_ml 142 = 5 := by decide +kernel
theorem rt142 : mx_rt 142 = none := by decide +kernel
theorem ow143 : mx_ow 143 = 12 := by decide +kernel
theorem ml143 : mx_ml 143 = 4 := by decide +kernel
theorem rt143 : mx_rt 143 = none := by decide +kernel
theorem ow144 : mx_ow 144 = 12 := by decide +kernel
theorem ml144 : mx_ml 144 = 3 := by decide +kernel
theorem rt144 : mx_rt 144 = (some .int) := by decide +kernel
theorem ow145 : mx_ow 145 = 12 := by decide +kernel
theorem ml145 : mx_ml 145 = 6 := by decide +kernel
theorem rt145 : mx_rt 145 = (some .int) := by decide +kernel
theorem ow146 : mx_ow 146 = 12 := by decide +kernel
theorem ml146 : mx_ml 146 = 5 := by decide +kernel
theorem rt146 : mx_rt 146 = (some .int) := by decide +kernel
theorem ow147 : mx_ow 147 = 12 := by decide +kernel
theorem ml147 : mx_ml 147 = 4 := by decide +kernel
theorem rt147 : mx_rt 147 = (some .int) := by decide +kernel
theorem ow148 : mx_ow 148 = 12 := by decide +kernel
theorem ml148 : mx_ml 148 = 7 := by decide +kernel
theorem rt148 : mx_rt 148 = (some .int) := by decide +kernel
theorem ow149 : mx_ow 149 = 12 := by decide +kernel
theorem ml149 : mx_ml 149 = 6 := by decide +kernel
theorem rt149 : mx_rt 149 = (some .int) := by decide +kernel
theorem ow150 : mx_ow 150 = 12 := by decide +kernel
theorem ml150 : mx_ml 150 = 5 := by decide +kernel
theorem rt150 : mx_rt 150 = (some .int) := by decide +kernel
theorem ow151 : mx_ow 151 = 12 := by decide +kernel
theorem ml151 : mx_ml 151 = 9 := by decide +kernel
theorem rt151 : mx_rt 151 = (some .int) := by decide +kernel
theorem ow152 : mx_ow 152 = 12 := by decide +kernel
theorem ml152 : mx_ml 152 = 3 := by decide +kernel
theorem rt152 : mx_rt 152 = (some .boolean) := by decide +kernel
theorem ow153 : mx_ow 153 = 12 := by decide +kernel
theorem ml153 : mx_ml 153 = 5 := by decide +kernel
theorem rt153 : mx_rt 153 = (some .boolean) := by decide +kernel
theorem ow154 : mx_ow 154 = 12 := by decide +kernel
theorem ml154 : mx_ml 154 = 4 := by decide +kernel
theorem rt154 : mx_rt 154 = (some .int) := by decide +kernel
theorem ow155 : mx_ow 155 = 12 := by decide +kernel
theorem ml155 : mx_ml 155 = 3 := by decide +kernel
theorem rt155 : mx_rt 155 = (some .int) := by decide +kernel
theorem ow156 : mx_ow 156 = 12 := by decide +kernel
theorem ml156 : mx_ml 156 = 6 := by decide +kernel
theorem rt156 : mx_rt 156 = (some .int) := by decide +kernel
theorem ow157 : mx_ow 157 = 12 := by decide +kernel
theorem ml157 : mx_ml 157 = 2 := by decide +kernel
theorem rt157 : mx_rt 157 = (some .boolean) := by decide +kernel
theorem ow158 : mx_ow 158 = 12 := by decide +kernel
theorem ml158 : mx_ml 158 = 3 := by decide +kernel
theorem rt158 : mx_rt 158 = (some .int) := by decide +kernel
theorem ow159 : mx_ow 159 = 12 := by decide +kernel
theorem ml159 : mx_ml 159 = 3 := by decide +kernel
theorem rt159 : mx_rt 159 = (some .int) := by decide +kernel
theorem ow160 : mx_ow 160 = 12 := by decide +kernel
theorem ml160 : mx_ml 160 = 3 := by decide +kernel
theorem rt160 : mx_rt 160 = (some .boolean) := by decide +kernel
theorem ow161 : mx_ow 161 = 12 := by decide +kernel
theorem ml161 : mx_ml 161 = 5 := by decide +kernel
theorem rt161 : mx_rt 161 = none := by decide +kernel
theorem ow162 : mx_ow 162 = 12 := by decide +kernel
theorem ml162 : mx_ml 162 = 4 := by decide +kernel
theorem rt162 : mx_rt 162 = (some .int) := by decide +kernel
theorem ow163 : mx_ow 163 = 12 := by decide +kernel
theorem ml163 : mx_ml 163 = 2 := by decide +kernel
theorem rt163 : mx_rt 163 = (some .int) := by decide +kernel
theorem ow164 : mx_ow 164 = 12 := by decide +kernel
theorem ml164 : mx_ml 164 = 3 := by decide +kernel
theorem rt164 : mx_rt 164 = (some .int) := by decide +kernel
theorem ow165 : mx_ow 165 = 12 := by decide +kernel
theorem ml165 : mx_ml 165 = 4 := by decide +kernel
theorem rt165 : mx_rt 165 = (some .int) := by decide +kernel
theorem ow166 : mx_ow 166 = 12 := by decide +kernel
theorem ml166 : mx_ml 166 = 4 := by decide +kernel
theorem rt166 : mx_rt 166 = (some .int) := by decide +kernel
theorem ow167 : mx_ow 167 = 12 := by decide +kernel
theorem ml167 : mx_ml 167 = 4 := by decide +kernel
theorem rt167 : mx_rt 167 = none := by decide +kernel
theorem ow168 : mx_ow 168 = 12 := by decide +kernel
theorem ml168 : mx_ml 168 = 5 := by decide +kernel
theorem rt168 : mx_rt 168 = (some .int) := by decide +kernel
theorem ow169 : mx_ow 169 = 12 := by decide +kernel
theorem ml169 : mx_ml 169 = 8 := by decide +kernel
theorem rt169 : mx_rt 169 = none := by decide +kernel
theorem ow170 : mx_ow 170 = 12 := by decide +kernel
theorem ml170 : mx_ml 170 = 4 := by decide +kernel
theorem rt170 : mx_rt 170 = none := by decide +kernel
theorem ow171 : mx_ow 171 = 12 := by decide +kernel
theorem ml171 : mx_ml 171 = 4 := by decide +kernel
theorem rt171 : mx_rt 171 = none := by decide +kernel
theorem ow172 : mx_ow 172 = 12 := by decide +kernel
theorem ml172 : mx_ml 172 = 2 := by decide +kernel
theorem rt172 : mx_rt 172 = (some .int) := by decide +kernel
theorem ow173 : mx_ow 173 = 12 := by decide +kernel
theorem ml173 : mx_ml 173 = 3 := by decide +kernel
theorem rt173 : mx_rt 173 = (some .int) := by decide +kernel
theorem ow174 : mx_ow 174 = 12 := by decide +kernel
theorem ml174 : mx_ml 174 = 1 := by decide +kernel
theorem rt174 : mx_rt 174 = (some .boolean) := by decide +kernel
theorem ow175 : mx_ow 175 = 12 := by decide +kernel
theorem ml175 : mx_ml 175 = 2 := by decide +kernel
theorem rt175 : mx_rt 175 = none := by decide +kernel
theorem ow176 : mx_ow 176 = 12 := by decide +kernel
theorem ml176 : mx_ml 176 = 4 := by decide +kernel
theorem rt176 : mx_rt 176 = (some .int) := by decide +kernel
theorem ow177 : mx_ow 177 = 12 := by decide +kernel
theorem ml177 : mx_ml 177 = 3 := by decide +kernel
theorem rt177 : mx_rt 177 = (some .int) := by decide +kernel
theorem ow178 : mx_ow 178 = 12 := by decide +kernel
theorem ml178 : mx_ml 178 = 3 := by decide +kernel
theorem rt178 : mx_rt 178 = (some .int) := by decide +kernel
theorem ow179 : mx_ow 179 = 12 := by decide +kernel
theorem ml179 : mx_ml 179 = 2 := by decide +kernel
theorem rt179 : mx_rt 179 = (some .int) := by decide +kernel
theorem ow180 : mx_ow 180 = 12 := by decide +kernel
theorem ml180 : mx_ml 180 = 8 := by decide +kernel
theorem rt180 : mx_rt 180 = (some .int) := by decide +kernel
theorem ow181 : mx_ow 181 = 12 := by decide +kernel
theorem ml181 : mx_ml 181 = 7 := by decide +kernel
theorem rt181 : mx_rt 181 = (some .int) := by decide +kernel
theorem ow182 : mx_ow 182 = 12 := by decide +kernel
theorem ml182 : mx_ml 182 = 4 := by decide +kernel
theorem rt182 : mx_rt 182 = (some .int) := by decide +kernel
theorem ow183 : mx_ow 183 = 12 := by decide +kernel
theorem ml183 : mx_ml 183 = 4 := by decide +kernel
theorem rt183 : mx_rt 183 = (some .int) := by decide +kernel
theorem ow184 : mx_ow 184 = 12 := by decide +kernel
theorem ml184 : mx_ml 184 = 4 := by decide +kernel
theorem rt184 : mx_rt 184 = (some .int) := by decide +kernel
theorem ow185 : mx_ow 185 = 12 := by decide +kernel
theorem ml185 : mx_ml 185 = 3 := by decide +kernel
theorem rt185 : mx_rt 185 = (some .int) := by decide +kernel
theorem ow186 : mx_ow 186 = 12 := by decide +kernel
theorem ml186 : mx_ml 186 = 11 := by decide +kernel
theorem rt186 : mx_rt 186 = (some .int) := by decide +kernel
theorem ow187 : mx_ow 187 = 12 := by decide +kernel
theorem ml187 : mx_ml 187 = 3 := by decide +kernel
theorem rt187 : mx_rt 187 = (some .int) := by decide +kernel
theorem ow188 : mx_ow 188 = 12 := by decide +kernel
theorem ml188 : mx_ml 188 = 3 := by decide +kernel
theorem rt188 : mx_rt 188 = (some .int) := by decide +kernel
theorem ow189 : mx_ow 189 = 12 := by decide +kernel
theorem ml189 : mx_ml 189 = 2 := by decide +kernel
theorem rt189 : mx_rt 189 = none := by decide +kernel
theorem ow190 : mx_ow 190 = 12 := by decide +kernel
theorem ml190 : mx_ml 190 = 1 := by decide +kernel
theorem rt190 : mx_rt 190 = (some .int) := by decide +kernel
theorem ow191 : mx_ow 191 = 12 := by decide +kernel
theorem ml191 : mx_ml 191 = 1 := by decide +kernel
theorem rt191 : mx_rt 191 = (some .int) := by decide +kernel
theorem ow192 : mx_ow 192 = 12 := by decide +kernel
theorem ml192 : mx_ml 192 = 3 := by decide +kernel
theorem rt192 : mx_rt 192 = (some .int) := by decide +kernel
theorem ow193 : mx_ow 193 = 12 := by decide +kernel
theorem ml193 : mx_ml 193 = 4 := by decide +kernel
theorem rt193 : mx_rt 193 = (some .int) := by decide +kernel
theorem ow194 : mx_ow 194 = 12 := by decide +kernel
theorem ml194 : mx_ml 194 = 3 := by decide +kernel
theorem rt194 : mx_rt 194 = (some .int) := by decide +kernel
theorem ow195 : mx_ow 195 = 12 := by decide +kernel
theorem ml195 : mx_ml 195 = 4 := by decide +kernel
theorem rt195 : mx_rt 195 = (some .int) := by decide +kernel
theorem ow196 : mx_ow 196 = 12 := by decide +kernel
theorem ml196 : mx_ml 196 = 5 := by decide +kernel
theorem rt196 : mx_rt 196 = (some .int) := by decide +kernel
theorem ow197 : mx_ow 197 = 12 := by decide +kernel
theorem ml197 : mx_ml 197 = 2 := by decide +kernel
theorem rt197 : mx_rt 197 = (some .int) := by decide +kernel
theorem ow198 : mx_ow 198 = 12 := by decide +kernel
theorem ml198 : mx_ml 198 = 1 := by decide +kernel
theorem rt198 : mx_rt 198 = (some .boolean) := by decide +kernel
theorem ow199 : mx_ow 199 = 12 := by decide +kernel
theorem ml199 : mx_ml 199 = 5 := by decide +kernel
theorem rt199 : mx_rt 199 = (some .int) := by decide +kernel
theorem ow200 : mx_ow 200 = 12 := by decide +kernel
theorem ml200 : mx_ml 200 = 4 := by decide +kernel
theorem rt200 : mx_rt 200 = (some .int) := by decide +kernel
theorem ow201 : mx_ow 201 = 12 := by decide +kernel
theorem ml201 : mx_ml 201 = 7 := by decide +kernel
theorem rt201 : mx_rt 201 = (some .int) := by decide +kernel
theorem ow202 : mx_ow 202 = 12 := by decide +kernel
theorem ml202 : mx_ml 202 = 1 := by decide +kernel
theorem rt202 : mx_rt 202 = (some .int) := by decide +kernel
theorem ow203 : mx_ow 203 = 12 := by decide +kernel
theorem ml203 : mx_ml 203 = 1 := by decide +kernel
theorem rt203 : mx_rt 203 = (some .int) := by decide +kernel
theorem ow204 : mx_ow 204 = 12 := by decide +kernel
theorem ml204 : mx_ml 204 = 2 := by decide +kernel
theorem rt204 : mx_rt 204 = (some .int) := by decide +kernel
theorem ow205 : mx_ow 205 = 12 := by decide +kernel
theorem ml205 : mx_ml 205 = 4 := by decide +kernel
theorem rt205 : mx_rt 205 = (some .int) := by decide +kernel
theorem ow206 : mx_ow 206 = 12 := by decide +kernel
theorem ml206 : mx_ml 206 = 3 := by decide +kernel
theorem rt206 : mx_rt 206 = (some .int) := by decide +kernel
theorem ow207 : mx_ow 207 = 12 := by decide +kernel
theorem ml207 : mx_ml 207 = 2 := by decide +kernel
theorem rt207 : mx_rt 207 = (some .int) := by decide +kernel
theorem ow208 : mx_ow 208 = 12 := by decide +kernel
theorem ml208 : mx_ml 208 = 2 := by decide +kernel
theorem rt208 : mx_rt 208 = (some .int) := by decide +kernel
theorem ow209 : mx_ow 209 = 15 := by decide +kernel
theorem ml209 : mx_ml 209 = 2 := by decide +kernel
theorem rt209 : mx_rt 209 = (some .int) := by decide +kernel
theorem ow210 : mx_ow 210 = 15 := by decide +kernel
theorem ml210 : mx_ml 210 = 3 := by decide +kernel
theorem rt210 : mx_rt 210 = (some .int) := by decide +kernel
theorem ow211 : mx_ow 211 = 15 := by decide +kernel
theorem ml211 : mx_ml 211 = 1 := by decide +kernel
theorem rt211 : mx_rt 211 = (some .boolean) := by decide +kernel
theorem ow212 : mx_ow 212 = 15 := by decide +kernel
theorem ml212 : mx_ml 212 = 1 := by decide +kernel
theorem rt212 : mx_rt 212 = (some .int) := by decide +kernel
theorem ow213 : mx_ow 213 = 15 := by decide +kernel
theorem ml213 : mx_ml 213 = 1 := by decide +kernel
theorem rt213 : mx_rt 213 = (some .byte) := by decide +kernel
theorem ow214 : mx_ow 214 = 16 := by decide +kernel
theorem ml214 : mx_ml 214 = 4 := by decide +kernel
theorem rt214 : mx_rt 214 = (some .int) := by decide +kernel
theorem ow215 : mx_ow 215 = 16 := by decide +kernel
theorem ml215 : mx_ml 215 = 1 := by decide +kernel
theorem rt215 : mx_rt 215 = (some .boolean) := by decide +kernel
theorem ow216 : mx_ow 216 = 16 := by decide +kernel
theorem ml216 : mx_ml 216 = 6 := by decide +kernel
theorem rt216 : mx_rt 216 = (some .int) := by decide +kernel
theorem ow217 : mx_ow 217 = 19 := by decide +kernel
theorem ml217 : mx_ml 217 = 4 := by decide +kernel
theorem rt217 : mx_rt 217 = none := by decide +kernel
theorem ow218 : mx_ow 218 = 21 := by decide +kernel
theorem ml218 : mx_ml 218 = 4 := by decide +kernel
theorem rt218 : mx_rt 218 = (some .boolean) := by decide +kernel
