/-! the reference's whole world: its object (ints v) and its rows (A) -/
def rln : Nat → Nat := fun j => ([280, 280, 280, 6, 4, 60, 60, 6, 6, 40, 4, 4, 160, 40] : List Nat).getD j 0
def rkd : Nat → Nat := fun j => if j = 7 then 1 else 0
def up2 (A : Nat → Nat → Int32) (j : Nat) (f : Nat → Int32) : Nat → Nat → Int32 := fun i => if i = j then f else A i
def RW (h : MXH) (v : Nat → Int32) (A : Nat → Nat → Int32) : Prop := h[96]? = some (.inr (12, mof v)) ∧ ∀ j, j < 14 → h[97 + j]? = some (.inl (rkd j, rln j, .inl (A j)))
/-- nothing else has changed -/
def FR (h h' : MXH) : Prop := h'.length = h.length ∧ ∀ j, (j < 96 ∨ 111 ≤ j) → h'[j]? = h[j]?
theorem FR.rf (h : MXH) : FR h h := ⟨rfl, fun _ _ => rfl⟩
theorem FR.tr {h1 h2 h3 : MXH} (a : FR h1 h2) (b : FR h2 h3) : FR h1 h3 := ⟨b.1.trans a.1, fun j hj => (b.2 j hj).trans (a.2 j hj)⟩
theorem FR.set {h : MXH} {a : Nat} {x : va_E} (h1 : 96 ≤ a) (h2 : a < 111) : FR h (h.set a x) := ⟨List.length_set, fun j hj => List.getElem?_set_ne (by omega)⟩
section RW
variable {h : MXH} {v v' : Nat → Int32} {A : Nat → Nat → Int32} {f : Nat → Int32}
theorem RW.o (r : RW h v A) : h[96]? = some (.inr (12, mof v)) := r.1
theorem RW.setv (r : RW h v A) : RW (h.set 96 (.inr (12, mof v'))) v' A := ⟨mx_gss (by rw [r.1]; rfl), fun j hj => by rw [List.getElem?_set_ne (by omega)]; exact r.2 j hj⟩
theorem RW.set (r : RW h v A) (j : Nat) (hj : j < 14) : RW (h.set (97 + j) (.inl (rkd j, rln j, .inl f))) v (up2 A j f) := by
  refine ⟨by rw [List.getElem?_set_ne (by omega)]; exact r.1, fun i hi => ?_⟩
  by_cases e : i = j
  · subst e
    rw [mx_gss (by rw [r.2 i hi]; rfl)]
    simp [up2]
  · rw [List.getElem?_set_ne (by omega), r.2 i hi]
    simp [up2, e]
theorem up2_s (j : Nat) : up2 A j f j = f := by simp [up2]
theorem up2_n {i j : Nat} (e : i ≠ j) : up2 A j f i = A i := by simp [up2, e]
theorem RW.g0 (r : RW h v A) : h[97]? = some (.inl (0, 280, .inl (A 0))) := r.2 0 (by decide)
theorem RW.s0 (r : RW h v A) : RW (h.set 97 (.inl (0, 280, .inl f))) v (up2 A 0 f) := r.set 0 (by decide)
theorem RW.g1 (r : RW h v A) : h[98]? = some (.inl (0, 280, .inl (A 1))) := r.2 1 (by decide)
theorem RW.s1 (r : RW h v A) : RW (h.set 98 (.inl (0, 280, .inl f))) v (up2 A 1 f) := r.set 1 (by decide)
theorem RW.g2 (r : RW h v A) : h[99]? = some (.inl (0, 280, .inl (A 2))) := r.2 2 (by decide)
theorem RW.s2 (r : RW h v A) : RW (h.set 99 (.inl (0, 280, .inl f))) v (up2 A 2 f) := r.set 2 (by decide)
theorem RW.g3 (r : RW h v A) : h[100]? = some (.inl (0, 6, .inl (A 3))) := r.2 3 (by decide)
theorem RW.s3 (r : RW h v A) : RW (h.set 100 (.inl (0, 6, .inl f))) v (up2 A 3 f) := r.set 3 (by decide)
theorem RW.g4 (r : RW h v A) : h[101]? = some (.inl (0, 4, .inl (A 4))) := r.2 4 (by decide)
theorem RW.s4 (r : RW h v A) : RW (h.set 101 (.inl (0, 4, .inl f))) v (up2 A 4 f) := r.set 4 (by decide)
theorem RW.g5 (r : RW h v A) : h[102]? = some (.inl (0, 60, .inl (A 5))) := r.2 5 (by decide)
theorem RW.s5 (r : RW h v A) : RW (h.set 102 (.inl (0, 60, .inl f))) v (up2 A 5 f) := r.set 5 (by decide)
theorem RW.g6 (r : RW h v A) : h[103]? = some (.inl (0, 60, .inl (A 6))) := r.2 6 (by decide)
theorem RW.s6 (r : RW h v A) : RW (h.set 103 (.inl (0, 60, .inl f))) v (up2 A 6 f) := r.set 6 (by decide)
theorem RW.g7 (r : RW h v A) : h[104]? = some (.inl (1, 6, .inl (A 7))) := r.2 7 (by decide)
theorem RW.s7 (r : RW h v A) : RW (h.set 104 (.inl (1, 6, .inl f))) v (up2 A 7 f) := r.set 7 (by decide)
theorem RW.g8 (r : RW h v A) : h[105]? = some (.inl (0, 6, .inl (A 8))) := r.2 8 (by decide)
theorem RW.s8 (r : RW h v A) : RW (h.set 105 (.inl (0, 6, .inl f))) v (up2 A 8 f) := r.set 8 (by decide)
theorem RW.g9 (r : RW h v A) : h[106]? = some (.inl (0, 40, .inl (A 9))) := r.2 9 (by decide)
theorem RW.s9 (r : RW h v A) : RW (h.set 106 (.inl (0, 40, .inl f))) v (up2 A 9 f) := r.set 9 (by decide)
theorem RW.g10 (r : RW h v A) : h[107]? = some (.inl (0, 4, .inl (A 10))) := r.2 10 (by decide)
theorem RW.s10 (r : RW h v A) : RW (h.set 107 (.inl (0, 4, .inl f))) v (up2 A 10 f) := r.set 10 (by decide)
theorem RW.g11 (r : RW h v A) : h[108]? = some (.inl (0, 4, .inl (A 11))) := r.2 11 (by decide)
theorem RW.s11 (r : RW h v A) : RW (h.set 108 (.inl (0, 4, .inl f))) v (up2 A 11 f) := r.set 11 (by decide)
theorem RW.g12 (r : RW h v A) : h[109]? = some (.inl (0, 160, .inl (A 12))) := r.2 12 (by decide)
theorem RW.s12 (r : RW h v A) : RW (h.set 109 (.inl (0, 160, .inl f))) v (up2 A 12 f) := r.set 12 (by decide)
theorem RW.g13 (r : RW h v A) : h[110]? = some (.inl (0, 40, .inl (A 13))) := r.2 13 (by decide)
theorem RW.s13 (r : RW h v A) : RW (h.set 110 (.inl (0, 40, .inl f))) v (up2 A 13 f) := r.set 13 (by decide)
end RW
section R2
variable {X : MXX} {d : Nat} {h : MXH} {Q : MXP}
def cpf (f g : Nat → Int32) (k : Nat) : Nat → Int32 := fun j => if j < k then f j else g j
theorem cpf_s (f g : Nat → Int32) (k : Nat) : upd (cpf f g k) k (f k) = cpf f g (k + 1) := by
  funext j
  unfold upd cpf
  by_cases h1 : j = k
  · subst h1; simp
  · by_cases h2 : j < k
    · simp [h1, h2, Nat.lt_succ_of_lt h2]
    · simp [h1, h2, show ¬ j < k + 1 by omega]
theorem c_copies_l {a b : Nat} {f g : Nat → Int32} (hab : b ≠ a) (ha : h[a]? = some (.inl (0, 280, .inl f))) (hb : h[b]? = some (.inl (0, 280, .inl g))) : ∀ n k, k + n = 280 → ex_ X d 126 2 [.ref a, .ref b, .int (nI k)] [] (h.set b (.inl (0, 280, .inl (cpf f g k)))) Q = Q none (h.set b (.inl (0, 280, .inl (cpf f g 280)))) := by
  intro n
  induction n with
  | zero =>
    intro k hk
    have e : k = 280 := by omega
    subst e
    rw [i126_2]
    simp only [i126_0, i126_1, i126_3, i126_6, i126_9, i126_10, i126_11, i126_12, i126_13, i126_14, i126_15, i126_18, i126_21, i126_e, show ((280 : Int32) ≤ nI 280) from by decide, if_true]
  | succ n ih =>
    intro k hk
    have hc : ¬ ((280 : Int32) ≤ nI k) := by
      show ¬ (nI 280 ≤ nI k)
      rw [nI_leI (by decide) (by omega)]; omega
    have hg : (h.set b (.inl (0, 280, .inl (cpf f g k))))[b]? = some (.inl (0, 280, .inl (cpf f g k))) := mx_gss (by rw [hb]; rfl)
    have h2 : (h.set b (.inl (0, 280, .inl (cpf f g k))))[a]? = some (.inl (0, 280, .inl f)) := by rw [List.getElem?_set_ne hab]; exact ha
    rw [i126_2]
    simp only [i126_0, i126_1, i126_3, i126_6, i126_9, i126_10, i126_11, i126_12, i126_13, i126_14, i126_15, i126_18, i126_21, i126_e, hc, if_false, ar_ik hg, ar_is hg, ar_ik h2, ar_ia h2, mx_inN (show k < 280 by omega) (by decide), nI_clamp (show k < 2 ^ 31 by omega), true_and, and_true, eq_self, true_or, or_true, bi_01, mx_nl_i, mx_nl_r, mx_nl_n, mx_nl_f, mx_nl_d, List.set_set, cpf_s, nI_1]
    exact ih (k + 1) (by omega)
theorem c_copies {a b : Nat} {f g : Nat → Int32} (hab : b ≠ a) (ha : h[a]? = some (.inl (0, 280, .inl f))) (hb : h[b]? = some (.inl (0, 280, .inl g))) : ev_ X d 126 [.ref a, .ref b] h Q = Q none (h.set b (.inl (0, 280, .inl (cpf f g 280)))) := by
  have h0 := c_copies_l (X := X) (d := d) (Q := Q) hab ha hb 280 0 (by decide)
  have e0 : h.set b (.inl (0, 280, .inl (cpf f g 0))) = h := by
    have : cpf f g 0 = g := by funext j; simp [cpf]
    rw [this]
    apply List.ext_getElem?
    intro i
    rw [List.getElem?_set]
    by_cases e : b = i
    · subst e
      rw [if_pos rfl, hb, if_pos (List.getElem?_eq_some_iff.mp hb).1]
    · rw [if_neg e]
  rw [e0] at h0
  simp only [i126_0, i126_1, i126_3, i126_6, i126_9, i126_10, i126_11, i126_12, i126_13, i126_14, i126_15, i126_18, i126_21, i126_e, true_and, and_true, eq_self, true_or, or_true, bi_01, mx_nl_i, mx_nl_r, mx_nl_n, mx_nl_f, mx_nl_d]
  exact h0
end R2
