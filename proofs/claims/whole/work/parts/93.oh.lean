/-! the law: the loop -/
section LL
variable {X : MXX} {d : Nat} {h : MXH} {Q : MXP} {v : Nat → Int32} {A : Nat → Nat → Int32}
theorem l_case {i x : Int32} (w : LW h v A) (ix : IX X i) (k : KL X d i h Q) : ex_ X (d + 61) 218 33 [.float 1, .ref 0, .ref 96, .int i] [.int x] h Q := by
  rw [i218_33s]
  by_cases e0 : x = 0
  · rw [if_pos e0]; exact w_seller w ix k
  rw [if_neg e0]
  by_cases e1 : x = 1
  · rw [if_pos e1]; exact w_ofSeller w ix k
  rw [if_neg e1]
  by_cases e2 : x = 2
  · rw [if_pos e2]; exact w_set w ix k
  rw [if_neg e2]
  by_cases e3 : x = 3
  · rw [if_pos e3]; exact w_as w ix k
  rw [if_neg e3]
  by_cases e4 : x = 4
  · rw [if_pos e4]; exact w_may w ix k
  rw [if_neg e4]
  by_cases e5 : x = 5
  · rw [if_pos e5]; exact w_sort w ix k
  rw [if_neg e5]
  by_cases e6 : x = 6
  · rw [if_pos e6]; exact w_ofSort w ix k
  rw [if_neg e6]
  by_cases e7 : x = 7
  · rw [if_pos e7]; exact w_sorts w ix k
  rw [if_neg e7]
  by_cases e8 : x = 8
  · rw [if_pos e8]; exact w_now w ix k
  rw [if_neg e8]
  by_cases e9 : x = 9
  · rw [if_pos e9]; exact w_feed w ix k
  rw [if_neg e9]
  by_cases e10 : x = 10
  · rw [if_pos e10]; exact w_text w ix k
  rw [if_neg e10]
  by_cases e11 : x = 11
  · rw [if_pos e11]; exact w_law w ix k
  rw [if_neg e11]
  by_cases e12 : x = 12
  · rw [if_pos e12]; exact w_days w ix k
  rw [if_neg e12]
  by_cases e13 : x = 13
  · rw [if_pos e13]; exact w_year w ix k
  rw [if_neg e13]
  by_cases e14 : x = 14
  · rw [if_pos e14]; exact w_then w ix k
  rw [if_neg e14]
  by_cases e15 : x = 15
  · rw [if_pos e15]; exact w_waits w ix k
  rw [if_neg e15]
  by_cases e16 : x = 16
  · rw [if_pos e16]; exact w_earned w ix k
  rw [if_neg e16]
  by_cases e17 : x = 17
  · rw [if_pos e17]; exact w_lost w ix k
  rw [if_neg e17]
  by_cases e18 : x = 18
  · rw [if_pos e18]; exact w_begin w ix k
  rw [if_neg e18]
  by_cases e19 : x = 19
  · rw [if_pos e19]; exact w_right w ix k
  rw [if_neg e19]
  by_cases e20 : x = 20
  · rw [if_pos e20]; exact w_tenth w ix k
  rw [if_neg e20]
  by_cases e21 : x = 21
  · rw [if_pos e21]; exact w_gains w ix k
  rw [if_neg e21]
  by_cases e22 : x = 22
  · rw [if_pos e22]; exact w_down w ix k
  rw [if_neg e22]
  by_cases e23 : x = 23
  · rw [if_pos e23]; exact w_first w ix k
  rw [if_neg e23]
  by_cases e24 : x = 24
  · rw [if_pos e24]; exact w_seed w ix k
  rw [if_neg e24]
  by_cases e25 : x = 25
  · rw [if_pos e25]; exact w_voice w ix k
  rw [if_neg e25]
  by_cases e26 : x = 26
  · rw [if_pos e26]; exact w_trace w ix k
  rw [if_neg e26]
  by_cases e27 : x = 27
  · rw [if_pos e27]; exact w_sheet w ix k
  rw [if_neg e27]
  by_cases e28 : x = 28
  · rw [if_pos e28]; exact w_put w ix k
  rw [if_neg e28]
  by_cases e29 : x = 29
  · rw [if_pos e29]; exact w_move w ix k
  rw [if_neg e29]
  by_cases e30 : x = 30
  · rw [if_pos e30]; exact w_image w ix k
  rw [if_neg e30]
  by_cases e31 : x = 31
  · rw [if_pos e31]; exact w_restore w ix k
  rw [if_neg e31]
  by_cases e32 : x = 32
  · rw [if_pos e32]; exact w_tell w ix k
  rw [if_neg e32]
  by_cases e33 : x = 33
  · rw [if_pos e33]; exact w_check w ix k
  rw [if_neg e33]
  by_cases e34 : x = 34
  · rw [if_pos e34]; exact w_count w ix k
  rw [if_neg e34]
  by_cases e35 : x = 35
  · rw [if_pos e35]; exact w_told w ix k
  rw [if_neg e35]
  exact k h v A w (by omega)
theorem l_head {n a : Nat} (hn : n ≤ 3072) (ha : a ≤ 3072) : (Int32.ofNat n - 6 < nI a) ↔ n < a + 6 := by
  have e : Int32.ofNat n = nI n := rfl
  rw [e]
  by_cases h6 : 6 ≤ n
  · have e2 : nI n - 6 = nI (n - 6) := pk_sub (b := 6) h6
    rw [e2, Int32.lt_iff_toInt_lt, nI_toInt (by omega), nI_toInt (by omega)]
    omega
  · refine ⟨fun _ => by omega, fun _ => ?_⟩
    have : nI n - 6 < 0 := by
      match n, h6 with
      | 0, _ => decide
      | 1, _ => decide
      | 2, _ => decide
      | 3, _ => decide
      | 4, _ => decide
      | 5, _ => decide
      | n + 6, h => exact absurd (by omega) h
    exact Int32.lt_of_lt_of_le this (nI_pos' (by omega))
theorem l_loop (hX : X.1 ≤ 3072) : ∀ (n a : Nat) (h : MXH) (v : Nat → Int32) (A : Nat → Nat → Int32), X.1 < a + 6 * n + 6 → a ≤ 3072 → LW h v A → (∀ h' : MXH, h'.length ≤ h.length + 5 * n → Q (some (.int 1)) h') → ex_ X (d + 61) 218 18 [.float 1, .ref 0, .ref 96, .int (nI a)] [] h Q := by
  intro n
  induction n with
  | zero =>
    intro a h v A hlt ha w k
    have c : Int32.ofNat X.1 - 6 < nI a := (l_head hX ha).mpr (by omega)
    simp only [i218_18, i218_19f0, i218_20f, i218_21, i218_23, i218_24, c, if_true, i218_1386, i218_1387 (x := 1) (by decide)]
    exact k h (by omega)
  | succ n ih =>
    intro a h v A hlt ha w k
    by_cases hc : X.1 < a + 6
    · have c : Int32.ofNat X.1 - 6 < nI a := (l_head hX ha).mpr hc
      simp only [i218_18, i218_19f0, i218_20f, i218_21, i218_23, i218_24, c, if_true, i218_1386, i218_1387 (x := 1) (by decide)]
      exact k h (by omega)
    · have c : ¬ Int32.ofNat X.1 - 6 < nI a := fun q => hc ((l_head hX ha).mp q)
      have x0 : mx_in (nI a) X.1 = true := mx_inN (by omega) (by omega)
      have xk : ∀ j : Nat, j < 6 → mx_in (nI a + nI j) X.1 = true := fun j hj => by rw [nI_add]; exact mx_inN (by omega) (by omega)
      simp only [i218_18, i218_19f0, i218_20f, i218_21, i218_23, i218_24, c, if_false, i218_27f0, i218_28, i218_29f, x0, i218_30, i218_32, true_and, and_true, eq_self, true_or, or_true, bi_01, mx_nl_i, mx_nl_r, mx_nl_n, mx_nl_f, mx_nl_d]
      refine l_case w ⟨xk 1 (by omega), xk 2 (by omega), xk 3 (by omega), xk 4 (by omega), xk 5 (by omega)⟩ ?_
      intro h' v' A' w' hl
      rw [i218_1380]
      refine ⟨rfl, ?_⟩
      rw [i218_1383, show (nI a + 6 : Int32) = nI (a + 6) from nI_add a 6]
      exact ih (a + 6) h' v' A' (by omega) (by omega) w' (fun h2 hh => k h2 (by omega))
end LL
theorem law_0 {X : MXX} (hX : X.1 ≤ 3072) : ex_ X 1000 218 0 [.float 1, .double 0, .double 0, .double 0] [] [] (fun r h' => r = some (.int 1) ∧ h'.length ≤ 2671) := by
  refine (k_start (d := 997)).mpr ?_
  refine l_loop (d := 939) hX 512 0 H0_ v0_ A0_ (by omega) (by omega) ⟨rw_0, ok_0, cw_0, by rw [h0_len]; omega⟩ (fun h' hh => ⟨rfl, ?_⟩)
  rw [h0_len] at hh
  omega
