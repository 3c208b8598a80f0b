/-! the world at the law's start -/
def H0_ : MXH := HC_ ++ mkD
def v0_ : Nat → Int32 := fun _ => 0
def A0_ : Nat → Nat → Int32 := fun i => if i = 0 then d0_ else fun _ => 0
def sf0 : Nat → Option Nat := va_up (va_up (va_up (va_up (fun _ => none) 0 (some 52)) 1 (some 54)) 2 (some 56)) 3 (some 58)
def cf0 : Nat → Option Nat := va_up (va_up (va_up (fun _ => none) 0 (some 60)) 1 (some 72)) 2 (some 84)
def HCl : MXH := [.inr (11, cof mi0)] ++ (mkM 1 ++ (mkT 13 50 ++ (mkT 15 20 ++ (mkM 17 ++ (mkT 29 50 ++ (mkT 31 20 ++ (mkT 33 40 ++ ([.inl (4, 4, mx_rfs sf0), zr 6] ++ (mkM 37 ++ ([.inl (5, 3, mx_rfs cf0), zr 3, zr 3] ++ (mkH 52 ++ (mkH 54 ++ (mkH 56 ++ (mkH 58 ++ (mkM 60 ++ (mkM 72 ++ mkM 84))))))))))))))))
set_option maxRecDepth 100000 in
theorem HCl_e : HC_ = HCl := rfl
theorem h0_len : H0_.length = 111 := by rw [H0_, List.length_append, hl_.2.2.2.2.2.2.2]; rfl
theorem h0_lt {j : Nat} (hj : j < 96) : H0_[j]? = HCl[j]? := by rw [H0_, ← HCl_e]; exact pu_lt (by rw [hl_.2.2.2.2.2.2.2]; exact hj)
theorem h0_ge {j : Nat} : H0_[96 + j]? = mkD[j]? := by
  rw [H0_, List.getElem?_append_right (by rw [hl_.2.2.2.2.2.2.2]; omega), hl_.2.2.2.2.2.2.2, Nat.add_sub_cancel_left]
def mr0 : Nat → Nat → Int32 := fun j => if j = 1 then r10 else fun _ => 0
theorem KM.mk {h : MXH} {b : Nat} (e : ∀ j, j < 12 → h[b + j]? = (mkM b)[j]?) : KM h b mi0 mr0 (fun _ => none) (fun _ => none) := by
  refine ⟨e 0 (by omega), ?_, e 2 (by omega), e 3 (by omega)⟩
  intro j hj h0 h2 h3
  rw [e j hj]
  match j, hj with
  | 0, _ => exact absurd rfl h0
  | 1, _ => rfl
  | 2, _ => exact absurd rfl h2
  | 3, _ => exact absurd rfl h3
  | 4, _ => rfl
  | 5, _ => rfl
  | 6, _ => rfl
  | 7, _ => rfl
  | 8, _ => rfl
  | 9, _ => rfl
  | 10, _ => rfl
  | 11, _ => rfl
  | j + 12, h => exact absurd h (by omega)
theorem km_1 : KM H0_ 1 mi0 mr0 (fun _ => none) (fun _ => none) := by
  refine KM.mk (fun j hj => ?_)
  rw [h0_lt (by omega)]
  match j, hj with
  | 0, _ => rfl
  | 1, _ => rfl
  | 2, _ => rfl
  | 3, _ => rfl
  | 4, _ => rfl
  | 5, _ => rfl
  | 6, _ => rfl
  | 7, _ => rfl
  | 8, _ => rfl
  | 9, _ => rfl
  | 10, _ => rfl
  | 11, _ => rfl
  | j + 12, h => exact absurd h (by omega)
theorem km_17 : KM H0_ 17 mi0 mr0 (fun _ => none) (fun _ => none) := by
  refine KM.mk (fun j hj => ?_)
  rw [h0_lt (by omega)]
  match j, hj with
  | 0, _ => rfl
  | 1, _ => rfl
  | 2, _ => rfl
  | 3, _ => rfl
  | 4, _ => rfl
  | 5, _ => rfl
  | 6, _ => rfl
  | 7, _ => rfl
  | 8, _ => rfl
  | 9, _ => rfl
  | 10, _ => rfl
  | 11, _ => rfl
  | j + 12, h => exact absurd h (by omega)
theorem km_37 : KM H0_ 37 mi0 mr0 (fun _ => none) (fun _ => none) := by
  refine KM.mk (fun j hj => ?_)
  rw [h0_lt (by omega)]
  match j, hj with
  | 0, _ => rfl
  | 1, _ => rfl
  | 2, _ => rfl
  | 3, _ => rfl
  | 4, _ => rfl
  | 5, _ => rfl
  | 6, _ => rfl
  | 7, _ => rfl
  | 8, _ => rfl
  | 9, _ => rfl
  | 10, _ => rfl
  | 11, _ => rfl
  | j + 12, h => exact absurd h (by omega)
theorem km_60 : KM H0_ 60 mi0 mr0 (fun _ => none) (fun _ => none) := by
  refine KM.mk (fun j hj => ?_)
  rw [h0_lt (by omega)]
  match j, hj with
  | 0, _ => rfl
  | 1, _ => rfl
  | 2, _ => rfl
  | 3, _ => rfl
  | 4, _ => rfl
  | 5, _ => rfl
  | 6, _ => rfl
  | 7, _ => rfl
  | 8, _ => rfl
  | 9, _ => rfl
  | 10, _ => rfl
  | 11, _ => rfl
  | j + 12, h => exact absurd h (by omega)
theorem km_72 : KM H0_ 72 mi0 mr0 (fun _ => none) (fun _ => none) := by
  refine KM.mk (fun j hj => ?_)
  rw [h0_lt (by omega)]
  match j, hj with
  | 0, _ => rfl
  | 1, _ => rfl
  | 2, _ => rfl
  | 3, _ => rfl
  | 4, _ => rfl
  | 5, _ => rfl
  | 6, _ => rfl
  | 7, _ => rfl
  | 8, _ => rfl
  | 9, _ => rfl
  | 10, _ => rfl
  | 11, _ => rfl
  | j + 12, h => exact absurd h (by omega)
theorem km_84 : KM H0_ 84 mi0 mr0 (fun _ => none) (fun _ => none) := by
  refine KM.mk (fun j hj => ?_)
  rw [h0_lt (by omega)]
  match j, hj with
  | 0, _ => rfl
  | 1, _ => rfl
  | 2, _ => rfl
  | 3, _ => rfl
  | 4, _ => rfl
  | 5, _ => rfl
  | 6, _ => rfl
  | 7, _ => rfl
  | 8, _ => rfl
  | 9, _ => rfl
  | 10, _ => rfl
  | 11, _ => rfl
  | j + 12, h => exact absurd h (by omega)
theorem d0_n {j : Nat} (h4 : j ≠ 4) (h5 : j ≠ 5) (h6 : j ≠ 6) (h8 : j ≠ 8) : d0_ j = 0 := by
  unfold d0_
  rw [pk_un h8, pk_un h6, pk_un h5, pk_un h4]
theorem rw_0 : RW H0_ v0_ A0_ := by
  refine ⟨h0_ge (j := 0), fun j hj => ?_⟩
  rw [show 97 + j = 96 + (1 + j) by omega, h0_ge]
  match j, hj with
  | 0, _ => rfl
  | 1, _ => rfl
  | 2, _ => rfl
  | 3, _ => rfl
  | 4, _ => rfl
  | 5, _ => rfl
  | 6, _ => rfl
  | 7, _ => rfl
  | 8, _ => rfl
  | 9, _ => rfl
  | 10, _ => rfl
  | 11, _ => rfl
  | 12, _ => rfl
  | 13, _ => rfl
  | j + 14, h => exact absurd h (by omega)
theorem ok_0 : OK v0_ A0_ := by
  have z : ∀ j, j ≠ 4 → j ≠ 5 → j ≠ 6 → j ≠ 8 → NI (d0_ j) 0 := fun j a b c d => ⟨0, by omega, d0_n a b c d⟩
  have zk : ∀ j k, j ≠ 4 → j ≠ 5 → j ≠ 6 → j ≠ 8 → NI (d0_ j) k := fun j k a b c d => ⟨0, by omega, d0_n a b c d⟩
  refine ⟨⟨⟨0, 0, by omega, by omega, rfl, rfl, 0, by omega, rfl⟩, ⟨0, by omega, rfl, Or.inl rfl⟩, ⟨0, by omega, rfl, Or.inl rfl⟩, fun j hj => d0_n (by omega) (by omega) (by omega) (by omega), zk 9 _ (by omega) (by omega) (by omega) (by omega), zk 10 _ (by omega) (by omega) (by omega) (by omega), fun s hs => ⟨zk _ _ (by omega) (by omega) (by omega) (by omega), zk _ _ (by omega) (by omega) (by omega) (by omega), zk _ _ (by omega) (by omega) (by omega) (by omega), Or.inr ?_⟩, fun b hb => ⟨zk _ _ (by omega) (by omega) (by omega) (by omega), zk _ _ (by omega) (by omega) (by omega) (by omega)⟩, fun j hj => zk _ _ (by omega) (by omega) (by omega) (by omega)⟩, fun _ _ => rfl, fun _ _ => rfl, fun h => absurd rfl h, ⟨0, by omega, rfl⟩, fun s hs => ⟨⟨0, by omega, rfl⟩, Or.inl rfl⟩⟩
  show 0 ≤ d0_ (20 + 8 * s + 6)
  rw [d0_n (by omega) (by omega) (by omega) (by omega)]
  decide
theorem cw_0 : CW H0_ v0_ A0_ := by
  have lt : ∀ j, j < 96 → H0_[j]? = HCl[j]? := fun j hj => h0_lt hj
  refine ⟨⟨mi0, lt 0 (by omega), rfl, rfl, fun h => absurd rfl h⟩, ⟨mi0, mr0, _, _, km_1, ⟨⟨rfl, rfl, rfl, ?_, rfl, rfl⟩, fun j hj => ?_, fun s hs => absurd hs (by show ¬ s < 0; omega), fun s hs => absurd hs (by show ¬ s < 0; omega)⟩, fun s hs => absurd hs (by show ¬ s < 0; omega), fun u hu => Or.inl ⟨rfl, ?_⟩⟩, ⟨lt 13 (by omega), _, lt 14 (by omega), fun j hj => absurd hj (by show ¬ j < 0; omega)⟩, ⟨lt 15 (by omega), _, lt 16 (by omega), fun j hj => absurd hj (by show ¬ j < 0; omega)⟩, ⟨⟨_, _, _, _, km_17⟩, ⟨0, _, lt 29 (by omega), lt 30 (by omega)⟩, ⟨0, _, lt 31 (by omega), lt 32 (by omega)⟩, fun h => absurd rfl h⟩, ⟨lt 33 (by omega), _, lt 34 (by omega), fun j hj => absurd hj (by show ¬ j < 0; omega)⟩, ⟨⟨sf0, lt 35 (by omega), fun i hi => ?_⟩, fun i hi => ?_⟩, ⟨_, lt 36 (by omega), fun j _ _ => rfl⟩, ⟨_, _, _, _, km_37⟩, ⟨cf0, lt 49 (by omega), fun i hi => ?_⟩, ⟨_, lt 50 (by omega)⟩, ⟨_, lt 51 (by omega)⟩, fun i hi => ?_⟩
  · decide
  · match j, hj with
    | 0, _ => rfl
    | 1, _ => rfl
    | 2, _ => rfl
    | j + 3, h => exact absurd h (by omega)
  · have e : d0_ (104 + u) = 0 := d0_n (by omega) (by omega) (by omega) (by omega)
    funext a b c f
    show G_ d0_ u a b c f = _
    unfold G_
    rw [if_pos e]
    rfl
  · match i, hi with
    | 0, _ => rfl
    | 1, _ => rfl
    | 2, _ => rfl
    | 3, _ => rfl
    | i + 4, h => exact absurd h (by omega)
  · match i, hi with
    | 0, _ => exact ⟨lt 52 (by omega), _, lt 53 (by omega), fun _ _ => rfl⟩
    | 1, _ => exact ⟨lt 54 (by omega), _, lt 55 (by omega), fun _ _ => rfl⟩
    | 2, _ => exact ⟨lt 56 (by omega), _, lt 57 (by omega), fun _ _ => rfl⟩
    | 3, _ => exact ⟨lt 58 (by omega), _, lt 59 (by omega), fun _ _ => rfl⟩
    | i + 4, h => exact absurd h (by omega)
  · match i, hi with
    | 0, _ => rfl
    | 1, _ => rfl
    | 2, _ => rfl
    | i + 3, h => exact absurd h (by omega)
  · match i, hi with
    | 0, _ => exact ⟨_, _, _, _, km_60⟩
    | 1, _ => exact ⟨_, _, _, _, km_72⟩
    | 2, _ => exact ⟨_, _, _, _, km_84⟩
    | i + 3, h => exact absurd h (by omega)
theorem k_start {X : MXX} {d : Nat} {Q : MXP} : ex_ X (d + 3) 218 0 [.float 1, .double 0, .double 0, .double 0] [] [] Q = ex_ X (d + 3) 218 18 [.float 1, .ref 0, .ref 96, .int 0] [] H0_ Q := by
  rw [i218_0, i218_3, i218_4]
  show ev_ X (d + 2) 69 [.ref 0] [.inr (11, _)] _ = _
  rw [k_C]
  show ex_ X (d + 3) 218 7 _ [.ref 0] HC_ Q = _
  simp only [i218_7, i218_8, i218_11, i218_12, true_and, and_true, eq_self, true_or, or_true, bi_01, mx_nl_i, mx_nl_r, mx_nl_n, mx_nl_f, mx_nl_d]
  rw [k_D hl_.2.2.2.2.2.2.2]
  simp only [Option.toList_none, List.nil_append, i218_15, i218_16, i218_17, hl_.2.2.2.2.2.2.2, true_and, and_true, eq_self, true_or, or_true, bi_01, mx_nl_i, mx_nl_r, mx_nl_n, mx_nl_f, mx_nl_d]
  rfl
