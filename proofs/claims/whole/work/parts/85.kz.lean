/-! the component's call of text -/
section KZ
variable {X : MXX} {d : Nat} {h : MXH} {Q : MXP} {v0 v1 v2 v3 v4 v5 v6 v7 v8 v9 : Value} {L : MXH} {x : Int32} {r : Nat} {w : UInt32}
theorem ini58 : (mx_isInit 58 && decide ("FallingSlates$Text" = mx_cn (mx_ow 58))) = true := by decide +kernel
theorem ap_o {c : va_E} : (h ++ (c :: L))[h.length]? = some c := by rw [List.getElem?_append_right (Nat.le_refl _), Nat.sub_self]; rfl
theorem ap_s {c c' : va_E} : (h ++ (c :: L)).set h.length c' = h ++ (c' :: L) := by rw [List.set_append_right _ _ (Nat.le_refl _), Nat.sub_self]; rfl
theorem pfT0 : pf_ (h ++ (.inr (10, [v0, v1, v2, v3, v4, v5, v6, v7, v8, v9]) :: L)) h.length 0 (.ref r) = h ++ (.inr (10, [(.ref r), v1, v2, v3, v4, v5, v6, v7, v8, v9]) :: L) := by unfold pf_; rw [ap_o]; exact ap_s
theorem pkT0 : pk_ 58 (h ++ (.inr (10, [v0, v1, v2, v3, v4, v5, v6, v7, v8, v9]) :: L)) h.length 0 (.ref r) [(10, 0)] = true := pk_ini ap_o rfl ft10_0 rfl (Nat.le_of_ble_eq_true rfl) ini58
theorem pfT1 : pf_ (h ++ (.inr (10, [v0, v1, v2, v3, v4, v5, v6, v7, v8, v9]) :: L)) h.length 1 (.int x) = h ++ (.inr (10, [v0, (.int x), v2, v3, v4, v5, v6, v7, v8, v9]) :: L) := by unfold pf_; rw [ap_o]; exact ap_s
theorem pkT1 : pk_ 58 (h ++ (.inr (10, [v0, v1, v2, v3, v4, v5, v6, v7, v8, v9]) :: L)) h.length 1 (.int x) [(10, 0)] = true := pk_ini ap_o rfl ft10_1 rfl (Nat.le_of_ble_eq_true rfl) ini58
theorem pfT2 : pf_ (h ++ (.inr (10, [v0, v1, v2, v3, v4, v5, v6, v7, v8, v9]) :: L)) h.length 2 (.float w) = h ++ (.inr (10, [v0, v1, (.float w), v3, v4, v5, v6, v7, v8, v9]) :: L) := by unfold pf_; rw [ap_o]; exact ap_s
theorem pkT2 : pk_ 58 (h ++ (.inr (10, [v0, v1, v2, v3, v4, v5, v6, v7, v8, v9]) :: L)) h.length 2 (.float w) [(10, 0)] = true := pk_ini ap_o rfl ft10_2 rfl (Nat.le_of_ble_eq_true rfl) ini58
theorem pfT4 : pf_ (h ++ (.inr (10, [v0, v1, v2, v3, v4, v5, v6, v7, v8, v9]) :: L)) h.length 4 (.ref r) = h ++ (.inr (10, [v0, v1, v2, v3, (.ref r), v5, v6, v7, v8, v9]) :: L) := by unfold pf_; rw [ap_o]; exact ap_s
theorem pkT4 : pk_ 58 (h ++ (.inr (10, [v0, v1, v2, v3, v4, v5, v6, v7, v8, v9]) :: L)) h.length 4 (.ref r) [(10, 0)] = true := pk_ini ap_o rfl ft10_4 rfl (Nat.le_of_ble_eq_true rfl) ini58
theorem pfT5 : pf_ (h ++ (.inr (10, [v0, v1, v2, v3, v4, v5, v6, v7, v8, v9]) :: L)) h.length 5 (.ref r) = h ++ (.inr (10, [v0, v1, v2, v3, v4, (.ref r), v6, v7, v8, v9]) :: L) := by unfold pf_; rw [ap_o]; exact ap_s
theorem pkT5 : pk_ 58 (h ++ (.inr (10, [v0, v1, v2, v3, v4, v5, v6, v7, v8, v9]) :: L)) h.length 5 (.ref r) [(10, 0)] = true := pk_ini ap_o rfl ft10_5 rfl (Nat.le_of_ble_eq_true rfl) ini58
theorem pfT6 : pf_ (h ++ (.inr (10, [v0, v1, v2, v3, v4, v5, v6, v7, v8, v9]) :: L)) h.length 6 (.ref r) = h ++ (.inr (10, [v0, v1, v2, v3, v4, v5, (.ref r), v7, v8, v9]) :: L) := by unfold pf_; rw [ap_o]; exact ap_s
theorem pkT6 : pk_ 58 (h ++ (.inr (10, [v0, v1, v2, v3, v4, v5, v6, v7, v8, v9]) :: L)) h.length 6 (.ref r) [(10, 0)] = true := pk_ini ap_o rfl ft10_6 rfl (Nat.le_of_ble_eq_true rfl) ini58
theorem pfT7 : pf_ (h ++ (.inr (10, [v0, v1, v2, v3, v4, v5, v6, v7, v8, v9]) :: L)) h.length 7 (.ref r) = h ++ (.inr (10, [v0, v1, v2, v3, v4, v5, v6, (.ref r), v8, v9]) :: L) := by unfold pf_; rw [ap_o]; exact ap_s
theorem pkT7 : pk_ 58 (h ++ (.inr (10, [v0, v1, v2, v3, v4, v5, v6, v7, v8, v9]) :: L)) h.length 7 (.ref r) [(10, 0)] = true := pk_ini ap_o rfl ft10_7 rfl (Nat.le_of_ble_eq_true rfl) ini58
theorem pfT8 : pf_ (h ++ (.inr (10, [v0, v1, v2, v3, v4, v5, v6, v7, v8, v9]) :: L)) h.length 8 (.int x) = h ++ (.inr (10, [v0, v1, v2, v3, v4, v5, v6, v7, (.int x), v9]) :: L) := by unfold pf_; rw [ap_o]; exact ap_s
theorem pkT8 : pk_ 58 (h ++ (.inr (10, [v0, v1, v2, v3, v4, v5, v6, v7, v8, v9]) :: L)) h.length 8 (.int x) [(10, 0)] = true := by unfold pk_; rw [ap_o]; simp only [ft10_8]; rfl
theorem pfT9 : pf_ (h ++ (.inr (10, [v0, v1, v2, v3, v4, v5, v6, v7, v8, v9]) :: L)) h.length 9 (.int x) = h ++ (.inr (10, [v0, v1, v2, v3, v4, v5, v6, v7, v8, (.int x)]) :: L) := by unfold pf_; rw [ap_o]; exact ap_s
theorem pkT9 : pk_ 58 (h ++ (.inr (10, [v0, v1, v2, v3, v4, v5, v6, v7, v8, v9]) :: L)) h.length 9 (.int x) [(10, 0)] = true := by unfold pk_; rw [ap_o]; simp only [ft10_9]; rfl
theorem gvT1 : gv_ (h ++ (.inr (10, [v0, v1, v2, v3, v4, v5, v6, v7, v8, v9]) :: L)) h.length 1 = v1 := by unfold gv_; rw [ap_o]; rfl
theorem gkT1 : gk_ (h ++ (.inr (10, [v0, v1, v2, v3, v4, v5, v6, v7, v8, v9]) :: L)) h.length 1 [(10, 0)] = true := by unfold gk_; rw [ap_o]; rfl
def z4 : R4 := (fun _ => 0, fun _ => 0, fun _ => 0, fun _ => 0)
set_option maxHeartbeats 1000000 in
theorem k_tinit {N u : Nat} {T : Nat → Int32} (tp : TPE h N T) (hu : u < 2) : ev_ X (d + 1) 58 [.ref h.length, .ref 13, .int (nI u)] (h ++ [.inr (10, [.null, .int 0, .null, .int 0, .null, .null, .null, .null, .int 0, .int 0])]) Q = Q none (QH h (wnm (decide (u = 0))) N 0 4 (-1) z4) := by
  obtain ⟨hl, hN, w0, _⟩ := tp
  have wk : ∀ L : MXH, (h ++ L)[13]? = some (.inr (5, wof 14 (nI N))) := fun L => by rw [pu_lt (by omega)]; exact w0
  have e4 : (4 + nI N : Int32) = nI (4 + N) := nI_add 4 N
  have cl : (nI (4 + N)).toNatClampNeg = 4 + N := nI_clamp (by omega)
  have hn : 0 ≤ (nI (4 + N) : Int32) ∧ (nI (4 + N)).toNatClampNeg ≤ 1000 := ⟨nI_pos' (by omega), by rw [cl]; omega⟩
  have key : ∀ wv : UInt32, ex_ X (d + 1) 58 39 [.ref h.length, .ref 13, .int (nI u)] [.float wv, .ref h.length] (h ++ [.inr (10, [.ref 13, .int (nI N), .null, .int 0, .null, .null, .null, .null, .int 4, .int (-1)])]) Q = Q none (QH h wv N 0 4 (-1) z4) := by
    intro wv
    simp only [i58_0, i58_0f0, i58_0f1, i58_0f2, i58_0f3, i58_1, i58_4, i58_4f0, i58_4f1, i58_4f2, i58_4f3, i58_5, i58_6, i58_9, i58_9f0, i58_9f1, i58_9f2, i58_9f3, i58_10, i58_11, i58_14, i58_14f0, i58_14f1, i58_14f2, i58_14f3, i58_15, i58_15f0, i58_15f1, i58_15f2, i58_15f3, i58_16, i58_19, i58_19f0, i58_19f1, i58_19f2, i58_19f3, i58_20, i58_20f0, i58_20f1, i58_20f2, i58_20f3, i58_21, i58_24, i58_27, i58_27f0, i58_27f1, i58_27f2, i58_27f3, i58_28, i58_29, i58_32, i58_34, i58_37, i58_39, i58_42, i58_42f0, i58_42f1, i58_42f2, i58_42f3, i58_43, i58_44, i58_44f0, i58_44f1, i58_44f2, i58_44f3, i58_45, i58_48, i58_49, i58_51, i58_54, i58_54f0, i58_54f1, i58_54f2, i58_54f3, i58_55, i58_56, i58_56f0, i58_56f1, i58_56f2, i58_56f3, i58_57, i58_60, i58_61, i58_63, i58_66, i58_66f0, i58_66f1, i58_66f2, i58_66f3, i58_67, i58_68, i58_68f0, i58_68f1, i58_68f2, i58_68f3, i58_69, i58_72, i58_73, i58_75, i58_78, i58_78f0, i58_78f1, i58_78f2, i58_78f3, i58_79, i58_80, i58_80f0, i58_80f1, i58_80f2, i58_80f3, i58_81, i58_84, i58_85, i58_87, i58_90, i58_e, pkT2, pfT2, gvT1, gkT1, e4, i58_49 hn, i58_61 hn, i58_73 hn, i58_85 hn, cl, List.append_assoc, List.cons_append, List.nil_append, List.length_append, List.length_cons, List.length_nil, Nat.zero_add, Nat.reduceAdd, pkT4, pfT4, pkT5, pfT5, pkT6, pfT6, pkT7, pfT7, true_and, and_true, eq_self, true_or, or_true, bi_01, mx_nl_i, mx_nl_r, mx_nl_n, mx_nl_f, mx_nl_d]
    rfl
  rcases (show u = 0 ∨ u = 1 by omega) with e | e
  · have e0 : (nI u : Int32) = 0 := by rw [e]; rfl
    have ew : wnm (decide (u = 0)) = 2 := by rw [e]; rfl
    rw [ew, ← key 2]
    simp only [i58_0, i58_0f0, i58_0f1, i58_0f2, i58_0f3, i58_1, i58_4, i58_4f0, i58_4f1, i58_4f2, i58_4f3, i58_5, i58_6, i58_9, i58_9f0, i58_9f1, i58_9f2, i58_9f3, i58_10, i58_11, i58_14, i58_14f0, i58_14f1, i58_14f2, i58_14f3, i58_15, i58_15f0, i58_15f1, i58_15f2, i58_15f3, i58_16, i58_19, i58_19f0, i58_19f1, i58_19f2, i58_19f3, i58_20, i58_20f0, i58_20f1, i58_20f2, i58_20f3, i58_21, i58_24, i58_27, i58_27f0, i58_27f1, i58_27f2, i58_27f3, i58_28, i58_29, i58_32, i58_34, i58_37, i58_42, i58_42f0, i58_42f1, i58_42f2, i58_42f3, i58_43, i58_44, i58_44f0, i58_44f1, i58_44f2, i58_44f3, i58_45, i58_48, i58_49, i58_51, i58_54, i58_54f0, i58_54f1, i58_54f2, i58_54f3, i58_55, i58_56, i58_56f0, i58_56f1, i58_56f2, i58_56f3, i58_57, i58_60, i58_61, i58_63, i58_66, i58_66f0, i58_66f1, i58_66f2, i58_66f3, i58_67, i58_68, i58_68f0, i58_68f1, i58_68f2, i58_68f3, i58_69, i58_72, i58_73, i58_75, i58_78, i58_78f0, i58_78f1, i58_78f2, i58_78f3, i58_79, i58_80, i58_80f0, i58_80f1, i58_80f2, i58_80f3, i58_81, i58_84, i58_85, i58_87, i58_90, i58_e, pkT8, pfT8, pkT9, pfT9, pkT0, pfT0, wof_gk (wk _), wof_gv (wk _), pkT1, pfT1, e0, not_true_eq_false, if_false, true_and, and_true, eq_self, true_or, or_true, bi_01, mx_nl_i, mx_nl_r, mx_nl_n, mx_nl_f, mx_nl_d]
  · have e0 : ¬ (nI u : Int32) = 0 := by rw [e]; decide
    have ew : wnm (decide (u = 0)) = 3 := by rw [e]; rfl
    rw [ew, ← key 3]
    simp only [i58_0, i58_0f0, i58_0f1, i58_0f2, i58_0f3, i58_1, i58_4, i58_4f0, i58_4f1, i58_4f2, i58_4f3, i58_5, i58_6, i58_9, i58_9f0, i58_9f1, i58_9f2, i58_9f3, i58_10, i58_11, i58_14, i58_14f0, i58_14f1, i58_14f2, i58_14f3, i58_15, i58_15f0, i58_15f1, i58_15f2, i58_15f3, i58_16, i58_19, i58_19f0, i58_19f1, i58_19f2, i58_19f3, i58_20, i58_20f0, i58_20f1, i58_20f2, i58_20f3, i58_21, i58_24, i58_27, i58_27f0, i58_27f1, i58_27f2, i58_27f3, i58_28, i58_29, i58_32, i58_34, i58_37, i58_42, i58_42f0, i58_42f1, i58_42f2, i58_42f3, i58_43, i58_44, i58_44f0, i58_44f1, i58_44f2, i58_44f3, i58_45, i58_48, i58_49, i58_51, i58_54, i58_54f0, i58_54f1, i58_54f2, i58_54f3, i58_55, i58_56, i58_56f0, i58_56f1, i58_56f2, i58_56f3, i58_57, i58_60, i58_61, i58_63, i58_66, i58_66f0, i58_66f1, i58_66f2, i58_66f3, i58_67, i58_68, i58_68f0, i58_68f1, i58_68f2, i58_68f3, i58_69, i58_72, i58_73, i58_75, i58_78, i58_78f0, i58_78f1, i58_78f2, i58_78f3, i58_79, i58_80, i58_80f0, i58_80f1, i58_80f2, i58_80f3, i58_81, i58_84, i58_85, i58_87, i58_90, i58_e, pkT8, pfT8, pkT9, pfT9, pkT0, pfT0, wof_gk (wk _), wof_gv (wk _), pkT1, pfT1, e0, not_false_eq_true, if_true, true_and, and_true, eq_self, true_or, or_true, bi_01, mx_nl_i, mx_nl_r, mx_nl_n, mx_nl_f, mx_nl_d]
end KZ
theorem es_P0 {a b c e : Nat → Int32} {L s r : Nat} {nm : Nat → Int32} : ∀ k, es_ (a, b, c, e, L, s, r) nm k = es_ (P0 (a, b, c, e)) nm k
  | 0 => rfl
  | k + 1 => by
    rw [es_s, es_s, es_P0 k]
    rfl
theorem MR.lo {m m' mi : Nat → Int32} {mr : Nat → Nat → Int32} {ns nb : Nat} (hns : ns ≤ 6) (hnb : nb ≤ 8) (q : MR m mi mr ns nb) (g : ∀ j, j < 104 → j ≠ 8 → j ≠ 9 → j ≠ 10 → m' j = m j) : MR m' mi mr ns nb := by
  obtain ⟨⟨a1, a2, a3, a4, a5, a6⟩, b, c, e⟩ := q
  refine ⟨⟨by rw [g 0 (by omega) (by omega) (by omega) (by omega)]; exact a1, by rw [g 3 (by omega) (by omega) (by omega) (by omega)]; exact a2, by rw [g 7 (by omega) (by omega) (by omega) (by omega)]; exact a3, by rw [g 11 (by omega) (by omega) (by omega) (by omega)]; exact a4, a5, a6⟩, fun j hj => by rw [g _ (by omega) (by omega) (by omega) (by omega)]; exact b j hj, fun t ht => ?_, fun t ht => ?_⟩
  · rw [g _ (by omega) (by omega) (by omega) (by omega), g _ (by omega) (by omega) (by omega) (by omega), g _ (by omega) (by omega) (by omega) (by omega)]; exact c t ht
  · rw [g _ (by omega) (by omega) (by omega) (by omega), g _ (by omega) (by omega) (by omega) (by omega), g _ (by omega) (by omega) (by omega) (by omega), g _ (by omega) (by omega) (by omega) (by omega)]; exact e t ht
section KZ2
variable {X : MXX} {d : Nat} {h : MXH} {Q : MXP} {v : Nat → Int32} {A : Nat → Nat → Int32}
/-- what a use gives, once its text is read -/
theorem G_txd {m c : Nat → Int32} {u n : Nat} {R : R4} {z x : Nat} (hu : u < 2) (hn : n ≤ 50) (s : SEM c 0 n (VL R z x)) : G_ (txd m u n c) u = evP (R.1, R.2.1, R.2.2.1, R.2.2.2, 0, z, x) := by
  have hn0 : n ≠ 0 := by
    intro e
    subst e
    have := (s.2 (fun _ => 0) (fun _ => 0) 0).1
    exact absurd this (by show ¬ (0 = 0 + 1); decide)
  funext a b e f
  unfold G_
  have e1 : txd m u n c (104 + u) = nI n := by
    unfold txd
    rw [if_neg (by omega), if_pos rfl]
  rw [e1, if_neg (nI_ne0 (by omega) (by omega)), nI_clamp (by omega), wr_cg n (c := c) (fun i hi => by
    show txd m u n c (126 + 50 * u + i) = c i
    unfold txd
    rw [if_pos (by omega)]
    congr 1
    omega), wr_rn]
  have := (s.2 (nm4 a b e f) (fun _ => 0) 0).2.1
  rw [Nat.sub_zero] at this
  rw [this]
  exact (congrFun (es_P0 (a := R.1) (b := R.2.1) (c := R.2.2.1) (e := R.2.2.2) (L := 0) (s := z) (r := x) z) x).symm
theorem G_txo {m c : Nat → Int32} {u u' n : Nat} (hu : u < 2) (hu' : u' < 2) (hne : u' ≠ u) (hn : n ≤ 50) (t : TO m u') : G_ (txd (upd m 9 0) u n c) u' = G_ m u' := by
  obtain ⟨N, hN, e, _⟩ := t
  funext a b x f
  unfold G_
  have e1 : txd (upd m 9 0) u n c (104 + u') = m (104 + u') := by
    unfold txd
    rw [if_neg (by omega), if_neg (by omega), pk_un (by omega)]
  rw [e1, e, nI_clamp (by omega)]
  rw [wr_cg N (c := fun j => m (126 + 50 * u' + j)) (c' := fun j => txd (upd m 9 0) u n c (126 + 50 * u' + j)) (fun i hi => by
    show txd (upd m 9 0) u n c (126 + 50 * u' + i) = m (126 + 50 * u' + i)
    unfold txd
    rw [if_neg (by omega), if_neg (by omega), pk_un (by omega)])]
/-- the tape is empty -/
theorem CW.tc (c : CW h v A) (ok : OK v A) : CW (h.set 13 (.inr (5, wof 14 0))) v (up2 A 0 (upd (A 0) 9 0)) := by
  have fx : FX 13 15 h (h.set 13 (.inr (5, wof 14 0))) := FX.set (by omega) (by omega) (by omega)
  have c3 := c.2.2.2.1
  obtain ⟨w, g, r, e⟩ := c.2.2.1
  refine c.nm ok fx (by omega) ⟨fun j h1 h2 h3 h4 => pk_un h3, fun j h1 h2 => pk_un (by omega)⟩ ?_ ?_ ?_
  · rw [pk_un (by decide)]; exact c.1.fx fx (by omega)
  · refine ⟨by rw [pk_us]; exact mx_gss (by rw [w]; rfl), g, by rw [List.getElem?_set_ne (by omega)]; exact r, fun j hj => ?_⟩
    rw [pk_us] at hj
    exact absurd hj (by simp [show (0 : Int32).toNatClampNeg = 0 from by decide])
  · exact (c3.fx fx (by omega)).cg (pk_un (by decide)) (fun j => pk_un (by omega))
set_option maxHeartbeats 2000000 in
theorem q_text (c : CW h v A) (ok : OK v A) (hl : 111 ≤ h.length) {u : Int32} (k : KC h (sp_text v A u) Q) : ev_ X (d + 60) 80 [.ref 0, .int u] h Q := by
  have cw := c
  obtain ⟨⟨ci, o, z3, z8, z7⟩, c1, c2, c3, c4, c5, c6, ⟨ef, g36, e36⟩, c8⟩ := c
  have md := MD.ab ok.1.1
  have di : DI (A 0) := ⟨ok.1.2.2.2.2.2.2.1, ok.1.2.2.2.2.2.2.2.1⟩
  obtain ⟨mi, mr, mt, ms, r, q, mx⟩ := c1
  replace q : MR (A 0) mi mr (nsA A) (nbA A) := q
  replace mx : MX h (A 0) (G_ (A 0)) mt ms (nsA A) := mx
  have mk : MK h 1 (A 0) (G_ (A 0)) (nsA A) (nbA A) := ⟨mi, mr, mt, ms, r, q, mx⟩
  obtain ⟨hns, hnb, e1, e2, e3⟩ := id md
  have q7 : mi 7 = A 0 1 := by rw [e1]; exact q.1.2.2.2.2.1
  have q12 : mi 12 = A 0 2 := by rw [e2]; exact q.1.2.2.2.2.2
  unfold sp_text at k
  by_cases c1 : (0 ≤ u ∧ u ≤ 1)
  case neg =>
    rw [if_neg c1] at k
    simp only [i80_0, i80_1, i80_4, i80_7, i80_8, i80_9, i80_12, i80_13, i80_16, i80_17, i80_18, i80_21, i80_22, i80_25, i80_26, i80_27, i80_30, i80_31, i80_32, i80_35, i80_38, i80_39, i80_42, i80_44, i80_45, i80_48, i80_49, i80_50, i80_51, i80_54, i80_57, i80_58, i80_59, i80_60, i80_61, i80_e, cof_gk o, cof_gv o, ob_co o, k_in, k_isSheet, k_isUse, k_isAhead, bi_eq0, decide_true, decide_false, and_self, if_true, if_false, reduceCtorEq, not_true_eq_false, not_false_eq_true, mx_t0, Option.toList_some, Option.toList_none, List.nil_append, List.cons_append, true_and, and_true, eq_self, true_or, or_true, bi_01, mx_nl_i, mx_nl_r, mx_nl_n, mx_nl_f, mx_nl_d, k_e1 o g36, k_e2 o g36, k_e3 o g36, k_e4 o g36, k_e5 o g36, c1]
    exact k.er cw (by decide) (by decide) g36
  rw [if_pos c1] at k
  obtain ⟨uu, huu, rfl⟩ := nI_rng (k := 1) (by decide) c1
  obtain ⟨tp, htp, e9⟩ := ok.1.2.2.2.2.1
  rw [e9, nI_clamp (by omega), nI_clamp (by omega)] at k
  obtain ⟨F, hF⟩ : ∃ F, F = 611 := ⟨611, rfl⟩
  have hx : ∃ s, rdx A tp uu = some s := by
    unfold rdx
    rw [← hF]
    exact rd_to F 0 0 0 _ 0 (by decide) (Nat.zero_le _) (by rw [if_pos (by decide)]; omega)
  obtain ⟨⟨b, a', c', n'⟩, hs⟩ := hx
  rw [hs] at k
  unfold rdx at hs
  rw [← hF] at hs
  clear hF
  have hin := rd_in _ _ _ _ _ _ _ _ _ _ hs (by decide) (Nat.zero_le tp)
  replace k : KC h (if b = true ∧ a' = tp then (1, v, up2 A 0 (txd (upd (A 0) 9 0) uu n' c')) else (-10 - nI a', v, up2 A 0 (upd (A 0) 9 0))) Q := k
  have TP : TPE h tp (TT_ A) := by
    obtain ⟨w5, g5, r5, e5⟩ := c2
    rw [e9] at w5 e5
    rw [nI_clamp (show tp < 2 ^ 31 by omega)] at e5
    refine ⟨hl, htp, w5, ⟨g5, r5, fun j hj => e5 j hj⟩, fun j hj => ?_⟩
    obtain ⟨q, hq, eq⟩ := ok.1.2.2.2.2.2.2.2.2 j (by omega)
    exact ⟨q, by omega, eq⟩
  have w13 := TP.2.2.1
  obtain ⟨z', R', x, x1e, x1b, x1w, x1s, x1l, _⟩ := (rd_cmp (X := X) (rt := -1) (lw := decide (uu = 0)) TP F).1 0 0 0 (A 5) 0 b a' c' n' hs (by omega) (Nat.zero_le _) (by omega) 4 z4 (Nat.le_refl 4) (by omega) (fun i h1 h2 => by omega)
  rw [show (nI 0 : Int32) = 0 from rfl] at x1l
  have ho1 : ∀ (a z : Nat) (rt : Int32) (R : R4), (QH h (wnm (decide (uu = 0))) tp a z rt R)[0]? = some (.inr (11, cof ci)) := fun a z rt R => by rw [qh_lt (by omega)]; exact o
  have w1 : ∀ (a z : Nat) (rt : Int32) (R : R4), (QH h (wnm (decide (uu = 0))) tp a z rt R)[13]? = some (.inr (5, wof 14 (nI tp))) := fun a z rt R => by rw [qh_lt (by omega)]; exact w13
  have cwQ : ∀ (a z : Nat) (rt : Int32) (R : R4), CW (QH h (wnm (decide (uu = 0))) tp a z rt R) v A := fun a z rt R => cw.fy (fun j hj => qh_lt (by omega)) EV.pu
  have lenQ : ∀ (a z : Nat) (rt : Int32) (R : R4), (QH h (wnm (decide (uu = 0))) tp a z rt R).length = h.length + 5 := fun a z rt R => by unfold QH; rw [List.length_append]; rfl
  have st : ev_ X (d + 60) 80 [.ref 0, .int (nI uu)] h Q = ex_ X (d + 60) 80 30 [.ref 0, .int (nI uu), .ref h.length, .double 0] [.int (bi_ (decide (b = true ∧ a' = tp)))] (QH h (wnm (decide (uu = 0))) tp a' z' (ans b x) R') Q := by
    have oP : (h ++ [.inr (10, [.null, .int 0, .null, .int 0, .null, .null, .null, .null, .int 0, .int 0])])[0]? = some (.inr (11, cof ci)) := by rw [pu_lt (by omega)]; exact o
    simp only [i80_0, i80_1, i80_4, i80_7, i80_8, i80_9, i80_12, i80_13, i80_16, i80_17, i80_18, i80_21, i80_22, i80_25, i80_26, i80_27, i80_31, i80_32, i80_35, i80_38, i80_39, i80_42, i80_44, i80_45, i80_48, i80_49, i80_50, i80_51, i80_54, i80_57, i80_58, i80_59, i80_60, i80_61, i80_e, cof_gk o, cof_gv o, ob_co o, k_in, k_isSheet, k_isUse, k_isAhead, bi_eq0, decide_true, decide_false, and_self, if_true, if_false, reduceCtorEq, not_true_eq_false, not_false_eq_true, mx_t0, Option.toList_some, Option.toList_none, List.nil_append, List.cons_append, true_and, and_true, eq_self, true_or, or_true, bi_01, mx_nl_i, mx_nl_r, mx_nl_n, mx_nl_f, mx_nl_d, c1, cof_gk oP, cof_gv oP, k_tinit TP (show uu < 2 by omega), ob_co qh_o]
    have rw1 : ∀ Q', ev_ X (d + 59) 59 [.ref h.length] (QH h (wnm (decide (uu = 0))) tp 0 4 (-1) z4) Q' = Q' (some (.int (bi_ (decide (b = true ∧ a' = tp))))) (QH h (wnm (decide (uu = 0))) tp a' z' (ans b x) R') := by
      intro Q'
      simp only [i59_0, i59_1, i59_2, i59_3, i59_4, i59_7, i59_10, i59_11, i59_14, i59_17, i59_18, i59_21, i59_22, i59_25, i59_28, i59_29, i59_32, i59_e, ob_co qh_o, x1l (d + 58) _ (by omega), tof_pk9 qh_o, tof_pf9 qh_o, qh_s9, tof_gk qh_o, tof_gv qh_o, tiv_9, tiv_3, tiv_1, i59_33 mx_01a, i59_33 mx_01b, Option.toList_some, Option.toList_none, List.nil_append, List.cons_append, true_and, and_true, eq_self, true_or, or_true, bi_01, mx_nl_i, mx_nl_r, mx_nl_n, mx_nl_f, mx_nl_d]
      cases b with
      | false =>
        simp only [ans, reduceCtorEq, if_false, show ((-1 : Int32) < 0) from by decide, if_true, false_and, decide_false]
        rfl
      | true =>
        have hx1 := (x1s rfl).1
        by_cases ea : a' = tp
        · subst ea
          simp only [ans, if_true, if_false, nI_pos (show x < 2 ^ 31 by omega), not_true_eq_false, and_self, decide_true]
          rfl
        · have ea' : ¬ (nI a' : Int32) = nI tp := fun e => ea ((nI_eq (by omega) (by omega)).mp e)
          simp only [ans, if_true, if_false, nI_pos (show x < 2 ^ 31 by omega), ea', ea, not_false_eq_true, and_false, decide_false]
          rfl
    rw [rw1]
    rfl
  rw [st]
  have hz54 : z' ≤ 4 + a' := by omega
  by_cases q9 : b = true ∧ a' = tp
  · rw [if_pos q9] at k
    obtain ⟨rfl, rfl⟩ := q9
    obtain ⟨hx1, sm⟩ := x1s rfl
    have hn' : n' ≤ 50 := by omega
    have oH2 : ((QH h (wnm (decide (uu = 0))) a' a' z' (ans true x) R').set 13 (.inr (5, wof 14 0)))[h.length]? = some (.inr (10, tof h.length (wnm (decide (uu = 0))) (tiv a' a' z' (ans true x)))) := by rw [List.getElem?_set_ne (by omega)]; exact qh_o
    have oH20 : ((QH h (wnm (decide (uu = 0))) a' a' z' (ans true x) R').set 13 (.inr (5, wof 14 0)))[0]? = some (.inr (11, cof ci)) := by rw [List.getElem?_set_ne (by omega)]; exact ho1 _ _ _ _
    have rQ : KM (QH h (wnm (decide (uu = 0))) a' a' z' (ans true x) R') 1 mi mr mt ms := r.cg (fun j h1 h2 => qh_lt (by omega))
    have mxQ : MX (QH h (wnm (decide (uu = 0))) a' a' z' (ans true x) R') (A 0) (G_ (A 0)) mt ms (nsA A) := mx.ev EV.pu
    have f2 : FX 13 15 (QH h (wnm (decide (uu = 0))) a' a' z' (ans true x) R') ((QH h (wnm (decide (uu = 0))) a' a' z' (ans true x) R').set 13 (.inr (5, wof 14 0))) := FX.set (by omega) (by omega) (by omega)
    have r2 := rQ.fx f2 (by omega) (by omega)
    have cw2 := (cwQ a' z' (ans true x) R').tc ok
    have f3 : FX 1 13 ((QH h (wnm (decide (uu = 0))) a' a' z' (ans true x) R').set 13 (.inr (5, wof 14 0))) (((QH h (wnm (decide (uu = 0))) a' a' z' (ans true x) R').set 13 (.inr (5, wof 14 0))).set (1 + 2) (.inl (2, 2, mx_rfs (va_up mt uu (some h.length))))) := FX.set (by omega) (by omega) (by omega)
    simp only [i80_0, i80_1, i80_4, i80_7, i80_8, i80_9, i80_12, i80_13, i80_16, i80_17, i80_18, i80_21, i80_22, i80_25, i80_26, i80_27, i80_30, i80_31, i80_32, i80_35, i80_38, i80_39, i80_42, i80_44, i80_45, i80_48, i80_49, i80_50, i80_51, i80_54, i80_57, i80_58, i80_59, i80_60, i80_61, i80_e, cof_gk (ho1 _ _ _ _), cof_gv (ho1 _ _ _ _), ob_co (w1 _ _ _ _), k_clear (w1 _ _ _ _), decide_true, and_self, show ¬ (bi_ true = 0) from by decide, not_false_eq_true, if_true, cof_gk oH20, cof_gv oH20, kof_gk r2.o, kof_gv r2.o, rr_rx r2.gT oH2 (show mx_cmp 2 = some 10 from rfl), rr_rs r2.gT, mx_inN (show uu < 2 by omega) (show 2 < 2 ^ 31 by decide), nI_clamp (show uu < 2 ^ 31 by omega), show mx_sub 10 10 = true from rfl, Bool.and_self, Option.toList_some, Option.toList_none, List.nil_append, List.cons_append, true_and, and_true, eq_self, true_or, or_true, bi_01, mx_nl_i, mx_nl_r, mx_nl_n, mx_nl_f, mx_nl_d]
    have ag : ∀ j, ¬ (126 + 50 * uu ≤ j ∧ j < 126 + 50 * uu + n') → j ≠ 104 + uu → j ≠ 9 → txd (upd (A 0) 9 0) uu n' c' j = A 0 j := by
      intro j h1 h2 h3
      unfold txd
      rw [if_neg h1, if_neg h2, pk_un h3]
    have ag9 : txd (upd (A 0) 9 0) uu n' c' 9 = 0 := by
      unfold txd
      rw [if_neg (by omega), if_neg (by omega), pk_us]
    have r3 := r2.sT (g := va_up mt uu (some h.length))
    have T3 : TXT (((QH h (wnm (decide (uu = 0))) a' a' z' (ans true x) R').set 13 (.inr (5, wof 14 0))).set (1 + 2) (.inl (2, 2, mx_rfs (va_up mt uu (some h.length))))) h.length (R'.1, R'.2.1, R'.2.2.1, R'.2.2.2, 4 + a', z', x) := by
      have z14 := x1e.1
      refine ⟨hl, ⟨z14, hz54, by show 4 + a' ≤ 54; omega, hx1, x1w⟩, ⟨_, _, by rw [List.getElem?_set_ne (by omega)]; exact oH2, rfl, rfl⟩, ?_, ?_, ?_, R'.2.2.2, ?_, fun _ _ _ _ => rfl⟩
      · rw [List.getElem?_set_ne (by omega), List.getElem?_set_ne (by omega)]; exact qh_1
      · rw [List.getElem?_set_ne (by omega), List.getElem?_set_ne (by omega)]; exact qh_2
      · rw [List.getElem?_set_ne (by omega), List.getElem?_set_ne (by omega)]; exact qh_3
      · rw [List.getElem?_set_ne (by omega), List.getElem?_set_ne (by omega)]; exact qh_4
    have mk3 : MK (((QH h (wnm (decide (uu = 0))) a' a' z' (ans true x) R').set 13 (.inr (5, wof 14 0))).set (1 + 2) (.inl (2, 2, mx_rfs (va_up mt uu (some h.length))))) 1 (txd (upd (A 0) 9 0) uu n' c') (G_ (txd (upd (A 0) 9 0) uu n' c')) (nsA A) (nbA A) := by
      refine ⟨mi, mr, _, ms, r3, q.lo hns hnb (fun j h1 h2 h3 h4 => ag j (by omega) (by omega) h3), ?_⟩
      have mx3 := ((mxQ.ev f2.2.2).ev f3.2.2).cg (m' := txd (upd (A 0) 9 0) uu n' c') (fun s hs j hj => ag _ (by omega) (by omega) (by omega))
      refine ⟨mx3.1, fun u' hu' => ?_⟩
      by_cases eu : u' = uu
      · subst eu
        rw [va_us]
        refine Or.inr ⟨h.length, _, rfl, T3, ?_⟩
        rw [G_txd hu' hn' sm]
        funext a b e f
        exact (congrFun (es_P0 (a := R'.1) (b := R'.2.1) (c := R'.2.2.1) (e := R'.2.2.2) (L := 0) (s := z') (r := x) z') x).trans (congrFun (es_P0 (a := R'.1) (b := R'.2.1) (c := R'.2.2.1) (e := R'.2.2.2) (L := 4 + a') (s := z') (r := x) z') x).symm
      · rw [va_un eu, G_txo (by omega) hu' eu hn' (by
          rcases (show u' = 0 ∨ u' = 1 by omega) with e | e
          · rw [e]; exact ok.1.2.1
          · rw [e]; exact ok.1.2.2.1)]
        exact mx3.2 u' hu'
    obtain ⟨d0, d1, d2, d3, d4, d5, d6, d7, d8⟩ := cw2
    have ft : FT h (((QH h (wnm (decide (uu = 0))) a' a' z' (ans true x) R').set 13 (.inr (5, wof 14 0))).set (1 + 2) (.inl (2, 2, mx_rfs (va_up mt uu (some h.length))))) := by
      refine ⟨by rw [List.length_set, List.length_set, lenQ]; omega, by rw [List.length_set, List.length_set, lenQ]; omega, fun j h1 h2 => ?_⟩
      rw [List.getElem?_set_ne (by omega), List.getElem?_set_ne (by omega)]
      exact qh_lt (by omega)
    have cw3 : CW (((QH h (wnm (decide (uu = 0))) a' a' z' (ans true x) R').set 13 (.inr (5, wof 14 0))).set (1 + 2) (.inl (2, 2, mx_rfs (va_up mt uu (some h.length))))) v (up2 A 0 (txd (upd (A 0) 9 0) uu n' c')) := by
      unfold CW
      rw [up2_n (show 2 ≠ 0 by decide)] at d0 d4
      rw [up2_n (show 9 ≠ 0 by decide)] at d5
      rw [up2_n (show 10 ≠ 0 by decide), up2_n (show 11 ≠ 0 by decide), up2_n (show 12 ≠ 0 by decide)] at d6
      rw [up2_n (show 3 ≠ 0 by decide)] at d7
      rw [up2_s] at d0 d2 d3
      rw [up2_n (show 2 ≠ 0 by decide), up2_n (show 9 ≠ 0 by decide), up2_n (show 10 ≠ 0 by decide), up2_n (show 11 ≠ 0 by decide), up2_n (show 12 ≠ 0 by decide), up2_n (show 3 ≠ 0 by decide), up2_s]
      refine ⟨?_, ?_, ?_, ?_, d4.fx f3 (by omega), d5.fx f3 (by omega), d6.fx f3 (by omega), d7.fx f3 (by omega), d8.fx f3 (by omega)⟩
      · rw [ag 8 (by omega) (by omega) (by omega)]
        rw [pk_un (by decide)] at d0
        exact d0.fx f3 (by omega)
      · unfold C1
        rw [ag 1 (by omega) (by omega) (by omega), ag 2 (by omega) (by omega) (by omega)]
        exact mk3
      · have d2' := d2.fx f3 (by omega)
        obtain ⟨y1, y2, y3, y4⟩ := d2'
        rw [pk_us] at y1
        refine ⟨by rw [ag9]; exact y1, y2, y3, fun j hj => ?_⟩
        rw [ag9] at hj
        exact absurd hj (by simp [show (0 : Int32).toNatClampNeg = 0 from by decide])
      · refine (d3.fx f3 (by omega)).cg2 (by rw [pk_un (by decide)]; exact ok.1.2.2.2.2.2.1) ?_ (fun j hj => ?_)
        · rw [ag 10 (by omega) (by omega) (by omega), pk_un (by decide)]
        · rw [ag _ (by omega) (by omega) (by omega), pk_un (by omega)]
    exact k _ cw3 ft
  · rw [if_neg q9] at k
    have oH2 : ((QH h (wnm (decide (uu = 0))) tp a' z' (ans b x) R').set 13 (.inr (5, wof 14 0)))[h.length]? = some (.inr (10, tof h.length (wnm (decide (uu = 0))) (tiv tp a' z' (ans b x)))) := by rw [List.getElem?_set_ne (by omega)]; exact qh_o
    simp only [i80_0, i80_1, i80_4, i80_7, i80_8, i80_9, i80_12, i80_13, i80_16, i80_17, i80_18, i80_21, i80_22, i80_25, i80_26, i80_27, i80_30, i80_31, i80_32, i80_35, i80_38, i80_39, i80_42, i80_44, i80_45, i80_48, i80_49, i80_50, i80_51, i80_54, i80_57, i80_58, i80_59, i80_60, i80_61, i80_e, cof_gk (ho1 _ _ _ _), cof_gv (ho1 _ _ _ _), ob_co (w1 _ _ _ _), k_clear (w1 _ _ _ _), q9, decide_false, show (bi_ false = 0) from rfl, not_true_eq_false, if_false, tof_gk oH2, tof_gv oH2, tiv_3, Option.toList_some, Option.toList_none, List.nil_append, List.cons_append, true_and, and_true, eq_self, true_or, or_true, bi_01, mx_nl_i, mx_nl_r, mx_nl_n, mx_nl_f, mx_nl_d]
    refine k _ ((cwQ a' z' (ans b x) R').tc ok) ⟨by rw [List.length_set, lenQ]; omega, by rw [List.length_set, lenQ]; omega, fun j h1 h2 => ?_⟩
    rw [List.getElem?_set_ne (by omega)]
    exact qh_lt (by omega)
end KZ2

