/-! the component's calls: what is told -/
theorem wr_cg {nm c c' p : Nat → Int32} : ∀ j, (∀ i, i < j → c' i = c i) → wr_ nm c' p j = wr_ nm c p j
  | 0, _ => rfl
  | j + 1, h => by
    show ws_ nm (c' j) (wr_ nm c' p j) = ws_ nm (c j) (wr_ nm c p j)
    rw [wr_cg j (fun i hi => h i (Nat.lt_succ_of_lt hi)), h j (Nat.lt_succ_self j)]
/-- but for the tape, what waits, and z -/
def SG (m m' : Nat → Int32) : Prop := (∀ j, j < 106 → j ≠ 8 → j ≠ 9 → j ≠ 10 → m' j = m j) ∧ (∀ j, 126 ≤ j → j < 226 → m' j = m j)
theorem G_sg {m m' : Nat → Int32} {u : Nat} (hu : u < 2) (t : TO m u) (s : SG m m') : G_ m' u = G_ m u := by
  obtain ⟨N, hN, e, _⟩ := t
  funext a b c f
  unfold G_
  rw [s.1 (104 + u) (by omega) (by omega) (by omega) (by omega), e, nI_clamp (by omega)]
  rw [wr_cg N (c := fun j => m (126 + 50 * u + j)) (c' := fun j => m' (126 + 50 * u + j)) (fun i hi => s.2 _ (by omega) (by omega))]
theorem MR.sg {m m' mi : Nat → Int32} {mr : Nat → Nat → Int32} {ns nb : Nat} (hns : ns ≤ 6) (hnb : nb ≤ 8) (q : MR m mi mr ns nb) (s : SG m m') : MR m' mi mr ns nb := by
  obtain ⟨⟨a1, a2, a3, a4, a5, a6⟩, b, c, e⟩ := q
  have g : ∀ j, j < 106 → j ≠ 8 → j ≠ 9 → j ≠ 10 → m' j = m j := s.1
  refine ⟨⟨by rw [g 0 (by omega) (by omega) (by omega) (by omega)]; exact a1, by rw [g 3 (by omega) (by omega) (by omega) (by omega)]; exact a2, by rw [g 7 (by omega) (by omega) (by omega) (by omega)]; exact a3, by rw [g 11 (by omega) (by omega) (by omega) (by omega)]; exact a4, a5, a6⟩, fun j hj => by rw [g _ (by omega) (by omega) (by omega) (by omega)]; exact b j hj, fun t ht => ?_, fun t ht => ?_⟩
  · rw [g _ (by omega) (by omega) (by omega) (by omega), g _ (by omega) (by omega) (by omega) (by omega), g _ (by omega) (by omega) (by omega) (by omega)]; exact c t ht
  · rw [g _ (by omega) (by omega) (by omega) (by omega), g _ (by omega) (by omega) (by omega) (by omega), g _ (by omega) (by omega) (by omega) (by omega), g _ (by omega) (by omega) (by omega) (by omega)]; exact e t ht
theorem MX.g {h : MXH} {m : Nat → Int32} {G G' : MXGf} {mt ms : Nat → Option Nat} {ns : Nat} (x : MX h m G mt ms ns) (e : ∀ u, u < 2 → G' u = G u) : MX h m G' mt ms ns := ⟨x.1, fun u hu => by rw [e u hu]; exact x.2 u hu⟩
theorem MK.sg {h : MXH} {b : Nat} {m m' : Nat → Int32} {ns nb : Nat} (hns : ns ≤ 6) (hnb : nb ≤ 8) (mk : MK h b m (G_ m) ns nb) (t0 : TO m 0) (t1 : TO m 1) (s : SG m m') : MK h b m' (G_ m') ns nb := by
  obtain ⟨mi, mr, mt, ms, r, q, mx⟩ := mk
  refine ⟨mi, mr, mt, ms, r, q.sg hns hnb s, (mx.cg (fun t ht j hj => s.1 _ (by omega) (by omega) (by omega) (by omega))).g (fun u hu => ?_)⟩
  rcases (show u = 0 ∨ u = 1 by omega) with e | e
  · subst e; exact G_sg hu t0 s
  · subst e; exact G_sg hu t1 s
theorem C1.sg {h : MXH} {m m' : Nat → Int32} (c : C1 h m) (hm : MI m) (s : SG m m') : C1 h m' := by
  obtain ⟨⟨ns, nb, hns, hnb, e1, e2, _⟩, t0, t1, _⟩ := hm
  have k1 : (m' 1) = m 1 := s.1 1 (by omega) (by omega) (by omega) (by omega)
  have k2 : (m' 2) = m 2 := s.1 2 (by omega) (by omega) (by omega) (by omega)
  unfold C1 at c ⊢
  rw [k1, k2]
  exact MK.sg (by rw [e1, nI_clamp (by omega)]; exact hns) (by rw [e2, nI_clamp (by omega)]; exact hnb) c t0 t1 s
theorem CW.nm {h h' : MXH} {lo hi : Nat} {v : Nat → Int32} {A : Nat → Nat → Int32} {m' : Nat → Int32} (c : CW h v A) (ok : OK v A) (x : FX lo hi h h') (e : hi ≤ 17 ∧ (13 ≤ lo ∨ hi ≤ 1)) (s : SG (A 0) m') (c0 : C0 h' (m' 8) (v 3) (A 2 8)) (c2 : C2 h' m') (c3 : C3 h' m') : CW h' v (up2 A 0 m') := by
  obtain ⟨d0, d1, d2, d3, d4, d5, d6, d7, d8⟩ := c
  refine ⟨?_, ?_, ?_, ?_, d4.fx x (by omega), d5.fx x (by omega), d6.fx x (by omega), d7.fx x (by omega), d8.fx x (by omega)⟩
  · rw [up2_s]; exact c0
  · rw [up2_s]; exact (d1.fx x (by omega)).sg ok.1 s
  · rw [up2_s]; exact c2
  · rw [up2_s]; exact c3
theorem C2.cg {h : MXH} {m m' : Nat → Int32} (c : C2 h m) (e : m' 9 = m 9) (e2 : ∀ j, m' (226 + j) = m (226 + j)) : C2 h m' := by
  obtain ⟨a1, a2, a3, a4⟩ := c
  refine ⟨by rw [e]; exact a1, a2, a3, fun j hj => ?_⟩
  rw [e] at hj
  show a2 j = m' (226 + j)
  rw [e2]
  exact a4 j hj
theorem C3.cg {h : MXH} {m m' : Nat → Int32} (c : C3 h m) (e : m' 10 = m 10) (e2 : ∀ j, m' (106 + j) = m (106 + j)) : C3 h m' := by
  obtain ⟨a1, a2, a3, a4⟩ := c
  refine ⟨by rw [e]; exact a1, a2, a3, fun j hj => ?_⟩
  rw [e] at hj
  show a2 j = m' (106 + j)
  rw [e2]
  exact a4 j hj

section KN
variable {X : MXX} {d : Nat} {h : MXH} {Q : MXP} {a : Nat} {n kk y c w : Int32}
set_option maxHeartbeats 2000000 in
theorem k_isOf {kd q : Nat} (hk : kd ≤ 6) (hq : q ≤ 6) (ho : h[a]? = some (.inr (scl kd, sof n kk y c w))) : ev_ X d 118 [.ref a, .int (nI q)] h Q = Q (some (.int (bi_ (iofb (nI kd) (nI q))))) h := by
  match kd, hk, ho with
  | 0, _, ho =>
    replace ho : h[a]? = some (.inr (6, sof n kk y c w)) := ho
    match q, hq with
    | 0, _ => rw [show bi_ (iofb (nI 0) (nI 0)) = 1 from by decide, i118_e, i118_0, show (nI 0 : Int32) = 0 from rfl, i118_1_d (by decide), i118_70, i118_71 mx_01b]
    | 1, _ => rw [show bi_ (iofb (nI 0) (nI 1)) = 0 from by decide, i118_e, i118_0, show (nI 1 : Int32) = 1 from rfl, i118_1_1, i118_40, i118_41_c6 (ob_co ho), i118_44 mx_01a]
    | 2, _ => rw [show bi_ (iofb (nI 0) (nI 2)) = 0 from by decide, i118_e, i118_0, show (nI 2 : Int32) = 2 from rfl, i118_1_2, i118_45, i118_46_c6 (ob_co ho), i118_49 mx_01a]
    | 3, _ => rw [show bi_ (iofb (nI 0) (nI 3)) = 0 from by decide, i118_e, i118_0, show (nI 3 : Int32) = 3 from rfl, i118_1_3, i118_50, i118_51_c6 (ob_co ho), i118_54 mx_01a]
    | 4, _ => rw [show bi_ (iofb (nI 0) (nI 4)) = 0 from by decide, i118_e, i118_0, show (nI 4 : Int32) = 4 from rfl, i118_1_4, i118_55, i118_56_c6 (ob_co ho), i118_59 mx_01a]
    | 5, _ => rw [show bi_ (iofb (nI 0) (nI 5)) = 0 from by decide, i118_e, i118_0, show (nI 5 : Int32) = 5 from rfl, i118_1_5, i118_60, i118_61_c6 (ob_co ho), i118_64 mx_01a]
    | 6, _ => rw [show bi_ (iofb (nI 0) (nI 6)) = 0 from by decide, i118_e, i118_0, show (nI 6 : Int32) = 6 from rfl, i118_1_6, i118_65, i118_66_c6 (ob_co ho), i118_69 mx_01a]
    | n + 7, h => omega
  | 1, _, ho =>
    replace ho : h[a]? = some (.inr (0, sof n kk y c w)) := ho
    match q, hq with
    | 0, _ => rw [show bi_ (iofb (nI 1) (nI 0)) = 1 from by decide, i118_e, i118_0, show (nI 0 : Int32) = 0 from rfl, i118_1_d (by decide), i118_70, i118_71 mx_01b]
    | 1, _ => rw [show bi_ (iofb (nI 1) (nI 1)) = 1 from by decide, i118_e, i118_0, show (nI 1 : Int32) = 1 from rfl, i118_1_1, i118_40, i118_41_c0 (ob_co ho), i118_44 mx_01b]
    | 2, _ => rw [show bi_ (iofb (nI 1) (nI 2)) = 0 from by decide, i118_e, i118_0, show (nI 2 : Int32) = 2 from rfl, i118_1_2, i118_45, i118_46_c0 (ob_co ho), i118_49 mx_01a]
    | 3, _ => rw [show bi_ (iofb (nI 1) (nI 3)) = 0 from by decide, i118_e, i118_0, show (nI 3 : Int32) = 3 from rfl, i118_1_3, i118_50, i118_51_c0 (ob_co ho), i118_54 mx_01a]
    | 4, _ => rw [show bi_ (iofb (nI 1) (nI 4)) = 0 from by decide, i118_e, i118_0, show (nI 4 : Int32) = 4 from rfl, i118_1_4, i118_55, i118_56_c0 (ob_co ho), i118_59 mx_01a]
    | 5, _ => rw [show bi_ (iofb (nI 1) (nI 5)) = 0 from by decide, i118_e, i118_0, show (nI 5 : Int32) = 5 from rfl, i118_1_5, i118_60, i118_61_c0 (ob_co ho), i118_64 mx_01a]
    | 6, _ => rw [show bi_ (iofb (nI 1) (nI 6)) = 0 from by decide, i118_e, i118_0, show (nI 6 : Int32) = 6 from rfl, i118_1_6, i118_65, i118_66_c0 (ob_co ho), i118_69 mx_01a]
    | n + 7, h => omega
  | 2, _, ho =>
    replace ho : h[a]? = some (.inr (8, sof n kk y c w)) := ho
    match q, hq with
    | 0, _ => rw [show bi_ (iofb (nI 2) (nI 0)) = 1 from by decide, i118_e, i118_0, show (nI 0 : Int32) = 0 from rfl, i118_1_d (by decide), i118_70, i118_71 mx_01b]
    | 1, _ => rw [show bi_ (iofb (nI 2) (nI 1)) = 0 from by decide, i118_e, i118_0, show (nI 1 : Int32) = 1 from rfl, i118_1_1, i118_40, i118_41_c8 (ob_co ho), i118_44 mx_01a]
    | 2, _ => rw [show bi_ (iofb (nI 2) (nI 2)) = 1 from by decide, i118_e, i118_0, show (nI 2 : Int32) = 2 from rfl, i118_1_2, i118_45, i118_46_c8 (ob_co ho), i118_49 mx_01b]
    | 3, _ => rw [show bi_ (iofb (nI 2) (nI 3)) = 0 from by decide, i118_e, i118_0, show (nI 3 : Int32) = 3 from rfl, i118_1_3, i118_50, i118_51_c8 (ob_co ho), i118_54 mx_01a]
    | 4, _ => rw [show bi_ (iofb (nI 2) (nI 4)) = 0 from by decide, i118_e, i118_0, show (nI 4 : Int32) = 4 from rfl, i118_1_4, i118_55, i118_56_c8 (ob_co ho), i118_59 mx_01a]
    | 5, _ => rw [show bi_ (iofb (nI 2) (nI 5)) = 0 from by decide, i118_e, i118_0, show (nI 5 : Int32) = 5 from rfl, i118_1_5, i118_60, i118_61_c8 (ob_co ho), i118_64 mx_01a]
    | 6, _ => rw [show bi_ (iofb (nI 2) (nI 6)) = 0 from by decide, i118_e, i118_0, show (nI 6 : Int32) = 6 from rfl, i118_1_6, i118_65, i118_66_c8 (ob_co ho), i118_69 mx_01a]
    | n + 7, h => omega
  | 3, _, ho =>
    replace ho : h[a]? = some (.inr (2, sof n kk y c w)) := ho
    match q, hq with
    | 0, _ => rw [show bi_ (iofb (nI 3) (nI 0)) = 1 from by decide, i118_e, i118_0, show (nI 0 : Int32) = 0 from rfl, i118_1_d (by decide), i118_70, i118_71 mx_01b]
    | 1, _ => rw [show bi_ (iofb (nI 3) (nI 1)) = 0 from by decide, i118_e, i118_0, show (nI 1 : Int32) = 1 from rfl, i118_1_1, i118_40, i118_41_c2 (ob_co ho), i118_44 mx_01a]
    | 2, _ => rw [show bi_ (iofb (nI 3) (nI 2)) = 1 from by decide, i118_e, i118_0, show (nI 2 : Int32) = 2 from rfl, i118_1_2, i118_45, i118_46_c2 (ob_co ho), i118_49 mx_01b]
    | 3, _ => rw [show bi_ (iofb (nI 3) (nI 3)) = 1 from by decide, i118_e, i118_0, show (nI 3 : Int32) = 3 from rfl, i118_1_3, i118_50, i118_51_c2 (ob_co ho), i118_54 mx_01b]
    | 4, _ => rw [show bi_ (iofb (nI 3) (nI 4)) = 0 from by decide, i118_e, i118_0, show (nI 4 : Int32) = 4 from rfl, i118_1_4, i118_55, i118_56_c2 (ob_co ho), i118_59 mx_01a]
    | 5, _ => rw [show bi_ (iofb (nI 3) (nI 5)) = 0 from by decide, i118_e, i118_0, show (nI 5 : Int32) = 5 from rfl, i118_1_5, i118_60, i118_61_c2 (ob_co ho), i118_64 mx_01a]
    | 6, _ => rw [show bi_ (iofb (nI 3) (nI 6)) = 0 from by decide, i118_e, i118_0, show (nI 6 : Int32) = 6 from rfl, i118_1_6, i118_65, i118_66_c2 (ob_co ho), i118_69 mx_01a]
    | n + 7, h => omega
  | 4, _, ho =>
    replace ho : h[a]? = some (.inr (1, sof n kk y c w)) := ho
    match q, hq with
    | 0, _ => rw [show bi_ (iofb (nI 4) (nI 0)) = 1 from by decide, i118_e, i118_0, show (nI 0 : Int32) = 0 from rfl, i118_1_d (by decide), i118_70, i118_71 mx_01b]
    | 1, _ => rw [show bi_ (iofb (nI 4) (nI 1)) = 0 from by decide, i118_e, i118_0, show (nI 1 : Int32) = 1 from rfl, i118_1_1, i118_40, i118_41_c1 (ob_co ho), i118_44 mx_01a]
    | 2, _ => rw [show bi_ (iofb (nI 4) (nI 2)) = 0 from by decide, i118_e, i118_0, show (nI 2 : Int32) = 2 from rfl, i118_1_2, i118_45, i118_46_c1 (ob_co ho), i118_49 mx_01a]
    | 3, _ => rw [show bi_ (iofb (nI 4) (nI 3)) = 0 from by decide, i118_e, i118_0, show (nI 3 : Int32) = 3 from rfl, i118_1_3, i118_50, i118_51_c1 (ob_co ho), i118_54 mx_01a]
    | 4, _ => rw [show bi_ (iofb (nI 4) (nI 4)) = 1 from by decide, i118_e, i118_0, show (nI 4 : Int32) = 4 from rfl, i118_1_4, i118_55, i118_56_c1 (ob_co ho), i118_59 mx_01b]
    | 5, _ => rw [show bi_ (iofb (nI 4) (nI 5)) = 0 from by decide, i118_e, i118_0, show (nI 5 : Int32) = 5 from rfl, i118_1_5, i118_60, i118_61_c1 (ob_co ho), i118_64 mx_01a]
    | 6, _ => rw [show bi_ (iofb (nI 4) (nI 6)) = 0 from by decide, i118_e, i118_0, show (nI 6 : Int32) = 6 from rfl, i118_1_6, i118_65, i118_66_c1 (ob_co ho), i118_69 mx_01a]
    | n + 7, h => omega
  | 5, _, ho =>
    replace ho : h[a]? = some (.inr (9, sof n kk y c w)) := ho
    match q, hq with
    | 0, _ => rw [show bi_ (iofb (nI 5) (nI 0)) = 1 from by decide, i118_e, i118_0, show (nI 0 : Int32) = 0 from rfl, i118_1_d (by decide), i118_70, i118_71 mx_01b]
    | 1, _ => rw [show bi_ (iofb (nI 5) (nI 1)) = 0 from by decide, i118_e, i118_0, show (nI 1 : Int32) = 1 from rfl, i118_1_1, i118_40, i118_41_c9 (ob_co ho), i118_44 mx_01a]
    | 2, _ => rw [show bi_ (iofb (nI 5) (nI 2)) = 0 from by decide, i118_e, i118_0, show (nI 2 : Int32) = 2 from rfl, i118_1_2, i118_45, i118_46_c9 (ob_co ho), i118_49 mx_01a]
    | 3, _ => rw [show bi_ (iofb (nI 5) (nI 3)) = 0 from by decide, i118_e, i118_0, show (nI 3 : Int32) = 3 from rfl, i118_1_3, i118_50, i118_51_c9 (ob_co ho), i118_54 mx_01a]
    | 4, _ => rw [show bi_ (iofb (nI 5) (nI 4)) = 1 from by decide, i118_e, i118_0, show (nI 4 : Int32) = 4 from rfl, i118_1_4, i118_55, i118_56_c9 (ob_co ho), i118_59 mx_01b]
    | 5, _ => rw [show bi_ (iofb (nI 5) (nI 5)) = 1 from by decide, i118_e, i118_0, show (nI 5 : Int32) = 5 from rfl, i118_1_5, i118_60, i118_61_c9 (ob_co ho), i118_64 mx_01b]
    | 6, _ => rw [show bi_ (iofb (nI 5) (nI 6)) = 0 from by decide, i118_e, i118_0, show (nI 6 : Int32) = 6 from rfl, i118_1_6, i118_65, i118_66_c9 (ob_co ho), i118_69 mx_01a]
    | n + 7, h => omega
  | 6, _, ho =>
    replace ho : h[a]? = some (.inr (4, sof n kk y c w)) := ho
    match q, hq with
    | 0, _ => rw [show bi_ (iofb (nI 6) (nI 0)) = 1 from by decide, i118_e, i118_0, show (nI 0 : Int32) = 0 from rfl, i118_1_d (by decide), i118_70, i118_71 mx_01b]
    | 1, _ => rw [show bi_ (iofb (nI 6) (nI 1)) = 1 from by decide, i118_e, i118_0, show (nI 1 : Int32) = 1 from rfl, i118_1_1, i118_40, i118_41_c4 (ob_co ho), i118_44 mx_01b]
    | 2, _ => rw [show bi_ (iofb (nI 6) (nI 2)) = 0 from by decide, i118_e, i118_0, show (nI 2 : Int32) = 2 from rfl, i118_1_2, i118_45, i118_46_c4 (ob_co ho), i118_49 mx_01a]
    | 3, _ => rw [show bi_ (iofb (nI 6) (nI 3)) = 0 from by decide, i118_e, i118_0, show (nI 3 : Int32) = 3 from rfl, i118_1_3, i118_50, i118_51_c4 (ob_co ho), i118_54 mx_01a]
    | 4, _ => rw [show bi_ (iofb (nI 6) (nI 4)) = 0 from by decide, i118_e, i118_0, show (nI 4 : Int32) = 4 from rfl, i118_1_4, i118_55, i118_56_c4 (ob_co ho), i118_59 mx_01a]
    | 5, _ => rw [show bi_ (iofb (nI 6) (nI 5)) = 0 from by decide, i118_e, i118_0, show (nI 5 : Int32) = 5 from rfl, i118_1_5, i118_60, i118_61_c4 (ob_co ho), i118_64 mx_01a]
    | 6, _ => rw [show bi_ (iofb (nI 6) (nI 6)) = 1 from by decide, i118_e, i118_0, show (nI 6 : Int32) = 6 from rfl, i118_1_6, i118_65, i118_66_c4 (ob_co ho), i118_69 mx_01b]
    | n + 7, h => omega
  | n + 7, h, _ => omega
end KN
section KL
variable {X : MXX} {d : Nat} {h : MXH} {Q : MXP} {v : Nat → Int32} {A : Nat → Nat → Int32}
theorem q_as (c : CW h v A) (ok : OK v A) {a b : Int32} (k : KC h (sp_as v A a b) Q) : ev_ X (d + 9) 73 [.ref 0, .int a, .int b] h Q := by
  have cw := c
  obtain ⟨⟨ci, o, z3, z8, z7⟩, c1, c2, c3, c4, c5, c6, ⟨ef, g36, e36⟩, c8⟩ := c
  have md := MD.ab ok.1.1
  have di : DI (A 0) := ⟨ok.1.2.2.2.2.2.2.1, ok.1.2.2.2.2.2.2.2.1⟩
  obtain ⟨mi, mr, mt, ms, r, q, mx⟩ := c1
  replace q : MR (A 0) mi mr (nsA A) (nbA A) := q
  replace mx : MX h (A 0) (G_ (A 0)) mt ms (nsA A) := mx
  have mk : MK h 1 (A 0) (G_ (A 0)) (nsA A) (nbA A) := ⟨mi, mr, mt, ms, r, q, mx⟩
  obtain ⟨hns, hnb, e1, e2, e3⟩ := id md
  have q7 : mi 7 = A 0 1 := by rw [e1]; exact q.1.2.2.2.2.1
  have q12 : mi 12 = A 0 2 := by rw [e2]; exact q.1.2.2.2.2.2
  unfold sp_as at k
  by_cases hc : (0 ≤ a ∧ a ≤ A 0 1 - 1) ∧ (0 ≤ b ∧ b ≤ 6)
  case neg =>
    rw [if_neg hc] at k
    have hf := k.er cw (by decide) (by decide) g36
    by_cases c1 : (0 ≤ a ∧ a ≤ A 0 1 - 1) <;> by_cases c2 : (0 ≤ b ∧ b ≤ 6)
    · exact False.elim (hc ⟨c1, c2⟩)
    all_goals simp only [i73_0, i73_1, i73_2, i73_5, i73_8, i73_9, i73_10, i73_12, i73_15, i73_18, i73_19, i73_20, i73_23, i73_24, i73_25, i73_28, i73_31, i73_32, i73_33, i73_34, i73_35, i73_36, i73_39, i73_42, i73_43, i73_46, i73_49, i73_50, i73_51, i73_54, i73_e, cof_gk o, cof_gv o, ob_co o, k_in, k_isSheet, k_isUse, k_isAhead, bi_eq0, decide_true, decide_false, and_self, if_true, if_false, reduceCtorEq, not_true_eq_false, not_false_eq_true, mx_t0, Option.toList_some, Option.toList_none, List.nil_append, List.cons_append, true_and, and_true, eq_self, true_or, or_true, bi_01, mx_nl_i, mx_nl_r, mx_nl_n, mx_nl_f, mx_nl_d, kof_gk r.o, kof_gv r.o, ob_co r.o, k_isSeller o r q7, k_isSort o r q12, k_e1 o g36, k_e2 o g36, k_e3 o g36, k_e4 o g36, k_e5 o g36, c1, c2]
    all_goals exact hf
  rw [if_pos hc] at k
  obtain ⟨c1, c2⟩ := hc
  have c1' := c1
  rw [e1] at c1'
  obtain ⟨s, hs, rfl⟩ := nI_sel (by omega) c1'
  obtain ⟨w, hw, rfl⟩ := nI_rng (k := 6) (by decide) c2
  rw [nI_clamp (show s < 2 ^ 31 by omega)] at k
  obtain ⟨a, ea, ha, kd, hkd, ek, ho⟩ := mx.1 s hs
  obtain ⟨gk, gv⟩ := scl_gk hkd ho
  rw [ek] at k
  by_cases c3 : iofb (nI kd) (nI w) = true
  · rw [if_pos c3] at k
    simp only [i73_0, i73_1, i73_2, i73_5, i73_8, i73_9, i73_10, i73_12, i73_15, i73_18, i73_19, i73_20, i73_23, i73_24, i73_25, i73_28, i73_31, i73_32, i73_33, i73_34, i73_35, i73_36, i73_39, i73_42, i73_43, i73_46, i73_49, i73_50, i73_51, i73_54, i73_e, cof_gk o, cof_gv o, ob_co o, k_in, k_isSheet, k_isUse, k_isAhead, bi_eq0, decide_true, decide_false, and_self, if_true, if_false, reduceCtorEq, not_true_eq_false, not_false_eq_true, mx_t0, Option.toList_some, Option.toList_none, List.nil_append, List.cons_append, true_and, and_true, eq_self, true_or, or_true, bi_01, mx_nl_i, mx_nl_r, mx_nl_n, mx_nl_f, mx_nl_d, kof_gk r.o, kof_gv r.o, ob_co r.o, k_isSeller o r q7, k_isSort o r q12, c1, c2, rr_rk r.gS, rr_ra r.gS, mx_inN (show s < 6 by omega) (show 6 < 2 ^ 31 by decide), nI_clamp (show s < 2 ^ 31 by omega), ea, mxv_s, show (mx_cmp 3).isSome = true from rfl, Bool.and_self, k_isOf hkd hw ho, c3, gk, gv]
    exact k.same cw
  · rw [if_neg c3] at k
    have c3' : iofb (nI kd) (nI w) = false := by simpa using c3
    simp only [i73_0, i73_1, i73_2, i73_5, i73_8, i73_9, i73_10, i73_12, i73_15, i73_18, i73_19, i73_20, i73_23, i73_24, i73_25, i73_28, i73_31, i73_32, i73_33, i73_34, i73_35, i73_36, i73_39, i73_42, i73_43, i73_46, i73_49, i73_50, i73_51, i73_54, i73_e, cof_gk o, cof_gv o, ob_co o, k_in, k_isSheet, k_isUse, k_isAhead, bi_eq0, decide_true, decide_false, and_self, if_true, if_false, reduceCtorEq, not_true_eq_false, not_false_eq_true, mx_t0, Option.toList_some, Option.toList_none, List.nil_append, List.cons_append, true_and, and_true, eq_self, true_or, or_true, bi_01, mx_nl_i, mx_nl_r, mx_nl_n, mx_nl_f, mx_nl_d, kof_gk r.o, kof_gv r.o, ob_co r.o, k_isSeller o r q7, k_isSort o r q12, k_e1 o g36, k_e2 o g36, k_e3 o g36, k_e4 o g36, k_e5 o g36, c1, c2, rr_rk r.gS, rr_ra r.gS, mx_inN (show s < 6 by omega) (show 6 < 2 ^ 31 by decide), nI_clamp (show s < 2 ^ 31 by omega), ea, mxv_s, show (mx_cmp 3).isSome = true from rfl, Bool.and_self, k_isOf hkd hw ho, c3']
    exact k.er cw (by decide) (by decide) g36
theorem q_sort (c : CW h v A) (ok : OK v A) {x y z : Int32} (k : KC h (sp_sort v A x y z) Q) : ev_ X (d + 9) 75 [.ref 0, .int x, .int y, .int z] h Q := by
  have cw := c
  obtain ⟨⟨ci, o, z3, z8, z7⟩, c1, c2, c3, c4, c5, c6, ⟨ef, g36, e36⟩, c8⟩ := c
  have md := MD.ab ok.1.1
  have di : DI (A 0) := ⟨ok.1.2.2.2.2.2.2.1, ok.1.2.2.2.2.2.2.2.1⟩
  obtain ⟨mi, mr, mt, ms, r, q, mx⟩ := c1
  replace q : MR (A 0) mi mr (nsA A) (nbA A) := q
  replace mx : MX h (A 0) (G_ (A 0)) mt ms (nsA A) := mx
  have mk : MK h 1 (A 0) (G_ (A 0)) (nsA A) (nbA A) := ⟨mi, mr, mt, ms, r, q, mx⟩
  obtain ⟨hns, hnb, e1, e2, e3⟩ := id md
  have q7 : mi 7 = A 0 1 := by rw [e1]; exact q.1.2.2.2.2.1
  have q12 : mi 12 = A 0 2 := by rw [e2]; exact q.1.2.2.2.2.2
  unfold sp_sort at k
  by_cases hc : (0 ≤ x ∧ x ≤ 9) ∧ (0 ≤ y ∧ y ≤ 999) ∧ (0 ≤ z ∧ z ≤ 9)
  case neg =>
    rw [if_neg hc] at k
    simp only [i75_0, i75_1, i75_2, i75_3, i75_6, i75_9, i75_10, i75_11, i75_14, i75_15, i75_16, i75_19, i75_22, i75_24, i75_27, i75_28, i75_29, i75_32, i75_33, i75_34, i75_37, i75_38, i75_39, i75_40, i75_43, i75_e, cof_gk o, cof_gv o, ob_co o, k_in, k_isSheet, k_isUse, k_isAhead, bi_eq0, decide_true, decide_false, and_self, if_true, if_false, reduceCtorEq, not_true_eq_false, not_false_eq_true, mx_t0, Option.toList_some, Option.toList_none, List.nil_append, List.cons_append, true_and, and_true, eq_self, true_or, or_true, bi_01, mx_nl_i, mx_nl_r, mx_nl_n, mx_nl_f, mx_nl_d, kof_gk r.o, kof_gv r.o, ob_co r.o, k_isSeller o r q7, k_isSort o r q12, k_e1 o g36, k_e2 o g36, k_e3 o g36, k_e4 o g36, k_e5 o g36, k_fitsSort, hc]
    exact k.er cw (by decide) (by decide) g36
  rw [if_pos hc] at k
  have hf : ∀ Q', ev_ X (d + 8) 114 [.int x, .int y, .int z] h Q' = Q' (some (.int (bi_ true))) h := fun Q' => by rw [k_fitsSort, decide_eq_true hc]
  by_cases c4 : A 0 2 = 8
  · rw [if_pos c4] at k
    simp only [i75_0, i75_1, i75_2, i75_3, i75_6, i75_9, i75_10, i75_11, i75_14, i75_15, i75_16, i75_19, i75_22, i75_24, i75_27, i75_28, i75_29, i75_32, i75_33, i75_34, i75_37, i75_38, i75_39, i75_40, i75_43, i75_e, cof_gk o, cof_gv o, ob_co o, k_in, k_isSheet, k_isUse, k_isAhead, bi_eq0, decide_true, decide_false, and_self, if_true, if_false, reduceCtorEq, not_true_eq_false, not_false_eq_true, mx_t0, Option.toList_some, Option.toList_none, List.nil_append, List.cons_append, true_and, and_true, eq_self, true_or, or_true, bi_01, mx_nl_i, mx_nl_r, mx_nl_n, mx_nl_f, mx_nl_d, kof_gk r.o, kof_gv r.o, ob_co r.o, k_isSeller o r q7, k_isSort o r q12, k_e1 o g36, k_e2 o g36, k_e3 o g36, k_e4 o g36, k_e5 o g36, hf, q12, c4, show ¬ ((8 : Int32) < 8) from by decide]
    exact k.er cw (by decide) (by decide) g36
  · rw [if_neg c4] at k
    have hlt : nbA A < 8 := by
      have : ¬ nbA A = 8 := fun e => c4 (by rw [e2, e]; rfl)
      omega
    have c5 : A 0 2 < 8 := by
      rw [e2]
      exact (nI_ltI (b := 8) (by omega) (by decide)).mpr hlt
    simp only [i75_0, i75_1, i75_2, i75_3, i75_6, i75_9, i75_10, i75_11, i75_14, i75_15, i75_16, i75_19, i75_22, i75_24, i75_27, i75_28, i75_29, i75_32, i75_33, i75_34, i75_37, i75_38, i75_39, i75_40, i75_43, i75_e, cof_gk o, cof_gv o, ob_co o, k_in, k_isSheet, k_isUse, k_isAhead, bi_eq0, decide_true, decide_false, and_self, if_true, if_false, reduceCtorEq, not_true_eq_false, not_false_eq_true, mx_t0, Option.toList_some, Option.toList_none, List.nil_append, List.cons_append, true_and, and_true, eq_self, true_or, or_true, bi_01, mx_nl_i, mx_nl_r, mx_nl_n, mx_nl_f, mx_nl_d, kof_gk r.o, kof_gv r.o, ob_co r.o, k_isSeller o r q7, k_isSort o r q12, hf, q12, c5]
    refine k_addB (by omega) hns hlt mk (fun h' mk' f => ?_)
    simp only [i75_0, i75_1, i75_2, i75_3, i75_6, i75_9, i75_10, i75_11, i75_14, i75_15, i75_16, i75_19, i75_22, i75_24, i75_27, i75_28, i75_29, i75_32, i75_33, i75_34, i75_37, i75_38, i75_39, i75_40, i75_43, i75_e, Option.toList_some, Option.toList_none, List.nil_append, List.cons_append]
    rw [e2] at k
    replace k : KC h (nI (nbA A), v, up2 A 0 (com_ (A 0) ((nI (nbA A)).toNatClampNeg) x y z)) Q := k
    rw [nI_clamp (show nbA A < 2 ^ 31 by omega)] at k
    have so : ∀ j, ¬ (70 + 4 * nbA A ≤ j ∧ j < 70 + 4 * nbA A + 4) → j ≠ 2 → com_ (A 0) (nbA A) x y z j = A 0 j := by
      intro j h1 h2
      unfold com_
      rw [pk_un h2, pk_un (by omega), pk_un (by omega), pk_un (by omega), pk_un (by omega)]
    refine k.mk cw f (C1.of mk' ?_ ?_ (fun j hj => so j (by omega) (by omega))) (so _ (by omega) (by omega)) (so _ (by omega) (by omega)) (so _ (by omega) (by omega)) (fun j hj => so _ (by omega) (by omega)) (fun j hj => so _ (by omega) (by omega)) ok
    · rw [so 1 (by omega) (by omega)]; rfl
    · unfold com_; rw [pk_us, e2, nI_1, nI_clamp (by omega)]
theorem q_seed (c : CW h v A) (ok : OK v A) {a : Int32} (k : KC h (sp_seed v A a) Q) : ev_ X (d + 9) 94 [.ref 0, .int a] h Q := by
  have cw := c
  obtain ⟨⟨ci, o, z3, z8, z7⟩, c1, c2, c3, c4, c5, c6, ⟨ef, g36, e36⟩, c8⟩ := c
  have md := MD.ab ok.1.1
  have di : DI (A 0) := ⟨ok.1.2.2.2.2.2.2.1, ok.1.2.2.2.2.2.2.2.1⟩
  obtain ⟨mi, mr, mt, ms, r, q, mx⟩ := c1
  replace q : MR (A 0) mi mr (nsA A) (nbA A) := q
  replace mx : MX h (A 0) (G_ (A 0)) mt ms (nsA A) := mx
  have mk : MK h 1 (A 0) (G_ (A 0)) (nsA A) (nbA A) := ⟨mi, mr, mt, ms, r, q, mx⟩
  obtain ⟨hns, hnb, e1, e2, e3⟩ := id md
  have q7 : mi 7 = A 0 1 := by rw [e1]; exact q.1.2.2.2.2.1
  have q12 : mi 12 = A 0 2 := by rw [e2]; exact q.1.2.2.2.2.2
  unfold sp_seed at k
  rw [← z3] at k
  have fx : FX 0 1 h (h.set 0 (.inr (11, cof (upd ci 3 a)))) := FX.set (by omega) (by omega) (by omega)
  simp only [i94_0, i94_1, i94_4, i94_5, i94_6, i94_7, i94_10, i94_11, i94_e, cof_gk o, cof_gv o, ob_co o, k_in, k_isSheet, k_isUse, k_isAhead, bi_eq0, decide_true, decide_false, and_self, if_true, if_false, reduceCtorEq, not_true_eq_false, not_false_eq_true, mx_t0, Option.toList_some, Option.toList_none, List.nil_append, List.cons_append, true_and, and_true, eq_self, true_or, or_true, bi_01, mx_nl_i, mx_nl_r, mx_nl_n, mx_nl_f, mx_nl_d, cof_pk3 o, cof_pf3 o]
  refine k _ (cw.nm ok fx (by omega) ⟨fun j h1 h2 h3 h4 => pk_un (by omega), fun j h1 h2 => pk_un (by omega)⟩ ?_ ?_ ?_) (fx.ft (by omega))
  · exact ⟨_, mx_gss (by rw [o]; rfl), by rw [pk_us, pk_us], by rw [pk_un (by decide)]; exact z8, fun z => by rw [pk_un (by decide)]; exact z7 z⟩
  · exact (c2.fx fx (by omega)).cg (pk_un (by omega)) (fun j => pk_un (by omega))
  · exact (c3.fx fx (by omega)).cg (pk_un (by omega)) (fun j => pk_un (by omega))
theorem q_trace (c : CW h v A) (ok : OK v A) {a : Int32} (k : KC h (sp_trace v A a) Q) : ev_ X (d + 9) 96 [.ref 0, .int a] h Q := by
  have cw := c
  obtain ⟨⟨ci, o, z3, z8, z7⟩, c1, c2, c3, c4, c5, c6, ⟨ef, g36, e36⟩, c8⟩ := c
  have md := MD.ab ok.1.1
  have di : DI (A 0) := ⟨ok.1.2.2.2.2.2.2.1, ok.1.2.2.2.2.2.2.2.1⟩
  obtain ⟨mi, mr, mt, ms, r, q, mx⟩ := c1
  replace q : MR (A 0) mi mr (nsA A) (nbA A) := q
  replace mx : MX h (A 0) (G_ (A 0)) mt ms (nsA A) := mx
  have mk : MK h 1 (A 0) (G_ (A 0)) (nsA A) (nbA A) := ⟨mi, mr, mt, ms, r, q, mx⟩
  obtain ⟨hns, hnb, e1, e2, e3⟩ := id md
  have q7 : mi 7 = A 0 1 := by rw [e1]; exact q.1.2.2.2.2.1
  have q12 : mi 12 = A 0 2 := by rw [e2]; exact q.1.2.2.2.2.2
  unfold sp_trace at k
  obtain ⟨w5, g5, r5, e5⟩ := c5
  obtain ⟨t, ht, et⟩ := ok.2.2.2.2.1
  by_cases c1 : (0 ≤ a ∧ a ≤ v 18 - 1)
  case neg =>
    rw [if_neg c1] at k
    simp only [i96_0, i96_1, i96_2, i96_3, i96_6, i96_9, i96_10, i96_11, i96_14, i96_17, i96_18, i96_19, i96_22, i96_23, i96_24, i96_27, i96_30, i96_31, i96_32, i96_e, cof_gk o, cof_gv o, ob_co o, k_in, k_isSheet, k_isUse, k_isAhead, bi_eq0, decide_true, decide_false, and_self, if_true, if_false, reduceCtorEq, not_true_eq_false, not_false_eq_true, mx_t0, Option.toList_some, Option.toList_none, List.nil_append, List.cons_append, true_and, and_true, eq_self, true_or, or_true, bi_01, mx_nl_i, mx_nl_r, mx_nl_n, mx_nl_f, mx_nl_d, k_e1 o g36, k_e2 o g36, k_e3 o g36, k_e4 o g36, k_e5 o g36, wof_gk w5, wof_gv w5, c1]
    exact k.er cw (by decide) (by decide) g36
  rw [if_pos c1] at k
  have c1' := c1
  rw [et] at c1'
  obtain ⟨s, hs, rfl⟩ := nI_sel (by omega) c1'
  rw [nI_clamp (show s < 2 ^ 31 by omega), ← e5 s (by rw [et, nI_clamp (by omega)]; exact hs)] at k
  simp only [i96_0, i96_1, i96_2, i96_3, i96_6, i96_9, i96_10, i96_11, i96_14, i96_17, i96_18, i96_19, i96_22, i96_23, i96_24, i96_27, i96_30, i96_31, i96_32, i96_e, cof_gk o, cof_gv o, ob_co o, k_in, k_isSheet, k_isUse, k_isAhead, bi_eq0, decide_true, decide_false, and_self, if_true, if_false, reduceCtorEq, not_true_eq_false, not_false_eq_true, mx_t0, Option.toList_some, Option.toList_none, List.nil_append, List.cons_append, true_and, and_true, eq_self, true_or, or_true, bi_01, mx_nl_i, mx_nl_r, mx_nl_n, mx_nl_f, mx_nl_d, wof_gk w5, wof_gv w5, c1, ar_ik r5, ar_ia r5, mx_inN (show s < 40 by omega) (show 40 < 2 ^ 31 by decide), nI_clamp (show s < 2 ^ 31 by omega)]
  exact k.same cw
theorem q_told (c : CW h v A) (ok : OK v A) {a : Int32} (k : KC h (sp_told v A a) Q) : ev_ X (d + 9) 105 [.ref 0, .int a] h Q := by
  have cw := c
  obtain ⟨⟨ci, o, z3, z8, z7⟩, c1, c2, c3, c4, c5, c6, ⟨ef, g36, e36⟩, c8⟩ := c
  have md := MD.ab ok.1.1
  have di : DI (A 0) := ⟨ok.1.2.2.2.2.2.2.1, ok.1.2.2.2.2.2.2.2.1⟩
  obtain ⟨mi, mr, mt, ms, r, q, mx⟩ := c1
  replace q : MR (A 0) mi mr (nsA A) (nbA A) := q
  replace mx : MX h (A 0) (G_ (A 0)) mt ms (nsA A) := mx
  have mk : MK h 1 (A 0) (G_ (A 0)) (nsA A) (nbA A) := ⟨mi, mr, mt, ms, r, q, mx⟩
  obtain ⟨hns, hnb, e1, e2, e3⟩ := id md
  have q7 : mi 7 = A 0 1 := by rw [e1]; exact q.1.2.2.2.2.1
  have q12 : mi 12 = A 0 2 := by rw [e2]; exact q.1.2.2.2.2.2
  unfold sp_told at k
  by_cases c1 : (1 ≤ a ∧ a ≤ 5)
  case neg =>
    rw [if_neg c1] at k
    simp only [i105_0, i105_1, i105_2, i105_3, i105_6, i105_9, i105_10, i105_13, i105_14, i105_15, i105_18, i105_19, i105_20, i105_23, i105_e, cof_gk o, cof_gv o, ob_co o, k_in, k_isSheet, k_isUse, k_isAhead, bi_eq0, decide_true, decide_false, and_self, if_true, if_false, reduceCtorEq, not_true_eq_false, not_false_eq_true, mx_t0, Option.toList_some, Option.toList_none, List.nil_append, List.cons_append, true_and, and_true, eq_self, true_or, or_true, bi_01, mx_nl_i, mx_nl_r, mx_nl_n, mx_nl_f, mx_nl_d, k_e1 o g36, k_e2 o g36, k_e3 o g36, k_e4 o g36, k_e5 o g36, c1]
    exact k.er cw (by decide) (by decide) g36
  rw [if_pos c1] at k
  obtain ⟨s, hs, rfl⟩ := nI_rng (k := 5) (by decide) ⟨Int32.le_trans (by decide) c1.1, c1.2⟩
  have hs1 : 1 ≤ s := (nI_leI (a := 1) (by decide) (by omega)).mp c1.1
  rw [nI_clamp (show s < 2 ^ 31 by omega), ← e36 s hs1 (by omega)] at k
  simp only [i105_0, i105_1, i105_2, i105_3, i105_6, i105_9, i105_10, i105_13, i105_14, i105_15, i105_18, i105_19, i105_20, i105_23, i105_e, cof_gk o, cof_gv o, ob_co o, k_in, k_isSheet, k_isUse, k_isAhead, bi_eq0, decide_true, decide_false, and_self, if_true, if_false, reduceCtorEq, not_true_eq_false, not_false_eq_true, mx_t0, Option.toList_some, Option.toList_none, List.nil_append, List.cons_append, true_and, and_true, eq_self, true_or, or_true, bi_01, mx_nl_i, mx_nl_r, mx_nl_n, mx_nl_f, mx_nl_d, c1, ar_ik g36, ar_ia g36, mx_inN (show s < 6 by omega) (show 6 < 2 ^ 31 by decide), nI_clamp (show s < 2 ^ 31 by omega)]
  exact k.same cw
/-- one more in a row -/
theorem k_add {a n s : Nat} {f : Nat → Int32} {x : Int32} (w : h[a]? = some (.inr (5, wof (a + 1) (nI s)))) (g : h[a + 1]? = some (.inl (0, n, .inl f))) (hs : s < n) (hn : n < 2 ^ 31) : ev_ X d 36 [.ref a, .int x] h Q = Q (some (.int 1)) ((h.set (a + 1) (.inl (0, n, .inl (upd f s x)))).set a (.inr (5, wof (a + 1) (nI (s + 1))))) := by
  have hc : (nI s : Int32) < nI n := (nI_ltI (by omega) hn).mpr hs
  have w2 : (h.set (a + 1) (.inl (0, n, .inl (upd f s x))))[a]? = some (.inr (5, wof (a + 1) (nI s))) := by rw [List.getElem?_set_ne (by omega)]; exact w
  simp only [i36_0, i36_1, i36_4, i36_5, i36_9, i36_12, i36_14, i36_15, i36_18, i36_19, i36_22, i36_23, i36_24, i36_25, i36_26, i36_29, i36_30, i36_31, i36_34, i36_e, i36_8 (ar_al g), i36_35 mx_01b, wof_gk w, wof_gv w, ar_al g, show Int32.ofNat n = nI n from rfl, hc, if_true, ar_ik g, ar_is g, mx_inN hs hn, nI_clamp (show s < 2 ^ 31 by omega), wof_gk w2, wof_gv w2, wof_pk1 w2, wof_pf1 w2, nI_1, true_and, and_true, eq_self, true_or, or_true, bi_01, mx_nl_i, mx_nl_r, mx_nl_n, mx_nl_f, mx_nl_d]
theorem k_addF {a n : Nat} {f : Nat → Int32} {x : Int32} (w : h[a]? = some (.inr (5, wof (a + 1) (nI n)))) (g : h[a + 1]? = some (.inl (0, n, .inl f))) : ev_ X d 36 [.ref a, .int x] h Q = Q (some (.int 0)) h := by
  simp only [i36_0, i36_1, i36_4, i36_5, i36_9, i36_12, i36_14, i36_15, i36_18, i36_19, i36_22, i36_23, i36_24, i36_25, i36_26, i36_29, i36_30, i36_31, i36_34, i36_e, i36_8 (ar_al g), i36_13 mx_01a, wof_gk w, wof_gv w, ar_al g, show Int32.ofNat n = nI n from rfl, Int32.lt_irrefl, if_false, true_and, and_true, eq_self, true_or, or_true, bi_01, mx_nl_i, mx_nl_r, mx_nl_n, mx_nl_f, mx_nl_d]
theorem k_clear {a b : Nat} {s : Int32} (w : h[a]? = some (.inr (5, wof b s))) : ev_ X d 37 [.ref a] h Q = Q none (h.set a (.inr (5, wof b 0))) := by
  simp only [i37_0, i37_1, i37_2, i37_5, i37_e, wof_pk1 w, wof_pf1 w, true_and, and_true, eq_self, true_or, or_true, bi_01, mx_nl_i, mx_nl_r, mx_nl_n, mx_nl_f, mx_nl_d]
theorem q_tell (c : CW h v A) (ok : OK v A) {a : Int32} (k : KC h (sp_tell v A a) Q) : ev_ X (d + 9) 102 [.ref 0, .int a] h Q := by
  have cw := c
  obtain ⟨⟨ci, o, z3, z8, z7⟩, c1, c2, c3, c4, c5, c6, ⟨ef, g36, e36⟩, c8⟩ := c
  have md := MD.ab ok.1.1
  have di : DI (A 0) := ⟨ok.1.2.2.2.2.2.2.1, ok.1.2.2.2.2.2.2.2.1⟩
  obtain ⟨mi, mr, mt, ms, r, q, mx⟩ := c1
  replace q : MR (A 0) mi mr (nsA A) (nbA A) := q
  replace mx : MX h (A 0) (G_ (A 0)) mt ms (nsA A) := mx
  have mk : MK h 1 (A 0) (G_ (A 0)) (nsA A) (nbA A) := ⟨mi, mr, mt, ms, r, q, mx⟩
  obtain ⟨hns, hnb, e1, e2, e3⟩ := id md
  have q7 : mi 7 = A 0 1 := by rw [e1]; exact q.1.2.2.2.2.1
  have q12 : mi 12 = A 0 2 := by rw [e2]; exact q.1.2.2.2.2.2
  unfold sp_tell at k
  have c30 := c3
  obtain ⟨w5, g5, r5, e5⟩ := c3
  obtain ⟨t, ht, et⟩ := ok.1.2.2.2.2.2.1
  rw [et] at w5 e5
  by_cases c1 : A 0 10 = 20
  · rw [if_pos c1] at k
    have e : t = 20 := by
      rw [et] at c1
      exact (nI_eq (b := 20) (by omega) (by decide)).mp c1
    subst e
    simp only [i102_0, i102_1, i102_4, i102_5, i102_8, i102_11, i102_12, i102_13, i102_16, i102_17, i102_18, i102_21, i102_24, i102_e, cof_gk o, cof_gv o, ob_co o, k_in, k_isSheet, k_isUse, k_isAhead, bi_eq0, decide_true, decide_false, and_self, if_true, if_false, reduceCtorEq, not_true_eq_false, not_false_eq_true, mx_t0, Option.toList_some, Option.toList_none, List.nil_append, List.cons_append, true_and, and_true, eq_self, true_or, or_true, bi_01, mx_nl_i, mx_nl_r, mx_nl_n, mx_nl_f, mx_nl_d, k_e1 o g36, k_e2 o g36, k_e3 o g36, k_e4 o g36, k_e5 o g36, ob_co w5, k_addF w5 r5]
    exact k.er cw (by decide) (by decide) g36
  · rw [if_neg c1, et, nI_clamp (show t < 2 ^ 31 by omega), nI_1] at k
    have hlt : t < 20 := by
      have : ¬ t = 20 := fun e => c1 (by rw [et, e]; rfl)
      omega
    have fx : FX 15 17 h ((h.set (15 + 1) (.inl (0, 20, .inl (upd g5 t a)))).set 15 (.inr (5, wof (15 + 1) (nI (t + 1))))) := (FX.set (by omega) (by omega) (by omega)).tr (FX.set (by omega) (by omega) (by omega))
    have w6 : ((h.set (15 + 1) (.inl (0, 20, .inl (upd g5 t a)))).set 15 (.inr (5, wof (15 + 1) (nI (t + 1)))))[15]? = some (.inr (5, wof (15 + 1) (nI (t + 1)))) := mx_gss (by rw [List.getElem?_set_ne (by omega), w5]; rfl)
    have o6 : ((h.set (15 + 1) (.inl (0, 20, .inl (upd g5 t a)))).set 15 (.inr (5, wof (15 + 1) (nI (t + 1)))))[0]? = some (.inr (11, cof ci)) := by rw [fx.2.1 0 (by omega) (by omega)]; exact o
    simp only [i102_0, i102_1, i102_4, i102_5, i102_8, i102_11, i102_12, i102_13, i102_16, i102_17, i102_18, i102_21, i102_24, i102_e, cof_gk o, cof_gv o, ob_co o, k_in, k_isSheet, k_isUse, k_isAhead, bi_eq0, decide_true, decide_false, and_self, if_true, if_false, reduceCtorEq, not_true_eq_false, not_false_eq_true, mx_t0, Option.toList_some, Option.toList_none, List.nil_append, List.cons_append, true_and, and_true, eq_self, true_or, or_true, bi_01, mx_nl_i, mx_nl_r, mx_nl_n, mx_nl_f, mx_nl_d, ob_co w5, k_add w5 r5 hlt (by decide), show ¬ ((1 : Int32) = 0) from by decide, cof_gk o6, cof_gv o6, wof_gk w6, wof_gv w6]
    refine k _ (cw.nm ok fx (by omega) ⟨fun j h1 h2 h3 h4 => ?_, fun j h1 h2 => ?_⟩ ?_ ?_ ?_) (fx.ft (by omega))
    · rw [pk_un (by omega), pk_un (by omega)]
    · rw [pk_un (by omega), pk_un (by omega)]
    · rw [pk_un (by omega), pk_un (by omega)]; exact cw.1.fx fx (by omega)
    · exact (c2.fx fx (by omega)).cg (by rw [pk_un (by omega), pk_un (by omega)]) (fun j => by rw [pk_un (by omega), pk_un (by omega)])
    · refine ⟨by rw [pk_us]; exact w6, upd g5 t a, by rw [List.getElem?_set_ne (by omega)]; exact mx_gss (by rw [r5]; rfl), fun j hj => ?_⟩
      rw [pk_us, nI_clamp (by omega)] at hj
      show upd g5 t a j = upd (upd (A 0) (106 + t) a) 10 (nI (t + 1)) (106 + j)
      rw [pk_un (j := 106 + j) (show 106 + j ≠ 10 by omega)]
      by_cases e : j = t
      · subst e; rw [pk_us, pk_us]
      · rw [pk_un e, pk_un (by omega)]; exact e5 j (by rw [nI_clamp (by omega)]; omega)
theorem q_count (c : CW h v A) (ok : OK v A) {a : Int32} (k : KC h (sp_count v A a) Q) : ev_ X (d + 9) 104 [.ref 0, .int a] h Q := by
  have cw := c
  obtain ⟨⟨ci, o, z3, z8, z7⟩, c1, c2, c3, c4, c5, c6, ⟨ef, g36, e36⟩, c8⟩ := c
  have md := MD.ab ok.1.1
  have di : DI (A 0) := ⟨ok.1.2.2.2.2.2.2.1, ok.1.2.2.2.2.2.2.2.1⟩
  obtain ⟨mi, mr, mt, ms, r, q, mx⟩ := c1
  replace q : MR (A 0) mi mr (nsA A) (nbA A) := q
  replace mx : MX h (A 0) (G_ (A 0)) mt ms (nsA A) := mx
  have mk : MK h 1 (A 0) (G_ (A 0)) (nsA A) (nbA A) := ⟨mi, mr, mt, ms, r, q, mx⟩
  obtain ⟨hns, hnb, e1, e2, e3⟩ := id md
  have q7 : mi 7 = A 0 1 := by rw [e1]; exact q.1.2.2.2.2.1
  have q12 : mi 12 = A 0 2 := by rw [e2]; exact q.1.2.2.2.2.2
  unfold sp_count at k
  obtain ⟨w2, _⟩ := c2
  obtain ⟨w3, _⟩ := c3
  obtain ⟨w5, _⟩ := c5
  have ka : ∀ x : Int32, KC h (x, v, A) Q → Q (some (.int x)) h := fun x k => k.same cw
  by_cases c0 : a = 0
  · rw [if_pos c0] at k
    simp only [i104_0, i104_52, i104_53, i104_56, i104_59, i104_60, i104_61, i104_64, i104_67, i104_68, i104_69, i104_72, i104_75, i104_76, i104_77, i104_80, i104_83, i104_84, i104_85, i104_88, i104_91, i104_92, i104_93, i104_96, i104_99, i104_100, i104_101, i104_104, i104_107, i104_108, i104_109, i104_112, i104_115, i104_116, i104_117, i104_120, i104_121, i104_122, i104_123, i104_126, i104_e, i104_1s, cof_gk o, cof_gv o, ob_co o, k_in, k_isSheet, k_isUse, k_isAhead, bi_eq0, decide_true, decide_false, and_self, if_true, if_false, reduceCtorEq, not_true_eq_false, not_false_eq_true, mx_t0, Option.toList_some, Option.toList_none, List.nil_append, List.cons_append, true_and, and_true, eq_self, true_or, or_true, bi_01, mx_nl_i, mx_nl_r, mx_nl_n, mx_nl_f, mx_nl_d, kof_gk r.o, kof_gv r.o, ob_co r.o, k_isSeller o r q7, k_isSort o r q12, c0, q.1.1]
    exact k.same cw
  rw [if_neg c0] at k
  by_cases c1 : a = 1
  · rw [if_pos c1] at k
    simp only [i104_0, i104_52, i104_53, i104_56, i104_59, i104_60, i104_61, i104_64, i104_67, i104_68, i104_69, i104_72, i104_75, i104_76, i104_77, i104_80, i104_83, i104_84, i104_85, i104_88, i104_91, i104_92, i104_93, i104_96, i104_99, i104_100, i104_101, i104_104, i104_107, i104_108, i104_109, i104_112, i104_115, i104_116, i104_117, i104_120, i104_121, i104_122, i104_123, i104_126, i104_e, i104_1s, cof_gk o, cof_gv o, ob_co o, k_in, k_isSheet, k_isUse, k_isAhead, bi_eq0, decide_true, decide_false, and_self, if_true, if_false, reduceCtorEq, not_true_eq_false, not_false_eq_true, mx_t0, Option.toList_some, Option.toList_none, List.nil_append, List.cons_append, true_and, and_true, eq_self, true_or, or_true, bi_01, mx_nl_i, mx_nl_r, mx_nl_n, mx_nl_f, mx_nl_d, kof_gk r.o, kof_gv r.o, ob_co r.o, k_isSeller o r q7, k_isSort o r q12, c1, show ¬ ((0 : Int32) = 1) from by decide, show ¬ ((0 : Int32) = 2) from by decide, show ¬ ((0 : Int32) = 3) from by decide, show ¬ ((0 : Int32) = 4) from by decide, show ¬ ((0 : Int32) = 5) from by decide, show ¬ ((0 : Int32) = 6) from by decide, show ¬ ((1 : Int32) = 0) from by decide, show ¬ ((1 : Int32) = 2) from by decide, show ¬ ((1 : Int32) = 3) from by decide, show ¬ ((1 : Int32) = 4) from by decide, show ¬ ((1 : Int32) = 5) from by decide, show ¬ ((1 : Int32) = 6) from by decide, show ¬ ((2 : Int32) = 0) from by decide, show ¬ ((2 : Int32) = 1) from by decide, show ¬ ((2 : Int32) = 3) from by decide, show ¬ ((2 : Int32) = 4) from by decide, show ¬ ((2 : Int32) = 5) from by decide, show ¬ ((2 : Int32) = 6) from by decide, show ¬ ((3 : Int32) = 0) from by decide, show ¬ ((3 : Int32) = 1) from by decide, show ¬ ((3 : Int32) = 2) from by decide, show ¬ ((3 : Int32) = 4) from by decide, show ¬ ((3 : Int32) = 5) from by decide, show ¬ ((3 : Int32) = 6) from by decide, show ¬ ((4 : Int32) = 0) from by decide, show ¬ ((4 : Int32) = 1) from by decide, show ¬ ((4 : Int32) = 2) from by decide, show ¬ ((4 : Int32) = 3) from by decide, show ¬ ((4 : Int32) = 5) from by decide, show ¬ ((4 : Int32) = 6) from by decide, show ¬ ((5 : Int32) = 0) from by decide, show ¬ ((5 : Int32) = 1) from by decide, show ¬ ((5 : Int32) = 2) from by decide, show ¬ ((5 : Int32) = 3) from by decide, show ¬ ((5 : Int32) = 4) from by decide, show ¬ ((5 : Int32) = 6) from by decide, show ¬ ((6 : Int32) = 0) from by decide, show ¬ ((6 : Int32) = 1) from by decide, show ¬ ((6 : Int32) = 2) from by decide, show ¬ ((6 : Int32) = 3) from by decide, show ¬ ((6 : Int32) = 4) from by decide, show ¬ ((6 : Int32) = 5) from by decide, q7]
    exact k.same cw
  rw [if_neg c1] at k
  by_cases c2 : a = 2
  · rw [if_pos c2] at k
    simp only [i104_0, i104_52, i104_53, i104_56, i104_59, i104_60, i104_61, i104_64, i104_67, i104_68, i104_69, i104_72, i104_75, i104_76, i104_77, i104_80, i104_83, i104_84, i104_85, i104_88, i104_91, i104_92, i104_93, i104_96, i104_99, i104_100, i104_101, i104_104, i104_107, i104_108, i104_109, i104_112, i104_115, i104_116, i104_117, i104_120, i104_121, i104_122, i104_123, i104_126, i104_e, i104_1s, cof_gk o, cof_gv o, ob_co o, k_in, k_isSheet, k_isUse, k_isAhead, bi_eq0, decide_true, decide_false, and_self, if_true, if_false, reduceCtorEq, not_true_eq_false, not_false_eq_true, mx_t0, Option.toList_some, Option.toList_none, List.nil_append, List.cons_append, true_and, and_true, eq_self, true_or, or_true, bi_01, mx_nl_i, mx_nl_r, mx_nl_n, mx_nl_f, mx_nl_d, kof_gk r.o, kof_gv r.o, ob_co r.o, k_isSeller o r q7, k_isSort o r q12, c2, show ¬ ((0 : Int32) = 1) from by decide, show ¬ ((0 : Int32) = 2) from by decide, show ¬ ((0 : Int32) = 3) from by decide, show ¬ ((0 : Int32) = 4) from by decide, show ¬ ((0 : Int32) = 5) from by decide, show ¬ ((0 : Int32) = 6) from by decide, show ¬ ((1 : Int32) = 0) from by decide, show ¬ ((1 : Int32) = 2) from by decide, show ¬ ((1 : Int32) = 3) from by decide, show ¬ ((1 : Int32) = 4) from by decide, show ¬ ((1 : Int32) = 5) from by decide, show ¬ ((1 : Int32) = 6) from by decide, show ¬ ((2 : Int32) = 0) from by decide, show ¬ ((2 : Int32) = 1) from by decide, show ¬ ((2 : Int32) = 3) from by decide, show ¬ ((2 : Int32) = 4) from by decide, show ¬ ((2 : Int32) = 5) from by decide, show ¬ ((2 : Int32) = 6) from by decide, show ¬ ((3 : Int32) = 0) from by decide, show ¬ ((3 : Int32) = 1) from by decide, show ¬ ((3 : Int32) = 2) from by decide, show ¬ ((3 : Int32) = 4) from by decide, show ¬ ((3 : Int32) = 5) from by decide, show ¬ ((3 : Int32) = 6) from by decide, show ¬ ((4 : Int32) = 0) from by decide, show ¬ ((4 : Int32) = 1) from by decide, show ¬ ((4 : Int32) = 2) from by decide, show ¬ ((4 : Int32) = 3) from by decide, show ¬ ((4 : Int32) = 5) from by decide, show ¬ ((4 : Int32) = 6) from by decide, show ¬ ((5 : Int32) = 0) from by decide, show ¬ ((5 : Int32) = 1) from by decide, show ¬ ((5 : Int32) = 2) from by decide, show ¬ ((5 : Int32) = 3) from by decide, show ¬ ((5 : Int32) = 4) from by decide, show ¬ ((5 : Int32) = 6) from by decide, show ¬ ((6 : Int32) = 0) from by decide, show ¬ ((6 : Int32) = 1) from by decide, show ¬ ((6 : Int32) = 2) from by decide, show ¬ ((6 : Int32) = 3) from by decide, show ¬ ((6 : Int32) = 4) from by decide, show ¬ ((6 : Int32) = 5) from by decide, q12]
    exact k.same cw
  rw [if_neg c2] at k
  by_cases c3 : a = 3
  · rw [if_pos c3] at k
    simp only [i104_0, i104_52, i104_53, i104_56, i104_59, i104_60, i104_61, i104_64, i104_67, i104_68, i104_69, i104_72, i104_75, i104_76, i104_77, i104_80, i104_83, i104_84, i104_85, i104_88, i104_91, i104_92, i104_93, i104_96, i104_99, i104_100, i104_101, i104_104, i104_107, i104_108, i104_109, i104_112, i104_115, i104_116, i104_117, i104_120, i104_121, i104_122, i104_123, i104_126, i104_e, i104_1s, cof_gk o, cof_gv o, ob_co o, k_in, k_isSheet, k_isUse, k_isAhead, bi_eq0, decide_true, decide_false, and_self, if_true, if_false, reduceCtorEq, not_true_eq_false, not_false_eq_true, mx_t0, Option.toList_some, Option.toList_none, List.nil_append, List.cons_append, true_and, and_true, eq_self, true_or, or_true, bi_01, mx_nl_i, mx_nl_r, mx_nl_n, mx_nl_f, mx_nl_d, kof_gk r.o, kof_gv r.o, ob_co r.o, k_isSeller o r q7, k_isSort o r q12, c3, show ¬ ((0 : Int32) = 1) from by decide, show ¬ ((0 : Int32) = 2) from by decide, show ¬ ((0 : Int32) = 3) from by decide, show ¬ ((0 : Int32) = 4) from by decide, show ¬ ((0 : Int32) = 5) from by decide, show ¬ ((0 : Int32) = 6) from by decide, show ¬ ((1 : Int32) = 0) from by decide, show ¬ ((1 : Int32) = 2) from by decide, show ¬ ((1 : Int32) = 3) from by decide, show ¬ ((1 : Int32) = 4) from by decide, show ¬ ((1 : Int32) = 5) from by decide, show ¬ ((1 : Int32) = 6) from by decide, show ¬ ((2 : Int32) = 0) from by decide, show ¬ ((2 : Int32) = 1) from by decide, show ¬ ((2 : Int32) = 3) from by decide, show ¬ ((2 : Int32) = 4) from by decide, show ¬ ((2 : Int32) = 5) from by decide, show ¬ ((2 : Int32) = 6) from by decide, show ¬ ((3 : Int32) = 0) from by decide, show ¬ ((3 : Int32) = 1) from by decide, show ¬ ((3 : Int32) = 2) from by decide, show ¬ ((3 : Int32) = 4) from by decide, show ¬ ((3 : Int32) = 5) from by decide, show ¬ ((3 : Int32) = 6) from by decide, show ¬ ((4 : Int32) = 0) from by decide, show ¬ ((4 : Int32) = 1) from by decide, show ¬ ((4 : Int32) = 2) from by decide, show ¬ ((4 : Int32) = 3) from by decide, show ¬ ((4 : Int32) = 5) from by decide, show ¬ ((4 : Int32) = 6) from by decide, show ¬ ((5 : Int32) = 0) from by decide, show ¬ ((5 : Int32) = 1) from by decide, show ¬ ((5 : Int32) = 2) from by decide, show ¬ ((5 : Int32) = 3) from by decide, show ¬ ((5 : Int32) = 4) from by decide, show ¬ ((5 : Int32) = 6) from by decide, show ¬ ((6 : Int32) = 0) from by decide, show ¬ ((6 : Int32) = 1) from by decide, show ¬ ((6 : Int32) = 2) from by decide, show ¬ ((6 : Int32) = 3) from by decide, show ¬ ((6 : Int32) = 4) from by decide, show ¬ ((6 : Int32) = 5) from by decide, q.1.2.1]
    exact k.same cw
  rw [if_neg c3] at k
  by_cases c4 : a = 4
  · rw [if_pos c4] at k
    simp only [i104_0, i104_52, i104_53, i104_56, i104_59, i104_60, i104_61, i104_64, i104_67, i104_68, i104_69, i104_72, i104_75, i104_76, i104_77, i104_80, i104_83, i104_84, i104_85, i104_88, i104_91, i104_92, i104_93, i104_96, i104_99, i104_100, i104_101, i104_104, i104_107, i104_108, i104_109, i104_112, i104_115, i104_116, i104_117, i104_120, i104_121, i104_122, i104_123, i104_126, i104_e, i104_1s, cof_gk o, cof_gv o, ob_co o, k_in, k_isSheet, k_isUse, k_isAhead, bi_eq0, decide_true, decide_false, and_self, if_true, if_false, reduceCtorEq, not_true_eq_false, not_false_eq_true, mx_t0, Option.toList_some, Option.toList_none, List.nil_append, List.cons_append, true_and, and_true, eq_self, true_or, or_true, bi_01, mx_nl_i, mx_nl_r, mx_nl_n, mx_nl_f, mx_nl_d, kof_gk r.o, kof_gv r.o, ob_co r.o, k_isSeller o r q7, k_isSort o r q12, c4, show ¬ ((0 : Int32) = 1) from by decide, show ¬ ((0 : Int32) = 2) from by decide, show ¬ ((0 : Int32) = 3) from by decide, show ¬ ((0 : Int32) = 4) from by decide, show ¬ ((0 : Int32) = 5) from by decide, show ¬ ((0 : Int32) = 6) from by decide, show ¬ ((1 : Int32) = 0) from by decide, show ¬ ((1 : Int32) = 2) from by decide, show ¬ ((1 : Int32) = 3) from by decide, show ¬ ((1 : Int32) = 4) from by decide, show ¬ ((1 : Int32) = 5) from by decide, show ¬ ((1 : Int32) = 6) from by decide, show ¬ ((2 : Int32) = 0) from by decide, show ¬ ((2 : Int32) = 1) from by decide, show ¬ ((2 : Int32) = 3) from by decide, show ¬ ((2 : Int32) = 4) from by decide, show ¬ ((2 : Int32) = 5) from by decide, show ¬ ((2 : Int32) = 6) from by decide, show ¬ ((3 : Int32) = 0) from by decide, show ¬ ((3 : Int32) = 1) from by decide, show ¬ ((3 : Int32) = 2) from by decide, show ¬ ((3 : Int32) = 4) from by decide, show ¬ ((3 : Int32) = 5) from by decide, show ¬ ((3 : Int32) = 6) from by decide, show ¬ ((4 : Int32) = 0) from by decide, show ¬ ((4 : Int32) = 1) from by decide, show ¬ ((4 : Int32) = 2) from by decide, show ¬ ((4 : Int32) = 3) from by decide, show ¬ ((4 : Int32) = 5) from by decide, show ¬ ((4 : Int32) = 6) from by decide, show ¬ ((5 : Int32) = 0) from by decide, show ¬ ((5 : Int32) = 1) from by decide, show ¬ ((5 : Int32) = 2) from by decide, show ¬ ((5 : Int32) = 3) from by decide, show ¬ ((5 : Int32) = 4) from by decide, show ¬ ((5 : Int32) = 6) from by decide, show ¬ ((6 : Int32) = 0) from by decide, show ¬ ((6 : Int32) = 1) from by decide, show ¬ ((6 : Int32) = 2) from by decide, show ¬ ((6 : Int32) = 3) from by decide, show ¬ ((6 : Int32) = 4) from by decide, show ¬ ((6 : Int32) = 5) from by decide, k_sumW r q hnb]
    exact k.same cw
  rw [if_neg c4] at k
  by_cases c5 : a = 5
  · rw [if_pos c5] at k
    simp only [i104_0, i104_52, i104_53, i104_56, i104_59, i104_60, i104_61, i104_64, i104_67, i104_68, i104_69, i104_72, i104_75, i104_76, i104_77, i104_80, i104_83, i104_84, i104_85, i104_88, i104_91, i104_92, i104_93, i104_96, i104_99, i104_100, i104_101, i104_104, i104_107, i104_108, i104_109, i104_112, i104_115, i104_116, i104_117, i104_120, i104_121, i104_122, i104_123, i104_126, i104_e, i104_1s, cof_gk o, cof_gv o, ob_co o, k_in, k_isSheet, k_isUse, k_isAhead, bi_eq0, decide_true, decide_false, and_self, if_true, if_false, reduceCtorEq, not_true_eq_false, not_false_eq_true, mx_t0, Option.toList_some, Option.toList_none, List.nil_append, List.cons_append, true_and, and_true, eq_self, true_or, or_true, bi_01, mx_nl_i, mx_nl_r, mx_nl_n, mx_nl_f, mx_nl_d, kof_gk r.o, kof_gv r.o, ob_co r.o, k_isSeller o r q7, k_isSort o r q12, c5, show ¬ ((0 : Int32) = 1) from by decide, show ¬ ((0 : Int32) = 2) from by decide, show ¬ ((0 : Int32) = 3) from by decide, show ¬ ((0 : Int32) = 4) from by decide, show ¬ ((0 : Int32) = 5) from by decide, show ¬ ((0 : Int32) = 6) from by decide, show ¬ ((1 : Int32) = 0) from by decide, show ¬ ((1 : Int32) = 2) from by decide, show ¬ ((1 : Int32) = 3) from by decide, show ¬ ((1 : Int32) = 4) from by decide, show ¬ ((1 : Int32) = 5) from by decide, show ¬ ((1 : Int32) = 6) from by decide, show ¬ ((2 : Int32) = 0) from by decide, show ¬ ((2 : Int32) = 1) from by decide, show ¬ ((2 : Int32) = 3) from by decide, show ¬ ((2 : Int32) = 4) from by decide, show ¬ ((2 : Int32) = 5) from by decide, show ¬ ((2 : Int32) = 6) from by decide, show ¬ ((3 : Int32) = 0) from by decide, show ¬ ((3 : Int32) = 1) from by decide, show ¬ ((3 : Int32) = 2) from by decide, show ¬ ((3 : Int32) = 4) from by decide, show ¬ ((3 : Int32) = 5) from by decide, show ¬ ((3 : Int32) = 6) from by decide, show ¬ ((4 : Int32) = 0) from by decide, show ¬ ((4 : Int32) = 1) from by decide, show ¬ ((4 : Int32) = 2) from by decide, show ¬ ((4 : Int32) = 3) from by decide, show ¬ ((4 : Int32) = 5) from by decide, show ¬ ((4 : Int32) = 6) from by decide, show ¬ ((5 : Int32) = 0) from by decide, show ¬ ((5 : Int32) = 1) from by decide, show ¬ ((5 : Int32) = 2) from by decide, show ¬ ((5 : Int32) = 3) from by decide, show ¬ ((5 : Int32) = 4) from by decide, show ¬ ((5 : Int32) = 6) from by decide, show ¬ ((6 : Int32) = 0) from by decide, show ¬ ((6 : Int32) = 1) from by decide, show ¬ ((6 : Int32) = 2) from by decide, show ¬ ((6 : Int32) = 3) from by decide, show ¬ ((6 : Int32) = 4) from by decide, show ¬ ((6 : Int32) = 5) from by decide, wof_gk w2, wof_gv w2]
    exact k.same cw
  rw [if_neg c5] at k
  by_cases c6 : a = 6
  · rw [if_pos c6] at k
    simp only [i104_0, i104_52, i104_53, i104_56, i104_59, i104_60, i104_61, i104_64, i104_67, i104_68, i104_69, i104_72, i104_75, i104_76, i104_77, i104_80, i104_83, i104_84, i104_85, i104_88, i104_91, i104_92, i104_93, i104_96, i104_99, i104_100, i104_101, i104_104, i104_107, i104_108, i104_109, i104_112, i104_115, i104_116, i104_117, i104_120, i104_121, i104_122, i104_123, i104_126, i104_e, i104_1s, cof_gk o, cof_gv o, ob_co o, k_in, k_isSheet, k_isUse, k_isAhead, bi_eq0, decide_true, decide_false, and_self, if_true, if_false, reduceCtorEq, not_true_eq_false, not_false_eq_true, mx_t0, Option.toList_some, Option.toList_none, List.nil_append, List.cons_append, true_and, and_true, eq_self, true_or, or_true, bi_01, mx_nl_i, mx_nl_r, mx_nl_n, mx_nl_f, mx_nl_d, kof_gk r.o, kof_gv r.o, ob_co r.o, k_isSeller o r q7, k_isSort o r q12, c6, show ¬ ((0 : Int32) = 1) from by decide, show ¬ ((0 : Int32) = 2) from by decide, show ¬ ((0 : Int32) = 3) from by decide, show ¬ ((0 : Int32) = 4) from by decide, show ¬ ((0 : Int32) = 5) from by decide, show ¬ ((0 : Int32) = 6) from by decide, show ¬ ((1 : Int32) = 0) from by decide, show ¬ ((1 : Int32) = 2) from by decide, show ¬ ((1 : Int32) = 3) from by decide, show ¬ ((1 : Int32) = 4) from by decide, show ¬ ((1 : Int32) = 5) from by decide, show ¬ ((1 : Int32) = 6) from by decide, show ¬ ((2 : Int32) = 0) from by decide, show ¬ ((2 : Int32) = 1) from by decide, show ¬ ((2 : Int32) = 3) from by decide, show ¬ ((2 : Int32) = 4) from by decide, show ¬ ((2 : Int32) = 5) from by decide, show ¬ ((2 : Int32) = 6) from by decide, show ¬ ((3 : Int32) = 0) from by decide, show ¬ ((3 : Int32) = 1) from by decide, show ¬ ((3 : Int32) = 2) from by decide, show ¬ ((3 : Int32) = 4) from by decide, show ¬ ((3 : Int32) = 5) from by decide, show ¬ ((3 : Int32) = 6) from by decide, show ¬ ((4 : Int32) = 0) from by decide, show ¬ ((4 : Int32) = 1) from by decide, show ¬ ((4 : Int32) = 2) from by decide, show ¬ ((4 : Int32) = 3) from by decide, show ¬ ((4 : Int32) = 5) from by decide, show ¬ ((4 : Int32) = 6) from by decide, show ¬ ((5 : Int32) = 0) from by decide, show ¬ ((5 : Int32) = 1) from by decide, show ¬ ((5 : Int32) = 2) from by decide, show ¬ ((5 : Int32) = 3) from by decide, show ¬ ((5 : Int32) = 4) from by decide, show ¬ ((5 : Int32) = 6) from by decide, show ¬ ((6 : Int32) = 0) from by decide, show ¬ ((6 : Int32) = 1) from by decide, show ¬ ((6 : Int32) = 2) from by decide, show ¬ ((6 : Int32) = 3) from by decide, show ¬ ((6 : Int32) = 4) from by decide, show ¬ ((6 : Int32) = 5) from by decide, wof_gk w3, wof_gv w3]
    exact k.same cw
  rw [if_neg c6] at k
  by_cases c7 : a = 7
  · rw [if_pos c7] at k
    simp only [i104_0, i104_52, i104_53, i104_56, i104_59, i104_60, i104_61, i104_64, i104_67, i104_68, i104_69, i104_72, i104_75, i104_76, i104_77, i104_80, i104_83, i104_84, i104_85, i104_88, i104_91, i104_92, i104_93, i104_96, i104_99, i104_100, i104_101, i104_104, i104_107, i104_108, i104_109, i104_112, i104_115, i104_116, i104_117, i104_120, i104_121, i104_122, i104_123, i104_126, i104_e, i104_1s, cof_gk o, cof_gv o, ob_co o, k_in, k_isSheet, k_isUse, k_isAhead, bi_eq0, decide_true, decide_false, and_self, if_true, if_false, reduceCtorEq, not_true_eq_false, not_false_eq_true, mx_t0, Option.toList_some, Option.toList_none, List.nil_append, List.cons_append, true_and, and_true, eq_self, true_or, or_true, bi_01, mx_nl_i, mx_nl_r, mx_nl_n, mx_nl_f, mx_nl_d, kof_gk r.o, kof_gv r.o, ob_co r.o, k_isSeller o r q7, k_isSort o r q12, c7, show ¬ ((7 : Int32) = 0) from by decide, show ¬ ((7 : Int32) = 1) from by decide, show ¬ ((7 : Int32) = 2) from by decide, show ¬ ((7 : Int32) = 3) from by decide, show ¬ ((7 : Int32) = 4) from by decide, show ¬ ((7 : Int32) = 5) from by decide, show ¬ ((7 : Int32) = 6) from by decide, wof_gk w5, wof_gv w5]
    exact k.same cw
  rw [if_neg c7] at k
  by_cases c8 : a = 8
  · rw [if_pos c8] at k
    simp only [i104_0, i104_52, i104_53, i104_56, i104_59, i104_60, i104_61, i104_64, i104_67, i104_68, i104_69, i104_72, i104_75, i104_76, i104_77, i104_80, i104_83, i104_84, i104_85, i104_88, i104_91, i104_92, i104_93, i104_96, i104_99, i104_100, i104_101, i104_104, i104_107, i104_108, i104_109, i104_112, i104_115, i104_116, i104_117, i104_120, i104_121, i104_122, i104_123, i104_126, i104_e, i104_1s, cof_gk o, cof_gv o, ob_co o, k_in, k_isSheet, k_isUse, k_isAhead, bi_eq0, decide_true, decide_false, and_self, if_true, if_false, reduceCtorEq, not_true_eq_false, not_false_eq_true, mx_t0, Option.toList_some, Option.toList_none, List.nil_append, List.cons_append, true_and, and_true, eq_self, true_or, or_true, bi_01, mx_nl_i, mx_nl_r, mx_nl_n, mx_nl_f, mx_nl_d, kof_gk r.o, kof_gv r.o, ob_co r.o, k_isSeller o r q7, k_isSort o r q12, c8, show ¬ ((8 : Int32) = 0) from by decide, show ¬ ((8 : Int32) = 1) from by decide, show ¬ ((8 : Int32) = 2) from by decide, show ¬ ((8 : Int32) = 3) from by decide, show ¬ ((8 : Int32) = 4) from by decide, show ¬ ((8 : Int32) = 5) from by decide, show ¬ ((8 : Int32) = 6) from by decide, show ¬ ((8 : Int32) = 7) from by decide, z3]
    exact k.same cw
  rw [if_neg c8] at k
  simp only [i104_0, i104_52, i104_53, i104_56, i104_59, i104_60, i104_61, i104_64, i104_67, i104_68, i104_69, i104_72, i104_75, i104_76, i104_77, i104_80, i104_83, i104_84, i104_85, i104_88, i104_91, i104_92, i104_93, i104_96, i104_99, i104_100, i104_101, i104_104, i104_107, i104_108, i104_109, i104_112, i104_115, i104_116, i104_117, i104_120, i104_121, i104_122, i104_123, i104_126, i104_e, i104_1s, cof_gk o, cof_gv o, ob_co o, k_in, k_isSheet, k_isUse, k_isAhead, bi_eq0, decide_true, decide_false, and_self, if_true, if_false, reduceCtorEq, not_true_eq_false, not_false_eq_true, mx_t0, Option.toList_some, Option.toList_none, List.nil_append, List.cons_append, true_and, and_true, eq_self, true_or, or_true, bi_01, mx_nl_i, mx_nl_r, mx_nl_n, mx_nl_f, mx_nl_d, kof_gk r.o, kof_gv r.o, ob_co r.o, k_isSeller o r q7, k_isSort o r q12, k_e1 o g36, k_e2 o g36, k_e3 o g36, k_e4 o g36, k_e5 o g36, c0, c1, c2, c3, c4, c5, c6, c7, c8]
  exact k.er cw (by decide) (by decide) g36
end KL
