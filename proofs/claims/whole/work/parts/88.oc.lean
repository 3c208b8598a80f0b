/-! what the calls keep: sellers, sorts, feed, text -/
section OKT
variable {v : Nat → Int32} {A : Nat → Nat → Int32}
theorem sel_n {m : Nat → Int32} {s j : Nat} {a b c : Int32} (h : ¬ (20 + 8 * s ≤ j ∧ j < 20 + 8 * s + 7)) (h1 : j ≠ 1) : sel_ m s a b c j = m j := by
  unfold sel_
  rw [pk_un h1, pk_un (by omega), pk_un (by omega), pk_un (by omega), pk_un (by omega), pk_un (by omega), pk_un (by omega), pk_un (by omega)]
theorem o_seller (ok : OK v A) {a b c : Int32} : POK (sp_seller v A a b c) := by
  unfold sp_seller
  refine POK.i (fun h => ?_) (fun _ => ok.er)
  refine POK.i (fun _ => ok.er) (fun h6 => ?_)
  have md := MD.ab ok.1.1
  have hlt : nsA A < 6 := by
    have : ¬ nsA A = 6 := fun e => h6 (by rw [md.2.2.1, e]; rfl)
    have := md.1
    omega
  obtain ⟨x, hx, rfl⟩ := nI_rng (k := 9999) (by decide) h.2.2
  have ec : (A 0 1).toNatClampNeg = nsA A := rfl
  rw [ec]
  have di := ok.1.di
  refine ok.d0 (ok.1.te (fun j hj => sel_n (by omega) (by omega)) (sel_n (by omega) (by omega)) (sel_n (by omega) (by omega)) ⟨nsA A + 1, nbA A, by omega, md.2.1, ?_, (sel_n (by omega) (by omega)).trans md.2.2.2.1, by rw [sel_n (by omega) (by omega)]; exact md.2.2.2.2⟩ ⟨fun s hs => ?_, fun s hs => ?_⟩)
  · unfold sel_
    rw [pk_us, md.2.2.1]
    exact nI_add _ 1
  · by_cases e : s = nsA A
    · subst e
      refine ⟨?_, ?_, ?_, Or.inl ?_⟩
      · unfold sel_
        rw [pk_un (by omega), pk_un (by omega), pk_un (by omega), pk_un (by omega), pk_un (by omega), pk_un (by omega), pk_un (by omega), pk_us]
        exact nI_rng (k := 6) (by decide) h.1
      · unfold sel_
        rw [pk_un (by omega), pk_un (by omega), pk_un (by omega), pk_un (by omega), pk_us]
        have := pk_rem (a := x) (d := 10) (by omega) (by decide) (by decide)
        exact ⟨x % 10, by omega, this⟩
      · unfold sel_
        rw [pk_un (by omega), pk_un (by omega), pk_un (by omega), pk_us]
        exact ⟨0, by omega, rfl⟩
      · unfold sel_
        rw [pk_un (by omega), pk_us]
    · rw [sel_n (by omega) (by omega), sel_n (by omega) (by omega), sel_n (by omega) (by omega), sel_n (by omega) (by omega)]
      exact di.1 s hs
  · rw [sel_n (by omega) (by omega), sel_n (by omega) (by omega)]
    exact di.2 s hs
theorem o_set (ok : OK v A) {a b c : Int32} : POK (sp_set v A a b c) := by
  unfold sp_set
  refine POK.i (fun h => ?_) (fun _ => ok.er)
  have md := MD.ab ok.1.1
  have h6 := md.1
  obtain ⟨s, hs, rfl⟩ := nI_sel (n := nsA A) (by omega) (by rw [← md.2.2.1]; exact h.1)
  rw [nI_clamp (by omega)]
  have di := ok.1.di
  have key : ∀ i : Nat, i < 3 → (i = 0 → NI c 99) → (i = 2 → c = -1 ∨ 0 ≤ c) → MI (upd (A 0) (20 + 8 * s + 4 + i) c) := by
    intro i hi k0 k2
    refine ok.1.te (TE.up (by omega)) (pk_un (by omega)) (pk_un (by omega)) ⟨_, _, md.up (by omega)⟩ ⟨fun s' hs' => ?_, fun s' hs' => ?_⟩
    · obtain ⟨d1, d2, d3, d4⟩ := di.1 s' hs'
      refine ⟨by rw [pk_un (by omega)]; exact d1, by rw [pk_un (by omega)]; exact d2, ?_, ?_⟩
      · by_cases e : s' = s ∧ i = 0
        · obtain ⟨rfl, rfl⟩ := e
          rw [pk_us]; exact k0 rfl
        · rw [pk_un (by omega)]; exact d3
      · by_cases e : s' = s ∧ i = 2
        · obtain ⟨rfl, rfl⟩ := e
          rw [pk_us]; exact k2 rfl
        · rw [pk_un (by omega)]; exact d4
    · rw [pk_un (by omega), pk_un (by omega)]; exact di.2 s' hs'
  rcases h.2 with ⟨rfl, h2⟩ | ⟨rfl, h2⟩ | ⟨rfl, h2⟩
  · exact ok.d0 (key 0 (by omega) (fun _ => nI_rng (k := 99) (by decide) h2) (fun e => by omega))
  · exact ok.d0 (key 1 (by omega) (fun e => by omega) (fun e => by omega))
  · refine ok.d0 (key 2 (by omega) (fun e => by omega) (fun _ => ?_))
    by_cases e : c < 0
    · left
      have a1 : (-1 : Int32).toInt ≤ c.toInt := Int32.le_iff_toInt_le.mp h2.1
      have a2 : c.toInt < (0 : Int32).toInt := Int32.lt_iff_toInt_lt.mp e
      apply Int32.toInt.inj
      rw [show (-1 : Int32).toInt = -1 from rfl] at *
      rw [show (0 : Int32).toInt = 0 from rfl] at a2
      omega
    · exact Or.inr (Int32.not_lt.mp e)
theorem com_n {m : Nat → Int32} {s j : Nat} {a b c : Int32} (h : ¬ (70 + 4 * s ≤ j ∧ j < 70 + 4 * s + 4)) (h1 : j ≠ 2) : com_ m s a b c j = m j := by
  unfold com_
  rw [pk_un h1, pk_un (by omega), pk_un (by omega), pk_un (by omega), pk_un (by omega)]
theorem MI.com {m : Nat → Int32} {a b c : Int32} (h : MI m) (ha : 0 ≤ a ∧ a ≤ 9) (h8 : ¬ m 2 = 8) : MI (com_ m (m 2).toNatClampNeg a b c) := by
  obtain ⟨ns, nb, md⟩ := h.1
  have hlt : nb < 8 := by
    have : ¬ nb = 8 := fun e => h8 (by rw [md.2.2.2.1, e]; rfl)
    have := md.2.1
    omega
  have ec : (m 2).toNatClampNeg = nb := by rw [md.2.2.2.1, nI_clamp (by omega)]
  rw [ec]
  have di := h.di
  refine h.te (fun j hj => com_n (by omega) (by omega)) (com_n (by omega) (by omega)) (com_n (by omega) (by omega)) ⟨ns, nb + 1, md.1, by omega, (com_n (by omega) (by omega)).trans md.2.2.1, ?_, by rw [com_n (by omega) (by omega)]; exact md.2.2.2.2⟩ ⟨fun s hs => ?_, fun s hs => ?_⟩
  · unfold com_
    rw [pk_us, md.2.2.2.1]
    exact nI_add _ 1
  · rw [com_n (by omega) (by omega), com_n (by omega) (by omega), com_n (by omega) (by omega), com_n (by omega) (by omega)]
    exact di.1 s hs
  · by_cases e : s = nb
    · subst e
      refine ⟨?_, ?_⟩
      · unfold com_
        rw [pk_un (by omega), pk_un (by omega), pk_un (by omega), pk_un (by omega), pk_us]
        exact nI_rng (k := 9) (by decide) ha
      · unfold com_
        rw [pk_un (by omega), pk_us]
        exact ⟨0, by omega, rfl⟩
    · rw [com_n (by omega) (by omega), com_n (by omega) (by omega)]
      exact di.2 s hs
theorem o_sort (ok : OK v A) {a b c : Int32} : POK (sp_sort v A a b c) := by
  unfold sp_sort
  refine POK.i (fun h => ?_) (fun _ => ok.er)
  refine POK.i (fun _ => ok.er) (fun h6 => ?_)
  exact ok.d0 (ok.1.com h.1 h6)
theorem MI.sol {nu : Nat → Int32} {at0 : Nat} {sz : Int32} : ∀ (n : Nat) (m : Nat → Int32) (c : Nat), MI m → MI (sol_ nu at0 sz n m c).1
  | 0, m, c, h => h
  | n + 1, m, c, h => by
    unfold sol_
    split
    · rename_i hc
      exact MI.sol n _ _ (h.com hc.2.2.1 (fun e => by rw [e] at hc; exact absurd hc.2.1 (by decide)))
    · exact h
theorem o_sorts (ok : OK v A) {a : Int32} : POK (sp_sorts v A a) := by
  unfold sp_sorts
  refine POK.i (fun h => ?_) (fun _ => ok.er)
  refine POK.i (fun _ => ok.er) (fun h6 => ?_)
  exact ok.d0 (MI.sol _ _ _ ok.1)
theorem byt_ni (w : Int64) (k : Nat) : NI (byt w k) 255 := by
  unfold byt
  generalize w >>> ((8 * nI k : Int32).toInt64 &&& 63) = y
  refine ⟨(y.toBitVec &&& 255#64).toNat, ?_, ?_⟩
  · rw [BitVec.toNat_and]
    exact Nat.and_le_right
  · apply Int32.toBitVec.inj
    apply BitVec.eq_of_toNat_eq
    rw [Int64.toBitVec_toInt32, BitVec.signExtend_eq_setWidth_of_le _ (by decide), BitVec.toNat_setWidth]
    show _ = (BitVec.ofNat 32 _).toNat
    rw [BitVec.toNat_ofNat]
    rfl
theorem fd_tp {w : Int64} {m : Nat → Int32} {tp : Nat} (h : ∀ j, j < 50 → NI (m (226 + j)) 255) : ∀ k, ∀ j, j < 50 → NI (fd_ w m tp k (226 + j)) 255
  | 0, j, hj => h j hj
  | k + 1, j, hj => by
    unfold fd_
    rw [pk_un (by omega)]
    by_cases e : 226 + j = 226 + (tp + k)
    · rw [e, pk_us]; exact byt_ni w k
    · rw [pk_un e]; exact fd_tp h k j hj
theorem fd_z {w : Int64} {m : Nat → Int32} {tp : Nat} (h : Z_ m) : ∀ k, tp + k ≤ 50 → Z_ (fd_ w m tp k)
  | 0, _ => h
  | k + 1, hk => by
    unfold fd_
    exact ((fd_z h k (by omega)).up (by omega)).up (by omega)
theorem o_feed (ok : OK v A) {w : Int64} {n : Int32} : POK (sp_feed v A w n) := by
  unfold sp_feed
  refine POK.i (fun h => ?_) (fun _ => ok.er)
  refine POK.i (fun h6 => ?_) (fun _ => ok.er)
  obtain ⟨q, hq, rfl⟩ := nI_rng (k := 8) (by decide) ⟨Int32.le_trans (by decide) h.1, h.2⟩
  obtain ⟨tp, htp, e9⟩ := ok.1.2.2.2.2.1
  have h50 : tp + q ≤ 50 := by
    rw [e9, nI_add] at h6
    exact (nI_leI (b := 50) (by omega) (by decide)).mp h6
  rw [e9, nI_clamp (by omega), nI_clamp (by omega)]
  have sg := fd_sg (w := w) (m := A 0) (tp := tp) q
  refine ok.d0 (ok.1.sg sg.1 (fd_z ok.1.2.2.2.1 q h50) ⟨tp + q, h50, fd_9 e9 q⟩ ?_ (fd_tp ok.1.2.2.2.2.2.2.2.2 q))
  rw [sg.2 10 (by omega) (by omega)]
  exact ok.1.2.2.2.2.2.1
theorem MI.up9 {m : Nat → Int32} (h : MI m) : MI (upd m 9 0) := by
  refine h.sg ⟨fun j h1 h2 h3 h4 => pk_un h3, fun j h1 h2 => pk_un (by omega)⟩ (h.2.2.2.1.up (by omega)) ⟨0, by omega, pk_us⟩ ?_ (fun j hj => ?_)
  · rw [pk_un (by omega)]; exact h.2.2.2.2.2.1
  · rw [pk_un (by omega)]; exact h.2.2.2.2.2.2.2.2 j hj
theorem o_text (ok : OK v A) {u : Int32} : POK (sp_text v A u) := by
  unfold sp_text
  refine POK.i (fun h => ?_) (fun _ => ok.er)
  obtain ⟨q, hq, rfl⟩ := nI_rng (k := 1) (by decide) h
  obtain ⟨tp, htp, e9⟩ := ok.1.2.2.2.2.1
  rw [e9, nI_clamp (by omega), nI_clamp (by omega)]
  cases er : rdx A tp q with
  | none => exact ok.er
  | some p =>
    obtain ⟨b, a', c', n'⟩ := p
    show POK (if b = true ∧ a' = tp then _ else _)
    refine POK.i (fun hb => ?_) (fun _ => ?_)
    · obtain ⟨rfl, rfl⟩ := hb
      have i1 := rd_in _ _ _ _ _ _ _ _ _ _ er (by omega) (by omega)
      have s1 := (rd_wks (T := TT_ A) (N := a') (fun j hj => by
        obtain ⟨x, hx, ex⟩ := ok.1.2.2.2.2.2.2.2.2 j (by omega)
        exact ⟨x, by omega, ex⟩) 611).1 _ _ _ _ _ _ _ _ er (by omega) (by omega)
      exact ok.d0 (ok.1.tx (by omega) (by omega) s1)
    · exact ok.d0 ok.1.up9
end OKT
