/-! what the calls keep: the rest -/
def POK (p : PR) : Prop := OK p.2.1 p.2.2
section OKS
variable {v : Nat → Int32} {A : Nat → Nat → Int32}
theorem OK.er {k : Nat} (ok : OK v A) : POK (er_ v A k) := by
  show OK v (up2 A 3 _)
  obtain ⟨a, b, c, d, e, g⟩ := ok
  unfold OK
  rw [up2_n (by decide), up2_n (by decide), up2_n (by decide), up2_n (by decide), up2_n (by decide)]
  exact ⟨a, b, c, d, e, g⟩
theorem POK.k {x : Int32} (ok : OK v A) : POK (x, v, A) := ok
theorem POK.i {c : Prop} {p q : PR} [Decidable c] (h1 : c → POK p) (h2 : ¬ c → POK q) : POK (if c then p else q) := by
  by_cases h : c
  · rw [if_pos h]; exact h1 h
  · rw [if_neg h]; exact h2 h
theorem OK.r12 {f : Nat → Int32} (ok : OK v A) : OK v (up2 A 12 f) := by
  obtain ⟨a, b, c, d, e, g⟩ := ok
  unfold OK
  rw [up2_n (by decide), up2_n (by decide), up2_n (by decide), up2_n (by decide), up2_n (by decide)]
  exact ⟨a, b, c, d, e, g⟩
theorem o_ofSeller (ok : OK v A) {a b : Int32} : POK (sp_ofSeller v A a b) := by unfold sp_ofSeller; iterate 12 (all_goals (try with_reducible refine POK.i (fun _ => ?_) (fun _ => ?_))); all_goals (with_reducible first | exact ok.er | exact POK.k ok)
theorem o_as (ok : OK v A) {a b : Int32} : POK (sp_as v A a b) := by
  unfold sp_as
  refine POK.i (fun _ => ?_) (fun _ => ok.er)
  exact POK.i (fun _ => POK.k ok) (fun _ => ok.er)
theorem o_may (ok : OK v A) {a b : Int32} : POK (sp_may v A a b) := by unfold sp_may; iterate 12 (all_goals (try with_reducible refine POK.i (fun _ => ?_) (fun _ => ?_))); all_goals (with_reducible first | exact ok.er | exact POK.k ok)
theorem o_ofSort (ok : OK v A) {a b : Int32} : POK (sp_ofSort v A a b) := by
  unfold sp_ofSort
  by_cases h : (0 ≤ a ∧ a ≤ A 0 2 - 1) ∧ (0 ≤ b ∧ b ≤ 4)
  · rw [if_pos h]; exact ok
  · rw [if_neg h]; exact ok.er
theorem o_law (ok : OK v A) {u a b c f : Int32} : POK (sp_law v A u a b c f) := by unfold sp_law; iterate 12 (all_goals (try with_reducible refine POK.i (fun _ => ?_) (fun _ => ?_))); all_goals (with_reducible first | exact ok.er | exact POK.k ok)
theorem o_trace (ok : OK v A) {a : Int32} : POK (sp_trace v A a) := by unfold sp_trace; iterate 12 (all_goals (try with_reducible refine POK.i (fun _ => ?_) (fun _ => ?_))); all_goals (with_reducible first | exact ok.er | exact POK.k ok)
theorem o_told (ok : OK v A) {a : Int32} : POK (sp_told v A a) := by unfold sp_told; iterate 12 (all_goals (try with_reducible refine POK.i (fun _ => ?_) (fun _ => ?_))); all_goals (with_reducible first | exact ok.er | exact POK.k ok)
theorem o_first (ok : OK v A) {a : Int32} : POK (sp_first v A a) := by
  unfold sp_first
  refine POK.i (fun _ => ?_) (fun _ => ok.er)
  exact POK.i (fun _ => ok.er) (fun _ => POK.k ok)
theorem o_count (ok : OK v A) {a : Int32} : POK (sp_count v A a) := by
  unfold sp_count
  refine POK.i (fun _ => POK.k ok) (fun _ => ?_)
  refine POK.i (fun _ => POK.k ok) (fun _ => ?_)
  refine POK.i (fun _ => POK.k ok) (fun _ => ?_)
  refine POK.i (fun _ => POK.k ok) (fun _ => ?_)
  refine POK.i (fun _ => POK.k ok) (fun _ => ?_)
  refine POK.i (fun _ => POK.k ok) (fun _ => ?_)
  refine POK.i (fun _ => POK.k ok) (fun _ => ?_)
  refine POK.i (fun _ => POK.k ok) (fun _ => ?_)
  exact POK.i (fun _ => POK.k ok) (fun _ => ok.er)
theorem o_then (ok : OK v A) {n a b : Int32} : POK (sp_then v A n a b) := by unfold sp_then; iterate 12 (all_goals (try with_reducible refine POK.i (fun _ => ?_) (fun _ => ?_))); all_goals (with_reducible first | exact ok.er | exact POK.k ok)
theorem o_waits (ok : OK v A) {n a : Int32} : POK (sp_waits v A n a) := by unfold sp_waits; iterate 12 (all_goals (try with_reducible refine POK.i (fun _ => ?_) (fun _ => ?_))); all_goals (with_reducible first | exact ok.er | exact POK.k ok)
theorem o_earned (ok : OK v A) {n : Int32} : POK (sp_earned v A n) := by unfold sp_earned; iterate 12 (all_goals (try with_reducible refine POK.i (fun _ => ?_) (fun _ => ?_))); all_goals (with_reducible first | exact ok.er | exact POK.k ok)
theorem o_lost (ok : OK v A) {n : Int32} : POK (sp_lost v A n) := by unfold sp_lost; iterate 12 (all_goals (try with_reducible refine POK.i (fun _ => ?_) (fun _ => ?_))); all_goals (with_reducible first | exact ok.er | exact POK.k ok)
theorem o_right (ok : OK v A) {a n : Int32} : POK (sp_right v A a n) := by unfold sp_right; iterate 12 (all_goals (try with_reducible refine POK.i (fun _ => ?_) (fun _ => ?_))); all_goals (with_reducible first | exact ok.er | exact POK.k ok)
theorem o_tenth (ok : OK v A) {n u : Int32} : POK (sp_tenth v A n u) := by unfold sp_tenth; iterate 12 (all_goals (try with_reducible refine POK.i (fun _ => ?_) (fun _ => ?_))); all_goals (with_reducible first | exact ok.er | exact POK.k ok)
theorem o_begin (ok : OK v A) {a n : Int32} : POK (sp_begin v A a n) := by unfold sp_begin; iterate 12 (all_goals (try with_reducible refine POK.i (fun _ => ?_) (fun _ => ?_))); all_goals (with_reducible first | exact ok.er | exact POK.k ok)
theorem o_gains (ok : OK v A) {n : Int32} : POK (sp_gains v A n) := by
  unfold sp_gains
  refine POK.i (fun _ => ?_) (fun _ => ok.er)
  exact POK.i (fun _ => ok.er) (fun _ => POK.k ok)
theorem o_down (ok : OK v A) {a n k i : Int32} : POK (sp_down v A a n k i) := by
  unfold sp_down
  by_cases h : (0 ≤ a ∧ a ≤ A 0 1 - 1) ∧ (1 ≤ n ∧ n ≤ 9) ∧ (2 ≤ k ∧ k ≤ 3) ∧ ((-1) ≤ i ∧ i ≤ k - 1)
  · rw [if_pos h]; exact ok
  · rw [if_neg h]; exact ok.er
theorem o_put (ok : OK v A) {a b c : Int32} : POK (sp_put v A a b c) := by
  unfold sp_put
  refine POK.i (fun _ => ?_) (fun _ => ok.er)
  refine POK.i (fun _ => ok.er) (fun _ => ?_)
  exact POK.i (fun _ => POK.k ok.r12) (fun _ => ok.er)
theorem o_move (ok : OK v A) {a i b j n : Int32} : POK (sp_move v A a i b j n) := by
  unfold sp_move
  refine POK.i (fun _ => ?_) (fun _ => ok.er)
  refine POK.i (fun _ => ok.er) (fun _ => ?_)
  refine POK.i (fun _ => ?_) (fun _ => ok.er)
  exact POK.i (fun _ => ok.er) (fun _ => POK.k ok.r12)
theorem o_image (ok : OK v A) : POK (sp_image v A) := by
  obtain ⟨a, b, c, d, e, g⟩ := ok
  show OK (upd v 3 _) (up2 A 2 (A 0))
  unfold OK
  rw [up2_n (by decide), up2_n (by decide), up2_s, up2_n (by decide), up2_n (by decide), pk_un (show 18 ≠ 3 by decide)]
  exact ⟨a, b, a.2.2.2.1, fun _ => a, e, g⟩
theorem o_restore (ok : OK v A) : POK (sp_restore v A) := by
  unfold sp_restore
  split
  · exact ok.er
  · rename_i h; exact ok.d0 (ok.2.2.2.1 h)
theorem o_sheet (ok : OK v A) {a b c : Int32} : POK (sp_sheet v A a b c) := by
  unfold sp_sheet
  by_cases h : (0 ≤ a ∧ a ≤ 3) ∧ (b = 0 ∨ b = 8 ∨ b = 16 ∨ b = 32)
  case neg => rw [if_neg h]; exact ok.er
  rw [if_pos h]
  by_cases h2 : ¬ b = 0 ∧ c < 0
  · rw [if_pos h2]; exact ok.er
  rw [if_neg h2]
  by_cases h3 : ¬ b = 0 ∧ 40 < c
  · rw [if_pos h3]; exact ok.er
  rw [if_neg h3]
  show OK v (up2 (up2 (up2 A 10 _) 11 _) 12 _)
  refine OK.r12 ?_
  obtain ⟨p1, p2, p3, p4, p5, p6⟩ := ok
  unfold OK
  rw [up2_n (by decide), up2_n (by decide), up2_n (by decide), up2_n (by decide), up2_n (by decide), up2_n (by decide), up2_s, up2_n (by decide), up2_s]
  refine ⟨p1, p2, p3, p4, p5, fun s hs => ?_⟩
  by_cases e : s = a.toNatClampNeg
  · subst e
    rw [pk_us, pk_us]
    refine ⟨?_, h.2⟩
    by_cases b0 : b = 0
    · rw [if_pos b0]; exact ⟨0, by omega, rfl⟩
    · rw [if_neg b0]
      exact nI_rng (k := 40) (by decide) ⟨Int32.not_lt.mp (fun q => h2 ⟨b0, q⟩), Int32.not_lt.mp (fun q => h3 ⟨b0, q⟩)⟩
  · rw [pk_un e, pk_un e]; exact p6 s hs
theorem voT_len : ∀ k, k < 7 → ∀ b, b < 4 → (voT k b).length ≤ 40 := by decide
theorem o_voice (ok : OK v A) {a b x : Int32} : POK (sp_voice v A a b x) := by
  unfold sp_voice
  by_cases h : (0 ≤ a ∧ a ≤ A 0 1 - 1) ∧ (0 ≤ b ∧ b ≤ 3)
  case neg => rw [if_neg h]; exact ok.er
  rw [if_pos h]
  have md := MD.ab ok.1.1
  obtain ⟨s, hs, rfl⟩ := nI_sel (n := nsA A) (by have := md.1; omega) (by rw [← md.2.2.1]; exact h.1)
  obtain ⟨q, hq, rfl⟩ := nI_rng (k := 3) (by decide) h.2
  have d1 := (ok.1.di.1 s (by have := md.1; omega)).1
  obtain ⟨p1, p2, p3, p4, p5, p6⟩ := ok
  show OK (upd v 18 _) (up2 A 9 _)
  unfold OK
  rw [up2_n (by decide), up2_n (by decide), up2_n (by decide), up2_n (by decide), up2_n (by decide), pk_us, pk_un (show 3 ≠ 18 by decide)]
  refine ⟨p1, p2, p3, p4, ⟨_, ?_, rfl⟩, p6⟩
  have := md.1
  rw [nI_clamp (by omega), nI_clamp (by omega)]
  obtain ⟨kd, hkd, e⟩ := d1
  rw [e, nI_clamp (by omega)]
  exact voT_len kd (by omega) q (by omega)
theorem OK.sm {v' : Nat → Int32} {A' : Nat → Nat → Int32} (ok : OK v A) (e3 : v' 3 = v 3) (e18 : v' 18 = v 18) (s : SM A A') (z : Z_ (A' 1)) : OK v' A' := by
  obtain ⟨p1, p2, p3, p4, p5, p6⟩ := ok
  unfold OK
  rw [e3, e18, s 0 (by omega), s 2 (by omega), s 10 (by omega), s 11 (by omega)]
  exact ⟨p1, z, p3, p4, p5, p6⟩
theorem o_days (ok : OK v A) {n : Int32} : POK (sp_days v A n) := by
  have md := MD.ab ok.1.1
  unfold sp_days
  split
  case isFalse => exact ok.er
  split
  case isFalse => exact ok.er
  refine ok.d0 (ok.1.te (fun j hj => fw_at ok.1.1 (by omega) (by omega) (by omega)) (fw_at ok.1.1 (by omega) (by omega) (by omega)) (fw_at ok.1.1 (by omega) (by omega) (by omega)) ⟨_, _, fw_md ok md _⟩ (ok.1.di.gon md.1 md.2.1 _))
theorem o_year (ok : OK v A) {n : Int32} : POK (sp_year v A n) := by
  have md := MD.ab ok.1.1
  unfold sp_year
  split
  case isFalse => exact ok.er
  split
  case isFalse => exact ok.er
  refine ok.d0 (ok.1.te (yr_te md.1 md.2.1 _) (yr_at md.1 md.2.1 (by omega) (by omega) (by omega) (by omega) (by omega) _) (yr_at md.1 md.2.1 (by omega) (by omega) (by omega) (by omega) (by omega) _) ⟨_, _, md.yr _⟩ (ok.1.di.yr md.1 md.2.1 _))
theorem o_check (ok : OK v A) {n : Int32} : POK (sp_check v A n) := by
  have o2 : OK v (w0A A) := ok.d0 (MI.up10 (n := 0) ok.1 (by omega))
  unfold sp_check
  by_cases h : (0 ≤ n ∧ n ≤ 60)
  · rw [if_pos h]; exact o2
  · rw [if_neg h]; exact o2.er
theorem o_seed (ok : OK v A) {a : Int32} : POK (sp_seed v A a) := by
  refine ok.d0 (ok.1.te (TE.up (by omega)) (pk_un (by omega)) (pk_un (by omega)) ?_ (ok.1.di.up (by omega)))
  obtain ⟨ns, nb, md⟩ := ok.1.1
  exact ⟨ns, nb, md.up (by omega)⟩
theorem o_now (ok : OK v A) {a b : Int32} : POK (sp_now v A a b) := by
  unfold sp_now
  by_cases h : (0 ≤ a ∧ a ≤ 4) ∧ (0 ≤ b ∧ b ≤ (if a = 0 then 2 else if a = 4 then 999 else 40))
  case neg => rw [if_neg h]; exact ok.er
  rw [if_pos h]
  obtain ⟨⟨ns, nb, md⟩, -⟩ := ok.1
  obtain ⟨q, hq, rfl⟩ := nI_rng (k := 4) (by decide) h.1
  rw [nI_clamp (by omega)]
  refine ok.d0 (ok.1.te (TE.up (by omega)) (pk_un (by omega)) (pk_un (by omega)) ⟨ns, nb, ?_⟩ (ok.1.di.up (by omega)))
  by_cases e : q = 0
  · subst e
    have h2 := h.2
    rw [if_pos (show nI 0 = 0 from rfl)] at h2
    obtain ⟨r, hr, rfl⟩ := nI_rng (k := 2) (by decide) h2
    exact ⟨md.1, md.2.1, by rw [pk_un (by omega)]; exact md.2.2.1, by rw [pk_un (by omega)]; exact md.2.2.2.1, r, by omega, pk_us⟩
  · exact md.up (by omega)
theorem o_tell (ok : OK v A) {a : Int32} : POK (sp_tell v A a) := by
  unfold sp_tell
  by_cases h : A 0 10 = 20
  · rw [if_pos h]; exact ok.er
  rw [if_neg h]
  obtain ⟨n, hn, e⟩ := ok.1.2.2.2.2.2.1
  have hn2 : n < 20 := by
    have : ¬ n = 20 := fun e2 => h (by rw [e, e2]; rfl)
    omega
  rw [e, nI_clamp (by omega)]
  have z := ok.1.2.2.2.1
  refine ok.d0 (ok.1.sg ⟨fun j h1 h2 h3 h4 => by rw [pk_un h4, pk_un (by omega)], fun j h1 h2 => by rw [pk_un (by omega), pk_un (by omega)]⟩ ((z.up (by omega)).up (by omega)) ?_ ⟨n + 1, by omega, pk_us.trans (nI_add n 1)⟩ (fun j hj => ?_))
  · rw [pk_un (by omega), pk_un (by omega)]; exact ok.1.2.2.2.2.1
  · rw [pk_un (by omega), pk_un (by omega)]; exact ok.1.2.2.2.2.2.2.2.2 j hj
end OKS
