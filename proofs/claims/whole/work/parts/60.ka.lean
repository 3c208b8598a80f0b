/-! THE COMPONENT: its cells, reads and writes of them -/
def kof (b : Nat) (mi : Nat → Int32) : List Value := [.int (mi 0), .int (mi 1), .int (mi 2), .int (mi 3), .ref (b + 1), .ref (b + 2), .ref (b + 3), .int (mi 7), .ref (b + 4), .ref (b + 5), .ref (b + 6), .ref (b + 7), .int (mi 12), .ref (b + 8), .ref (b + 9), .ref (b + 10), .ref (b + 11)]
def cof (ci : Nat → Int32) : List Value := [.ref 1, .ref 13, .ref 15, .int (ci 3), .ref 17, .ref 29, .ref 31, .int (ci 7), .int (ci 8), .ref 33, .ref 35, .ref 36, .ref 37, .ref 49, .ref 50, .ref 51, .int (ci 16)]
def tof (t : Nat) (w : UInt32) (ti : Nat → Int32) : List Value := [.ref 13, .int (ti 1), .float w, .int (ti 3), .ref (t + 1), .ref (t + 2), .ref (t + 3), .ref (t + 4), .int (ti 8), .int (ti 9)]
def wof (b : Nat) (s : Int32) : List Value := [.ref b, .int s]
def hof (b : Nat) (y s : Int32) : List Value := [.ref b, .int y, .int s]
def sof (n k m c w : Int32) : List Value := [.int n, .int k, .int m, .int c, .int w]
section KO
variable {h : MXH} {a b : Nat}
theorem kof_gv {mi : Nat → Int32} (ho : h[b]? = some (.inr (3, kof b mi))) : gv_ h b 0 = .int (mi 0) ∧ gv_ h b 1 = .int (mi 1) ∧ gv_ h b 2 = .int (mi 2) ∧ gv_ h b 3 = .int (mi 3) ∧ gv_ h b 4 = .ref (b + 1) ∧ gv_ h b 5 = .ref (b + 2) ∧ gv_ h b 6 = .ref (b + 3) ∧ gv_ h b 7 = .int (mi 7) ∧ gv_ h b 8 = .ref (b + 4) ∧ gv_ h b 9 = .ref (b + 5) ∧ gv_ h b 10 = .ref (b + 6) ∧ gv_ h b 11 = .ref (b + 7) ∧ gv_ h b 12 = .int (mi 12) ∧ gv_ h b 13 = .ref (b + 8) ∧ gv_ h b 14 = .ref (b + 9) ∧ gv_ h b 15 = .ref (b + 10) ∧ gv_ h b 16 = .ref (b + 11) := by
  unfold gv_; rw [ho]; exact ⟨rfl, rfl, rfl, rfl, rfl, rfl, rfl, rfl, rfl, rfl, rfl, rfl, rfl, rfl, rfl, rfl, rfl⟩
theorem kof_gk {mi : Nat → Int32} (ho : h[b]? = some (.inr (3, kof b mi))) : gk_ h b 0 [(3, 0)] = true ∧ gk_ h b 1 [(3, 0)] = true ∧ gk_ h b 2 [(3, 0)] = true ∧ gk_ h b 3 [(3, 0)] = true ∧ gk_ h b 4 [(3, 0)] = true ∧ gk_ h b 5 [(3, 0)] = true ∧ gk_ h b 6 [(3, 0)] = true ∧ gk_ h b 7 [(3, 0)] = true ∧ gk_ h b 8 [(3, 0)] = true ∧ gk_ h b 9 [(3, 0)] = true ∧ gk_ h b 10 [(3, 0)] = true ∧ gk_ h b 11 [(3, 0)] = true ∧ gk_ h b 12 [(3, 0)] = true ∧ gk_ h b 13 [(3, 0)] = true ∧ gk_ h b 14 [(3, 0)] = true ∧ gk_ h b 15 [(3, 0)] = true ∧ gk_ h b 16 [(3, 0)] = true := by
  unfold gk_; rw [ho]; exact ⟨rfl, rfl, rfl, rfl, rfl, rfl, rfl, rfl, rfl, rfl, rfl, rfl, rfl, rfl, rfl, rfl, rfl⟩
theorem cof_gv {ci : Nat → Int32} (ho : h[0]? = some (.inr (11, cof ci))) : gv_ h 0 0 = .ref 1 ∧ gv_ h 0 1 = .ref 13 ∧ gv_ h 0 2 = .ref 15 ∧ gv_ h 0 3 = .int (ci 3) ∧ gv_ h 0 4 = .ref 17 ∧ gv_ h 0 5 = .ref 29 ∧ gv_ h 0 6 = .ref 31 ∧ gv_ h 0 7 = .int (ci 7) ∧ gv_ h 0 8 = .int (ci 8) ∧ gv_ h 0 9 = .ref 33 ∧ gv_ h 0 10 = .ref 35 ∧ gv_ h 0 11 = .ref 36 ∧ gv_ h 0 12 = .ref 37 ∧ gv_ h 0 13 = .ref 49 ∧ gv_ h 0 14 = .ref 50 ∧ gv_ h 0 15 = .ref 51 ∧ gv_ h 0 16 = .int (ci 16) := by
  unfold gv_; rw [ho]; exact ⟨rfl, rfl, rfl, rfl, rfl, rfl, rfl, rfl, rfl, rfl, rfl, rfl, rfl, rfl, rfl, rfl, rfl⟩
theorem cof_gk {ci : Nat → Int32} (ho : h[0]? = some (.inr (11, cof ci))) : gk_ h 0 0 [(11, 0)] = true ∧ gk_ h 0 1 [(11, 0)] = true ∧ gk_ h 0 2 [(11, 0)] = true ∧ gk_ h 0 3 [(11, 0)] = true ∧ gk_ h 0 4 [(11, 0)] = true ∧ gk_ h 0 5 [(11, 0)] = true ∧ gk_ h 0 6 [(11, 0)] = true ∧ gk_ h 0 7 [(11, 0)] = true ∧ gk_ h 0 8 [(11, 0)] = true ∧ gk_ h 0 9 [(11, 0)] = true ∧ gk_ h 0 10 [(11, 0)] = true ∧ gk_ h 0 11 [(11, 0)] = true ∧ gk_ h 0 12 [(11, 0)] = true ∧ gk_ h 0 13 [(11, 0)] = true ∧ gk_ h 0 14 [(11, 0)] = true ∧ gk_ h 0 15 [(11, 0)] = true ∧ gk_ h 0 16 [(11, 0)] = true := by
  unfold gk_; rw [ho]; exact ⟨rfl, rfl, rfl, rfl, rfl, rfl, rfl, rfl, rfl, rfl, rfl, rfl, rfl, rfl, rfl, rfl, rfl⟩
theorem tof_gv {w : UInt32} {ti : Nat → Int32} (ho : h[a]? = some (.inr (10, tof a w ti))) : gv_ h a 0 = .ref 13 ∧ gv_ h a 1 = .int (ti 1) ∧ gv_ h a 2 = .float w ∧ gv_ h a 3 = .int (ti 3) ∧ gv_ h a 4 = .ref (a + 1) ∧ gv_ h a 5 = .ref (a + 2) ∧ gv_ h a 6 = .ref (a + 3) ∧ gv_ h a 7 = .ref (a + 4) ∧ gv_ h a 8 = .int (ti 8) ∧ gv_ h a 9 = .int (ti 9) := by
  unfold gv_; rw [ho]; exact ⟨rfl, rfl, rfl, rfl, rfl, rfl, rfl, rfl, rfl, rfl⟩
theorem tof_gk {w : UInt32} {ti : Nat → Int32} (ho : h[a]? = some (.inr (10, tof a w ti))) : gk_ h a 0 [(10, 0)] = true ∧ gk_ h a 1 [(10, 0)] = true ∧ gk_ h a 2 [(10, 0)] = true ∧ gk_ h a 3 [(10, 0)] = true ∧ gk_ h a 4 [(10, 0)] = true ∧ gk_ h a 5 [(10, 0)] = true ∧ gk_ h a 6 [(10, 0)] = true ∧ gk_ h a 7 [(10, 0)] = true ∧ gk_ h a 8 [(10, 0)] = true ∧ gk_ h a 9 [(10, 0)] = true := by
  unfold gk_; rw [ho]; exact ⟨rfl, rfl, rfl, rfl, rfl, rfl, rfl, rfl, rfl, rfl⟩
theorem wof_gv {s : Int32} (ho : h[a]? = some (.inr (5, wof b s))) : gv_ h a 0 = .ref b ∧ gv_ h a 1 = .int s := by
  unfold gv_; rw [ho]; exact ⟨rfl, rfl⟩
theorem wof_gk {s : Int32} (ho : h[a]? = some (.inr (5, wof b s))) : gk_ h a 0 [(5, 0)] = true ∧ gk_ h a 1 [(5, 0)] = true := by
  unfold gk_; rw [ho]; exact ⟨rfl, rfl⟩
theorem hof_gv {y s : Int32} (ho : h[a]? = some (.inr (7, hof b y s))) : gv_ h a 0 = .ref b ∧ gv_ h a 1 = .int y ∧ gv_ h a 2 = .int s := by
  unfold gv_; rw [ho]; exact ⟨rfl, rfl, rfl⟩
theorem hof_gk {y s : Int32} (ho : h[a]? = some (.inr (7, hof b y s))) : gk_ h a 0 [(7, 0)] = true ∧ gk_ h a 1 [(7, 0)] = true ∧ gk_ h a 2 [(7, 0)] = true := by
  unfold gk_; rw [ho]; exact ⟨rfl, rfl, rfl⟩
theorem sof0_gv {n k m c w : Int32} (ho : h[a]? = some (.inr (0, sof n k m c w))) : gv_ h a 0 = .int n ∧ gv_ h a 1 = .int k ∧ gv_ h a 2 = .int m ∧ gv_ h a 3 = .int c ∧ gv_ h a 4 = .int w := by
  unfold gv_; rw [ho]; exact ⟨rfl, rfl, rfl, rfl, rfl⟩
theorem sof0_gk {n k m c w : Int32} (ho : h[a]? = some (.inr (0, sof n k m c w))) : gk_ h a 0 [(0, 0), (1, 0), (2, 0), (4, 0), (6, 0), (8, 0), (9, 0)] = true ∧ gk_ h a 1 [(0, 0), (1, 0), (2, 0), (4, 0), (6, 0), (8, 0), (9, 0)] = true ∧ gk_ h a 2 [(0, 0), (1, 0), (2, 0), (4, 0), (6, 0), (8, 0), (9, 0)] = true ∧ gk_ h a 2 [(0, 280), (4, 280)] = true ∧ gk_ h a 3 [(0, 0), (1, 0), (2, 0), (4, 0), (6, 0), (8, 0), (9, 0)] = true ∧ gk_ h a 4 [(0, 0), (1, 0), (2, 0), (4, 0), (6, 0), (8, 0), (9, 0)] = true := by
  unfold gk_; rw [ho]; exact ⟨rfl, rfl, rfl, rfl, rfl, rfl⟩
theorem sof1_gv {n k m c w : Int32} (ho : h[a]? = some (.inr (1, sof n k m c w))) : gv_ h a 0 = .int n ∧ gv_ h a 1 = .int k ∧ gv_ h a 2 = .int m ∧ gv_ h a 3 = .int c ∧ gv_ h a 4 = .int w := by
  unfold gv_; rw [ho]; exact ⟨rfl, rfl, rfl, rfl, rfl⟩
theorem sof1_gk {n k m c w : Int32} (ho : h[a]? = some (.inr (1, sof n k m c w))) : gk_ h a 0 [(0, 0), (1, 0), (2, 0), (4, 0), (6, 0), (8, 0), (9, 0)] = true ∧ gk_ h a 1 [(0, 0), (1, 0), (2, 0), (4, 0), (6, 0), (8, 0), (9, 0)] = true ∧ gk_ h a 2 [(0, 0), (1, 0), (2, 0), (4, 0), (6, 0), (8, 0), (9, 0)] = true ∧ gk_ h a 2 [(1, 282), (9, 282)] = true ∧ gk_ h a 3 [(0, 0), (1, 0), (2, 0), (4, 0), (6, 0), (8, 0), (9, 0)] = true ∧ gk_ h a 4 [(0, 0), (1, 0), (2, 0), (4, 0), (6, 0), (8, 0), (9, 0)] = true := by
  unfold gk_; rw [ho]; exact ⟨rfl, rfl, rfl, rfl, rfl, rfl⟩
theorem sof2_gv {n k m c w : Int32} (ho : h[a]? = some (.inr (2, sof n k m c w))) : gv_ h a 0 = .int n ∧ gv_ h a 1 = .int k ∧ gv_ h a 2 = .int m ∧ gv_ h a 3 = .int c ∧ gv_ h a 4 = .int w := by
  unfold gv_; rw [ho]; exact ⟨rfl, rfl, rfl, rfl, rfl⟩
theorem sof2_gk {n k m c w : Int32} (ho : h[a]? = some (.inr (2, sof n k m c w))) : gk_ h a 0 [(0, 0), (1, 0), (2, 0), (4, 0), (6, 0), (8, 0), (9, 0)] = true ∧ gk_ h a 1 [(0, 0), (1, 0), (2, 0), (4, 0), (6, 0), (8, 0), (9, 0)] = true ∧ gk_ h a 2 [(0, 0), (1, 0), (2, 0), (4, 0), (6, 0), (8, 0), (9, 0)] = true ∧ gk_ h a 2 [(2, 278), (8, 278)] = true ∧ gk_ h a 2 [(2, 284)] = true ∧ gk_ h a 3 [(0, 0), (1, 0), (2, 0), (4, 0), (6, 0), (8, 0), (9, 0)] = true ∧ gk_ h a 4 [(0, 0), (1, 0), (2, 0), (4, 0), (6, 0), (8, 0), (9, 0)] = true := by
  unfold gk_; rw [ho]; exact ⟨rfl, rfl, rfl, rfl, rfl, rfl, rfl⟩
theorem sof4_gv {n k m c w : Int32} (ho : h[a]? = some (.inr (4, sof n k m c w))) : gv_ h a 0 = .int n ∧ gv_ h a 1 = .int k ∧ gv_ h a 2 = .int m ∧ gv_ h a 3 = .int c ∧ gv_ h a 4 = .int w := by
  unfold gv_; rw [ho]; exact ⟨rfl, rfl, rfl, rfl, rfl⟩
theorem sof4_gk {n k m c w : Int32} (ho : h[a]? = some (.inr (4, sof n k m c w))) : gk_ h a 0 [(0, 0), (1, 0), (2, 0), (4, 0), (6, 0), (8, 0), (9, 0)] = true ∧ gk_ h a 1 [(0, 0), (1, 0), (2, 0), (4, 0), (6, 0), (8, 0), (9, 0)] = true ∧ gk_ h a 2 [(0, 0), (1, 0), (2, 0), (4, 0), (6, 0), (8, 0), (9, 0)] = true ∧ gk_ h a 2 [(0, 280), (4, 280)] = true ∧ gk_ h a 2 [(4, 286)] = true ∧ gk_ h a 3 [(0, 0), (1, 0), (2, 0), (4, 0), (6, 0), (8, 0), (9, 0)] = true ∧ gk_ h a 3 [(4, 293)] = true ∧ gk_ h a 4 [(0, 0), (1, 0), (2, 0), (4, 0), (6, 0), (8, 0), (9, 0)] = true := by
  unfold gk_; rw [ho]; exact ⟨rfl, rfl, rfl, rfl, rfl, rfl, rfl, rfl⟩
theorem sof6_gv {n k m c w : Int32} (ho : h[a]? = some (.inr (6, sof n k m c w))) : gv_ h a 0 = .int n ∧ gv_ h a 1 = .int k ∧ gv_ h a 2 = .int m ∧ gv_ h a 3 = .int c ∧ gv_ h a 4 = .int w := by
  unfold gv_; rw [ho]; exact ⟨rfl, rfl, rfl, rfl, rfl⟩
theorem sof6_gk {n k m c w : Int32} (ho : h[a]? = some (.inr (6, sof n k m c w))) : gk_ h a 0 [(0, 0), (1, 0), (2, 0), (4, 0), (6, 0), (8, 0), (9, 0)] = true ∧ gk_ h a 1 [(0, 0), (1, 0), (2, 0), (4, 0), (6, 0), (8, 0), (9, 0)] = true ∧ gk_ h a 2 [(0, 0), (1, 0), (2, 0), (4, 0), (6, 0), (8, 0), (9, 0)] = true ∧ gk_ h a 3 [(0, 0), (1, 0), (2, 0), (4, 0), (6, 0), (8, 0), (9, 0)] = true ∧ gk_ h a 4 [(0, 0), (1, 0), (2, 0), (4, 0), (6, 0), (8, 0), (9, 0)] = true := by
  unfold gk_; rw [ho]; exact ⟨rfl, rfl, rfl, rfl, rfl⟩
theorem sof8_gv {n k m c w : Int32} (ho : h[a]? = some (.inr (8, sof n k m c w))) : gv_ h a 0 = .int n ∧ gv_ h a 1 = .int k ∧ gv_ h a 2 = .int m ∧ gv_ h a 3 = .int c ∧ gv_ h a 4 = .int w := by
  unfold gv_; rw [ho]; exact ⟨rfl, rfl, rfl, rfl, rfl⟩
theorem sof8_gk {n k m c w : Int32} (ho : h[a]? = some (.inr (8, sof n k m c w))) : gk_ h a 0 [(0, 0), (1, 0), (2, 0), (4, 0), (6, 0), (8, 0), (9, 0)] = true ∧ gk_ h a 1 [(0, 0), (1, 0), (2, 0), (4, 0), (6, 0), (8, 0), (9, 0)] = true ∧ gk_ h a 2 [(0, 0), (1, 0), (2, 0), (4, 0), (6, 0), (8, 0), (9, 0)] = true ∧ gk_ h a 2 [(2, 278), (8, 278)] = true ∧ gk_ h a 3 [(0, 0), (1, 0), (2, 0), (4, 0), (6, 0), (8, 0), (9, 0)] = true ∧ gk_ h a 4 [(0, 0), (1, 0), (2, 0), (4, 0), (6, 0), (8, 0), (9, 0)] = true := by
  unfold gk_; rw [ho]; exact ⟨rfl, rfl, rfl, rfl, rfl, rfl⟩
theorem sof9_gv {n k m c w : Int32} (ho : h[a]? = some (.inr (9, sof n k m c w))) : gv_ h a 0 = .int n ∧ gv_ h a 1 = .int k ∧ gv_ h a 2 = .int m ∧ gv_ h a 3 = .int c ∧ gv_ h a 4 = .int w := by
  unfold gv_; rw [ho]; exact ⟨rfl, rfl, rfl, rfl, rfl⟩
theorem sof9_gk {n k m c w : Int32} (ho : h[a]? = some (.inr (9, sof n k m c w))) : gk_ h a 0 [(0, 0), (1, 0), (2, 0), (4, 0), (6, 0), (8, 0), (9, 0)] = true ∧ gk_ h a 0 [(9, 273)] = true ∧ gk_ h a 1 [(0, 0), (1, 0), (2, 0), (4, 0), (6, 0), (8, 0), (9, 0)] = true ∧ gk_ h a 2 [(0, 0), (1, 0), (2, 0), (4, 0), (6, 0), (8, 0), (9, 0)] = true ∧ gk_ h a 2 [(1, 282), (9, 282)] = true ∧ gk_ h a 3 [(0, 0), (1, 0), (2, 0), (4, 0), (6, 0), (8, 0), (9, 0)] = true ∧ gk_ h a 3 [(9, 291)] = true ∧ gk_ h a 4 [(0, 0), (1, 0), (2, 0), (4, 0), (6, 0), (8, 0), (9, 0)] = true := by
  unfold gk_; rw [ho]; exact ⟨rfl, rfl, rfl, rfl, rfl, rfl, rfl, rfl⟩
theorem kof_pk0 {k : Nat} {mi : Nat → Int32} {x : Int32}  (ho : h[b]? = some (.inr (3, kof b mi))) : pk_ k h b 0 (.int x) [(3, 0)] = true := by
  unfold pk_; rw [ho]; simp only [ft3_0]; rfl
theorem kof_pf0 {mi : Nat → Int32} {x : Int32} (ho : h[b]? = some (.inr (3, kof b mi))) : pf_ h b 0 (.int x) = h.set b (.inr (3, kof b (upd mi 0 x))) := by
  unfold pf_; rw [ho]; rfl
theorem kof_pk1 {k : Nat} {mi : Nat → Int32} {x : Int32}  (ho : h[b]? = some (.inr (3, kof b mi))) : pk_ k h b 1 (.int x) [(3, 0)] = true := by
  unfold pk_; rw [ho]; simp only [ft3_1]; rfl
theorem kof_pf1 {mi : Nat → Int32} {x : Int32} (ho : h[b]? = some (.inr (3, kof b mi))) : pf_ h b 1 (.int x) = h.set b (.inr (3, kof b (upd mi 1 x))) := by
  unfold pf_; rw [ho]; rfl
theorem kof_pk2 {k : Nat} {mi : Nat → Int32} {x : Int32}  (ho : h[b]? = some (.inr (3, kof b mi))) : pk_ k h b 2 (.int x) [(3, 0)] = true := by
  unfold pk_; rw [ho]; simp only [ft3_2]; rfl
theorem kof_pf2 {mi : Nat → Int32} {x : Int32} (ho : h[b]? = some (.inr (3, kof b mi))) : pf_ h b 2 (.int x) = h.set b (.inr (3, kof b (upd mi 2 x))) := by
  unfold pf_; rw [ho]; rfl
theorem kof_pk7 {k : Nat} {mi : Nat → Int32} {x : Int32}  (ho : h[b]? = some (.inr (3, kof b mi))) : pk_ k h b 7 (.int x) [(3, 0)] = true := by
  unfold pk_; rw [ho]; simp only [ft3_7]; rfl
theorem kof_pf7 {mi : Nat → Int32} {x : Int32} (ho : h[b]? = some (.inr (3, kof b mi))) : pf_ h b 7 (.int x) = h.set b (.inr (3, kof b (upd mi 7 x))) := by
  unfold pf_; rw [ho]; rfl
theorem kof_pk12 {k : Nat} {mi : Nat → Int32} {x : Int32}  (ho : h[b]? = some (.inr (3, kof b mi))) : pk_ k h b 12 (.int x) [(3, 0)] = true := by
  unfold pk_; rw [ho]; simp only [ft3_12]; rfl
theorem kof_pf12 {mi : Nat → Int32} {x : Int32} (ho : h[b]? = some (.inr (3, kof b mi))) : pf_ h b 12 (.int x) = h.set b (.inr (3, kof b (upd mi 12 x))) := by
  unfold pf_; rw [ho]; rfl
theorem kof_pk3 {k : Nat} {mi : Nat → Int32}  {q : Bool} (ho : h[b]? = some (.inr (3, kof b mi))) : pk_ k h b 3 (.int (bi_ q)) [(3, 0)] = true := by
  unfold pk_; rw [ho]; simp only [ft3_3]; cases q <;> rfl
theorem kof_pf3 {mi : Nat → Int32} {x : Int32} (ho : h[b]? = some (.inr (3, kof b mi))) : pf_ h b 3 (.int x) = h.set b (.inr (3, kof b (upd mi 3 x))) := by
  unfold pf_; rw [ho]; rfl
theorem cof_pk3 {k : Nat} {ci : Nat → Int32} {x : Int32}  (ho : h[0]? = some (.inr (11, cof ci))) : pk_ k h 0 3 (.int x) [(11, 0)] = true := by
  unfold pk_; rw [ho]; simp only [ft11_3]; rfl
theorem cof_pf3 {ci : Nat → Int32} {x : Int32} (ho : h[0]? = some (.inr (11, cof ci))) : pf_ h 0 3 (.int x) = h.set 0 (.inr (11, cof (upd ci 3 x))) := by
  unfold pf_; rw [ho]; rfl
theorem cof_pk7 {k : Nat} {ci : Nat → Int32} {x : Int32}  (ho : h[0]? = some (.inr (11, cof ci))) : pk_ k h 0 7 (.int x) [(11, 0)] = true := by
  unfold pk_; rw [ho]; simp only [ft11_7]; rfl
theorem cof_pf7 {ci : Nat → Int32} {x : Int32} (ho : h[0]? = some (.inr (11, cof ci))) : pf_ h 0 7 (.int x) = h.set 0 (.inr (11, cof (upd ci 7 x))) := by
  unfold pf_; rw [ho]; rfl
theorem cof_pk8 {k : Nat} {ci : Nat → Int32} {x : Int32}  (ho : h[0]? = some (.inr (11, cof ci))) : pk_ k h 0 8 (.int x) [(11, 0)] = true := by
  unfold pk_; rw [ho]; simp only [ft11_8]; rfl
theorem cof_pf8 {ci : Nat → Int32} {x : Int32} (ho : h[0]? = some (.inr (11, cof ci))) : pf_ h 0 8 (.int x) = h.set 0 (.inr (11, cof (upd ci 8 x))) := by
  unfold pf_; rw [ho]; rfl
theorem cof_pk16 {k : Nat} {ci : Nat → Int32} {x : Int32}  (ho : h[0]? = some (.inr (11, cof ci))) : pk_ k h 0 16 (.int x) [(11, 0)] = true := by
  unfold pk_; rw [ho]; simp only [ft11_16]; rfl
theorem cof_pf16 {ci : Nat → Int32} {x : Int32} (ho : h[0]? = some (.inr (11, cof ci))) : pf_ h 0 16 (.int x) = h.set 0 (.inr (11, cof (upd ci 16 x))) := by
  unfold pf_; rw [ho]; rfl
theorem tof_pk3 {k : Nat} {w : UInt32} {ti : Nat → Int32} {x : Int32}  (ho : h[a]? = some (.inr (10, tof a w ti))) : pk_ k h a 3 (.int x) [(10, 0)] = true := by
  unfold pk_; rw [ho]; simp only [ft10_3]; rfl
theorem tof_pf3 {w : UInt32} {ti : Nat → Int32} {x : Int32} (ho : h[a]? = some (.inr (10, tof a w ti))) : pf_ h a 3 (.int x) = h.set a (.inr (10, tof a w (upd ti 3 x))) := by
  unfold pf_; rw [ho]; rfl
theorem tof_pk8 {k : Nat} {w : UInt32} {ti : Nat → Int32} {x : Int32}  (ho : h[a]? = some (.inr (10, tof a w ti))) : pk_ k h a 8 (.int x) [(10, 0)] = true := by
  unfold pk_; rw [ho]; simp only [ft10_8]; rfl
theorem tof_pf8 {w : UInt32} {ti : Nat → Int32} {x : Int32} (ho : h[a]? = some (.inr (10, tof a w ti))) : pf_ h a 8 (.int x) = h.set a (.inr (10, tof a w (upd ti 8 x))) := by
  unfold pf_; rw [ho]; rfl
theorem tof_pk9 {k : Nat} {w : UInt32} {ti : Nat → Int32} {x : Int32}  (ho : h[a]? = some (.inr (10, tof a w ti))) : pk_ k h a 9 (.int x) [(10, 0)] = true := by
  unfold pk_; rw [ho]; simp only [ft10_9]; rfl
theorem tof_pf9 {w : UInt32} {ti : Nat → Int32} {x : Int32} (ho : h[a]? = some (.inr (10, tof a w ti))) : pf_ h a 9 (.int x) = h.set a (.inr (10, tof a w (upd ti 9 x))) := by
  unfold pf_; rw [ho]; rfl
theorem wof_pk1 {k : Nat} {s : Int32} {x : Int32}  (ho : h[a]? = some (.inr (5, wof b s))) : pk_ k h a 1 (.int x) [(5, 0)] = true := by
  unfold pk_; rw [ho]; simp only [ft5_1]; rfl
theorem wof_pf1 {s : Int32} {x : Int32} (ho : h[a]? = some (.inr (5, wof b s))) : pf_ h a 1 (.int x) = h.set a (.inr (5, wof b x)) := by
  unfold pf_; rw [ho]; rfl
theorem hof_pk1 {k : Nat} {y s : Int32} {x : Int32}  (ho : h[a]? = some (.inr (7, hof b y s))) : pk_ k h a 1 (.int x) [(7, 0)] = true := by
  unfold pk_; rw [ho]; simp only [ft7_1]; rfl
theorem hof_pf1 {y s : Int32} {x : Int32} (ho : h[a]? = some (.inr (7, hof b y s))) : pf_ h a 1 (.int x) = h.set a (.inr (7, hof b x s)) := by
  unfold pf_; rw [ho]; rfl
theorem hof_pk2 {k : Nat} {y s : Int32} {x : Int32}  (ho : h[a]? = some (.inr (7, hof b y s))) : pk_ k h a 2 (.int x) [(7, 0)] = true := by
  unfold pk_; rw [ho]; simp only [ft7_2]; rfl
theorem hof_pf2 {y s : Int32} {x : Int32} (ho : h[a]? = some (.inr (7, hof b y s))) : pf_ h a 2 (.int x) = h.set a (.inr (7, hof b y x)) := by
  unfold pf_; rw [ho]; rfl
end KO
section KR
variable {h : MXH} {a v : Nat} {i : Int32} {kd n : Nat} {f : Nat → Option Nat}
theorem rr_ra (ha : h[a]? = some (.inl (kd, n, mx_rfs f))) : ra_ h a i = f i.toNatClampNeg := by unfold ra_; rw [ha]
theorem rr_rk (ha : h[a]? = some (.inl (kd, n, mx_rfs f))) : rk_ h a i = (mx_in i n && (mx_cmp kd).isSome) := by unfold rk_; rw [ha]
theorem rr_rs {o : Option Nat} (ha : h[a]? = some (.inl (kd, n, mx_rfs f))) : rs_ h a i o = h.set a (.inl (kd, n, mx_rfs (va_up f i.toNatClampNeg o))) := by unfold rs_; rw [ha]
theorem rr_rx {ci cc : Nat} {fs : List Value} (ha : h[a]? = some (.inl (kd, n, mx_rfs f))) (hv : h[v]? = some (.inr (ci, fs))) (hc : mx_cmp kd = some cc) : rx_ h a i v = (mx_in i n && mx_sub ci cc) := by unfold rx_; rw [ha]; simp only [hv, hc]
end KR
theorem va_us {α : Type} {f : Nat → α} {k : Nat} {x : α} : va_up f k x k = x := if_pos rfl
theorem va_un {α : Type} {f : Nat → α} {k j : Nat} {x : α} (h : j ≠ k) : va_up f k x j = f j := if_neg h
def kln (j : Nat) : Nat := if j = 1 then 3 else if j < 8 then 6 else 8
/-- a market's cells -/
def KM (h : MXH) (b : Nat) (mi : Nat → Int32) (mr : Nat → Nat → Int32) (mt ms : Nat → Option Nat) : Prop :=
  h[b]? = some (.inr (3, kof b mi)) ∧ (∀ j, j < 12 → j ≠ 0 → j ≠ 2 → j ≠ 3 → h[b + j]? = some (.inl (0, kln j, .inl (mr j)))) ∧ h[b + 2]? = some (.inl (2, 2, mx_rfs mt)) ∧ h[b + 3]? = some (.inl (3, 6, mx_rfs ms))
section KM
variable {h h' : MXH} {b : Nat} {mi mi' : Nat → Int32} {mr : Nat → Nat → Int32} {mt ms : Nat → Option Nat} {f : Nat → Int32} {g : Nat → Option Nat}
theorem KM.o (r : KM h b mi mr mt ms) : h[b]? = some (.inr (3, kof b mi)) := r.1
theorem KM.gT (r : KM h b mi mr mt ms) : h[b + 2]? = some (.inl (2, 2, mx_rfs mt)) := r.2.2.1
theorem KM.gS (r : KM h b mi mr mt ms) : h[b + 3]? = some (.inl (3, 6, mx_rfs ms)) := r.2.2.2
theorem KM.g1 (r : KM h b mi mr mt ms) : h[b + 1]? = some (.inl (0, 3, .inl (mr 1))) := r.2.1 1 (by decide) (by decide) (by decide) (by decide)
theorem KM.g4 (r : KM h b mi mr mt ms) : h[b + 4]? = some (.inl (0, 6, .inl (mr 4))) := r.2.1 4 (by decide) (by decide) (by decide) (by decide)
theorem KM.g5 (r : KM h b mi mr mt ms) : h[b + 5]? = some (.inl (0, 6, .inl (mr 5))) := r.2.1 5 (by decide) (by decide) (by decide) (by decide)
theorem KM.g6 (r : KM h b mi mr mt ms) : h[b + 6]? = some (.inl (0, 6, .inl (mr 6))) := r.2.1 6 (by decide) (by decide) (by decide) (by decide)
theorem KM.g7 (r : KM h b mi mr mt ms) : h[b + 7]? = some (.inl (0, 6, .inl (mr 7))) := r.2.1 7 (by decide) (by decide) (by decide) (by decide)
theorem KM.g8 (r : KM h b mi mr mt ms) : h[b + 8]? = some (.inl (0, 8, .inl (mr 8))) := r.2.1 8 (by decide) (by decide) (by decide) (by decide)
theorem KM.g9 (r : KM h b mi mr mt ms) : h[b + 9]? = some (.inl (0, 8, .inl (mr 9))) := r.2.1 9 (by decide) (by decide) (by decide) (by decide)
theorem KM.g10 (r : KM h b mi mr mt ms) : h[b + 10]? = some (.inl (0, 8, .inl (mr 10))) := r.2.1 10 (by decide) (by decide) (by decide) (by decide)
theorem KM.g11 (r : KM h b mi mr mt ms) : h[b + 11]? = some (.inl (0, 8, .inl (mr 11))) := r.2.1 11 (by decide) (by decide) (by decide) (by decide)
theorem KM.sv (r : KM h b mi mr mt ms) : KM (h.set b (.inr (3, kof b mi'))) b mi' mr mt ms :=
  ⟨mx_gss (by rw [r.1]; rfl), fun j h1 h2 h3 h4 => by rw [List.getElem?_set_ne (by omega)]; exact r.2.1 j h1 h2 h3 h4, by rw [List.getElem?_set_ne (by omega)]; exact r.gT, by rw [List.getElem?_set_ne (by omega)]; exact r.gS⟩
theorem KM.sj (r : KM h b mi mr mt ms) (j : Nat) (h1 : j < 12) (h2 : j ≠ 0) (h3 : j ≠ 2) (h4 : j ≠ 3) : KM (h.set (b + j) (.inl (0, kln j, .inl f))) b mi (up2 mr j f) mt ms := by
  refine ⟨by rw [List.getElem?_set_ne (by omega)]; exact r.o, fun i i1 i2 i3 i4 => ?_, by rw [List.getElem?_set_ne (by omega)]; exact r.gT, by rw [List.getElem?_set_ne (by omega)]; exact r.gS⟩
  by_cases e : i = j
  · subst e
    rw [mx_gss (by rw [r.2.1 i i1 i2 i3 i4]; rfl), up2_s]
  · rw [List.getElem?_set_ne (by omega), r.2.1 i i1 i2 i3 i4, up2_n e]
theorem KM.s1 (r : KM h b mi mr mt ms) : KM (h.set (b + 1) (.inl (0, 3, .inl f))) b mi (up2 mr 1 f) mt ms := r.sj 1 (by decide) (by decide) (by decide) (by decide)
theorem KM.s4 (r : KM h b mi mr mt ms) : KM (h.set (b + 4) (.inl (0, 6, .inl f))) b mi (up2 mr 4 f) mt ms := r.sj 4 (by decide) (by decide) (by decide) (by decide)
theorem KM.s5 (r : KM h b mi mr mt ms) : KM (h.set (b + 5) (.inl (0, 6, .inl f))) b mi (up2 mr 5 f) mt ms := r.sj 5 (by decide) (by decide) (by decide) (by decide)
theorem KM.s6 (r : KM h b mi mr mt ms) : KM (h.set (b + 6) (.inl (0, 6, .inl f))) b mi (up2 mr 6 f) mt ms := r.sj 6 (by decide) (by decide) (by decide) (by decide)
theorem KM.s7 (r : KM h b mi mr mt ms) : KM (h.set (b + 7) (.inl (0, 6, .inl f))) b mi (up2 mr 7 f) mt ms := r.sj 7 (by decide) (by decide) (by decide) (by decide)
theorem KM.s8 (r : KM h b mi mr mt ms) : KM (h.set (b + 8) (.inl (0, 8, .inl f))) b mi (up2 mr 8 f) mt ms := r.sj 8 (by decide) (by decide) (by decide) (by decide)
theorem KM.s9 (r : KM h b mi mr mt ms) : KM (h.set (b + 9) (.inl (0, 8, .inl f))) b mi (up2 mr 9 f) mt ms := r.sj 9 (by decide) (by decide) (by decide) (by decide)
theorem KM.s10 (r : KM h b mi mr mt ms) : KM (h.set (b + 10) (.inl (0, 8, .inl f))) b mi (up2 mr 10 f) mt ms := r.sj 10 (by decide) (by decide) (by decide) (by decide)
theorem KM.s11 (r : KM h b mi mr mt ms) : KM (h.set (b + 11) (.inl (0, 8, .inl f))) b mi (up2 mr 11 f) mt ms := r.sj 11 (by decide) (by decide) (by decide) (by decide)
theorem KM.sT (r : KM h b mi mr mt ms) : KM (h.set (b + 2) (.inl (2, 2, mx_rfs g))) b mi mr g ms :=
  ⟨by rw [List.getElem?_set_ne (by omega)]; exact r.o, fun j h1 h2 h3 h4 => by rw [List.getElem?_set_ne (by omega)]; exact r.2.1 j h1 h2 h3 h4, mx_gss (by rw [r.gT]; rfl), by rw [List.getElem?_set_ne (by omega)]; exact r.gS⟩
theorem KM.sS (r : KM h b mi mr mt ms) : KM (h.set (b + 3) (.inl (3, 6, mx_rfs g))) b mi mr mt g :=
  ⟨by rw [List.getElem?_set_ne (by omega)]; exact r.o, fun j h1 h2 h3 h4 => by rw [List.getElem?_set_ne (by omega)]; exact r.2.1 j h1 h2 h3 h4, by rw [List.getElem?_set_ne (by omega)]; exact r.gT, mx_gss (by rw [r.gS]; rfl)⟩
theorem KM.cg (r : KM h b mi mr mt ms) (e : ∀ j, b ≤ j → j < b + 12 → h'[j]? = h[j]?) : KM h' b mi mr mt ms :=
  ⟨by rw [e b (by omega) (by omega)]; exact r.o, fun j h1 h2 h3 h4 => by rw [e _ (by omega) (by omega)]; exact r.2.1 j h1 h2 h3 h4, by rw [e _ (by omega) (by omega)]; exact r.gT, by rw [e _ (by omega) (by omega)]; exact r.gS⟩
end KM
/-! texts read: their steps worked out -/
def cop (sg x y o : Int32) : Int32 := if sg = 33 then bi_ (decide (x = 0)) else if sg = 37 ∨ sg = 38 ∨ sg = 42 ∨ sg = 43 ∨ sg = 45 ∨ sg = 47 ∨ sg = 60 ∨ sg = 61 ∨ sg = 62 ∨ sg = 124 then dn_ sg x y else o
/-- rows of a text: signs, lefts, nexts, numbers; how long they are, how many steps, the last one -/
abbrev KT : Type := (Nat → Int32) × (Nat → Int32) × (Nat → Int32) × (Nat → Int32) × Nat × Nat × Nat
def es_ (P : KT) (nm : Nat → Int32) : Nat → Nat → Int32
  | 0 => fun j => if j < 4 then nm j else P.2.2.2.1 j
  | k + 1 => if k < 4 then es_ P nm k else upd (es_ P nm k) k (cop (P.1 k) (es_ P nm k (P.2.1 k).toNatClampNeg) (es_ P nm k (P.2.2.1 k).toNatClampNeg) (es_ P nm k k))
def evP (P : KT) (a b c f : Int32) : Int32 := es_ P (nm4 a b c f) P.2.2.2.2.2.1 P.2.2.2.2.2.2
def opk (sg : Int32) : Prop := sg = 0 ∨ sg = 33 ∨ sg = 37 ∨ sg = 38 ∨ sg = 42 ∨ sg = 43 ∨ sg = 45 ∨ sg = 47 ∨ sg = 60 ∨ sg = 61 ∨ sg = 62 ∨ sg = 124
def wfP (P : KT) : Prop := 4 ≤ P.2.2.2.2.2.1 ∧ P.2.2.2.2.2.1 ≤ P.2.2.2.2.1 ∧ P.2.2.2.2.1 ≤ 54 ∧ P.2.2.2.2.2.2 < P.2.2.2.2.2.1 ∧ ∀ i, 4 ≤ i → i < P.2.2.2.2.2.1 → opk (P.1 i) ∧ (∃ l, l < i ∧ P.2.1 i = nI l) ∧ (∃ n, n < i ∧ P.2.2.1 i = nI n)
def TXT (h : MXH) (t : Nat) (P : KT) : Prop := 111 ≤ t ∧ wfP P ∧ (∃ w ti, h[t]? = some (.inr (10, tof t w ti)) ∧ ti 8 = nI P.2.2.2.2.2.1 ∧ ti 9 = nI P.2.2.2.2.2.2) ∧ h[t + 1]? = some (.inl (0, P.2.2.2.2.1, .inl P.1)) ∧ h[t + 2]? = some (.inl (0, P.2.2.2.2.1, .inl P.2.1)) ∧ h[t + 3]? = some (.inl (0, P.2.2.2.2.1, .inl P.2.2.1)) ∧ ∃ vl, h[t + 4]? = some (.inl (0, P.2.2.2.2.1, .inl vl)) ∧ ∀ i, 4 ≤ i → i < P.2.2.2.2.2.1 → P.1 i = 0 → vl i = P.2.2.2.1 i
def gdf (u : Nat) (a b _c f : Int32) : Int32 := if a ≤ (if u = 0 then b + f else b) then 1 else 0
def TX (h : MXH) (o : Option Nat) (u : Nat) (g : Int32 → Int32 → Int32 → Int32 → Int32) : Prop := (o = none ∧ g = gdf u) ∨ ∃ t P, o = some t ∧ TXT h t P ∧ g = evP P
/-! sellers -/
def scl (k : Nat) : Nat := if k = 0 then 6 else if k = 1 then 0 else if k = 2 then 8 else if k = 3 then 2 else if k = 4 then 1 else if k = 5 then 9 else 4
def SEL (h : MXH) (a i : Nat) (m : Nat → Int32) : Prop := 111 ≤ a ∧ ∃ k, k ≤ 6 ∧ m (20 + 8 * i + 0) = nI k ∧ h[a]? = some (.inr (scl k, sof (nI i) (nI k) (m (20 + 8 * i + 1)) (m (20 + 8 * i + 2)) (m (20 + 8 * i + 3))))
/-- what stays: sellers, texts -/
def EV (h h' : MXH) : Prop := (∀ a k n x y z w, k ≤ 6 → 111 ≤ a → h[a]? = some (.inr (scl k, sof n x y z w)) → h'[a]? = h[a]?) ∧ (∀ t P, TXT h t P → TXT h' t P)
def FX (lo hi : Nat) (h h' : MXH) : Prop := h'.length = h.length ∧ (∀ j, j < 111 → ¬ (lo ≤ j ∧ j < hi) → h'[j]? = h[j]?) ∧ EV h h'
theorem EV.rf (h : MXH) : EV h h := ⟨fun _ _ _ _ _ _ _ _ _ _ => rfl, fun _ _ h => h⟩
theorem EV.tr {h1 h2 h3 : MXH} (a : EV h1 h2) (b : EV h2 h3) : EV h1 h3 := ⟨fun q k n x y z w h4 h5 h6 => by
  have e := a.1 q k n x y z w h4 h5 h6
  rw [b.1 q k n x y z w h4 h5 (by rw [e]; exact h6), e], fun t P h => b.2 t P (a.2 t P h)⟩
theorem EV.lo {h h' : MXH} (e : ∀ j, 111 ≤ j → j < h.length → h'[j]? = h[j]?) : EV h h' := by
  refine ⟨fun a k n x y z w _ h2 h3 => e a h2 (List.getElem?_eq_some_iff.mp h3).1, fun t P ht => ?_⟩
  obtain ⟨h1, h2, ⟨w, ti, h3, h4⟩, h5, h6, h7, vl, h8, h9⟩ := ht
  have q : ∀ {j x}, 111 ≤ j → h[j]? = some x → h'[j]? = some x := fun {j x} h1 h2 => by rw [e j h1 (List.getElem?_eq_some_iff.mp h2).1]; exact h2
  exact ⟨h1, h2, ⟨w, ti, q h1 h3, h4⟩, q (by omega) h5, q (by omega) h6, q (by omega) h7, vl, q (by omega) h8, h9⟩
theorem FX.rf {lo hi : Nat} (h : MXH) : FX lo hi h h := ⟨rfl, fun _ _ _ => rfl, EV.rf h⟩
theorem FX.tr {lo hi : Nat} {h1 h2 h3 : MXH} (a : FX lo hi h1 h2) (b : FX lo hi h2 h3) : FX lo hi h1 h3 := ⟨b.1.trans a.1, fun j hj hn => (b.2.1 j hj hn).trans (a.2.1 j hj hn), a.2.2.tr b.2.2⟩
theorem FX.wd {lo hi lo' hi' : Nat} {h h' : MXH} (a : FX lo hi h h') (e : hi ≤ lo ∨ (lo' ≤ lo ∧ hi ≤ hi')) : FX lo' hi' h h' := ⟨a.1, fun j hj hn => a.2.1 j hj (by omega), a.2.2⟩
theorem FX.set {lo hi : Nat} {h : MXH} {a : Nat} {x : va_E} (h1 : lo ≤ a) (h2 : a < hi) (h3 : hi ≤ 111) : FX lo hi h (h.set a x) := ⟨List.length_set, fun j _ hn => List.getElem?_set_ne (by omega), EV.lo (fun j hj _ => List.getElem?_set_ne (by omega))⟩
theorem SEL.ev {h h' : MXH} {a i : Nat} {m : Nat → Int32} (s : SEL h a i m) (e : EV h h') : SEL h' a i m := by
  obtain ⟨h1, k, h2, h3, h4⟩ := s
  exact ⟨h1, k, h2, h3, by rw [e.1 _ _ _ _ _ _ _ h2 h1 h4]; exact h4⟩
theorem TX.ev {h h' : MXH} {o : Option Nat} {u : Nat} {g : Int32 → Int32 → Int32 → Int32 → Int32} (s : TX h o u g) (e : EV h h') : TX h' o u g := by
  rcases s with s | ⟨t, P, h1, h2, h3⟩
  · exact Or.inl s
  · exact Or.inr ⟨t, P, h1, e.2 t P h2, h3⟩
/-- a market's numbers are those of a row of the reference -/
def MR (m mi : Nat → Int32) (mr : Nat → Nat → Int32) (ns nb : Nat) : Prop :=
  (mi 0 = m 0 ∧ mi 1 = m 3 ∧ mi 2 = m 7 ∧ mi 3 = bi_ (decide (¬ m 11 = 1)) ∧ mi 7 = nI ns ∧ mi 12 = nI nb) ∧ (∀ j, j < 3 → mr 1 j = m (4 + j)) ∧ (∀ s, s < ns → mr 4 s = m (20 + 8 * s + 4) ∧ mr 5 s = m (20 + 8 * s + 5) ∧ mr 6 s = m (20 + 8 * s + 6)) ∧ (∀ b, b < nb → mr 8 b = m (70 + 4 * b + 0) ∧ mr 9 b = m (70 + 4 * b + 1) ∧ mr 10 b = m (70 + 4 * b + 2) ∧ mr 11 b = m (70 + 4 * b + 3))
def MX (h : MXH) (m : Nat → Int32) (G : MXGf) (mt ms : Nat → Option Nat) (ns : Nat) : Prop := (∀ s, s < ns → ∃ a, ms s = some a ∧ SEL h a s m) ∧ (∀ u, u < 2 → TX h (mt u) u (G u))
def MK (h : MXH) (b : Nat) (m : Nat → Int32) (G : MXGf) (ns nb : Nat) : Prop := ∃ mi mr mt ms, KM h b mi mr mt ms ∧ MR m mi mr ns nb ∧ MX h m G mt ms ns
theorem MX.ev {h h' : MXH} {m : Nat → Int32} {G : MXGf} {mt ms : Nat → Option Nat} {ns : Nat} (x : MX h m G mt ms ns) (e : EV h h') : MX h' m G mt ms ns :=
  ⟨fun s hs => by
    obtain ⟨a, h1, h2⟩ := x.1 s hs
    exact ⟨a, h1, h2.ev e⟩, fun u hu => (x.2 u hu).ev e⟩
theorem KM.fx {lo hi : Nat} {h h' : MXH} {b : Nat} {mi : Nat → Int32} {mr : Nat → Nat → Int32} {mt ms : Nat → Option Nat} (r : KM h b mi mr mt ms) (f : FX lo hi h h') (hb : b ≤ 84) (e : hi ≤ lo ∨ hi ≤ b ∨ b + 12 ≤ lo) : KM h' b mi mr mt ms := r.cg (fun j h1 h2 => f.2.1 j (by omega) (by omega))
theorem MK.fx {lo hi : Nat} {h h' : MXH} {b : Nat} {m : Nat → Int32} {G : MXGf} {ns nb : Nat} (r : MK h b m G ns nb) (f : FX lo hi h h') (hb : b ≤ 84) (e : hi ≤ lo ∨ hi ≤ b ∨ b + 12 ≤ lo) : MK h' b m G ns nb := by
  obtain ⟨mi, mr, mt, ms, h1, h2, h3⟩ := r
  exact ⟨mi, mr, mt, ms, h1.fx f hb e, h2, h3.ev f.2.2⟩
