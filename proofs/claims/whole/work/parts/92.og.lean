/-! the law: one call -/
def LW (h : MXH) (v : Nat → Int32) (A : Nat → Nat → Int32) : Prop := RW h v A ∧ OK v A ∧ CW h v A ∧ 111 ≤ h.length
theorem CW.fr {h h' : MXH} {v v' : Nat → Int32} {A A' : Nat → Nat → Int32} (c : CW h v A) (f : FR h h') (e3 : v' 3 = v 3) (e18 : v' 18 = v 18) (s : SM A A') : CW h' v' A' := by
  have ev : EV h h' := EV.lo (fun j hj _ => f.2 j (Or.inr hj))
  have e : ∀ j, j < 96 → h'[j]? = h[j]? := fun j hj => f.2 j (Or.inl hj)
  unfold CW
  rw [e3, e18, s 0 (by omega), s 2 (by omega), s 3 (by omega), s 9 (by omega), s 10 (by omega), s 11 (by omega), s 12 (by omega)]
  have km : ∀ b mi mr mt ms, b ≤ 84 → KM h b mi mr mt ms → KM h' b mi mr mt ms := fun b mi mr mt ms hb r => r.cg (fun j h1 h2 => e j (by omega))
  have MSf : ∀ b, b ≤ 84 → MS h b → MS h' b := fun b hb r => by
    obtain ⟨mi, mr, mt, ms, r⟩ := r
    exact ⟨mi, mr, mt, ms, km b _ _ _ _ hb r⟩
  have MKf : ∀ b m G ns nb, b ≤ 84 → MK h b m G ns nb → MK h' b m G ns nb := fun b m G ns nb hb r => by
    obtain ⟨mi, mr, mt, ms, r, q, mx⟩ := r
    exact ⟨mi, mr, mt, ms, km b _ _ _ _ hb r, q, mx.ev ev⟩
  have ROf : ∀ a n sz f, a ≤ 84 → RO h a n sz f → RO h' a n sz f := fun a n sz f ha r => by
    obtain ⟨h1, g, h2, h3⟩ := r
    exact ⟨by rw [e a (by omega)]; exact h1, g, by rw [e _ (by omega)]; exact h2, h3⟩
  have RSf : ∀ a n, a ≤ 84 → RS h a n → RS h' a n := fun a n ha r => by
    obtain ⟨sz, g, h1, h2⟩ := r
    exact ⟨sz, g, by rw [e a (by omega)]; exact h1, by rw [e _ (by omega)]; exact h2⟩
  obtain ⟨⟨ci, o, z⟩, c1, c2, c3, ⟨s17, r29, r31, c4⟩, c5, ⟨⟨sf, g35, e35⟩, c6⟩, ⟨ef, g36, e36⟩, ⟨s37, ⟨cf, g49, e49⟩, ⟨f50, g50⟩, ⟨f51, g51⟩, s60⟩⟩ := c
  refine ⟨⟨ci, by rw [e 0 (by omega)]; exact o, z⟩, MKf _ _ _ _ _ (by omega) c1, ROf _ _ _ _ (by omega) c2, ROf _ _ _ _ (by omega) c3, ⟨MSf _ (by omega) s17, RSf _ _ (by omega) r29, RSf _ _ (by omega) r31, fun q => ?_⟩, ROf _ _ _ _ (by omega) c5, ⟨⟨sf, by rw [e 35 (by omega)]; exact g35, e35⟩, fun i hi => ?_⟩, ⟨ef, by rw [e 36 (by omega)]; exact g36, e36⟩, MSf _ (by omega) s37, ⟨cf, by rw [e 49 (by omega)]; exact g49, e49⟩, ⟨f50, by rw [e 50 (by omega)]; exact g50⟩, ⟨f51, by rw [e 51 (by omega)]; exact g51⟩, fun i hi => MSf _ (by omega) (s60 i hi)⟩
  · obtain ⟨a, b, c⟩ := c4 q
    exact ⟨MKf _ _ _ _ _ (by omega) a, ROf _ _ _ _ (by omega) b, ROf _ _ _ _ (by omega) c⟩
  · obtain ⟨a, g, b, c⟩ := c6 i hi
    exact ⟨by rw [e _ (by omega)]; exact a, g, by rw [e _ (by omega)]; exact b, c⟩
theorem RW.ft {h h' : MXH} {v : Nat → Int32} {A : Nat → Nat → Int32} (r : RW h v A) (f : FT h h') : RW h' v A := ⟨by rw [f.2.2 96 (by omega) (by omega)]; exact r.1, fun j hj => by rw [f.2.2 _ (by omega) (by omega)]; exact r.2 j hj⟩
theorem LW.st {h h1 h2 : MXH} {v v2 : Nat → Int32} {A A2 : Nat → Nat → Int32} {p : PR} (w : LW h v A) (po : POK p) (c1 : CW h1 p.2.1 p.2.2) (f1 : FT h h1) (n : N_ h1 p.2.1 p.2.2 h2 v2 A2) : LW h2 v2 A2 ∧ h2.length ≤ h.length + 5 := by
  obtain ⟨n1, n2, n3, n4, n5, n6⟩ := n
  have l1 := f1.1
  have l2 := f1.2.1
  have l3 := n2.1
  have l4 := w.2.2.2
  exact ⟨⟨n1, po.sm n3 n4 n5 n6, c1.fr n2 n3 n4 n5, by omega⟩, by omega⟩
theorem LW.c0 {h : MXH} {v : Nat → Int32} {A : Nat → Nat → Int32} (c : CW h v A) : co_ h 0 = some 11 := by
  obtain ⟨⟨ci, o, _⟩, _⟩ := c
  exact ob_co o
def KL (X : MXX) (d : Nat) (i : Int32) (h : MXH) (Q : MXP) : Prop := ∀ h' v' A', LW h' v' A' → h'.length ≤ h.length + 5 → ex_ X (d + 61) 218 1380 [.float 1, .ref 0, .ref 96, .int i] [] h' Q
def IX (X : MXX) (i : Int32) : Prop := mx_in (i + 1) X.1 = true ∧ mx_in (i + 2) X.1 = true ∧ mx_in (i + 3) X.1 = true ∧ mx_in (i + 4) X.1 = true ∧ mx_in (i + 5) X.1 = true
section LC
variable {X : MXX} {d : Nat} {h : MXH} {Q : MXP} {v : Nat → Int32} {A : Nat → Nat → Int32} {i : Int32}
theorem w_seller (w : LW h v A) (ix : IX X i) (k : KL X d i h Q) : ex_ X (d + 61) 218 192 [.float 1, .ref 0, .ref 96, .int i] [] h Q := by
  obtain ⟨x1, x2, x3, x4, x5⟩ := ix
  simp only [i218_192, i218_192f0, i218_193, i218_193f0, i218_194, i218_195, i218_196, i218_197, i218_197f, i218_198, i218_198f0, i218_199, i218_200, i218_201, i218_202, i218_202f, i218_203, i218_203f0, i218_204, i218_205, i218_206, i218_207, i218_207f, x1, x2, x3, x4, x5, i218_208 (LW.c0 w.2.2.1), true_and, and_true, eq_self, true_or, or_true, bi_01, mx_nl_i, mx_nl_r, mx_nl_n, mx_nl_f, mx_nl_d]
  refine q_seller w.2.2.1 w.2.1 w.2.2.2 ?_
  intro h1 c1 f1
  have r1 := w.1.ft f1
  simp only [Option.toList_some, Option.toList_none, List.nil_append, List.cons_append, i218_211, i218_211f0, i218_212, i218_212f0, i218_213, i218_214, i218_215, i218_216, i218_216f, i218_217, i218_217f0, i218_218, i218_219, i218_220, i218_221, i218_221f, i218_222, i218_222f0, i218_223, i218_224, i218_225, i218_226, i218_226f, x1, x2, x3, x4, x5, i218_227 (ob_co r1.o), true_and, and_true, eq_self, true_or, or_true, bi_01, mx_nl_i, mx_nl_r, mx_nl_n, mx_nl_f, mx_nl_d]
  refine r_seller r1 w.2.1 ?_
  intro h2 v2 A2 n2
  obtain ⟨a, b⟩ := w.st (o_seller w.2.1) c1 f1 n2
  simp only [Option.toList_some, Option.toList_none, List.nil_append, List.cons_append, i218_230, if_true, true_and, and_true, eq_self, true_or, or_true, bi_01, mx_nl_i, mx_nl_r, mx_nl_n, mx_nl_f, mx_nl_d]
  exact k h2 v2 A2 a b
theorem w_ofSeller (w : LW h v A) (ix : IX X i) (k : KL X d i h Q) : ex_ X (d + 61) 218 235 [.float 1, .ref 0, .ref 96, .int i] [] h Q := by
  obtain ⟨x1, x2, x3, x4, x5⟩ := ix
  simp only [i218_235, i218_235f0, i218_236, i218_236f0, i218_237, i218_238, i218_239, i218_240, i218_240f, i218_241, i218_241f0, i218_242, i218_243, i218_244, i218_245, i218_245f, x1, x2, x3, x4, x5, i218_246 (LW.c0 w.2.2.1), true_and, and_true, eq_self, true_or, or_true, bi_01, mx_nl_i, mx_nl_r, mx_nl_n, mx_nl_f, mx_nl_d]
  refine q_ofSeller w.2.2.1 w.2.1 ?_
  intro h1 c1 f1
  have r1 := w.1.ft f1
  simp only [Option.toList_some, Option.toList_none, List.nil_append, List.cons_append, i218_249, i218_249f0, i218_250, i218_250f0, i218_251, i218_252, i218_253, i218_254, i218_254f, i218_255, i218_255f0, i218_256, i218_257, i218_258, i218_259, i218_259f, x1, x2, x3, x4, x5, i218_260 (ob_co r1.o), true_and, and_true, eq_self, true_or, or_true, bi_01, mx_nl_i, mx_nl_r, mx_nl_n, mx_nl_f, mx_nl_d]
  refine r_ofSeller r1 w.2.1 ?_
  intro h2 v2 A2 n2
  obtain ⟨a, b⟩ := w.st (o_ofSeller w.2.1) c1 f1 n2
  simp only [Option.toList_some, Option.toList_none, List.nil_append, List.cons_append, i218_263, if_true, true_and, and_true, eq_self, true_or, or_true, bi_01, mx_nl_i, mx_nl_r, mx_nl_n, mx_nl_f, mx_nl_d]
  exact k h2 v2 A2 a b
theorem w_set (w : LW h v A) (ix : IX X i) (k : KL X d i h Q) : ex_ X (d + 61) 218 268 [.float 1, .ref 0, .ref 96, .int i] [] h Q := by
  obtain ⟨x1, x2, x3, x4, x5⟩ := ix
  simp only [i218_268, i218_268f0, i218_269, i218_269f0, i218_270, i218_271, i218_272, i218_273, i218_273f, i218_274, i218_274f0, i218_275, i218_276, i218_277, i218_278, i218_278f, i218_279, i218_279f0, i218_280, i218_281, i218_282, i218_283, i218_283f, x1, x2, x3, x4, x5, i218_284 (LW.c0 w.2.2.1), true_and, and_true, eq_self, true_or, or_true, bi_01, mx_nl_i, mx_nl_r, mx_nl_n, mx_nl_f, mx_nl_d]
  refine q_set w.2.2.1 w.2.1 ?_
  intro h1 c1 f1
  have r1 := w.1.ft f1
  simp only [Option.toList_some, Option.toList_none, List.nil_append, List.cons_append, i218_287, i218_287f0, i218_288, i218_288f0, i218_289, i218_290, i218_291, i218_292, i218_292f, i218_293, i218_293f0, i218_294, i218_295, i218_296, i218_297, i218_297f, i218_298, i218_298f0, i218_299, i218_300, i218_301, i218_302, i218_302f, x1, x2, x3, x4, x5, i218_303 (ob_co r1.o), true_and, and_true, eq_self, true_or, or_true, bi_01, mx_nl_i, mx_nl_r, mx_nl_n, mx_nl_f, mx_nl_d]
  refine r_set r1 w.2.1 ?_
  intro h2 v2 A2 n2
  obtain ⟨a, b⟩ := w.st (o_set w.2.1) c1 f1 n2
  simp only [Option.toList_some, Option.toList_none, List.nil_append, List.cons_append, i218_306, if_true, true_and, and_true, eq_self, true_or, or_true, bi_01, mx_nl_i, mx_nl_r, mx_nl_n, mx_nl_f, mx_nl_d]
  exact k h2 v2 A2 a b
theorem w_as (w : LW h v A) (ix : IX X i) (k : KL X d i h Q) : ex_ X (d + 61) 218 311 [.float 1, .ref 0, .ref 96, .int i] [] h Q := by
  obtain ⟨x1, x2, x3, x4, x5⟩ := ix
  simp only [i218_311, i218_311f0, i218_312, i218_312f0, i218_313, i218_314, i218_315, i218_316, i218_316f, i218_317, i218_317f0, i218_318, i218_319, i218_320, i218_321, i218_321f, x1, x2, x3, x4, x5, i218_322 (LW.c0 w.2.2.1), true_and, and_true, eq_self, true_or, or_true, bi_01, mx_nl_i, mx_nl_r, mx_nl_n, mx_nl_f, mx_nl_d]
  refine q_as w.2.2.1 w.2.1 ?_
  intro h1 c1 f1
  have r1 := w.1.ft f1
  simp only [Option.toList_some, Option.toList_none, List.nil_append, List.cons_append, i218_325, i218_325f0, i218_326, i218_326f0, i218_327, i218_328, i218_329, i218_330, i218_330f, i218_331, i218_331f0, i218_332, i218_333, i218_334, i218_335, i218_335f, x1, x2, x3, x4, x5, i218_336 (ob_co r1.o), true_and, and_true, eq_self, true_or, or_true, bi_01, mx_nl_i, mx_nl_r, mx_nl_n, mx_nl_f, mx_nl_d]
  refine r_as r1 w.2.1 ?_
  intro h2 v2 A2 n2
  obtain ⟨a, b⟩ := w.st (o_as w.2.1) c1 f1 n2
  simp only [Option.toList_some, Option.toList_none, List.nil_append, List.cons_append, i218_339, if_true, true_and, and_true, eq_self, true_or, or_true, bi_01, mx_nl_i, mx_nl_r, mx_nl_n, mx_nl_f, mx_nl_d]
  exact k h2 v2 A2 a b
theorem w_may (w : LW h v A) (ix : IX X i) (k : KL X d i h Q) : ex_ X (d + 61) 218 344 [.float 1, .ref 0, .ref 96, .int i] [] h Q := by
  obtain ⟨x1, x2, x3, x4, x5⟩ := ix
  simp only [i218_344, i218_344f0, i218_345, i218_345f0, i218_346, i218_347, i218_348, i218_349, i218_349f, i218_350, i218_350f0, i218_351, i218_352, i218_353, i218_354, i218_354f, x1, x2, x3, x4, x5, i218_355 (LW.c0 w.2.2.1), true_and, and_true, eq_self, true_or, or_true, bi_01, mx_nl_i, mx_nl_r, mx_nl_n, mx_nl_f, mx_nl_d]
  refine q_may w.2.2.1 w.2.1 ?_
  intro h1 c1 f1
  have r1 := w.1.ft f1
  simp only [Option.toList_some, Option.toList_none, List.nil_append, List.cons_append, i218_358, i218_358f0, i218_359, i218_359f0, i218_360, i218_361, i218_362, i218_363, i218_363f, i218_364, i218_364f0, i218_365, i218_366, i218_367, i218_368, i218_368f, x1, x2, x3, x4, x5, i218_369 (ob_co r1.o), true_and, and_true, eq_self, true_or, or_true, bi_01, mx_nl_i, mx_nl_r, mx_nl_n, mx_nl_f, mx_nl_d]
  refine r_may r1 w.2.1 ?_
  intro h2 v2 A2 n2
  obtain ⟨a, b⟩ := w.st (o_may w.2.1) c1 f1 n2
  simp only [Option.toList_some, Option.toList_none, List.nil_append, List.cons_append, i218_372, if_true, true_and, and_true, eq_self, true_or, or_true, bi_01, mx_nl_i, mx_nl_r, mx_nl_n, mx_nl_f, mx_nl_d]
  exact k h2 v2 A2 a b
theorem w_sort (w : LW h v A) (ix : IX X i) (k : KL X d i h Q) : ex_ X (d + 61) 218 377 [.float 1, .ref 0, .ref 96, .int i] [] h Q := by
  obtain ⟨x1, x2, x3, x4, x5⟩ := ix
  simp only [i218_377, i218_377f0, i218_378, i218_378f0, i218_379, i218_380, i218_381, i218_382, i218_382f, i218_383, i218_383f0, i218_384, i218_385, i218_386, i218_387, i218_387f, i218_388, i218_388f0, i218_389, i218_390, i218_391, i218_392, i218_392f, x1, x2, x3, x4, x5, i218_393 (LW.c0 w.2.2.1), true_and, and_true, eq_self, true_or, or_true, bi_01, mx_nl_i, mx_nl_r, mx_nl_n, mx_nl_f, mx_nl_d]
  refine q_sort w.2.2.1 w.2.1 ?_
  intro h1 c1 f1
  have r1 := w.1.ft f1
  simp only [Option.toList_some, Option.toList_none, List.nil_append, List.cons_append, i218_396, i218_396f0, i218_397, i218_397f0, i218_398, i218_399, i218_400, i218_401, i218_401f, i218_402, i218_402f0, i218_403, i218_404, i218_405, i218_406, i218_406f, i218_407, i218_407f0, i218_408, i218_409, i218_410, i218_411, i218_411f, x1, x2, x3, x4, x5, i218_412 (ob_co r1.o), true_and, and_true, eq_self, true_or, or_true, bi_01, mx_nl_i, mx_nl_r, mx_nl_n, mx_nl_f, mx_nl_d]
  refine r_sort r1 w.2.1 ?_
  intro h2 v2 A2 n2
  obtain ⟨a, b⟩ := w.st (o_sort w.2.1) c1 f1 n2
  simp only [Option.toList_some, Option.toList_none, List.nil_append, List.cons_append, i218_415, if_true, true_and, and_true, eq_self, true_or, or_true, bi_01, mx_nl_i, mx_nl_r, mx_nl_n, mx_nl_f, mx_nl_d]
  exact k h2 v2 A2 a b
theorem w_ofSort (w : LW h v A) (ix : IX X i) (k : KL X d i h Q) : ex_ X (d + 61) 218 420 [.float 1, .ref 0, .ref 96, .int i] [] h Q := by
  obtain ⟨x1, x2, x3, x4, x5⟩ := ix
  simp only [i218_420, i218_420f0, i218_421, i218_421f0, i218_422, i218_423, i218_424, i218_425, i218_425f, i218_426, i218_426f0, i218_427, i218_428, i218_429, i218_430, i218_430f, x1, x2, x3, x4, x5, i218_431 (LW.c0 w.2.2.1), true_and, and_true, eq_self, true_or, or_true, bi_01, mx_nl_i, mx_nl_r, mx_nl_n, mx_nl_f, mx_nl_d]
  refine q_ofSort w.2.2.1 w.2.1 ?_
  intro h1 c1 f1
  have r1 := w.1.ft f1
  simp only [Option.toList_some, Option.toList_none, List.nil_append, List.cons_append, i218_434, i218_434f0, i218_435, i218_435f0, i218_436, i218_437, i218_438, i218_439, i218_439f, i218_440, i218_440f0, i218_441, i218_442, i218_443, i218_444, i218_444f, x1, x2, x3, x4, x5, i218_445 (ob_co r1.o), true_and, and_true, eq_self, true_or, or_true, bi_01, mx_nl_i, mx_nl_r, mx_nl_n, mx_nl_f, mx_nl_d]
  refine r_ofSort r1 w.2.1 ?_
  intro h2 v2 A2 n2
  obtain ⟨a, b⟩ := w.st (o_ofSort w.2.1) c1 f1 n2
  simp only [Option.toList_some, Option.toList_none, List.nil_append, List.cons_append, i218_448, if_true, true_and, and_true, eq_self, true_or, or_true, bi_01, mx_nl_i, mx_nl_r, mx_nl_n, mx_nl_f, mx_nl_d]
  exact k h2 v2 A2 a b
theorem w_sorts (w : LW h v A) (ix : IX X i) (k : KL X d i h Q) : ex_ X (d + 61) 218 453 [.float 1, .ref 0, .ref 96, .int i] [] h Q := by
  obtain ⟨x1, x2, x3, x4, x5⟩ := ix
  simp only [i218_453, i218_453f0, i218_454, i218_454f0, i218_455, i218_456, i218_457, i218_458, i218_458f, x1, x2, x3, x4, x5, i218_459 (LW.c0 w.2.2.1), true_and, and_true, eq_self, true_or, or_true, bi_01, mx_nl_i, mx_nl_r, mx_nl_n, mx_nl_f, mx_nl_d]
  refine q_sorts w.2.2.1 w.2.1 ?_
  intro h1 c1 f1
  have r1 := w.1.ft f1
  simp only [Option.toList_some, Option.toList_none, List.nil_append, List.cons_append, i218_462, i218_462f0, i218_463, i218_463f0, i218_464, i218_465, i218_466, i218_467, i218_467f, x1, x2, x3, x4, x5, i218_468 (ob_co r1.o), true_and, and_true, eq_self, true_or, or_true, bi_01, mx_nl_i, mx_nl_r, mx_nl_n, mx_nl_f, mx_nl_d]
  refine r_sorts r1 w.2.1 ?_
  intro h2 v2 A2 n2
  obtain ⟨a, b⟩ := w.st (o_sorts w.2.1) c1 f1 n2
  simp only [Option.toList_some, Option.toList_none, List.nil_append, List.cons_append, i218_471, if_true, true_and, and_true, eq_self, true_or, or_true, bi_01, mx_nl_i, mx_nl_r, mx_nl_n, mx_nl_f, mx_nl_d]
  exact k h2 v2 A2 a b
theorem w_now (w : LW h v A) (ix : IX X i) (k : KL X d i h Q) : ex_ X (d + 61) 218 476 [.float 1, .ref 0, .ref 96, .int i] [] h Q := by
  obtain ⟨x1, x2, x3, x4, x5⟩ := ix
  simp only [i218_476, i218_476f0, i218_477, i218_477f0, i218_478, i218_479, i218_480, i218_481, i218_481f, i218_482, i218_482f0, i218_483, i218_484, i218_485, i218_486, i218_486f, x1, x2, x3, x4, x5, i218_487 (LW.c0 w.2.2.1), true_and, and_true, eq_self, true_or, or_true, bi_01, mx_nl_i, mx_nl_r, mx_nl_n, mx_nl_f, mx_nl_d]
  refine q_now w.2.2.1 w.2.1 ?_
  intro h1 c1 f1
  have r1 := w.1.ft f1
  simp only [Option.toList_some, Option.toList_none, List.nil_append, List.cons_append, i218_490, i218_490f0, i218_491, i218_491f0, i218_492, i218_493, i218_494, i218_495, i218_495f, i218_496, i218_496f0, i218_497, i218_498, i218_499, i218_500, i218_500f, x1, x2, x3, x4, x5, i218_501 (ob_co r1.o), true_and, and_true, eq_self, true_or, or_true, bi_01, mx_nl_i, mx_nl_r, mx_nl_n, mx_nl_f, mx_nl_d]
  refine r_now r1 w.2.1 ?_
  intro h2 v2 A2 n2
  obtain ⟨a, b⟩ := w.st (o_now w.2.1) c1 f1 n2
  simp only [Option.toList_some, Option.toList_none, List.nil_append, List.cons_append, i218_504, if_true, true_and, and_true, eq_self, true_or, or_true, bi_01, mx_nl_i, mx_nl_r, mx_nl_n, mx_nl_f, mx_nl_d]
  exact k h2 v2 A2 a b
theorem w_feed (w : LW h v A) (ix : IX X i) (k : KL X d i h Q) : ex_ X (d + 61) 218 509 [.float 1, .ref 0, .ref 96, .int i] [] h Q := by
  obtain ⟨x1, x2, x3, x4, x5⟩ := ix
  simp only [i218_509, i218_509f0, i218_510, i218_510f0, i218_511, i218_512, i218_513, i218_514, i218_514f, i218_515, i218_516, i218_518, i218_519, i218_519f0, i218_520, i218_521, i218_522, i218_523, i218_523f, i218_524, i218_525, i218_528, i218_529, i218_530, i218_530f0, i218_531, i218_532, i218_533, i218_534, i218_534f, x1, x2, x3, x4, x5, i218_535 (LW.c0 w.2.2.1), true_and, and_true, eq_self, true_or, or_true, bi_01, mx_nl_i, mx_nl_r, mx_nl_n, mx_nl_f, mx_nl_d]
  refine q_feed w.2.2.1 w.2.1 ?_
  intro h1 c1 f1
  have r1 := w.1.ft f1
  simp only [Option.toList_some, Option.toList_none, List.nil_append, List.cons_append, i218_538, i218_538f0, i218_539, i218_539f0, i218_540, i218_541, i218_542, i218_543, i218_543f, i218_544, i218_545, i218_547, i218_548, i218_548f0, i218_549, i218_550, i218_551, i218_552, i218_552f, i218_553, i218_554, i218_557, i218_558, i218_559, i218_559f0, i218_560, i218_561, i218_562, i218_563, i218_563f, x1, x2, x3, x4, x5, i218_564 (ob_co r1.o), true_and, and_true, eq_self, true_or, or_true, bi_01, mx_nl_i, mx_nl_r, mx_nl_n, mx_nl_f, mx_nl_d]
  refine r_feed r1 w.2.1 ?_
  intro h2 v2 A2 n2
  obtain ⟨a, b⟩ := w.st (o_feed w.2.1) c1 f1 n2
  simp only [Option.toList_some, Option.toList_none, List.nil_append, List.cons_append, i218_567, if_true, true_and, and_true, eq_self, true_or, or_true, bi_01, mx_nl_i, mx_nl_r, mx_nl_n, mx_nl_f, mx_nl_d]
  exact k h2 v2 A2 a b
theorem w_text (w : LW h v A) (ix : IX X i) (k : KL X d i h Q) : ex_ X (d + 61) 218 572 [.float 1, .ref 0, .ref 96, .int i] [] h Q := by
  obtain ⟨x1, x2, x3, x4, x5⟩ := ix
  simp only [i218_572, i218_572f0, i218_573, i218_573f0, i218_574, i218_575, i218_576, i218_577, i218_577f, x1, x2, x3, x4, x5, i218_578 (LW.c0 w.2.2.1), true_and, and_true, eq_self, true_or, or_true, bi_01, mx_nl_i, mx_nl_r, mx_nl_n, mx_nl_f, mx_nl_d]
  refine q_text w.2.2.1 w.2.1 w.2.2.2 ?_
  intro h1 c1 f1
  have r1 := w.1.ft f1
  simp only [Option.toList_some, Option.toList_none, List.nil_append, List.cons_append, i218_581, i218_581f0, i218_582, i218_582f0, i218_583, i218_584, i218_585, i218_586, i218_586f, x1, x2, x3, x4, x5, i218_587 (ob_co r1.o), true_and, and_true, eq_self, true_or, or_true, bi_01, mx_nl_i, mx_nl_r, mx_nl_n, mx_nl_f, mx_nl_d]
  refine r_text r1 w.2.1 ?_
  intro h2 v2 A2 n2
  obtain ⟨a, b⟩ := w.st (o_text w.2.1) c1 f1 n2
  simp only [Option.toList_some, Option.toList_none, List.nil_append, List.cons_append, i218_590, if_true, true_and, and_true, eq_self, true_or, or_true, bi_01, mx_nl_i, mx_nl_r, mx_nl_n, mx_nl_f, mx_nl_d]
  exact k h2 v2 A2 a b
theorem w_law (w : LW h v A) (ix : IX X i) (k : KL X d i h Q) : ex_ X (d + 61) 218 595 [.float 1, .ref 0, .ref 96, .int i] [] h Q := by
  obtain ⟨x1, x2, x3, x4, x5⟩ := ix
  simp only [i218_595, i218_595f0, i218_596, i218_596f0, i218_597, i218_598, i218_599, i218_600, i218_600f, i218_601, i218_601f0, i218_602, i218_603, i218_604, i218_605, i218_605f, i218_606, i218_606f0, i218_607, i218_608, i218_609, i218_610, i218_610f, i218_611, i218_611f0, i218_612, i218_613, i218_614, i218_615, i218_615f, i218_616, i218_616f0, i218_617, i218_618, i218_619, i218_620, i218_620f, x1, x2, x3, x4, x5, i218_621 (LW.c0 w.2.2.1), true_and, and_true, eq_self, true_or, or_true, bi_01, mx_nl_i, mx_nl_r, mx_nl_n, mx_nl_f, mx_nl_d]
  refine q_law w.2.2.1 w.2.1 ?_
  intro h1 c1 f1
  have r1 := w.1.ft f1
  simp only [Option.toList_some, Option.toList_none, List.nil_append, List.cons_append, i218_624, i218_624f0, i218_625, i218_625f0, i218_626, i218_627, i218_628, i218_629, i218_629f, i218_630, i218_630f0, i218_631, i218_632, i218_633, i218_634, i218_634f, i218_635, i218_635f0, i218_636, i218_637, i218_638, i218_639, i218_639f, i218_640, i218_640f0, i218_641, i218_642, i218_643, i218_644, i218_644f, i218_645, i218_645f0, i218_646, i218_647, i218_648, i218_649, i218_649f, x1, x2, x3, x4, x5, i218_650 (ob_co r1.o), true_and, and_true, eq_self, true_or, or_true, bi_01, mx_nl_i, mx_nl_r, mx_nl_n, mx_nl_f, mx_nl_d]
  refine r_law r1 w.2.1 ?_
  intro h2 v2 A2 n2
  obtain ⟨a, b⟩ := w.st (o_law w.2.1) c1 f1 n2
  simp only [Option.toList_some, Option.toList_none, List.nil_append, List.cons_append, i218_653, if_true, true_and, and_true, eq_self, true_or, or_true, bi_01, mx_nl_i, mx_nl_r, mx_nl_n, mx_nl_f, mx_nl_d]
  exact k h2 v2 A2 a b
theorem w_days (w : LW h v A) (ix : IX X i) (k : KL X d i h Q) : ex_ X (d + 61) 218 658 [.float 1, .ref 0, .ref 96, .int i] [] h Q := by
  obtain ⟨x1, x2, x3, x4, x5⟩ := ix
  simp only [i218_658, i218_658f0, i218_659, i218_659f0, i218_660, i218_661, i218_662, i218_663, i218_663f, x1, x2, x3, x4, x5, i218_664 (LW.c0 w.2.2.1), true_and, and_true, eq_self, true_or, or_true, bi_01, mx_nl_i, mx_nl_r, mx_nl_n, mx_nl_f, mx_nl_d]
  refine q_days w.2.2.1 w.2.1 ?_
  intro h1 c1 f1
  have r1 := w.1.ft f1
  simp only [Option.toList_some, Option.toList_none, List.nil_append, List.cons_append, i218_667, i218_667f0, i218_668, i218_668f0, i218_669, i218_670, i218_671, i218_672, i218_672f, x1, x2, x3, x4, x5, i218_673 (ob_co r1.o), true_and, and_true, eq_self, true_or, or_true, bi_01, mx_nl_i, mx_nl_r, mx_nl_n, mx_nl_f, mx_nl_d]
  refine r_days r1 w.2.1 ?_
  intro h2 v2 A2 n2
  obtain ⟨a, b⟩ := w.st (o_days w.2.1) c1 f1 n2
  simp only [Option.toList_some, Option.toList_none, List.nil_append, List.cons_append, i218_676, if_true, true_and, and_true, eq_self, true_or, or_true, bi_01, mx_nl_i, mx_nl_r, mx_nl_n, mx_nl_f, mx_nl_d]
  exact k h2 v2 A2 a b
theorem w_year (w : LW h v A) (ix : IX X i) (k : KL X d i h Q) : ex_ X (d + 61) 218 681 [.float 1, .ref 0, .ref 96, .int i] [] h Q := by
  obtain ⟨x1, x2, x3, x4, x5⟩ := ix
  simp only [i218_681, i218_681f0, i218_682, i218_682f0, i218_683, i218_684, i218_685, i218_686, i218_686f, x1, x2, x3, x4, x5, i218_687 (LW.c0 w.2.2.1), true_and, and_true, eq_self, true_or, or_true, bi_01, mx_nl_i, mx_nl_r, mx_nl_n, mx_nl_f, mx_nl_d]
  refine q_year w.2.2.1 w.2.1 ?_
  intro h1 c1 f1
  have r1 := w.1.ft f1
  simp only [Option.toList_some, Option.toList_none, List.nil_append, List.cons_append, i218_690, i218_690f0, i218_691, i218_691f0, i218_692, i218_693, i218_694, i218_695, i218_695f, x1, x2, x3, x4, x5, i218_696 (ob_co r1.o), true_and, and_true, eq_self, true_or, or_true, bi_01, mx_nl_i, mx_nl_r, mx_nl_n, mx_nl_f, mx_nl_d]
  refine r_year r1 w.2.1 ?_
  intro h2 v2 A2 n2
  obtain ⟨a, b⟩ := w.st (o_year w.2.1) c1 f1 n2
  simp only [Option.toList_some, Option.toList_none, List.nil_append, List.cons_append, i218_699, if_true, true_and, and_true, eq_self, true_or, or_true, bi_01, mx_nl_i, mx_nl_r, mx_nl_n, mx_nl_f, mx_nl_d]
  exact k h2 v2 A2 a b
theorem w_then (w : LW h v A) (ix : IX X i) (k : KL X d i h Q) : ex_ X (d + 61) 218 704 [.float 1, .ref 0, .ref 96, .int i] [] h Q := by
  obtain ⟨x1, x2, x3, x4, x5⟩ := ix
  simp only [i218_704, i218_704f0, i218_705, i218_705f0, i218_706, i218_707, i218_708, i218_709, i218_709f, i218_710, i218_710f0, i218_711, i218_712, i218_713, i218_714, i218_714f, i218_715, i218_715f0, i218_716, i218_717, i218_718, i218_719, i218_719f, x1, x2, x3, x4, x5, i218_720 (LW.c0 w.2.2.1), true_and, and_true, eq_self, true_or, or_true, bi_01, mx_nl_i, mx_nl_r, mx_nl_n, mx_nl_f, mx_nl_d]
  refine q_then w.2.2.1 w.2.1 ?_
  intro h1 c1 f1
  have r1 := w.1.ft f1
  simp only [Option.toList_some, Option.toList_none, List.nil_append, List.cons_append, i218_723, i218_723f0, i218_724, i218_724f0, i218_725, i218_726, i218_727, i218_728, i218_728f, i218_729, i218_729f0, i218_730, i218_731, i218_732, i218_733, i218_733f, i218_734, i218_734f0, i218_735, i218_736, i218_737, i218_738, i218_738f, x1, x2, x3, x4, x5, i218_739 (ob_co r1.o), true_and, and_true, eq_self, true_or, or_true, bi_01, mx_nl_i, mx_nl_r, mx_nl_n, mx_nl_f, mx_nl_d]
  refine r_then r1 w.2.1 ?_
  intro h2 v2 A2 n2
  obtain ⟨a, b⟩ := w.st (o_then w.2.1) c1 f1 n2
  simp only [Option.toList_some, Option.toList_none, List.nil_append, List.cons_append, i218_742, if_true, true_and, and_true, eq_self, true_or, or_true, bi_01, mx_nl_i, mx_nl_r, mx_nl_n, mx_nl_f, mx_nl_d]
  exact k h2 v2 A2 a b
theorem w_waits (w : LW h v A) (ix : IX X i) (k : KL X d i h Q) : ex_ X (d + 61) 218 747 [.float 1, .ref 0, .ref 96, .int i] [] h Q := by
  obtain ⟨x1, x2, x3, x4, x5⟩ := ix
  simp only [i218_747, i218_747f0, i218_748, i218_748f0, i218_749, i218_750, i218_751, i218_752, i218_752f, i218_753, i218_753f0, i218_754, i218_755, i218_756, i218_757, i218_757f, x1, x2, x3, x4, x5, i218_758 (LW.c0 w.2.2.1), true_and, and_true, eq_self, true_or, or_true, bi_01, mx_nl_i, mx_nl_r, mx_nl_n, mx_nl_f, mx_nl_d]
  refine q_waits w.2.2.1 w.2.1 ?_
  intro h1 c1 f1
  have r1 := w.1.ft f1
  simp only [Option.toList_some, Option.toList_none, List.nil_append, List.cons_append, i218_761, i218_761f0, i218_762, i218_762f0, i218_763, i218_764, i218_765, i218_766, i218_766f, i218_767, i218_767f0, i218_768, i218_769, i218_770, i218_771, i218_771f, x1, x2, x3, x4, x5, i218_772 (ob_co r1.o), true_and, and_true, eq_self, true_or, or_true, bi_01, mx_nl_i, mx_nl_r, mx_nl_n, mx_nl_f, mx_nl_d]
  refine r_waits r1 w.2.1 ?_
  intro h2 v2 A2 n2
  obtain ⟨a, b⟩ := w.st (o_waits w.2.1) c1 f1 n2
  simp only [Option.toList_some, Option.toList_none, List.nil_append, List.cons_append, i218_775, if_true, true_and, and_true, eq_self, true_or, or_true, bi_01, mx_nl_i, mx_nl_r, mx_nl_n, mx_nl_f, mx_nl_d]
  exact k h2 v2 A2 a b
theorem w_earned (w : LW h v A) (ix : IX X i) (k : KL X d i h Q) : ex_ X (d + 61) 218 780 [.float 1, .ref 0, .ref 96, .int i] [] h Q := by
  obtain ⟨x1, x2, x3, x4, x5⟩ := ix
  simp only [i218_780, i218_780f0, i218_781, i218_781f0, i218_782, i218_783, i218_784, i218_785, i218_785f, x1, x2, x3, x4, x5, i218_786 (LW.c0 w.2.2.1), true_and, and_true, eq_self, true_or, or_true, bi_01, mx_nl_i, mx_nl_r, mx_nl_n, mx_nl_f, mx_nl_d]
  refine q_earned w.2.2.1 w.2.1 ?_
  intro h1 c1 f1
  have r1 := w.1.ft f1
  simp only [Option.toList_some, Option.toList_none, List.nil_append, List.cons_append, i218_789, i218_789f0, i218_790, i218_790f0, i218_791, i218_792, i218_793, i218_794, i218_794f, x1, x2, x3, x4, x5, i218_795 (ob_co r1.o), true_and, and_true, eq_self, true_or, or_true, bi_01, mx_nl_i, mx_nl_r, mx_nl_n, mx_nl_f, mx_nl_d]
  refine r_earned r1 w.2.1 ?_
  intro h2 v2 A2 n2
  obtain ⟨a, b⟩ := w.st (o_earned w.2.1) c1 f1 n2
  simp only [Option.toList_some, Option.toList_none, List.nil_append, List.cons_append, i218_798, if_true, true_and, and_true, eq_self, true_or, or_true, bi_01, mx_nl_i, mx_nl_r, mx_nl_n, mx_nl_f, mx_nl_d]
  exact k h2 v2 A2 a b
theorem w_lost (w : LW h v A) (ix : IX X i) (k : KL X d i h Q) : ex_ X (d + 61) 218 803 [.float 1, .ref 0, .ref 96, .int i] [] h Q := by
  obtain ⟨x1, x2, x3, x4, x5⟩ := ix
  simp only [i218_803, i218_803f0, i218_804, i218_804f0, i218_805, i218_806, i218_807, i218_808, i218_808f, x1, x2, x3, x4, x5, i218_809 (LW.c0 w.2.2.1), true_and, and_true, eq_self, true_or, or_true, bi_01, mx_nl_i, mx_nl_r, mx_nl_n, mx_nl_f, mx_nl_d]
  refine q_lost w.2.2.1 w.2.1 ?_
  intro h1 c1 f1
  have r1 := w.1.ft f1
  simp only [Option.toList_some, Option.toList_none, List.nil_append, List.cons_append, i218_812, i218_812f0, i218_813, i218_813f0, i218_814, i218_815, i218_816, i218_817, i218_817f, x1, x2, x3, x4, x5, i218_818 (ob_co r1.o), true_and, and_true, eq_self, true_or, or_true, bi_01, mx_nl_i, mx_nl_r, mx_nl_n, mx_nl_f, mx_nl_d]
  refine r_lost r1 w.2.1 ?_
  intro h2 v2 A2 n2
  obtain ⟨a, b⟩ := w.st (o_lost w.2.1) c1 f1 n2
  simp only [Option.toList_some, Option.toList_none, List.nil_append, List.cons_append, i218_821, if_true, true_and, and_true, eq_self, true_or, or_true, bi_01, mx_nl_i, mx_nl_r, mx_nl_n, mx_nl_f, mx_nl_d]
  exact k h2 v2 A2 a b
theorem w_begin (w : LW h v A) (ix : IX X i) (k : KL X d i h Q) : ex_ X (d + 61) 218 826 [.float 1, .ref 0, .ref 96, .int i] [] h Q := by
  obtain ⟨x1, x2, x3, x4, x5⟩ := ix
  simp only [i218_826, i218_826f0, i218_827, i218_827f0, i218_828, i218_829, i218_830, i218_831, i218_831f, i218_832, i218_832f0, i218_833, i218_834, i218_835, i218_836, i218_836f, x1, x2, x3, x4, x5, i218_837 (LW.c0 w.2.2.1), true_and, and_true, eq_self, true_or, or_true, bi_01, mx_nl_i, mx_nl_r, mx_nl_n, mx_nl_f, mx_nl_d]
  refine q_begin w.2.2.1 w.2.1 ?_
  intro h1 c1 f1
  have r1 := w.1.ft f1
  simp only [Option.toList_some, Option.toList_none, List.nil_append, List.cons_append, i218_840, i218_840f0, i218_841, i218_841f0, i218_842, i218_843, i218_844, i218_845, i218_845f, i218_846, i218_846f0, i218_847, i218_848, i218_849, i218_850, i218_850f, x1, x2, x3, x4, x5, i218_851 (ob_co r1.o), true_and, and_true, eq_self, true_or, or_true, bi_01, mx_nl_i, mx_nl_r, mx_nl_n, mx_nl_f, mx_nl_d]
  refine r_begin r1 w.2.1 ?_
  intro h2 v2 A2 n2
  obtain ⟨a, b⟩ := w.st (o_begin w.2.1) c1 f1 n2
  simp only [Option.toList_some, Option.toList_none, List.nil_append, List.cons_append, i218_854, if_true, true_and, and_true, eq_self, true_or, or_true, bi_01, mx_nl_i, mx_nl_r, mx_nl_n, mx_nl_f, mx_nl_d]
  exact k h2 v2 A2 a b
theorem w_right (w : LW h v A) (ix : IX X i) (k : KL X d i h Q) : ex_ X (d + 61) 218 859 [.float 1, .ref 0, .ref 96, .int i] [] h Q := by
  obtain ⟨x1, x2, x3, x4, x5⟩ := ix
  simp only [i218_859, i218_859f0, i218_860, i218_860f0, i218_861, i218_862, i218_863, i218_864, i218_864f, i218_865, i218_865f0, i218_866, i218_867, i218_868, i218_869, i218_869f, x1, x2, x3, x4, x5, i218_870 (LW.c0 w.2.2.1), true_and, and_true, eq_self, true_or, or_true, bi_01, mx_nl_i, mx_nl_r, mx_nl_n, mx_nl_f, mx_nl_d]
  refine q_right w.2.2.1 w.2.1 ?_
  intro h1 c1 f1
  have r1 := w.1.ft f1
  simp only [Option.toList_some, Option.toList_none, List.nil_append, List.cons_append, i218_873, i218_873f0, i218_874, i218_874f0, i218_875, i218_876, i218_877, i218_878, i218_878f, i218_879, i218_879f0, i218_880, i218_881, i218_882, i218_883, i218_883f, x1, x2, x3, x4, x5, i218_884 (ob_co r1.o), true_and, and_true, eq_self, true_or, or_true, bi_01, mx_nl_i, mx_nl_r, mx_nl_n, mx_nl_f, mx_nl_d]
  refine r_right r1 w.2.1 ?_
  intro h2 v2 A2 n2
  obtain ⟨a, b⟩ := w.st (o_right w.2.1) c1 f1 n2
  simp only [Option.toList_some, Option.toList_none, List.nil_append, List.cons_append, i218_887, if_true, true_and, and_true, eq_self, true_or, or_true, bi_01, mx_nl_i, mx_nl_r, mx_nl_n, mx_nl_f, mx_nl_d]
  exact k h2 v2 A2 a b
theorem w_tenth (w : LW h v A) (ix : IX X i) (k : KL X d i h Q) : ex_ X (d + 61) 218 892 [.float 1, .ref 0, .ref 96, .int i] [] h Q := by
  obtain ⟨x1, x2, x3, x4, x5⟩ := ix
  simp only [i218_892, i218_892f0, i218_893, i218_893f0, i218_894, i218_895, i218_896, i218_897, i218_897f, i218_898, i218_898f0, i218_899, i218_900, i218_901, i218_902, i218_902f, x1, x2, x3, x4, x5, i218_903 (LW.c0 w.2.2.1), true_and, and_true, eq_self, true_or, or_true, bi_01, mx_nl_i, mx_nl_r, mx_nl_n, mx_nl_f, mx_nl_d]
  refine q_tenth w.2.2.1 w.2.1 ?_
  intro h1 c1 f1
  have r1 := w.1.ft f1
  simp only [Option.toList_some, Option.toList_none, List.nil_append, List.cons_append, i218_906, i218_906f0, i218_907, i218_907f0, i218_908, i218_909, i218_910, i218_911, i218_911f, i218_912, i218_912f0, i218_913, i218_914, i218_915, i218_916, i218_916f, x1, x2, x3, x4, x5, i218_917 (ob_co r1.o), true_and, and_true, eq_self, true_or, or_true, bi_01, mx_nl_i, mx_nl_r, mx_nl_n, mx_nl_f, mx_nl_d]
  refine r_tenth r1 w.2.1 ?_
  intro h2 v2 A2 n2
  obtain ⟨a, b⟩ := w.st (o_tenth w.2.1) c1 f1 n2
  simp only [Option.toList_some, Option.toList_none, List.nil_append, List.cons_append, i218_920, if_true, true_and, and_true, eq_self, true_or, or_true, bi_01, mx_nl_i, mx_nl_r, mx_nl_n, mx_nl_f, mx_nl_d]
  exact k h2 v2 A2 a b
theorem w_gains (w : LW h v A) (ix : IX X i) (k : KL X d i h Q) : ex_ X (d + 61) 218 925 [.float 1, .ref 0, .ref 96, .int i] [] h Q := by
  obtain ⟨x1, x2, x3, x4, x5⟩ := ix
  simp only [i218_925, i218_925f0, i218_926, i218_926f0, i218_927, i218_928, i218_929, i218_930, i218_930f, x1, x2, x3, x4, x5, i218_931 (LW.c0 w.2.2.1), true_and, and_true, eq_self, true_or, or_true, bi_01, mx_nl_i, mx_nl_r, mx_nl_n, mx_nl_f, mx_nl_d]
  refine q_gains w.2.2.1 w.2.1 ?_
  intro h1 c1 f1
  have r1 := w.1.ft f1
  simp only [Option.toList_some, Option.toList_none, List.nil_append, List.cons_append, i218_934, i218_934f0, i218_935, i218_935f0, i218_936, i218_937, i218_938, i218_939, i218_939f, x1, x2, x3, x4, x5, i218_940 (ob_co r1.o), true_and, and_true, eq_self, true_or, or_true, bi_01, mx_nl_i, mx_nl_r, mx_nl_n, mx_nl_f, mx_nl_d]
  refine r_gains r1 w.2.1 ?_
  intro h2 v2 A2 n2
  obtain ⟨a, b⟩ := w.st (o_gains w.2.1) c1 f1 n2
  simp only [Option.toList_some, Option.toList_none, List.nil_append, List.cons_append, i218_943, if_true, true_and, and_true, eq_self, true_or, or_true, bi_01, mx_nl_i, mx_nl_r, mx_nl_n, mx_nl_f, mx_nl_d]
  exact k h2 v2 A2 a b
theorem w_down (w : LW h v A) (ix : IX X i) (k : KL X d i h Q) : ex_ X (d + 61) 218 948 [.float 1, .ref 0, .ref 96, .int i] [] h Q := by
  obtain ⟨x1, x2, x3, x4, x5⟩ := ix
  simp only [i218_948, i218_948f0, i218_949, i218_949f0, i218_950, i218_951, i218_952, i218_953, i218_953f, i218_954, i218_954f0, i218_955, i218_956, i218_957, i218_958, i218_958f, i218_959, i218_959f0, i218_960, i218_961, i218_962, i218_963, i218_963f, i218_964, i218_964f0, i218_965, i218_966, i218_967, i218_968, i218_968f, x1, x2, x3, x4, x5, i218_969 (LW.c0 w.2.2.1), true_and, and_true, eq_self, true_or, or_true, bi_01, mx_nl_i, mx_nl_r, mx_nl_n, mx_nl_f, mx_nl_d]
  refine q_down w.2.2.1 w.2.1 ?_
  intro h1 c1 f1
  have r1 := w.1.ft f1
  simp only [Option.toList_some, Option.toList_none, List.nil_append, List.cons_append, i218_972, i218_972f0, i218_973, i218_973f0, i218_974, i218_975, i218_976, i218_977, i218_977f, i218_978, i218_978f0, i218_979, i218_980, i218_981, i218_982, i218_982f, i218_983, i218_983f0, i218_984, i218_985, i218_986, i218_987, i218_987f, i218_988, i218_988f0, i218_989, i218_990, i218_991, i218_992, i218_992f, x1, x2, x3, x4, x5, i218_993 (ob_co r1.o), true_and, and_true, eq_self, true_or, or_true, bi_01, mx_nl_i, mx_nl_r, mx_nl_n, mx_nl_f, mx_nl_d]
  refine r_down r1 w.2.1 ?_
  intro h2 v2 A2 n2
  obtain ⟨a, b⟩ := w.st (o_down w.2.1) c1 f1 n2
  simp only [Option.toList_some, Option.toList_none, List.nil_append, List.cons_append, i218_996, if_true, true_and, and_true, eq_self, true_or, or_true, bi_01, mx_nl_i, mx_nl_r, mx_nl_n, mx_nl_f, mx_nl_d]
  exact k h2 v2 A2 a b
theorem w_first (w : LW h v A) (ix : IX X i) (k : KL X d i h Q) : ex_ X (d + 61) 218 1001 [.float 1, .ref 0, .ref 96, .int i] [] h Q := by
  obtain ⟨x1, x2, x3, x4, x5⟩ := ix
  simp only [i218_1001, i218_1001f0, i218_1002, i218_1002f0, i218_1003, i218_1004, i218_1005, i218_1006, i218_1006f, x1, x2, x3, x4, x5, i218_1007 (LW.c0 w.2.2.1), true_and, and_true, eq_self, true_or, or_true, bi_01, mx_nl_i, mx_nl_r, mx_nl_n, mx_nl_f, mx_nl_d]
  refine q_first w.2.2.1 w.2.1 ?_
  intro h1 c1 f1
  have r1 := w.1.ft f1
  simp only [Option.toList_some, Option.toList_none, List.nil_append, List.cons_append, i218_1010, i218_1010f0, i218_1011, i218_1011f0, i218_1012, i218_1013, i218_1014, i218_1015, i218_1015f, x1, x2, x3, x4, x5, i218_1016 (ob_co r1.o), true_and, and_true, eq_self, true_or, or_true, bi_01, mx_nl_i, mx_nl_r, mx_nl_n, mx_nl_f, mx_nl_d]
  refine r_first r1 w.2.1 ?_
  intro h2 v2 A2 n2
  obtain ⟨a, b⟩ := w.st (o_first w.2.1) c1 f1 n2
  simp only [Option.toList_some, Option.toList_none, List.nil_append, List.cons_append, i218_1019, if_true, true_and, and_true, eq_self, true_or, or_true, bi_01, mx_nl_i, mx_nl_r, mx_nl_n, mx_nl_f, mx_nl_d]
  exact k h2 v2 A2 a b
theorem w_seed (w : LW h v A) (ix : IX X i) (k : KL X d i h Q) : ex_ X (d + 61) 218 1024 [.float 1, .ref 0, .ref 96, .int i] [] h Q := by
  obtain ⟨x1, x2, x3, x4, x5⟩ := ix
  simp only [i218_1024, i218_1024f0, i218_1025, i218_1025f0, i218_1026, i218_1027, i218_1028, i218_1029, i218_1029f, x1, x2, x3, x4, x5, i218_1030 (LW.c0 w.2.2.1), true_and, and_true, eq_self, true_or, or_true, bi_01, mx_nl_i, mx_nl_r, mx_nl_n, mx_nl_f, mx_nl_d]
  refine q_seed w.2.2.1 w.2.1 ?_
  intro h1 c1 f1
  have r1 := w.1.ft f1
  simp only [Option.toList_some, Option.toList_none, List.nil_append, List.cons_append, i218_1033, i218_1033f0, i218_1034, i218_1034f0, i218_1035, i218_1036, i218_1037, i218_1038, i218_1038f, x1, x2, x3, x4, x5, i218_1039 (ob_co r1.o), true_and, and_true, eq_self, true_or, or_true, bi_01, mx_nl_i, mx_nl_r, mx_nl_n, mx_nl_f, mx_nl_d]
  refine r_seed r1 w.2.1 ?_
  intro h2 v2 A2 n2
  obtain ⟨a, b⟩ := w.st (o_seed w.2.1) c1 f1 n2
  simp only [Option.toList_some, Option.toList_none, List.nil_append, List.cons_append, i218_1042, if_true, true_and, and_true, eq_self, true_or, or_true, bi_01, mx_nl_i, mx_nl_r, mx_nl_n, mx_nl_f, mx_nl_d]
  exact k h2 v2 A2 a b
theorem w_voice (w : LW h v A) (ix : IX X i) (k : KL X d i h Q) : ex_ X (d + 61) 218 1047 [.float 1, .ref 0, .ref 96, .int i] [] h Q := by
  obtain ⟨x1, x2, x3, x4, x5⟩ := ix
  simp only [i218_1047, i218_1047f0, i218_1048, i218_1048f0, i218_1049, i218_1050, i218_1051, i218_1052, i218_1052f, i218_1053, i218_1053f0, i218_1054, i218_1055, i218_1056, i218_1057, i218_1057f, i218_1058, i218_1058f0, i218_1059, i218_1060, i218_1061, i218_1062, i218_1062f, x1, x2, x3, x4, x5, i218_1063 (LW.c0 w.2.2.1), true_and, and_true, eq_self, true_or, or_true, bi_01, mx_nl_i, mx_nl_r, mx_nl_n, mx_nl_f, mx_nl_d]
  refine q_voice w.2.2.1 w.2.1 ?_
  intro h1 c1 f1
  have r1 := w.1.ft f1
  simp only [Option.toList_some, Option.toList_none, List.nil_append, List.cons_append, i218_1066, i218_1066f0, i218_1067, i218_1067f0, i218_1068, i218_1069, i218_1070, i218_1071, i218_1071f, i218_1072, i218_1072f0, i218_1073, i218_1074, i218_1075, i218_1076, i218_1076f, i218_1077, i218_1077f0, i218_1078, i218_1079, i218_1080, i218_1081, i218_1081f, x1, x2, x3, x4, x5, i218_1082 (ob_co r1.o), true_and, and_true, eq_self, true_or, or_true, bi_01, mx_nl_i, mx_nl_r, mx_nl_n, mx_nl_f, mx_nl_d]
  refine r_voice r1 w.2.1 ?_
  intro h2 v2 A2 n2
  obtain ⟨a, b⟩ := w.st (o_voice w.2.1) c1 f1 n2
  simp only [Option.toList_some, Option.toList_none, List.nil_append, List.cons_append, i218_1085, if_true, true_and, and_true, eq_self, true_or, or_true, bi_01, mx_nl_i, mx_nl_r, mx_nl_n, mx_nl_f, mx_nl_d]
  exact k h2 v2 A2 a b
theorem w_trace (w : LW h v A) (ix : IX X i) (k : KL X d i h Q) : ex_ X (d + 61) 218 1090 [.float 1, .ref 0, .ref 96, .int i] [] h Q := by
  obtain ⟨x1, x2, x3, x4, x5⟩ := ix
  simp only [i218_1090, i218_1090f0, i218_1091, i218_1091f0, i218_1092, i218_1093, i218_1094, i218_1095, i218_1095f, x1, x2, x3, x4, x5, i218_1096 (LW.c0 w.2.2.1), true_and, and_true, eq_self, true_or, or_true, bi_01, mx_nl_i, mx_nl_r, mx_nl_n, mx_nl_f, mx_nl_d]
  refine q_trace w.2.2.1 w.2.1 ?_
  intro h1 c1 f1
  have r1 := w.1.ft f1
  simp only [Option.toList_some, Option.toList_none, List.nil_append, List.cons_append, i218_1099, i218_1099f0, i218_1100, i218_1100f0, i218_1101, i218_1102, i218_1103, i218_1104, i218_1104f, x1, x2, x3, x4, x5, i218_1105 (ob_co r1.o), true_and, and_true, eq_self, true_or, or_true, bi_01, mx_nl_i, mx_nl_r, mx_nl_n, mx_nl_f, mx_nl_d]
  refine r_trace r1 w.2.1 ?_
  intro h2 v2 A2 n2
  obtain ⟨a, b⟩ := w.st (o_trace w.2.1) c1 f1 n2
  simp only [Option.toList_some, Option.toList_none, List.nil_append, List.cons_append, i218_1108, if_true, true_and, and_true, eq_self, true_or, or_true, bi_01, mx_nl_i, mx_nl_r, mx_nl_n, mx_nl_f, mx_nl_d]
  exact k h2 v2 A2 a b
theorem w_sheet (w : LW h v A) (ix : IX X i) (k : KL X d i h Q) : ex_ X (d + 61) 218 1113 [.float 1, .ref 0, .ref 96, .int i] [] h Q := by
  obtain ⟨x1, x2, x3, x4, x5⟩ := ix
  simp only [i218_1113, i218_1113f0, i218_1114, i218_1114f0, i218_1115, i218_1116, i218_1117, i218_1118, i218_1118f, i218_1119, i218_1119f0, i218_1120, i218_1121, i218_1122, i218_1123, i218_1123f, i218_1124, i218_1124f0, i218_1125, i218_1126, i218_1127, i218_1128, i218_1128f, x1, x2, x3, x4, x5, i218_1129 (LW.c0 w.2.2.1), true_and, and_true, eq_self, true_or, or_true, bi_01, mx_nl_i, mx_nl_r, mx_nl_n, mx_nl_f, mx_nl_d]
  refine q_sheet w.2.2.1 w.2.1 ?_
  intro h1 c1 f1
  have r1 := w.1.ft f1
  simp only [Option.toList_some, Option.toList_none, List.nil_append, List.cons_append, i218_1132, i218_1132f0, i218_1133, i218_1133f0, i218_1134, i218_1135, i218_1136, i218_1137, i218_1137f, i218_1138, i218_1138f0, i218_1139, i218_1140, i218_1141, i218_1142, i218_1142f, i218_1143, i218_1143f0, i218_1144, i218_1145, i218_1146, i218_1147, i218_1147f, x1, x2, x3, x4, x5, i218_1148 (ob_co r1.o), true_and, and_true, eq_self, true_or, or_true, bi_01, mx_nl_i, mx_nl_r, mx_nl_n, mx_nl_f, mx_nl_d]
  refine r_sheet r1 w.2.1 ?_
  intro h2 v2 A2 n2
  obtain ⟨a, b⟩ := w.st (o_sheet w.2.1) c1 f1 n2
  simp only [Option.toList_some, Option.toList_none, List.nil_append, List.cons_append, i218_1151, if_true, true_and, and_true, eq_self, true_or, or_true, bi_01, mx_nl_i, mx_nl_r, mx_nl_n, mx_nl_f, mx_nl_d]
  exact k h2 v2 A2 a b
theorem w_put (w : LW h v A) (ix : IX X i) (k : KL X d i h Q) : ex_ X (d + 61) 218 1156 [.float 1, .ref 0, .ref 96, .int i] [] h Q := by
  obtain ⟨x1, x2, x3, x4, x5⟩ := ix
  simp only [i218_1156, i218_1156f0, i218_1157, i218_1157f0, i218_1158, i218_1159, i218_1160, i218_1161, i218_1161f, i218_1162, i218_1162f0, i218_1163, i218_1164, i218_1165, i218_1166, i218_1166f, i218_1167, i218_1167f0, i218_1168, i218_1169, i218_1170, i218_1171, i218_1171f, x1, x2, x3, x4, x5, i218_1172 (LW.c0 w.2.2.1), true_and, and_true, eq_self, true_or, or_true, bi_01, mx_nl_i, mx_nl_r, mx_nl_n, mx_nl_f, mx_nl_d]
  refine q_put w.2.2.1 w.2.1 ?_
  intro h1 c1 f1
  have r1 := w.1.ft f1
  simp only [Option.toList_some, Option.toList_none, List.nil_append, List.cons_append, i218_1175, i218_1175f0, i218_1176, i218_1176f0, i218_1177, i218_1178, i218_1179, i218_1180, i218_1180f, i218_1181, i218_1181f0, i218_1182, i218_1183, i218_1184, i218_1185, i218_1185f, i218_1186, i218_1186f0, i218_1187, i218_1188, i218_1189, i218_1190, i218_1190f, x1, x2, x3, x4, x5, i218_1191 (ob_co r1.o), true_and, and_true, eq_self, true_or, or_true, bi_01, mx_nl_i, mx_nl_r, mx_nl_n, mx_nl_f, mx_nl_d]
  refine r_put r1 w.2.1 ?_
  intro h2 v2 A2 n2
  obtain ⟨a, b⟩ := w.st (o_put w.2.1) c1 f1 n2
  simp only [Option.toList_some, Option.toList_none, List.nil_append, List.cons_append, i218_1194, if_true, true_and, and_true, eq_self, true_or, or_true, bi_01, mx_nl_i, mx_nl_r, mx_nl_n, mx_nl_f, mx_nl_d]
  exact k h2 v2 A2 a b
theorem w_move (w : LW h v A) (ix : IX X i) (k : KL X d i h Q) : ex_ X (d + 61) 218 1199 [.float 1, .ref 0, .ref 96, .int i] [] h Q := by
  obtain ⟨x1, x2, x3, x4, x5⟩ := ix
  simp only [i218_1199, i218_1199f0, i218_1200, i218_1200f0, i218_1201, i218_1202, i218_1203, i218_1204, i218_1204f, i218_1205, i218_1205f0, i218_1206, i218_1207, i218_1208, i218_1209, i218_1209f, i218_1210, i218_1210f0, i218_1211, i218_1212, i218_1213, i218_1214, i218_1214f, i218_1215, i218_1215f0, i218_1216, i218_1217, i218_1218, i218_1219, i218_1219f, i218_1220, i218_1220f0, i218_1221, i218_1222, i218_1223, i218_1224, i218_1224f, x1, x2, x3, x4, x5, i218_1225 (LW.c0 w.2.2.1), true_and, and_true, eq_self, true_or, or_true, bi_01, mx_nl_i, mx_nl_r, mx_nl_n, mx_nl_f, mx_nl_d]
  refine q_move w.2.2.1 w.2.1 ?_
  intro h1 c1 f1
  have r1 := w.1.ft f1
  simp only [Option.toList_some, Option.toList_none, List.nil_append, List.cons_append, i218_1228, i218_1228f0, i218_1229, i218_1229f0, i218_1230, i218_1231, i218_1232, i218_1233, i218_1233f, i218_1234, i218_1234f0, i218_1235, i218_1236, i218_1237, i218_1238, i218_1238f, i218_1239, i218_1239f0, i218_1240, i218_1241, i218_1242, i218_1243, i218_1243f, i218_1244, i218_1244f0, i218_1245, i218_1246, i218_1247, i218_1248, i218_1248f, i218_1249, i218_1249f0, i218_1250, i218_1251, i218_1252, i218_1253, i218_1253f, x1, x2, x3, x4, x5, i218_1254 (ob_co r1.o), true_and, and_true, eq_self, true_or, or_true, bi_01, mx_nl_i, mx_nl_r, mx_nl_n, mx_nl_f, mx_nl_d]
  refine r_move r1 w.2.1 ?_
  intro h2 v2 A2 n2
  obtain ⟨a, b⟩ := w.st (o_move w.2.1) c1 f1 n2
  simp only [Option.toList_some, Option.toList_none, List.nil_append, List.cons_append, i218_1257, if_true, true_and, and_true, eq_self, true_or, or_true, bi_01, mx_nl_i, mx_nl_r, mx_nl_n, mx_nl_f, mx_nl_d]
  exact k h2 v2 A2 a b
theorem w_image (w : LW h v A) (ix : IX X i) (k : KL X d i h Q) : ex_ X (d + 61) 218 1262 [.float 1, .ref 0, .ref 96, .int i] [] h Q := by
  obtain ⟨x1, x2, x3, x4, x5⟩ := ix
  simp only [i218_1262, i218_1262f0, x1, x2, x3, x4, x5, i218_1263 (LW.c0 w.2.2.1), true_and, and_true, eq_self, true_or, or_true, bi_01, mx_nl_i, mx_nl_r, mx_nl_n, mx_nl_f, mx_nl_d]
  refine q_image w.2.2.1 w.2.1 ?_
  intro h1 c1 f1
  have r1 := w.1.ft f1
  simp only [Option.toList_some, Option.toList_none, List.nil_append, List.cons_append, i218_1266, i218_1266f0, x1, x2, x3, x4, x5, i218_1267 (ob_co r1.o), true_and, and_true, eq_self, true_or, or_true, bi_01, mx_nl_i, mx_nl_r, mx_nl_n, mx_nl_f, mx_nl_d]
  refine r_image r1 w.2.1 ?_
  intro h2 v2 A2 n2
  obtain ⟨a, b⟩ := w.st (o_image w.2.1) c1 f1 n2
  simp only [Option.toList_some, Option.toList_none, List.nil_append, List.cons_append, i218_1270, if_true, true_and, and_true, eq_self, true_or, or_true, bi_01, mx_nl_i, mx_nl_r, mx_nl_n, mx_nl_f, mx_nl_d]
  exact k h2 v2 A2 a b
theorem w_restore (w : LW h v A) (ix : IX X i) (k : KL X d i h Q) : ex_ X (d + 61) 218 1275 [.float 1, .ref 0, .ref 96, .int i] [] h Q := by
  obtain ⟨x1, x2, x3, x4, x5⟩ := ix
  simp only [i218_1275, i218_1275f0, x1, x2, x3, x4, x5, i218_1276 (LW.c0 w.2.2.1), true_and, and_true, eq_self, true_or, or_true, bi_01, mx_nl_i, mx_nl_r, mx_nl_n, mx_nl_f, mx_nl_d]
  refine q_restore w.2.2.1 w.2.1 ?_
  intro h1 c1 f1
  have r1 := w.1.ft f1
  simp only [Option.toList_some, Option.toList_none, List.nil_append, List.cons_append, i218_1279, i218_1279f0, x1, x2, x3, x4, x5, i218_1280 (ob_co r1.o), true_and, and_true, eq_self, true_or, or_true, bi_01, mx_nl_i, mx_nl_r, mx_nl_n, mx_nl_f, mx_nl_d]
  refine r_restore r1 w.2.1 ?_
  intro h2 v2 A2 n2
  obtain ⟨a, b⟩ := w.st (o_restore w.2.1) c1 f1 n2
  simp only [Option.toList_some, Option.toList_none, List.nil_append, List.cons_append, i218_1283, if_true, true_and, and_true, eq_self, true_or, or_true, bi_01, mx_nl_i, mx_nl_r, mx_nl_n, mx_nl_f, mx_nl_d]
  exact k h2 v2 A2 a b
theorem w_tell (w : LW h v A) (ix : IX X i) (k : KL X d i h Q) : ex_ X (d + 61) 218 1288 [.float 1, .ref 0, .ref 96, .int i] [] h Q := by
  obtain ⟨x1, x2, x3, x4, x5⟩ := ix
  simp only [i218_1288, i218_1288f0, i218_1289, i218_1289f0, i218_1290, i218_1291, i218_1292, i218_1293, i218_1293f, x1, x2, x3, x4, x5, i218_1294 (LW.c0 w.2.2.1), true_and, and_true, eq_self, true_or, or_true, bi_01, mx_nl_i, mx_nl_r, mx_nl_n, mx_nl_f, mx_nl_d]
  refine q_tell w.2.2.1 w.2.1 ?_
  intro h1 c1 f1
  have r1 := w.1.ft f1
  simp only [Option.toList_some, Option.toList_none, List.nil_append, List.cons_append, i218_1297, i218_1297f0, i218_1298, i218_1298f0, i218_1299, i218_1300, i218_1301, i218_1302, i218_1302f, x1, x2, x3, x4, x5, i218_1303 (ob_co r1.o), true_and, and_true, eq_self, true_or, or_true, bi_01, mx_nl_i, mx_nl_r, mx_nl_n, mx_nl_f, mx_nl_d]
  refine r_tell r1 w.2.1 ?_
  intro h2 v2 A2 n2
  obtain ⟨a, b⟩ := w.st (o_tell w.2.1) c1 f1 n2
  simp only [Option.toList_some, Option.toList_none, List.nil_append, List.cons_append, i218_1306, if_true, true_and, and_true, eq_self, true_or, or_true, bi_01, mx_nl_i, mx_nl_r, mx_nl_n, mx_nl_f, mx_nl_d]
  exact k h2 v2 A2 a b
theorem w_check (w : LW h v A) (ix : IX X i) (k : KL X d i h Q) : ex_ X (d + 61) 218 1311 [.float 1, .ref 0, .ref 96, .int i] [] h Q := by
  obtain ⟨x1, x2, x3, x4, x5⟩ := ix
  simp only [i218_1311, i218_1311f0, i218_1312, i218_1312f0, i218_1313, i218_1314, i218_1315, i218_1316, i218_1316f, x1, x2, x3, x4, x5, i218_1317 (LW.c0 w.2.2.1), true_and, and_true, eq_self, true_or, or_true, bi_01, mx_nl_i, mx_nl_r, mx_nl_n, mx_nl_f, mx_nl_d]
  refine q_check w.2.2.1 w.2.1 ?_
  intro h1 c1 f1
  have r1 := w.1.ft f1
  simp only [Option.toList_some, Option.toList_none, List.nil_append, List.cons_append, i218_1320, i218_1320f0, i218_1321, i218_1321f0, i218_1322, i218_1323, i218_1324, i218_1325, i218_1325f, x1, x2, x3, x4, x5, i218_1326 (ob_co r1.o), true_and, and_true, eq_self, true_or, or_true, bi_01, mx_nl_i, mx_nl_r, mx_nl_n, mx_nl_f, mx_nl_d]
  refine r_check r1 w.2.1 ?_
  intro h2 v2 A2 n2
  obtain ⟨a, b⟩ := w.st (o_check w.2.1) c1 f1 n2
  simp only [Option.toList_some, Option.toList_none, List.nil_append, List.cons_append, i218_1329, if_true, true_and, and_true, eq_self, true_or, or_true, bi_01, mx_nl_i, mx_nl_r, mx_nl_n, mx_nl_f, mx_nl_d]
  exact k h2 v2 A2 a b
theorem w_count (w : LW h v A) (ix : IX X i) (k : KL X d i h Q) : ex_ X (d + 61) 218 1334 [.float 1, .ref 0, .ref 96, .int i] [] h Q := by
  obtain ⟨x1, x2, x3, x4, x5⟩ := ix
  simp only [i218_1334, i218_1334f0, i218_1335, i218_1335f0, i218_1336, i218_1337, i218_1338, i218_1339, i218_1339f, x1, x2, x3, x4, x5, i218_1340 (LW.c0 w.2.2.1), true_and, and_true, eq_self, true_or, or_true, bi_01, mx_nl_i, mx_nl_r, mx_nl_n, mx_nl_f, mx_nl_d]
  refine q_count w.2.2.1 w.2.1 ?_
  intro h1 c1 f1
  have r1 := w.1.ft f1
  simp only [Option.toList_some, Option.toList_none, List.nil_append, List.cons_append, i218_1343, i218_1343f0, i218_1344, i218_1344f0, i218_1345, i218_1346, i218_1347, i218_1348, i218_1348f, x1, x2, x3, x4, x5, i218_1349 (ob_co r1.o), true_and, and_true, eq_self, true_or, or_true, bi_01, mx_nl_i, mx_nl_r, mx_nl_n, mx_nl_f, mx_nl_d]
  refine r_count r1 w.2.1 ?_
  intro h2 v2 A2 n2
  obtain ⟨a, b⟩ := w.st (o_count w.2.1) c1 f1 n2
  simp only [Option.toList_some, Option.toList_none, List.nil_append, List.cons_append, i218_1352, if_true, true_and, and_true, eq_self, true_or, or_true, bi_01, mx_nl_i, mx_nl_r, mx_nl_n, mx_nl_f, mx_nl_d]
  exact k h2 v2 A2 a b
theorem w_told (w : LW h v A) (ix : IX X i) (k : KL X d i h Q) : ex_ X (d + 61) 218 1357 [.float 1, .ref 0, .ref 96, .int i] [] h Q := by
  obtain ⟨x1, x2, x3, x4, x5⟩ := ix
  simp only [i218_1357, i218_1357f0, i218_1358, i218_1358f0, i218_1359, i218_1360, i218_1361, i218_1362, i218_1362f, x1, x2, x3, x4, x5, i218_1363 (LW.c0 w.2.2.1), true_and, and_true, eq_self, true_or, or_true, bi_01, mx_nl_i, mx_nl_r, mx_nl_n, mx_nl_f, mx_nl_d]
  refine q_told w.2.2.1 w.2.1 ?_
  intro h1 c1 f1
  have r1 := w.1.ft f1
  simp only [Option.toList_some, Option.toList_none, List.nil_append, List.cons_append, i218_1366, i218_1366f0, i218_1367, i218_1367f0, i218_1368, i218_1369, i218_1370, i218_1371, i218_1371f, x1, x2, x3, x4, x5, i218_1372 (ob_co r1.o), true_and, and_true, eq_self, true_or, or_true, bi_01, mx_nl_i, mx_nl_r, mx_nl_n, mx_nl_f, mx_nl_d]
  refine r_told r1 w.2.1 ?_
  intro h2 v2 A2 n2
  obtain ⟨a, b⟩ := w.st (o_told w.2.1) c1 f1 n2
  simp only [Option.toList_some, Option.toList_none, List.nil_append, List.cons_append, i218_1375, if_true, true_and, and_true, eq_self, true_or, or_true, bi_01, mx_nl_i, mx_nl_r, mx_nl_n, mx_nl_f, mx_nl_d]
  exact k h2 v2 A2 a b
end LC
