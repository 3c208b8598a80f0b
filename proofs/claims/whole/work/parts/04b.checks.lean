/-! the tables hold: every link, every call, by its place among the words -/
def mx_okF (r : Nat × Nat × Nat × Nat × List (Nat × Nat)) : Bool := match r with
  | (key, j, rc, p, cs) => cs.all (fun q => match vwCl[q.1]? with
    | none => false
    | some c => decide (j < c.2.2) && decide (lw_tbl[p]? = some (.fieldLink (mx_cn (key / 10000)) (key % 10000) (mx_cn rc) (c.2.1 j).2.1 (c.2.1 j).2.2.1)) && (decide (mx_cn rc = (c.2.1 j).1) || decide (lw_tbl[q.2]? = some (.sameField (mx_cn rc) (c.2.1 j).1 (c.2.1 j).2.1 (c.2.1 j).2.2.1))))
set_option maxRecDepth 100000 in
theorem mx_F_ok : mx_F.all mx_okF = true := by decide +kernel
set_option maxRecDepth 100000 in
theorem mx_KI_ok : mx_KI.all (fun r => decide (lw_tbl[r.2.2]? = some (.constant (mx_cn (r.1 / 10000)) (r.1 % 10000) r.2.1))) = true := by decide +kernel
set_option maxRecDepth 100000 in
theorem mx_KL_ok : mx_KL.all (fun r => decide (lw_tbl[r.2.2]? = some (.constantLong (mx_cn (r.1 / 10000)) (r.1 % 10000) r.2.1))) = true := by decide +kernel
set_option maxRecDepth 100000 in
theorem mx_CL_ok : mx_CL.all (fun r => decide (lw_tbl[r.2.2]? = some (.classLink (mx_cn (r.1 / 10000)) (r.1 % 10000) (mx_cn r.2.1)))) = true := by decide +kernel
set_option maxRecDepth 100000 in
theorem mx_NW_ok : (vwCl.zip mx_NW).all (fun r => decide (lw_tbl[r.2.1]? = some (.instantiable r.1.1 r.1.2.2)) && decide (lw_tbl[r.2.2]? = some (.initialized r.1.1))) = true := by decide +kernel
set_option maxRecDepth 100000 in
theorem mx_W_ok : vwCl.all (fun r => (u_ws r.1 r.2.1 r.2.2).all (fun w => decide (w ∈ lw_tbl) && goodWord w)) = true := by decide +kernel
set_option maxRecDepth 100000 in
theorem mx_D_ok : ((vwCl.zip mx_tyL).zip mx_dfL).all (fun r => (List.range r.1.1.2.2).all (fun j => decide (defaultValue (r.1.2 j) = vp_V r.2 j) && decide (parseFieldDescriptor (r.1.1.2.1 j).2.2.1 = some (r.1.2 j))) && decide (r.2.length = r.1.1.2.2)) = true := by decide +kernel
/-- the words that a call rests on -/
def mx_cw (o idx kd : Nat) (q : MXQ) : List Cond := match mx_M[q.2.1]? with
  | none => [.tt]
  | some e =>
    match kd with
    | 0 => [.methodLink (mx_cn o) idx e.1, .static e.1, .initialized e.1.cls]
    | 1 => [.methodLink (mx_cn o) idx e.1, .instanceMethod e.1, .initialized e.1.cls]
    | 2 => [.instanceMethod e.1, .initialized e.1.cls]
    | 3 => [.methodLink (mx_cn o) idx ⟨mx_cn q.2.2.1, e.1.name, e.1.desc⟩, .sameMethod (mx_cn q.2.2.1) e.1.cls e.1.name e.1.desc, .superclass (mx_cn o) (mx_cn q.2.2.1), .instanceMethod e.1, .initialized e.1.cls] ++ (bif Nat.beq q.2.2.2.1 999 then [] else [.superclass (mx_cn q.2.2.1) e.1.cls])
    | 4 => bif Nat.beq q.2.2.2.1 999 then [.methodLink (mx_cn o) idx e.1, .instanceMethod e.1, .selects (mx_cn q.1) e.1 e.1, .initialized (mx_cn q.1)] else
      match mx_M[q.2.2.2.1]? with
      | none => [.tt]
      | some f => [.methodLink (mx_cn o) idx ⟨mx_cn q.2.2.1, e.1.name, e.1.desc⟩, .sameMethod (mx_cn q.2.2.1) f.1.cls e.1.name e.1.desc, .instanceMethod f.1, .selects (mx_cn q.1) ⟨mx_cn q.2.2.1, e.1.name, e.1.desc⟩ e.1, .instanceMethod e.1, .initialized e.1.cls]
    | 6 => [.methodLink (mx_cn o) idx objectInit, .instanceMethod objectInit, .code objectInit ⟨#[0xb1]⟩ 1 none]
    | 7 => [.methodLink (mx_cn o) idx arraycopyName, .native arraycopyName, .static arraycopyName, .initialized "java/lang/System"]
    | 8 => [.methodLink (mx_cn o) idx Lib.Math.max.name, .static Lib.Math.max.name, .initialized "java/lang/Math", .code Lib.Math.max.name Lib.Math.max.code 2 (some .int)]
    | 9 => [.methodLink (mx_cn o) idx Lib.Math.min.name, .static Lib.Math.min.name, .initialized "java/lang/Math", .code Lib.Math.min.name Lib.Math.min.code 2 (some .int)]
    | _ => [.tt]
/-- what else is to be seen of a call: names, the number of parameters -/
def mx_cx (kd n : Nat) (q : MXQ) : Bool := match mx_M[q.2.1]? with
  | none => false
  | some e => (kd == 6 || kd == 7 || kd == 8 || kd == 9 || decide ((parseMethodDescriptor e.1.desc).map (fun d => d.parameters.length) = some n)) &&
    (match kd with
    | 1 => decide (e.1.name = "<init>") && decide (e.2.2.2.1 = none)
    | 2 => decide (e.1.name = "<init>") && decide (e.2.2.2.1 = none)
    | 3 => decide (e.1.name ≠ "<init>") && (!(Nat.beq q.2.2.2.1 999) || decide (mx_cn q.2.2.1 = e.1.cls))
    | 4 => bif Nat.beq q.2.2.2.1 999 then decide (e.1.cls = mx_cn q.1) else (match mx_M[q.2.2.2.1]? with
      | none => false
      | some f => decide (f.1.name = e.1.name) && decide (f.1.desc = e.1.desc))
    | _ => true)
def mx_okC (o : Nat) (r : Nat × Nat × Nat × List MXQ) : Bool := match r with
  | (idx, kd, n, qs) => qs.all (fun q => decide (q.2.2.2.2.map (fun i => lw_tbl[i]?) = (mx_cw o idx kd q).map some) && (mx_cw o idx kd q).all goodWord && mx_cx kd n q)
theorem mx_all_app {α : Type} {p : α → Bool} {a b : List α} (ha : a.all p = true) (hb : b.all p = true) : (a ++ b).all p = true := by rw [List.all_append, ha, hb]; rfl
theorem mx_all_cons {α : Type} {p : α → Bool} {x : α} {l : List α} (hx : p x = true) (hl : l.all p = true) : (x :: l).all p = true := by rw [List.all_cons, hx, hl]; rfl
/-- of each method: its class -/
def mx_okM (e : MXM) : Bool := plainName e.1.cls && decide (e.1.cls = mx_cn e.2.2.2.2.1) && decide (e.1.cls ≠ "java/lang/invoke/MethodHandle") && decide (e.1.cls ≠ "java/lang/invoke/VarHandle") && decide (e.2.2.1 ≤ 20) && decide (e.2.2.2.2.1 < 21)
set_option maxRecDepth 100000 in
theorem mx_C0_0_ok : mx_C0_0.all (mx_okC 0) = true := by decide +kernel
theorem mx_C0_ok : mx_C0.all (mx_okC 0) = true := mx_C0_0_ok
set_option maxRecDepth 100000 in
theorem mx_C1_0_ok : mx_C1_0.all (mx_okC 1) = true := by decide +kernel
theorem mx_C1_ok : mx_C1.all (mx_okC 1) = true := mx_C1_0_ok
set_option maxRecDepth 100000 in
theorem mx_C2_0_ok : mx_C2_0.all (mx_okC 2) = true := by decide +kernel
theorem mx_C2_ok : mx_C2.all (mx_okC 2) = true := mx_C2_0_ok
set_option maxRecDepth 100000 in
theorem mx_C3_0_ok : mx_C3_0.all (mx_okC 3) = true := by decide +kernel
set_option maxRecDepth 100000 in
theorem mx_C3_1_ok : mx_C3_1.all (mx_okC 3) = true := by decide +kernel
set_option maxRecDepth 100000 in
theorem mx_C3_2_ok : mx_C3_2.all (mx_okC 3) = true := by decide +kernel
theorem mx_C3_ok : mx_C3.all (mx_okC 3) = true := (mx_all_app mx_C3_0_ok (mx_all_app mx_C3_1_ok mx_C3_2_ok))
set_option maxRecDepth 100000 in
theorem mx_C4_0_ok : mx_C4_0.all (mx_okC 4) = true := by decide +kernel
theorem mx_C4_ok : mx_C4.all (mx_okC 4) = true := mx_C4_0_ok
set_option maxRecDepth 100000 in
theorem mx_C5_0_ok : mx_C5_0.all (mx_okC 5) = true := by decide +kernel
theorem mx_C5_ok : mx_C5.all (mx_okC 5) = true := mx_C5_0_ok
set_option maxRecDepth 100000 in
theorem mx_C6_0_ok : mx_C6_0.all (mx_okC 6) = true := by decide +kernel
set_option maxRecDepth 100000 in
theorem mx_C6_1_ok : mx_C6_1.all (mx_okC 6) = true := by decide +kernel
set_option maxRecDepth 100000 in
theorem mx_C6_2_ok : mx_C6_2.all (mx_okC 6) = true := by decide +kernel
theorem mx_C6_ok : mx_C6.all (mx_okC 6) = true := (mx_all_app mx_C6_0_ok (mx_all_app mx_C6_1_ok mx_C6_2_ok))
set_option maxRecDepth 100000 in
theorem mx_C7_0_ok : mx_C7_0.all (mx_okC 7) = true := by decide +kernel
theorem mx_C7_ok : mx_C7.all (mx_okC 7) = true := mx_C7_0_ok
set_option maxRecDepth 100000 in
theorem mx_C8_0_ok : mx_C8_0.all (mx_okC 8) = true := by decide +kernel
theorem mx_C8_ok : mx_C8.all (mx_okC 8) = true := mx_C8_0_ok
set_option maxRecDepth 100000 in
theorem mx_C9_0_ok : mx_C9_0.all (mx_okC 9) = true := by decide +kernel
theorem mx_C9_ok : mx_C9.all (mx_okC 9) = true := mx_C9_0_ok
set_option maxRecDepth 100000 in
theorem mx_C10_0_ok : mx_C10_0.all (mx_okC 10) = true := by decide +kernel
theorem mx_C10_ok : mx_C10.all (mx_okC 10) = true := mx_C10_0_ok
set_option maxRecDepth 100000 in
theorem mx_C11_0_ok : mx_C11_0.all (mx_okC 11) = true := by decide +kernel
set_option maxRecDepth 100000 in
theorem mx_C11_1_ok : mx_C11_1.all (mx_okC 11) = true := by decide +kernel
set_option maxRecDepth 100000 in
theorem mx_C11_2_ok : mx_C11_2.all (mx_okC 11) = true := by decide +kernel
set_option maxRecDepth 100000 in
theorem mx_C11_3_ok : mx_C11_3.all (mx_okC 11) = true := by decide +kernel
set_option maxRecDepth 100000 in
theorem mx_C11_4_ok : mx_C11_4.all (mx_okC 11) = true := by decide +kernel
set_option maxRecDepth 100000 in
theorem mx_C11_5_ok : mx_C11_5.all (mx_okC 11) = true := by decide +kernel
set_option maxRecDepth 100000 in
theorem mx_C11_6_ok : mx_C11_6.all (mx_okC 11) = true := by decide +kernel
set_option maxRecDepth 100000 in
theorem mx_C11_7_ok : mx_C11_7.all (mx_okC 11) = true := by decide +kernel
theorem mx_C11_ok : mx_C11.all (mx_okC 11) = true := (mx_all_app mx_C11_0_ok (mx_all_app mx_C11_1_ok (mx_all_app mx_C11_2_ok (mx_all_app mx_C11_3_ok (mx_all_app mx_C11_4_ok (mx_all_app mx_C11_5_ok (mx_all_app mx_C11_6_ok mx_C11_7_ok)))))))
set_option maxRecDepth 100000 in
theorem mx_C12_0_ok : mx_C12_0.all (mx_okC 12) = true := by decide +kernel
set_option maxRecDepth 100000 in
theorem mx_C12_1_ok : mx_C12_1.all (mx_okC 12) = true := by decide +kernel
set_option maxRecDepth 100000 in
theorem mx_C12_2_ok : mx_C12_2.all (mx_okC 12) = true := by decide +kernel
set_option maxRecDepth 100000 in
theorem mx_C12_3_ok : mx_C12_3.all (mx_okC 12) = true := by decide +kernel
set_option maxRecDepth 100000 in
theorem mx_C12_4_ok : mx_C12_4.all (mx_okC 12) = true := by decide +kernel
theorem mx_C12_ok : mx_C12.all (mx_okC 12) = true := (mx_all_app mx_C12_0_ok (mx_all_app mx_C12_1_ok (mx_all_app mx_C12_2_ok (mx_all_app mx_C12_3_ok mx_C12_4_ok))))
set_option maxRecDepth 100000 in
theorem mx_C15_0_ok : mx_C15_0.all (mx_okC 15) = true := by decide +kernel
theorem mx_C15_ok : mx_C15.all (mx_okC 15) = true := mx_C15_0_ok
set_option maxRecDepth 100000 in
theorem mx_C16_0_ok : mx_C16_0.all (mx_okC 16) = true := by decide +kernel
theorem mx_C16_ok : mx_C16.all (mx_okC 16) = true := mx_C16_0_ok
set_option maxRecDepth 100000 in
theorem mx_C21_0_ok : mx_C21_0.all (mx_okC 21) = true := by decide +kernel
set_option maxRecDepth 100000 in
theorem mx_C21_1_ok : mx_C21_1.all (mx_okC 21) = true := by decide +kernel
set_option maxRecDepth 100000 in
theorem mx_C21_2_ok : mx_C21_2.all (mx_okC 21) = true := by decide +kernel
set_option maxRecDepth 100000 in
theorem mx_C21_3_ok : mx_C21_3.all (mx_okC 21) = true := by decide +kernel
set_option maxRecDepth 100000 in
theorem mx_C21_4_ok : mx_C21_4.all (mx_okC 21) = true := by decide +kernel
set_option maxRecDepth 100000 in
theorem mx_C21_5_ok : mx_C21_5.all (mx_okC 21) = true := by decide +kernel
set_option maxRecDepth 100000 in
theorem mx_C21_6_ok : mx_C21_6.all (mx_okC 21) = true := by decide +kernel
theorem mx_C21_ok : mx_C21.all (mx_okC 21) = true := (mx_all_app mx_C21_0_ok (mx_all_app mx_C21_1_ok (mx_all_app mx_C21_2_ok (mx_all_app mx_C21_3_ok (mx_all_app mx_C21_4_ok (mx_all_app mx_C21_5_ok mx_C21_6_ok))))))
theorem mx_CT_ok : mx_CT.all (fun c => c.2.all (mx_okC c.1)) = true := (mx_all_cons mx_C0_ok (mx_all_cons mx_C1_ok (mx_all_cons mx_C2_ok (mx_all_cons mx_C3_ok (mx_all_cons mx_C4_ok (mx_all_cons mx_C5_ok (mx_all_cons mx_C6_ok (mx_all_cons mx_C7_ok (mx_all_cons mx_C8_ok (mx_all_cons mx_C9_ok (mx_all_cons mx_C10_ok (mx_all_cons mx_C11_ok (mx_all_cons mx_C12_ok (mx_all_cons mx_C15_ok (mx_all_cons mx_C16_ok (mx_all_cons mx_C21_ok rfl))))))))))))))))
set_option maxRecDepth 100000 in
theorem mcw0 : lw_tbl[266]? = some (.code me0.1 me0.2.1 me0.2.2.1 me0.2.2.2.1) := by rfl
theorem mok0 : mx_okM me0 = true := by decide +kernel
set_option maxRecDepth 100000 in
theorem mcw1 : lw_tbl[399]? = some (.code me1.1 me1.2.1 me1.2.2.1 me1.2.2.2.1) := by rfl
theorem mok1 : mx_okM me1 = true := by decide +kernel
set_option maxRecDepth 100000 in
theorem mcw2 : lw_tbl[852]? = some (.code me2.1 me2.2.1 me2.2.2.1 me2.2.2.2.1) := by rfl
theorem mok2 : mx_okM me2 = true := by decide +kernel
set_option maxRecDepth 100000 in
theorem mcw3 : lw_tbl[336]? = some (.code me3.1 me3.2.1 me3.2.2.1 me3.2.2.2.1) := by rfl
theorem mok3 : mx_okM me3 = true := by decide +kernel
set_option maxRecDepth 100000 in
theorem mcw4 : lw_tbl[402]? = some (.code me4.1 me4.2.1 me4.2.2.1 me4.2.2.2.1) := by rfl
theorem mok4 : mx_okM me4 = true := by decide +kernel
set_option maxRecDepth 100000 in
theorem mcw5 : lw_tbl[890]? = some (.code me5.1 me5.2.1 me5.2.2.1 me5.2.2.2.1) := by rfl
theorem mok5 : mx_okM me5 = true := by decide +kernel
set_option maxRecDepth 100000 in
theorem mcw6 : lw_tbl[324]? = some (.code me6.1 me6.2.1 me6.2.2.1 me6.2.2.2.1) := by rfl
theorem mok6 : mx_okM me6 = true := by decide +kernel
set_option maxRecDepth 100000 in
theorem mcw7 : lw_tbl[406]? = some (.code me7.1 me7.2.1 me7.2.2.1 me7.2.2.2.1) := by rfl
theorem mok7 : mx_okM me7 = true := by decide +kernel
set_option maxRecDepth 100000 in
theorem mcw8 : lw_tbl[875]? = some (.code me8.1 me8.2.1 me8.2.2.1 me8.2.2.2.1) := by rfl
theorem mok8 : mx_okM me8 = true := by decide +kernel
set_option maxRecDepth 100000 in
theorem mcw9 : lw_tbl[834]? = some (.code me9.1 me9.2.1 me9.2.2.1 me9.2.2.2.1) := by rfl
theorem mok9 : mx_okM me9 = true := by decide +kernel
set_option maxRecDepth 100000 in
theorem mcw10 : lw_tbl[82]? = some (.code me10.1 me10.2.1 me10.2.2.1 me10.2.2.2.1) := by rfl
theorem mok10 : mx_okM me10 = true := by decide +kernel
set_option maxRecDepth 100000 in
theorem mcw11 : lw_tbl[750]? = some (.code me11.1 me11.2.1 me11.2.2.1 me11.2.2.2.1) := by rfl
theorem mok11 : mx_okM me11 = true := by decide +kernel
set_option maxRecDepth 100000 in
theorem mcw12 : lw_tbl[380]? = some (.code me12.1 me12.2.1 me12.2.2.1 me12.2.2.2.1) := by rfl
theorem mok12 : mx_okM me12 = true := by decide +kernel
set_option maxRecDepth 100000 in
theorem mcw13 : lw_tbl[493]? = some (.code me13.1 me13.2.1 me13.2.2.1 me13.2.2.2.1) := by rfl
theorem mok13 : mx_okM me13 = true := by decide +kernel
set_option maxRecDepth 100000 in
theorem mcw14 : lw_tbl[392]? = some (.code me14.1 me14.2.1 me14.2.2.1 me14.2.2.2.1) := by rfl
theorem mok14 : mx_okM me14 = true := by decide +kernel
set_option maxRecDepth 100000 in
theorem mcw15 : lw_tbl[505]? = some (.code me15.1 me15.2.1 me15.2.2.1 me15.2.2.2.1) := by rfl
theorem mok15 : mx_okM me15 = true := by decide +kernel
set_option maxRecDepth 100000 in
theorem mcw16 : lw_tbl[457]? = some (.code me16.1 me16.2.1 me16.2.2.1 me16.2.2.2.1) := by rfl
theorem mok16 : mx_okM me16 = true := by decide +kernel
set_option maxRecDepth 100000 in
theorem mcw17 : lw_tbl[453]? = some (.code me17.1 me17.2.1 me17.2.2.1 me17.2.2.2.1) := by rfl
theorem mok17 : mx_okM me17 = true := by decide +kernel
set_option maxRecDepth 100000 in
theorem mcw18 : lw_tbl[438]? = some (.code me18.1 me18.2.1 me18.2.2.1 me18.2.2.2.1) := by rfl
theorem mok18 : mx_okM me18 = true := by decide +kernel
set_option maxRecDepth 100000 in
theorem mcw19 : lw_tbl[809]? = some (.code me19.1 me19.2.1 me19.2.2.1 me19.2.2.2.1) := by rfl
theorem mok19 : mx_okM me19 = true := by decide +kernel
set_option maxRecDepth 100000 in
theorem mcw20 : lw_tbl[712]? = some (.code me20.1 me20.2.1 me20.2.2.1 me20.2.2.2.1) := by rfl
theorem mok20 : mx_okM me20 = true := by decide +kernel
set_option maxRecDepth 100000 in
theorem mcw21 : lw_tbl[716]? = some (.code me21.1 me21.2.1 me21.2.2.1 me21.2.2.2.1) := by rfl
theorem mok21 : mx_okM me21 = true := by decide +kernel
set_option maxRecDepth 100000 in
theorem mcw22 : lw_tbl[725]? = some (.code me22.1 me22.2.1 me22.2.2.1 me22.2.2.2.1) := by rfl
theorem mok22 : mx_okM me22 = true := by decide +kernel
set_option maxRecDepth 100000 in
theorem mcw23 : lw_tbl[729]? = some (.code me23.1 me23.2.1 me23.2.2.1 me23.2.2.2.1) := by rfl
theorem mok23 : mx_okM me23 = true := by decide +kernel
set_option maxRecDepth 100000 in
theorem mcw24 : lw_tbl[817]? = some (.code me24.1 me24.2.1 me24.2.2.1 me24.2.2.2.1) := by rfl
theorem mok24 : mx_okM me24 = true := by decide +kernel
set_option maxRecDepth 100000 in
theorem mcw25 : lw_tbl[765]? = some (.code me25.1 me25.2.1 me25.2.2.1 me25.2.2.2.1) := by rfl
theorem mok25 : mx_okM me25 = true := by decide +kernel
set_option maxRecDepth 100000 in
theorem mcw26 : lw_tbl[978]? = some (.code me26.1 me26.2.1 me26.2.2.1 me26.2.2.2.1) := by rfl
theorem mok26 : mx_okM me26 = true := by decide +kernel
set_option maxRecDepth 100000 in
theorem mcw27 : lw_tbl[773]? = some (.code me27.1 me27.2.1 me27.2.2.1 me27.2.2.2.1) := by rfl
theorem mok27 : mx_okM me27 = true := by decide +kernel
set_option maxRecDepth 100000 in
theorem mcw28 : lw_tbl[430]? = some (.code me28.1 me28.2.1 me28.2.2.1 me28.2.2.2.1) := by rfl
theorem mok28 : mx_okM me28 = true := by decide +kernel
set_option maxRecDepth 100000 in
theorem mcw29 : lw_tbl[719]? = some (.code me29.1 me29.2.1 me29.2.2.1 me29.2.2.2.1) := by rfl
theorem mok29 : mx_okM me29 = true := by decide +kernel
set_option maxRecDepth 100000 in
theorem mcw30 : lw_tbl[360]? = some (.code me30.1 me30.2.1 me30.2.2.1 me30.2.2.2.1) := by rfl
theorem mok30 : mx_okM me30 = true := by decide +kernel
set_option maxRecDepth 100000 in
theorem mcw31 : lw_tbl[413]? = some (.code me31.1 me31.2.1 me31.2.2.1 me31.2.2.2.1) := by rfl
theorem mok31 : mx_okM me31 = true := by decide +kernel
set_option maxRecDepth 100000 in
theorem mcw32 : lw_tbl[417]? = some (.code me32.1 me32.2.1 me32.2.2.1 me32.2.2.2.1) := by rfl
theorem mok32 : mx_okM me32 = true := by decide +kernel
set_option maxRecDepth 100000 in
theorem mcw33 : lw_tbl[866]? = some (.code me33.1 me33.2.1 me33.2.2.1 me33.2.2.2.1) := by rfl
theorem mok33 : mx_okM me33 = true := by decide +kernel
set_option maxRecDepth 100000 in
theorem mcw34 : lw_tbl[901]? = some (.code me34.1 me34.2.1 me34.2.2.1 me34.2.2.2.1) := by rfl
theorem mok34 : mx_okM me34 = true := by decide +kernel
set_option maxRecDepth 100000 in
theorem mcw35 : lw_tbl[161]? = some (.code me35.1 me35.2.1 me35.2.2.1 me35.2.2.2.1) := by rfl
theorem mok35 : mx_okM me35 = true := by decide +kernel
set_option maxRecDepth 100000 in
theorem mcw36 : lw_tbl[531]? = some (.code me36.1 me36.2.1 me36.2.2.1 me36.2.2.2.1) := by rfl
theorem mok36 : mx_okM me36 = true := by decide +kernel
set_option maxRecDepth 100000 in
theorem mcw37 : lw_tbl[699]? = some (.code me37.1 me37.2.1 me37.2.2.1 me37.2.2.2.1) := by rfl
theorem mok37 : mx_okM me37 = true := by decide +kernel
set_option maxRecDepth 100000 in
theorem mcw38 : lw_tbl[970]? = some (.code me38.1 me38.2.1 me38.2.2.1 me38.2.2.2.1) := by rfl
theorem mok38 : mx_okM me38 = true := by decide +kernel
set_option maxRecDepth 100000 in
theorem mcw39 : lw_tbl[952]? = some (.code me39.1 me39.2.1 me39.2.2.1 me39.2.2.2.1) := by rfl
theorem mok39 : mx_okM me39 = true := by decide +kernel
set_option maxRecDepth 100000 in
theorem mcw40 : lw_tbl[269]? = some (.code me40.1 me40.2.1 me40.2.2.1 me40.2.2.2.1) := by rfl
theorem mok40 : mx_okM me40 = true := by decide +kernel
set_option maxRecDepth 100000 in
theorem mcw41 : lw_tbl[427]? = some (.code me41.1 me41.2.1 me41.2.2.1 me41.2.2.2.1) := by rfl
theorem mok41 : mx_okM me41 = true := by decide +kernel
set_option maxRecDepth 100000 in
theorem mcw42 : lw_tbl[449]? = some (.code me42.1 me42.2.1 me42.2.2.1 me42.2.2.2.1) := by rfl
theorem mok42 : mx_okM me42 = true := by decide +kernel
set_option maxRecDepth 100000 in
theorem mcw43 : lw_tbl[844]? = some (.code me43.1 me43.2.1 me43.2.2.1 me43.2.2.2.1) := by rfl
theorem mok43 : mx_okM me43 = true := by decide +kernel
set_option maxRecDepth 100000 in
theorem mcw44 : lw_tbl[871]? = some (.code me44.1 me44.2.1 me44.2.2.1 me44.2.2.2.1) := by rfl
theorem mok44 : mx_okM me44 = true := by decide +kernel
set_option maxRecDepth 100000 in
theorem mcw45 : lw_tbl[861]? = some (.code me45.1 me45.2.1 me45.2.2.1 me45.2.2.2.1) := by rfl
theorem mok45 : mx_okM me45 = true := by decide +kernel
set_option maxRecDepth 100000 in
theorem mcw46 : lw_tbl[908]? = some (.code me46.1 me46.2.1 me46.2.2.1 me46.2.2.2.1) := by rfl
theorem mok46 : mx_okM me46 = true := by decide +kernel
set_option maxRecDepth 100000 in
theorem mcw47 : lw_tbl[180]? = some (.code me47.1 me47.2.1 me47.2.2.1 me47.2.2.2.1) := by rfl
theorem mok47 : mx_okM me47 = true := by decide +kernel
set_option maxRecDepth 100000 in
theorem mcw48 : lw_tbl[516]? = some (.code me48.1 me48.2.1 me48.2.2.1 me48.2.2.2.1) := by rfl
theorem mok48 : mx_okM me48 = true := by decide +kernel
set_option maxRecDepth 100000 in
theorem mcw49 : lw_tbl[925]? = some (.code me49.1 me49.2.1 me49.2.2.1 me49.2.2.2.1) := by rfl
theorem mok49 : mx_okM me49 = true := by decide +kernel
set_option maxRecDepth 100000 in
theorem mcw50 : lw_tbl[936]? = some (.code me50.1 me50.2.1 me50.2.2.1 me50.2.2.2.1) := by rfl
theorem mok50 : mx_okM me50 = true := by decide +kernel
set_option maxRecDepth 100000 in
theorem mcw51 : lw_tbl[944]? = some (.code me51.1 me51.2.1 me51.2.2.1 me51.2.2.2.1) := by rfl
theorem mok51 : mx_okM me51 = true := by decide +kernel
set_option maxRecDepth 100000 in
theorem mcw52 : lw_tbl[312]? = some (.code me52.1 me52.2.1 me52.2.2.1 me52.2.2.2.1) := by rfl
theorem mok52 : mx_okM me52 = true := by decide +kernel
set_option maxRecDepth 100000 in
theorem mcw53 : lw_tbl[409]? = some (.code me53.1 me53.2.1 me53.2.2.1 me53.2.2.2.1) := by rfl
theorem mok53 : mx_okM me53 = true := by decide +kernel
set_option maxRecDepth 100000 in
theorem mcw54 : lw_tbl[838]? = some (.code me54.1 me54.2.1 me54.2.2.1 me54.2.2.2.1) := by rfl
theorem mok54 : mx_okM me54 = true := by decide +kernel
set_option maxRecDepth 100000 in
theorem mcw55 : lw_tbl[348]? = some (.code me55.1 me55.2.1 me55.2.2.1 me55.2.2.2.1) := by rfl
theorem mok55 : mx_okM me55 = true := by decide +kernel
set_option maxRecDepth 100000 in
theorem mcw56 : lw_tbl[422]? = some (.code me56.1 me56.2.1 me56.2.2.1 me56.2.2.2.1) := by rfl
theorem mok56 : mx_okM me56 = true := by decide +kernel
set_option maxRecDepth 100000 in
theorem mcw57 : lw_tbl[879]? = some (.code me57.1 me57.2.1 me57.2.2.1 me57.2.2.2.1) := by rfl
theorem mok57 : mx_okM me57 = true := by decide +kernel
set_option maxRecDepth 100000 in
theorem mcw58 : lw_tbl[543]? = some (.code me58.1 me58.2.1 me58.2.2.1 me58.2.2.2.1) := by rfl
theorem mok58 : mx_okM me58 = true := by decide +kernel
set_option maxRecDepth 100000 in
theorem mcw59 : lw_tbl[583]? = some (.code me59.1 me59.2.1 me59.2.2.1 me59.2.2.2.1) := by rfl
theorem mok59 : mx_okM me59 = true := by decide +kernel
set_option maxRecDepth 100000 in
theorem mcw60 : lw_tbl[461]? = some (.code me60.1 me60.2.1 me60.2.2.1 me60.2.2.2.1) := by rfl
theorem mok60 : mx_okM me60 = true := by decide +kernel
set_option maxRecDepth 100000 in
theorem mcw61 : lw_tbl[595]? = some (.code me61.1 me61.2.1 me61.2.2.1 me61.2.2.2.1) := by rfl
theorem mok61 : mx_okM me61 = true := by decide +kernel
set_option maxRecDepth 100000 in
theorem mcw62 : lw_tbl[606]? = some (.code me62.1 me62.2.1 me62.2.2.1 me62.2.2.2.1) := by rfl
theorem mok62 : mx_okM me62 = true := by decide +kernel
set_option maxRecDepth 100000 in
theorem mcw63 : lw_tbl[695]? = some (.code me63.1 me63.2.1 me63.2.2.1 me63.2.2.2.1) := by rfl
theorem mok63 : mx_okM me63 = true := by decide +kernel
set_option maxRecDepth 100000 in
theorem mcw64 : lw_tbl[603]? = some (.code me64.1 me64.2.1 me64.2.2.1 me64.2.2.2.1) := by rfl
theorem mok64 : mx_okM me64 = true := by decide +kernel
set_option maxRecDepth 100000 in
theorem mcw65 : lw_tbl[587]? = some (.code me65.1 me65.2.1 me65.2.2.1 me65.2.2.2.1) := by rfl
theorem mok65 : mx_okM me65 = true := by decide +kernel
set_option maxRecDepth 100000 in
theorem mcw66 : lw_tbl[591]? = some (.code me66.1 me66.2.1 me66.2.2.1 me66.2.2.2.1) := by rfl
theorem mok66 : mx_okM me66 = true := by decide +kernel
set_option maxRecDepth 100000 in
theorem mcw67 : lw_tbl[599]? = some (.code me67.1 me67.2.1 me67.2.2.1 me67.2.2.2.1) := by rfl
theorem mok67 : mx_okM me67 = true := by decide +kernel
set_option maxRecDepth 100000 in
theorem mcw68 : lw_tbl[610]? = some (.code me68.1 me68.2.1 me68.2.2.1 me68.2.2.2.1) := by rfl
theorem mok68 : mx_okM me68 = true := by decide +kernel
set_option maxRecDepth 100000 in
theorem mcw69 : lw_tbl[74]? = some (.code me69.1 me69.2.1 me69.2.2.1 me69.2.2.2.1) := by rfl
theorem mok69 : mx_okM me69 = true := by decide +kernel
set_option maxRecDepth 100000 in
theorem mcw70 : lw_tbl[250]? = some (.code me70.1 me70.2.1 me70.2.2.1 me70.2.2.2.1) := by rfl
theorem mok70 : mx_okM me70 = true := by decide +kernel
set_option maxRecDepth 100000 in
theorem mcw71 : lw_tbl[384]? = some (.code me71.1 me71.2.1 me71.2.2.1 me71.2.2.2.1) := by rfl
theorem mok71 : mx_okM me71 = true := by decide +kernel
set_option maxRecDepth 100000 in
theorem mcw72 : lw_tbl[465]? = some (.code me72.1 me72.2.1 me72.2.2.1 me72.2.2.2.1) := by rfl
theorem mok72 : mx_okM me72 = true := by decide +kernel
set_option maxRecDepth 100000 in
theorem mcw73 : lw_tbl[474]? = some (.code me73.1 me73.2.1 me73.2.2.1 me73.2.2.2.1) := by rfl
theorem mok73 : mx_okM me73 = true := by decide +kernel
set_option maxRecDepth 100000 in
theorem mcw74 : lw_tbl[481]? = some (.code me74.1 me74.2.1 me74.2.2.1 me74.2.2.2.1) := by rfl
theorem mok74 : mx_okM me74 = true := by decide +kernel
set_option maxRecDepth 100000 in
theorem mcw75 : lw_tbl[486]? = some (.code me75.1 me75.2.1 me75.2.2.1 me75.2.2.2.1) := by rfl
theorem mok75 : mx_okM me75 = true := by decide +kernel
set_option maxRecDepth 100000 in
theorem mcw76 : lw_tbl[497]? = some (.code me76.1 me76.2.1 me76.2.2.1 me76.2.2.2.1) := by rfl
theorem mok76 : mx_okM me76 = true := by decide +kernel
set_option maxRecDepth 100000 in
theorem mcw77 : lw_tbl[509]? = some (.code me77.1 me77.2.1 me77.2.2.1 me77.2.2.2.1) := by rfl
theorem mok77 : mx_okM me77 = true := by decide +kernel
set_option maxRecDepth 100000 in
theorem mcw78 : lw_tbl[520]? = some (.code me78.1 me78.2.1 me78.2.2.1 me78.2.2.2.1) := by rfl
theorem mok78 : mx_okM me78 = true := by decide +kernel
set_option maxRecDepth 100000 in
theorem mcw79 : lw_tbl[527]? = some (.code me79.1 me79.2.1 me79.2.2.1 me79.2.2.2.1) := by rfl
theorem mok79 : mx_okM me79 = true := by decide +kernel
set_option maxRecDepth 100000 in
theorem mcw80 : lw_tbl[535]? = some (.code me80.1 me80.2.1 me80.2.2.1 me80.2.2.2.1) := by rfl
theorem mok80 : mx_okM me80 = true := by decide +kernel
set_option maxRecDepth 100000 in
theorem mcw81 : lw_tbl[703]? = some (.code me81.1 me81.2.1 me81.2.2.1 me81.2.2.2.1) := by rfl
theorem mok81 : mx_okM me81 = true := by decide +kernel
set_option maxRecDepth 100000 in
theorem mcw82 : lw_tbl[708]? = some (.code me82.1 me82.2.1 me82.2.2.1 me82.2.2.2.1) := by rfl
theorem mok82 : mx_okM me82 = true := by decide +kernel
set_option maxRecDepth 100000 in
theorem mcw83 : lw_tbl[734]? = some (.code me83.1 me83.2.1 me83.2.2.1 me83.2.2.2.1) := by rfl
theorem mok83 : mx_okM me83 = true := by decide +kernel
set_option maxRecDepth 100000 in
theorem mcw84 : lw_tbl[739]? = some (.code me84.1 me84.2.1 me84.2.2.1 me84.2.2.2.1) := by rfl
theorem mok84 : mx_okM me84 = true := by decide +kernel
set_option maxRecDepth 100000 in
theorem mcw85 : lw_tbl[757]? = some (.code me85.1 me85.2.1 me85.2.2.1 me85.2.2.2.1) := by rfl
theorem mok85 : mx_okM me85 = true := by decide +kernel
set_option maxRecDepth 100000 in
theorem mcw86 : lw_tbl[761]? = some (.code me86.1 me86.2.1 me86.2.2.1 me86.2.2.2.1) := by rfl
theorem mok86 : mx_okM me86 = true := by decide +kernel
set_option maxRecDepth 100000 in
theorem mcw87 : lw_tbl[769]? = some (.code me87.1 me87.2.1 me87.2.2.1 me87.2.2.2.1) := by rfl
theorem mok87 : mx_okM me87 = true := by decide +kernel
set_option maxRecDepth 100000 in
theorem mcw88 : lw_tbl[777]? = some (.code me88.1 me88.2.1 me88.2.2.1 me88.2.2.2.1) := by rfl
theorem mok88 : mx_okM me88 = true := by decide +kernel
set_option maxRecDepth 100000 in
theorem mcw89 : lw_tbl[786]? = some (.code me89.1 me89.2.1 me89.2.2.1 me89.2.2.2.1) := by rfl
theorem mok89 : mx_okM me89 = true := by decide +kernel
set_option maxRecDepth 100000 in
theorem mcw90 : lw_tbl[790]? = some (.code me90.1 me90.2.1 me90.2.2.1 me90.2.2.2.1) := by rfl
theorem mok90 : mx_okM me90 = true := by decide +kernel
set_option maxRecDepth 100000 in
theorem mcw91 : lw_tbl[794]? = some (.code me91.1 me91.2.1 me91.2.2.1 me91.2.2.2.1) := by rfl
theorem mok91 : mx_okM me91 = true := by decide +kernel
set_option maxRecDepth 100000 in
theorem mcw92 : lw_tbl[798]? = some (.code me92.1 me92.2.1 me92.2.2.1 me92.2.2.2.1) := by rfl
theorem mok92 : mx_okM me92 = true := by decide +kernel
set_option maxRecDepth 100000 in
theorem mcw93 : lw_tbl[813]? = some (.code me93.1 me93.2.1 me93.2.2.1 me93.2.2.2.1) := by rfl
theorem mok93 : mx_okM me93 = true := by decide +kernel
set_option maxRecDepth 100000 in
theorem mcw94 : lw_tbl[821]? = some (.code me94.1 me94.2.1 me94.2.2.1 me94.2.2.2.1) := by rfl
theorem mok94 : mx_okM me94 = true := by decide +kernel
set_option maxRecDepth 100000 in
theorem mcw95 : lw_tbl[825]? = some (.code me95.1 me95.2.1 me95.2.2.1 me95.2.2.2.1) := by rfl
theorem mok95 : mx_okM me95 = true := by decide +kernel
set_option maxRecDepth 100000 in
theorem mcw96 : lw_tbl[914]? = some (.code me96.1 me96.2.1 me96.2.2.1 me96.2.2.2.1) := by rfl
theorem mok96 : mx_okM me96 = true := by decide +kernel
set_option maxRecDepth 100000 in
theorem mcw97 : lw_tbl[918]? = some (.code me97.1 me97.2.1 me97.2.2.1 me97.2.2.2.1) := by rfl
theorem mok97 : mx_okM me97 = true := by decide +kernel
set_option maxRecDepth 100000 in
theorem mcw98 : lw_tbl[932]? = some (.code me98.1 me98.2.1 me98.2.2.1 me98.2.2.2.1) := by rfl
theorem mok98 : mx_okM me98 = true := by decide +kernel
set_option maxRecDepth 100000 in
theorem mcw99 : lw_tbl[940]? = some (.code me99.1 me99.2.1 me99.2.2.1 me99.2.2.2.1) := by rfl
theorem mok99 : mx_okM me99 = true := by decide +kernel
set_option maxRecDepth 100000 in
theorem mcw100 : lw_tbl[948]? = some (.code me100.1 me100.2.1 me100.2.2.1 me100.2.2.2.1) := by rfl
theorem mok100 : mx_okM me100 = true := by decide +kernel
set_option maxRecDepth 100000 in
theorem mcw101 : lw_tbl[958]? = some (.code me101.1 me101.2.1 me101.2.2.1 me101.2.2.2.1) := by rfl
theorem mok101 : mx_okM me101 = true := by decide +kernel
set_option maxRecDepth 100000 in
theorem mcw102 : lw_tbl[962]? = some (.code me102.1 me102.2.1 me102.2.2.1 me102.2.2.2.1) := by rfl
theorem mok102 : mx_okM me102 = true := by decide +kernel
set_option maxRecDepth 100000 in
theorem mcw103 : lw_tbl[966]? = some (.code me103.1 me103.2.1 me103.2.2.1 me103.2.2.2.1) := by rfl
theorem mok103 : mx_okM me103 = true := by decide +kernel
set_option maxRecDepth 100000 in
theorem mcw104 : lw_tbl[974]? = some (.code me104.1 me104.2.1 me104.2.2.1 me104.2.2.2.1) := by rfl
theorem mok104 : mx_okM me104 = true := by decide +kernel
set_option maxRecDepth 100000 in
theorem mcw105 : lw_tbl[982]? = some (.code me105.1 me105.2.1 me105.2.2.1 me105.2.2.2.1) := by rfl
theorem mok105 : mx_okM me105 = true := by decide +kernel
set_option maxRecDepth 100000 in
theorem mcw106 : lw_tbl[257]? = some (.code me106.1 me106.2.1 me106.2.2.1 me106.2.2.2.1) := by rfl
theorem mok106 : mx_okM me106 = true := by decide +kernel
set_option maxRecDepth 100000 in
theorem mcw107 : lw_tbl[253]? = some (.code me107.1 me107.2.1 me107.2.2.1 me107.2.2.2.1) := by rfl
theorem mok107 : mx_okM me107 = true := by decide +kernel
set_option maxRecDepth 100000 in
theorem mcw108 : lw_tbl[388]? = some (.code me108.1 me108.2.1 me108.2.2.1 me108.2.2.2.1) := by rfl
theorem mok108 : mx_okM me108 = true := by decide +kernel
set_option maxRecDepth 100000 in
theorem mcw109 : lw_tbl[501]? = some (.code me109.1 me109.2.1 me109.2.2.1 me109.2.2.2.1) := by rfl
theorem mok109 : mx_okM me109 = true := by decide +kernel
set_option maxRecDepth 100000 in
theorem mcw110 : lw_tbl[512]? = some (.code me110.1 me110.2.1 me110.2.2.1 me110.2.2.2.1) := by rfl
theorem mok110 : mx_okM me110 = true := by decide +kernel
set_option maxRecDepth 100000 in
theorem mcw111 : lw_tbl[538]? = some (.code me111.1 me111.2.1 me111.2.2.1 me111.2.2.2.1) := by rfl
theorem mok111 : mx_okM me111 = true := by decide +kernel
set_option maxRecDepth 100000 in
theorem mcw112 : lw_tbl[742]? = some (.code me112.1 me112.2.1 me112.2.2.1 me112.2.2.2.1) := by rfl
theorem mok112 : mx_okM me112 = true := by decide +kernel
set_option maxRecDepth 100000 in
theorem mcw113 : lw_tbl[921]? = some (.code me113.1 me113.2.1 me113.2.2.1 me113.2.2.2.1) := by rfl
theorem mok113 : mx_okM me113 = true := by decide +kernel
set_option maxRecDepth 100000 in
theorem mcw114 : lw_tbl[489]? = some (.code me114.1 me114.2.1 me114.2.2.1 me114.2.2.2.1) := by rfl
theorem mok114 : mx_okM me114 = true := by decide +kernel
set_option maxRecDepth 100000 in
theorem mcw115 : lw_tbl[468]? = some (.code me115.1 me115.2.1 me115.2.2.1 me115.2.2.2.1) := by rfl
theorem mok115 : mx_okM me115 = true := by decide +kernel
set_option maxRecDepth 100000 in
theorem mcw116 : lw_tbl[523]? = some (.code me116.1 me116.2.1 me116.2.2.1 me116.2.2.2.1) := by rfl
theorem mok116 : mx_okM me116 = true := by decide +kernel
set_option maxRecDepth 100000 in
theorem mcw117 : lw_tbl[261]? = some (.code me117.1 me117.2.1 me117.2.2.1 me117.2.2.2.1) := by rfl
theorem mok117 : mx_okM me117 = true := by decide +kernel
set_option maxRecDepth 100000 in
theorem mcw118 : lw_tbl[477]? = some (.code me118.1 me118.2.1 me118.2.2.1 me118.2.2.2.1) := by rfl
theorem mok118 : mx_okM me118 = true := by decide +kernel
set_option maxRecDepth 100000 in
theorem mcw119 : lw_tbl[746]? = some (.code me119.1 me119.2.1 me119.2.2.1 me119.2.2.2.1) := by rfl
theorem mok119 : mx_okM me119 = true := by decide +kernel
set_option maxRecDepth 100000 in
theorem mcw120 : lw_tbl[782]? = some (.code me120.1 me120.2.1 me120.2.2.1 me120.2.2.2.1) := by rfl
theorem mok120 : mx_okM me120 = true := by decide +kernel
set_option maxRecDepth 100000 in
theorem mcw121 : lw_tbl[802]? = some (.code me121.1 me121.2.1 me121.2.2.1 me121.2.2.2.1) := by rfl
theorem mok121 : mx_okM me121 = true := by decide +kernel
set_option maxRecDepth 100000 in
theorem mcw122 : lw_tbl[987]? = some (.code me122.1 me122.2.1 me122.2.2.1 me122.2.2.2.1) := by rfl
theorem mok122 : mx_okM me122 = true := by decide +kernel
set_option maxRecDepth 100000 in
theorem mcw123 : lw_tbl[1074]? = some (.code me123.1 me123.2.1 me123.2.2.1 me123.2.2.2.1) := by rfl
theorem mok123 : mx_okM me123 = true := by decide +kernel
set_option maxRecDepth 100000 in
theorem mcw124 : lw_tbl[1070]? = some (.code me124.1 me124.2.1 me124.2.2.1 me124.2.2.2.1) := by rfl
theorem mok124 : mx_okM me124 = true := by decide +kernel
set_option maxRecDepth 100000 in
theorem mcw125 : lw_tbl[1173]? = some (.code me125.1 me125.2.1 me125.2.2.1 me125.2.2.2.1) := by rfl
theorem mok125 : mx_okM me125 = true := by decide +kernel
set_option maxRecDepth 100000 in
theorem mcw126 : lw_tbl[1289]? = some (.code me126.1 me126.2.1 me126.2.2.1 me126.2.2.2.1) := by rfl
theorem mok126 : mx_okM me126 = true := by decide +kernel
set_option maxRecDepth 100000 in
theorem mcw127 : lw_tbl[1164]? = some (.code me127.1 me127.2.1 me127.2.2.1 me127.2.2.2.1) := by rfl
theorem mok127 : mx_okM me127 = true := by decide +kernel
set_option maxRecDepth 100000 in
theorem mcw128 : lw_tbl[1224]? = some (.code me128.1 me128.2.1 me128.2.2.1 me128.2.2.2.1) := by rfl
theorem mok128 : mx_okM me128 = true := by decide +kernel
set_option maxRecDepth 100000 in
theorem mcw129 : lw_tbl[1170]? = some (.code me129.1 me129.2.1 me129.2.2.1 me129.2.2.2.1) := by rfl
theorem mok129 : mx_okM me129 = true := by decide +kernel
set_option maxRecDepth 100000 in
theorem mcw130 : lw_tbl[1231]? = some (.code me130.1 me130.2.1 me130.2.2.1 me130.2.2.2.1) := by rfl
theorem mok130 : mx_okM me130 = true := by decide +kernel
set_option maxRecDepth 100000 in
theorem mcw131 : lw_tbl[1112]? = some (.code me131.1 me131.2.1 me131.2.2.1 me131.2.2.2.1) := by rfl
theorem mok131 : mx_okM me131 = true := by decide +kernel
set_option maxRecDepth 100000 in
theorem mcw132 : lw_tbl[1120]? = some (.code me132.1 me132.2.1 me132.2.2.1 me132.2.2.2.1) := by rfl
theorem mok132 : mx_okM me132 = true := by decide +kernel
set_option maxRecDepth 100000 in
theorem mcw133 : lw_tbl[1128]? = some (.code me133.1 me133.2.1 me133.2.2.1 me133.2.2.2.1) := by rfl
theorem mok133 : mx_okM me133 = true := by decide +kernel
set_option maxRecDepth 100000 in
theorem mcw134 : lw_tbl[1132]? = some (.code me134.1 me134.2.1 me134.2.2.1 me134.2.2.2.1) := by rfl
theorem mok134 : mx_okM me134 = true := by decide +kernel
set_option maxRecDepth 100000 in
theorem mcw135 : lw_tbl[1124]? = some (.code me135.1 me135.2.1 me135.2.2.1 me135.2.2.2.1) := by rfl
theorem mok135 : mx_okM me135 = true := by decide +kernel
set_option maxRecDepth 100000 in
theorem mcw136 : lw_tbl[1088]? = some (.code me136.1 me136.2.1 me136.2.2.1 me136.2.2.2.1) := by rfl
theorem mok136 : mx_okM me136 = true := by decide +kernel
set_option maxRecDepth 100000 in
theorem mcw137 : lw_tbl[1092]? = some (.code me137.1 me137.2.1 me137.2.2.1 me137.2.2.2.1) := by rfl
theorem mok137 : mx_okM me137 = true := by decide +kernel
set_option maxRecDepth 100000 in
theorem mcw138 : lw_tbl[1096]? = some (.code me138.1 me138.2.1 me138.2.2.1 me138.2.2.2.1) := by rfl
theorem mok138 : mx_okM me138 = true := by decide +kernel
set_option maxRecDepth 100000 in
theorem mcw139 : lw_tbl[1100]? = some (.code me139.1 me139.2.1 me139.2.2.1 me139.2.2.2.1) := by rfl
theorem mok139 : mx_okM me139 = true := by decide +kernel
set_option maxRecDepth 100000 in
theorem mcw140 : lw_tbl[1104]? = some (.code me140.1 me140.2.1 me140.2.2.1 me140.2.2.2.1) := by rfl
theorem mok140 : mx_okM me140 = true := by decide +kernel
set_option maxRecDepth 100000 in
theorem mcw141 : lw_tbl[1116]? = some (.code me141.1 me141.2.1 me141.2.2.1 me141.2.2.2.1) := by rfl
theorem mok141 : mx_okM me141 = true := by decide +kernel
set_option maxRecDepth 100000 in
theorem mcw142 : lw_tbl[1108]? = some (.code me142.1 me142.2.1 me142.2.2.1 me142.2.2.2.1) := by rfl
theorem mok142 : mx_okM me142 = true := by decide +kernel
set_option maxRecDepth 100000 in
theorem mcw143 : lw_tbl[1084]? = some (.code me143.1 me143.2.1 me143.2.2.1 me143.2.2.2.1) := by rfl
theorem mok143 : mx_okM me143 = true := by decide +kernel
set_option maxRecDepth 100000 in
theorem mcw144 : lw_tbl[1149]? = some (.code me144.1 me144.2.1 me144.2.2.1 me144.2.2.2.1) := by rfl
theorem mok144 : mx_okM me144 = true := by decide +kernel
set_option maxRecDepth 100000 in
theorem mcw145 : lw_tbl[1146]? = some (.code me145.1 me145.2.1 me145.2.2.1 me145.2.2.2.1) := by rfl
theorem mok145 : mx_okM me145 = true := by decide +kernel
set_option maxRecDepth 100000 in
theorem mcw146 : lw_tbl[1066]? = some (.code me146.1 me146.2.1 me146.2.2.1 me146.2.2.2.1) := by rfl
theorem mok146 : mx_okM me146 = true := by decide +kernel
set_option maxRecDepth 100000 in
theorem mcw147 : lw_tbl[1080]? = some (.code me147.1 me147.2.1 me147.2.2.1 me147.2.2.2.1) := by rfl
theorem mok147 : mx_okM me147 = true := by decide +kernel
set_option maxRecDepth 100000 in
theorem mcw148 : lw_tbl[1142]? = some (.code me148.1 me148.2.1 me148.2.2.1 me148.2.2.2.1) := by rfl
theorem mok148 : mx_okM me148 = true := by decide +kernel
set_option maxRecDepth 100000 in
theorem mcw149 : lw_tbl[1138]? = some (.code me149.1 me149.2.1 me149.2.2.1 me149.2.2.2.1) := by rfl
theorem mok149 : mx_okM me149 = true := by decide +kernel
set_option maxRecDepth 100000 in
theorem mcw150 : lw_tbl[1153]? = some (.code me150.1 me150.2.1 me150.2.2.1 me150.2.2.2.1) := by rfl
theorem mok150 : mx_okM me150 = true := by decide +kernel
set_option maxRecDepth 100000 in
theorem mcw151 : lw_tbl[1167]? = some (.code me151.1 me151.2.1 me151.2.2.1 me151.2.2.2.1) := by rfl
theorem mok151 : mx_okM me151 = true := by decide +kernel
set_option maxRecDepth 100000 in
theorem mcw152 : lw_tbl[1180]? = some (.code me152.1 me152.2.1 me152.2.2.1 me152.2.2.2.1) := by rfl
theorem mok152 : mx_okM me152 = true := by decide +kernel
set_option maxRecDepth 100000 in
theorem mcw153 : lw_tbl[1184]? = some (.code me153.1 me153.2.1 me153.2.2.1 me153.2.2.2.1) := by rfl
theorem mok153 : mx_okM me153 = true := by decide +kernel
set_option maxRecDepth 100000 in
theorem mcw154 : lw_tbl[1177]? = some (.code me154.1 me154.2.1 me154.2.2.1 me154.2.2.2.1) := by rfl
theorem mok154 : mx_okM me154 = true := by decide +kernel
set_option maxRecDepth 100000 in
theorem mcw155 : lw_tbl[1160]? = some (.code me155.1 me155.2.1 me155.2.2.1 me155.2.2.2.1) := by rfl
theorem mok155 : mx_okM me155 = true := by decide +kernel
set_option maxRecDepth 100000 in
theorem mcw156 : lw_tbl[1188]? = some (.code me156.1 me156.2.1 me156.2.2.1 me156.2.2.2.1) := by rfl
theorem mok156 : mx_okM me156 = true := by decide +kernel
set_option maxRecDepth 100000 in
theorem mcw157 : lw_tbl[1200]? = some (.code me157.1 me157.2.1 me157.2.2.1 me157.2.2.2.1) := by rfl
theorem mok157 : mx_okM me157 = true := by decide +kernel
set_option maxRecDepth 100000 in
theorem mcw158 : lw_tbl[1197]? = some (.code me158.1 me158.2.1 me158.2.2.1 me158.2.2.2.1) := by rfl
theorem mok158 : mx_okM me158 = true := by decide +kernel
set_option maxRecDepth 100000 in
theorem mcw159 : lw_tbl[1204]? = some (.code me159.1 me159.2.1 me159.2.2.1 me159.2.2.2.1) := by rfl
theorem mok159 : mx_okM me159 = true := by decide +kernel
set_option maxRecDepth 100000 in
theorem mcw160 : lw_tbl[1211]? = some (.code me160.1 me160.2.1 me160.2.2.1 me160.2.2.2.1) := by rfl
theorem mok160 : mx_okM me160 = true := by decide +kernel
set_option maxRecDepth 100000 in
theorem mcw161 : lw_tbl[1216]? = some (.code me161.1 me161.2.1 me161.2.2.1 me161.2.2.2.1) := by rfl
theorem mok161 : mx_okM me161 = true := by decide +kernel
set_option maxRecDepth 100000 in
theorem mcw162 : lw_tbl[1208]? = some (.code me162.1 me162.2.1 me162.2.2.1 me162.2.2.2.1) := by rfl
theorem mok162 : mx_okM me162 = true := by decide +kernel
set_option maxRecDepth 100000 in
theorem mcw163 : lw_tbl[1228]? = some (.code me163.1 me163.2.1 me163.2.2.1 me163.2.2.2.1) := by rfl
theorem mok163 : mx_okM me163 = true := by decide +kernel
set_option maxRecDepth 100000 in
theorem mcw164 : lw_tbl[1220]? = some (.code me164.1 me164.2.1 me164.2.2.1 me164.2.2.2.1) := by rfl
theorem mok164 : mx_okM me164 = true := by decide +kernel
set_option maxRecDepth 100000 in
theorem mcw165 : lw_tbl[1235]? = some (.code me165.1 me165.2.1 me165.2.2.1 me165.2.2.2.1) := by rfl
theorem mok165 : mx_okM me165 = true := by decide +kernel
set_option maxRecDepth 100000 in
theorem mcw166 : lw_tbl[1243]? = some (.code me166.1 me166.2.1 me166.2.2.1 me166.2.2.2.1) := by rfl
theorem mok166 : mx_okM me166 = true := by decide +kernel
set_option maxRecDepth 100000 in
theorem mcw167 : lw_tbl[1260]? = some (.code me167.1 me167.2.1 me167.2.2.1 me167.2.2.2.1) := by rfl
theorem mok167 : mx_okM me167 = true := by decide +kernel
set_option maxRecDepth 100000 in
theorem mcw168 : lw_tbl[1270]? = some (.code me168.1 me168.2.1 me168.2.2.1 me168.2.2.2.1) := by rfl
theorem mok168 : mx_okM me168 = true := by decide +kernel
set_option maxRecDepth 100000 in
theorem mcw169 : lw_tbl[1266]? = some (.code me169.1 me169.2.1 me169.2.2.1 me169.2.2.2.1) := by rfl
theorem mok169 : mx_okM me169 = true := by decide +kernel
set_option maxRecDepth 100000 in
theorem mcw170 : lw_tbl[1257]? = some (.code me170.1 me170.2.1 me170.2.2.1 me170.2.2.2.1) := by rfl
theorem mok170 : mx_okM me170 = true := by decide +kernel
set_option maxRecDepth 100000 in
theorem mcw171 : lw_tbl[1253]? = some (.code me171.1 me171.2.1 me171.2.2.1 me171.2.2.2.1) := by rfl
theorem mok171 : mx_okM me171 = true := by decide +kernel
set_option maxRecDepth 100000 in
theorem mcw172 : lw_tbl[1248]? = some (.code me172.1 me172.2.1 me172.2.2.1 me172.2.2.2.1) := by rfl
theorem mok172 : mx_okM me172 = true := by decide +kernel
set_option maxRecDepth 100000 in
theorem mcw173 : lw_tbl[1274]? = some (.code me173.1 me173.2.1 me173.2.2.1 me173.2.2.2.1) := by rfl
theorem mok173 : mx_okM me173 = true := by decide +kernel
set_option maxRecDepth 100000 in
theorem mcw174 : lw_tbl[1282]? = some (.code me174.1 me174.2.1 me174.2.2.1 me174.2.2.2.1) := by rfl
theorem mok174 : mx_okM me174 = true := by decide +kernel
set_option maxRecDepth 100000 in
theorem mcw175 : lw_tbl[1286]? = some (.code me175.1 me175.2.1 me175.2.2.1 me175.2.2.2.1) := by rfl
theorem mok175 : mx_okM me175 = true := by decide +kernel
set_option maxRecDepth 100000 in
theorem mcw176 : lw_tbl[1279]? = some (.code me176.1 me176.2.1 me176.2.2.1 me176.2.2.2.1) := by rfl
theorem mok176 : mx_okM me176 = true := by decide +kernel
set_option maxRecDepth 100000 in
theorem mcw177 : lw_tbl[1293]? = some (.code me177.1 me177.2.1 me177.2.2.1 me177.2.2.2.1) := by rfl
theorem mok177 : mx_okM me177 = true := by decide +kernel
set_option maxRecDepth 100000 in
theorem mcw178 : lw_tbl[1300]? = some (.code me178.1 me178.2.1 me178.2.2.1 me178.2.2.2.1) := by rfl
theorem mok178 : mx_okM me178 = true := by decide +kernel
set_option maxRecDepth 100000 in
theorem mcw179 : lw_tbl[1297]? = some (.code me179.1 me179.2.1 me179.2.2.1 me179.2.2.2.1) := by rfl
theorem mok179 : mx_okM me179 = true := by decide +kernel
set_option maxRecDepth 100000 in
theorem mcw180 : lw_tbl[1304]? = some (.code me180.1 me180.2.1 me180.2.2.1 me180.2.2.2.1) := by rfl
theorem mok180 : mx_okM me180 = true := by decide +kernel
set_option maxRecDepth 100000 in
theorem mcw181 : lw_tbl[1308]? = some (.code me181.1 me181.2.1 me181.2.2.1 me181.2.2.2.1) := by rfl
theorem mok181 : mx_okM me181 = true := by decide +kernel
set_option maxRecDepth 100000 in
theorem mcw182 : lw_tbl[1313]? = some (.code me182.1 me182.2.1 me182.2.2.1 me182.2.2.2.1) := by rfl
theorem mok182 : mx_okM me182 = true := by decide +kernel
set_option maxRecDepth 100000 in
theorem mcw183 : lw_tbl[1317]? = some (.code me183.1 me183.2.1 me183.2.2.1 me183.2.2.2.1) := by rfl
theorem mok183 : mx_okM me183 = true := by decide +kernel
set_option maxRecDepth 100000 in
theorem mcw184 : lw_tbl[1321]? = some (.code me184.1 me184.2.1 me184.2.2.1 me184.2.2.2.1) := by rfl
theorem mok184 : mx_okM me184 = true := by decide +kernel
set_option maxRecDepth 100000 in
theorem mcw185 : lw_tbl[1328]? = some (.code me185.1 me185.2.1 me185.2.2.1 me185.2.2.2.1) := by rfl
theorem mok185 : mx_okM me185 = true := by decide +kernel
set_option maxRecDepth 100000 in
theorem mcw186 : lw_tbl[1325]? = some (.code me186.1 me186.2.1 me186.2.2.1 me186.2.2.2.1) := by rfl
theorem mok186 : mx_okM me186 = true := by decide +kernel
set_option maxRecDepth 100000 in
theorem mcw187 : lw_tbl[1332]? = some (.code me187.1 me187.2.1 me187.2.2.1 me187.2.2.2.1) := by rfl
theorem mok187 : mx_okM me187 = true := by decide +kernel
set_option maxRecDepth 100000 in
theorem mcw188 : lw_tbl[1336]? = some (.code me188.1 me188.2.1 me188.2.2.1 me188.2.2.2.1) := by rfl
theorem mok188 : mx_okM me188 = true := by decide +kernel
set_option maxRecDepth 100000 in
theorem mcw189 : lw_tbl[1352]? = some (.code me189.1 me189.2.1 me189.2.2.1 me189.2.2.2.1) := by rfl
theorem mok189 : mx_okM me189 = true := by decide +kernel
set_option maxRecDepth 100000 in
theorem mcw190 : lw_tbl[1355]? = some (.code me190.1 me190.2.1 me190.2.2.1 me190.2.2.2.1) := by rfl
theorem mok190 : mx_okM me190 = true := by decide +kernel
set_option maxRecDepth 100000 in
theorem mcw191 : lw_tbl[1344]? = some (.code me191.1 me191.2.1 me191.2.2.1 me191.2.2.2.1) := by rfl
theorem mok191 : mx_okM me191 = true := by decide +kernel
set_option maxRecDepth 100000 in
theorem mcw192 : lw_tbl[1348]? = some (.code me192.1 me192.2.1 me192.2.2.1 me192.2.2.2.1) := by rfl
theorem mok192 : mx_okM me192 = true := by decide +kernel
set_option maxRecDepth 100000 in
theorem mcw193 : lw_tbl[1359]? = some (.code me193.1 me193.2.1 me193.2.2.1 me193.2.2.2.1) := by rfl
theorem mok193 : mx_okM me193 = true := by decide +kernel
set_option maxRecDepth 100000 in
theorem mcw194 : lw_tbl[1363]? = some (.code me194.1 me194.2.1 me194.2.2.1 me194.2.2.2.1) := by rfl
theorem mok194 : mx_okM me194 = true := by decide +kernel
set_option maxRecDepth 100000 in
theorem mcw195 : lw_tbl[1367]? = some (.code me195.1 me195.2.1 me195.2.2.1 me195.2.2.2.1) := by rfl
theorem mok195 : mx_okM me195 = true := by decide +kernel
set_option maxRecDepth 100000 in
theorem mcw196 : lw_tbl[1340]? = some (.code me196.1 me196.2.1 me196.2.2.1 me196.2.2.2.1) := by rfl
theorem mok196 : mx_okM me196 = true := by decide +kernel
set_option maxRecDepth 100000 in
theorem mcw197 : lw_tbl[1371]? = some (.code me197.1 me197.2.1 me197.2.2.1 me197.2.2.2.1) := by rfl
theorem mok197 : mx_okM me197 = true := by decide +kernel
set_option maxRecDepth 100000 in
theorem mcw198 : lw_tbl[1238]? = some (.code me198.1 me198.2.1 me198.2.2.1 me198.2.2.2.1) := by rfl
theorem mok198 : mx_okM me198 = true := by decide +kernel
set_option maxRecDepth 100000 in
theorem mcw199 : lw_tbl[1375]? = some (.code me199.1 me199.2.1 me199.2.2.1 me199.2.2.2.1) := by rfl
theorem mok199 : mx_okM me199 = true := by decide +kernel
set_option maxRecDepth 100000 in
theorem mcw200 : lw_tbl[1379]? = some (.code me200.1 me200.2.1 me200.2.2.1 me200.2.2.2.1) := by rfl
theorem mok200 : mx_okM me200 = true := by decide +kernel
set_option maxRecDepth 100000 in
theorem mcw201 : lw_tbl[1383]? = some (.code me201.1 me201.2.1 me201.2.2.1 me201.2.2.2.1) := by rfl
theorem mok201 : mx_okM me201 = true := by decide +kernel
set_option maxRecDepth 100000 in
theorem mcw202 : lw_tbl[1387]? = some (.code me202.1 me202.2.1 me202.2.2.1 me202.2.2.2.1) := by rfl
theorem mok202 : mx_okM me202 = true := by decide +kernel
set_option maxRecDepth 100000 in
theorem mcw203 : lw_tbl[1391]? = some (.code me203.1 me203.2.1 me203.2.2.1 me203.2.2.2.1) := by rfl
theorem mok203 : mx_okM me203 = true := by decide +kernel
set_option maxRecDepth 100000 in
theorem mcw204 : lw_tbl[1395]? = some (.code me204.1 me204.2.1 me204.2.2.1 me204.2.2.2.1) := by rfl
theorem mok204 : mx_okM me204 = true := by decide +kernel
set_option maxRecDepth 100000 in
theorem mcw205 : lw_tbl[1399]? = some (.code me205.1 me205.2.1 me205.2.2.1 me205.2.2.2.1) := by rfl
theorem mok205 : mx_okM me205 = true := by decide +kernel
set_option maxRecDepth 100000 in
theorem mcw206 : lw_tbl[1407]? = some (.code me206.1 me206.2.1 me206.2.2.1 me206.2.2.2.1) := by rfl
theorem mok206 : mx_okM me206 = true := by decide +kernel
set_option maxRecDepth 100000 in
theorem mcw207 : lw_tbl[1403]? = some (.code me207.1 me207.2.1 me207.2.2.1 me207.2.2.2.1) := by rfl
theorem mok207 : mx_okM me207 = true := by decide +kernel
set_option maxRecDepth 100000 in
theorem mcw208 : lw_tbl[1411]? = some (.code me208.1 me208.2.1 me208.2.2.1 me208.2.2.2.1) := by rfl
theorem mok208 : mx_okM me208 = true := by decide +kernel
set_option maxRecDepth 100000 in
theorem mcw209 : lw_tbl[614]? = some (.code me209.1 me209.2.1 me209.2.2.1 me209.2.2.2.1) := by rfl
theorem mok209 : mx_okM me209 = true := by decide +kernel
set_option maxRecDepth 100000 in
theorem mcw210 : lw_tbl[618]? = some (.code me210.1 me210.2.1 me210.2.2.1 me210.2.2.2.1) := by rfl
theorem mok210 : mx_okM me210 = true := by decide +kernel
set_option maxRecDepth 100000 in
theorem mcw211 : lw_tbl[622]? = some (.code me211.1 me211.2.1 me211.2.2.1 me211.2.2.2.1) := by rfl
theorem mok211 : mx_okM me211 = true := by decide +kernel
set_option maxRecDepth 100000 in
theorem mcw212 : lw_tbl[628]? = some (.code me212.1 me212.2.1 me212.2.2.1 me212.2.2.2.1) := by rfl
theorem mok212 : mx_okM me212 = true := by decide +kernel
set_option maxRecDepth 100000 in
theorem mcw213 : lw_tbl[632]? = some (.code me213.1 me213.2.1 me213.2.2.1 me213.2.2.2.1) := by rfl
theorem mok213 : mx_okM me213 = true := by decide +kernel
set_option maxRecDepth 100000 in
theorem mcw214 : lw_tbl[635]? = some (.code me214.1 me214.2.1 me214.2.2.1 me214.2.2.2.1) := by rfl
theorem mok214 : mx_okM me214 = true := by decide +kernel
set_option maxRecDepth 100000 in
theorem mcw215 : lw_tbl[638]? = some (.code me215.1 me215.2.1 me215.2.2.1 me215.2.2.2.1) := by rfl
theorem mok215 : mx_okM me215 = true := by decide +kernel
set_option maxRecDepth 100000 in
theorem mcw216 : lw_tbl[643]? = some (.code me216.1 me216.2.1 me216.2.2.1 me216.2.2.2.1) := by rfl
theorem mok216 : mx_okM me216 = true := by decide +kernel
set_option maxRecDepth 100000 in
theorem mcw217 : lw_tbl[928]? = some (.code me217.1 me217.2.1 me217.2.2.1 me217.2.2.2.1) := by rfl
theorem mok217 : mx_okM me217 = true := by decide +kernel
set_option maxRecDepth 100000 in
theorem mx_M_ok : ∀ e ∈ mx_M.take 218, Cond.code e.1 e.2.1 e.2.2.1 e.2.2.2.1 ∈ lw_tbl ∧ mx_okM e = true := (List.forall_mem_cons.mpr ⟨⟨List.mem_of_getElem? mcw0, mok0⟩, (List.forall_mem_cons.mpr ⟨⟨List.mem_of_getElem? mcw1, mok1⟩, (List.forall_mem_cons.mpr ⟨⟨List.mem_of_getElem? mcw2, mok2⟩, (List.forall_mem_cons.mpr ⟨⟨List.mem_of_getElem? mcw3, mok3⟩, (List.forall_mem_cons.mpr ⟨⟨List.mem_of_getElem? mcw4, mok4⟩, (List.forall_mem_cons.mpr ⟨⟨List.mem_of_getElem? mcw5, mok5⟩, (List.forall_mem_cons.mpr ⟨⟨List.mem_of_getElem? mcw6, mok6⟩, (List.forall_mem_cons.mpr ⟨⟨List.mem_of_getElem? mcw7, mok7⟩, (List.forall_mem_cons.mpr ⟨⟨List.mem_of_getElem? mcw8, mok8⟩, (List.forall_mem_cons.mpr ⟨⟨List.mem_of_getElem? mcw9, mok9⟩, (List.forall_mem_cons.mpr ⟨⟨List.mem_of_getElem? mcw10, mok10⟩, (List.forall_mem_cons.mpr ⟨⟨List.mem_of_getElem? mcw11, mok11⟩, (List.forall_mem_cons.mpr ⟨⟨List.mem_of_getElem? mcw12, mok12⟩, (List.forall_mem_cons.mpr ⟨⟨List.mem_of_getElem? mcw13, mok13⟩, (List.forall_mem_cons.mpr ⟨⟨List.mem_of_getElem? mcw14, mok14⟩, (List.forall_mem_cons.mpr ⟨⟨List.mem_of_getElem? mcw15, mok15⟩, (List.forall_mem_cons.mpr ⟨⟨List.mem_of_getElem? mcw16, mok16⟩, (List.forall_mem_cons.mpr ⟨⟨List.mem_of_getElem? mcw17, mok17⟩, (List.forall_mem_cons.mpr ⟨⟨List.mem_of_getElem? mcw18, mok18⟩, (List.forall_mem_cons.mpr ⟨⟨List.mem_of_getElem? mcw19, mok19⟩, (List.forall_mem_cons.mpr ⟨⟨List.mem_of_getElem? mcw20, mok20⟩, (List.forall_mem_cons.mpr ⟨⟨List.mem_of_getElem? mcw21, mok21⟩, (List.forall_mem_cons.mpr ⟨⟨List.mem_of_getElem? mcw22, mok22⟩, (List.forall_mem_cons.mpr ⟨⟨List.mem_of_getElem? mcw23, mok23⟩, (List.forall_mem_cons.mpr ⟨⟨List.mem_of_getElem? mcw24, mok24⟩, (List.forall_mem_cons.mpr ⟨⟨List.mem_of_getElem? mcw25, mok25⟩, (List.forall_mem_cons.mpr ⟨⟨List.mem_of_getElem? mcw26, mok26⟩, (List.forall_mem_cons.mpr ⟨⟨List.mem_of_getElem? mcw27, mok27⟩, (List.forall_mem_cons.mpr ⟨⟨List.mem_of_getElem? mcw28, mok28⟩, (List.forall_mem_cons.mpr ⟨⟨List.mem_of_getElem? mcw29, mok29⟩, (List.forall_mem_cons.mpr ⟨⟨List.mem_of_getElem? mcw30, mok30⟩, (List.forall_mem_cons.mpr ⟨⟨List.mem_of_getElem? mcw31, mok31⟩, (List.forall_mem_cons.mpr ⟨⟨List.mem_of_getElem? mcw32, mok32⟩, (List.forall_mem_cons.mpr ⟨⟨List.mem_of_getElem? mcw33, mok33⟩, (List.forall_mem_cons.mpr ⟨⟨List.mem_of_getElem? mcw34, mok34⟩, (List.forall_mem_cons.mpr ⟨⟨List.mem_of_getElem? mcw35, mok35⟩, (List.forall_mem_cons.mpr ⟨⟨List.mem_of_getElem? mcw36, mok36⟩, (List.forall_mem_cons.mpr ⟨⟨List.mem_of_getElem? mcw37, mok37⟩, (List.forall_mem_cons.mpr ⟨⟨List.mem_of_getElem? mcw38, mok38⟩, (List.forall_mem_cons.mpr ⟨⟨List.mem_of_getElem? mcw39, mok39⟩, (List.forall_mem_cons.mpr ⟨⟨List.mem_of_getElem? mcw40, mok40⟩, (List.forall_mem_cons.mpr ⟨⟨List.mem_of_getElem? mcw41, mok41⟩, (List.forall_mem_cons.mpr ⟨⟨List.mem_of_getElem? mcw42, mok42⟩, (List.forall_mem_cons.mpr ⟨⟨List.mem_of_getElem? mcw43, mok43⟩, (List.forall_mem_cons.mpr ⟨⟨List.mem_of_getElem? mcw44, mok44⟩, (List.forall_mem_cons.mpr ⟨⟨List.mem_of_getElem? mcw45, mok45⟩, (List.forall_mem_cons.mpr ⟨⟨List.mem_of_getElem? mcw46, mok46⟩, (List.forall_mem_cons.mpr ⟨⟨List.mem_of_getElem? mcw47, mok47⟩, (List.forall_mem_cons.mpr ⟨⟨List.mem_of_getElem? mcw48, mok48⟩, (List.forall_mem_cons.mpr ⟨⟨List.mem_of_getElem? mcw49, mok49⟩, (List.forall_mem_cons.mpr ⟨⟨List.mem_of_getElem? mcw50, mok50⟩, (List.forall_mem_cons.mpr ⟨⟨List.mem_of_getElem? mcw51, mok51⟩, (List.forall_mem_cons.mpr ⟨⟨List.mem_of_getElem? mcw52, mok52⟩, (List.forall_mem_cons.mpr ⟨⟨List.mem_of_getElem? mcw53, mok53⟩, (List.forall_mem_cons.mpr ⟨⟨List.mem_of_getElem? mcw54, mok54⟩, (List.forall_mem_cons.mpr ⟨⟨List.mem_of_getElem? mcw55, mok55⟩, (List.forall_mem_cons.mpr ⟨⟨List.mem_of_getElem? mcw56, mok56⟩, (List.forall_mem_cons.mpr ⟨⟨List.mem_of_getElem? mcw57, mok57⟩, (List.forall_mem_cons.mpr ⟨⟨List.mem_of_getElem? mcw58, mok58⟩, (List.forall_mem_cons.mpr ⟨⟨List.mem_of_getElem? mcw59, mok59⟩, (List.forall_mem_cons.mpr ⟨⟨List.mem_of_getElem? mcw60, mok60⟩, (List.forall_mem_cons.mpr ⟨⟨List.mem_of_getElem? mcw61, mok61⟩, (List.forall_mem_cons.mpr ⟨⟨List.mem_of_getElem? mcw62, mok62⟩, (List.forall_mem_cons.mpr ⟨⟨List.mem_of_getElem? mcw63, mok63⟩, (List.forall_mem_cons.mpr ⟨⟨List.mem_of_getElem? mcw64, mok64⟩, (List.forall_mem_cons.mpr ⟨⟨List.mem_of_getElem? mcw65, mok65⟩, (List.forall_mem_cons.mpr ⟨⟨List.mem_of_getElem? mcw66, mok66⟩, (List.forall_mem_cons.mpr ⟨⟨List.mem_of_getElem? mcw67, mok67⟩, (List.forall_mem_cons.mpr ⟨⟨List.mem_of_getElem? mcw68, mok68⟩, (List.forall_mem_cons.mpr ⟨⟨List.mem_of_getElem? mcw69, mok69⟩, (List.forall_mem_cons.mpr ⟨⟨List.mem_of_getElem? mcw70, mok70⟩, (List.forall_mem_cons.mpr ⟨⟨List.mem_of_getElem? mcw71, mok71⟩, (List.forall_mem_cons.mpr ⟨⟨List.mem_of_getElem? mcw72, mok72⟩, (List.forall_mem_cons.mpr ⟨⟨List.mem_of_getElem? mcw73, mok73⟩, (List.forall_mem_cons.mpr ⟨⟨List.mem_of_getElem? mcw74, mok74⟩, (List.forall_mem_cons.mpr ⟨⟨List.mem_of_getElem? mcw75, mok75⟩, (List.forall_mem_cons.mpr ⟨⟨List.mem_of_getElem? mcw76, mok76⟩, (List.forall_mem_cons.mpr ⟨⟨List.mem_of_getElem? mcw77, mok77⟩, (List.forall_mem_cons.mpr ⟨⟨List.mem_of_getElem? mcw78, mok78⟩, (List.forall_mem_cons.mpr ⟨⟨List.mem_of_getElem? mcw79, mok79⟩, (List.forall_mem_cons.mpr ⟨⟨List.mem_of_getElem? mcw80, mok80⟩, (List.forall_mem_cons.mpr ⟨⟨List.mem_of_getElem? mcw81, mok81⟩, (List.forall_mem_cons.mpr ⟨⟨List.mem_of_getElem? mcw82, mok82⟩, (List.forall_mem_cons.mpr ⟨⟨List.mem_of_getElem? mcw83, mok83⟩, (List.forall_mem_cons.mpr ⟨⟨List.mem_of_getElem? mcw84, mok84⟩, (List.forall_mem_cons.mpr ⟨⟨List.mem_of_getElem? mcw85, mok85⟩, (List.forall_mem_cons.mpr ⟨⟨List.mem_of_getElem? mcw86, mok86⟩, (List.forall_mem_cons.mpr ⟨⟨List.mem_of_getElem? mcw87, mok87⟩, (List.forall_mem_cons.mpr ⟨⟨List.mem_of_getElem? mcw88, mok88⟩, (List.forall_mem_cons.mpr ⟨⟨List.mem_of_getElem? mcw89, mok89⟩, (List.forall_mem_cons.mpr ⟨⟨List.mem_of_getElem? mcw90, mok90⟩, (List.forall_mem_cons.mpr ⟨⟨List.mem_of_getElem? mcw91, mok91⟩, (List.forall_mem_cons.mpr ⟨⟨List.mem_of_getElem? mcw92, mok92⟩, (List.forall_mem_cons.mpr ⟨⟨List.mem_of_getElem? mcw93, mok93⟩, (List.forall_mem_cons.mpr ⟨⟨List.mem_of_getElem? mcw94, mok94⟩, (List.forall_mem_cons.mpr ⟨⟨List.mem_of_getElem? mcw95, mok95⟩, (List.forall_mem_cons.mpr ⟨⟨List.mem_of_getElem? mcw96, mok96⟩, (List.forall_mem_cons.mpr ⟨⟨List.mem_of_getElem? mcw97, mok97⟩, (List.forall_mem_cons.mpr ⟨⟨List.mem_of_getElem? mcw98, mok98⟩, (List.forall_mem_cons.mpr ⟨⟨List.mem_of_getElem? mcw99, mok99⟩, (List.forall_mem_cons.mpr ⟨⟨List.mem_of_getElem? mcw100, mok100⟩, (List.forall_mem_cons.mpr ⟨⟨List.mem_of_getElem? mcw101, mok101⟩, (List.forall_mem_cons.mpr ⟨⟨List.mem_of_getElem? mcw102, mok102⟩, (List.forall_mem_cons.mpr ⟨⟨List.mem_of_getElem? mcw103, mok103⟩, (List.forall_mem_cons.mpr ⟨⟨List.mem_of_getElem? mcw104, mok104⟩, (List.forall_mem_cons.mpr ⟨⟨List.mem_of_getElem? mcw105, mok105⟩, (List.forall_mem_cons.mpr ⟨⟨List.mem_of_getElem? mcw106, mok106⟩, (List.forall_mem_cons.mpr ⟨⟨List.mem_of_getElem? mcw107, mok107⟩, (List.forall_mem_cons.mpr ⟨⟨List.mem_of_getElem? mcw108, mok108⟩, (List.forall_mem_cons.mpr ⟨⟨List.mem_of_getElem? mcw109, mok109⟩, (List.forall_mem_cons.mpr ⟨⟨List.mem_of_getElem? mcw110, mok110⟩, (List.forall_mem_cons.mpr ⟨⟨List.mem_of_getElem? mcw111, mok111⟩, (List.forall_mem_cons.mpr ⟨⟨List.mem_of_getElem? mcw112, mok112⟩, (List.forall_mem_cons.mpr ⟨⟨List.mem_of_getElem? mcw113, mok113⟩, (List.forall_mem_cons.mpr ⟨⟨List.mem_of_getElem? mcw114, mok114⟩, (List.forall_mem_cons.mpr ⟨⟨List.mem_of_getElem? mcw115, mok115⟩, (List.forall_mem_cons.mpr ⟨⟨List.mem_of_getElem? mcw116, mok116⟩, (List.forall_mem_cons.mpr ⟨⟨List.mem_of_getElem? mcw117, mok117⟩, (List.forall_mem_cons.mpr ⟨⟨List.mem_of_getElem? mcw118, mok118⟩, (List.forall_mem_cons.mpr ⟨⟨List.mem_of_getElem? mcw119, mok119⟩, (List.forall_mem_cons.mpr ⟨⟨List.mem_of_getElem? mcw120, mok120⟩, (List.forall_mem_cons.mpr ⟨⟨List.mem_of_getElem? mcw121, mok121⟩, (List.forall_mem_cons.mpr ⟨⟨List.mem_of_getElem? mcw122, mok122⟩, (List.forall_mem_cons.mpr ⟨⟨List.mem_of_getElem? mcw123, mok123⟩, (List.forall_mem_cons.mpr ⟨⟨List.mem_of_getElem? mcw124, mok124⟩, (List.forall_mem_cons.mpr ⟨⟨List.mem_of_getElem? mcw125, mok125⟩, (List.forall_mem_cons.mpr ⟨⟨List.mem_of_getElem? mcw126, mok126⟩, (List.forall_mem_cons.mpr ⟨⟨List.mem_of_getElem? mcw127, mok127⟩, (List.forall_mem_cons.mpr ⟨⟨List.mem_of_getElem? mcw128, mok128⟩, (List.forall_mem_cons.mpr ⟨⟨List.mem_of_getElem? mcw129, mok129⟩, (List.forall_mem_cons.mpr ⟨⟨List.mem_of_getElem? mcw130, mok130⟩, (List.forall_mem_cons.mpr ⟨⟨List.mem_of_getElem? mcw131, mok131⟩, (List.forall_mem_cons.mpr ⟨⟨List.mem_of_getElem? mcw132, mok132⟩, (List.forall_mem_cons.mpr ⟨⟨List.mem_of_getElem? mcw133, mok133⟩, (List.forall_mem_cons.mpr ⟨⟨List.mem_of_getElem? mcw134, mok134⟩, (List.forall_mem_cons.mpr ⟨⟨List.mem_of_getElem? mcw135, mok135⟩, (List.forall_mem_cons.mpr ⟨⟨List.mem_of_getElem? mcw136, mok136⟩, (List.forall_mem_cons.mpr ⟨⟨List.mem_of_getElem? mcw137, mok137⟩, (List.forall_mem_cons.mpr ⟨⟨List.mem_of_getElem? mcw138, mok138⟩, (List.forall_mem_cons.mpr ⟨⟨List.mem_of_getElem? mcw139, mok139⟩, (List.forall_mem_cons.mpr ⟨⟨List.mem_of_getElem? mcw140, mok140⟩, (List.forall_mem_cons.mpr ⟨⟨List.mem_of_getElem? mcw141, mok141⟩, (List.forall_mem_cons.mpr ⟨⟨List.mem_of_getElem? mcw142, mok142⟩, (List.forall_mem_cons.mpr ⟨⟨List.mem_of_getElem? mcw143, mok143⟩, (List.forall_mem_cons.mpr ⟨⟨List.mem_of_getElem? mcw144, mok144⟩, (List.forall_mem_cons.mpr ⟨⟨List.mem_of_getElem? mcw145, mok145⟩, (List.forall_mem_cons.mpr ⟨⟨List.mem_of_getElem? mcw146, mok146⟩, (List.forall_mem_cons.mpr ⟨⟨List.mem_of_getElem? mcw147, mok147⟩, (List.forall_mem_cons.mpr ⟨⟨List.mem_of_getElem? mcw148, mok148⟩, (List.forall_mem_cons.mpr ⟨⟨List.mem_of_getElem? mcw149, mok149⟩, (List.forall_mem_cons.mpr ⟨⟨List.mem_of_getElem? mcw150, mok150⟩, (List.forall_mem_cons.mpr ⟨⟨List.mem_of_getElem? mcw151, mok151⟩, (List.forall_mem_cons.mpr ⟨⟨List.mem_of_getElem? mcw152, mok152⟩, (List.forall_mem_cons.mpr ⟨⟨List.mem_of_getElem? mcw153, mok153⟩, (List.forall_mem_cons.mpr ⟨⟨List.mem_of_getElem? mcw154, mok154⟩, (List.forall_mem_cons.mpr ⟨⟨List.mem_of_getElem? mcw155, mok155⟩, (List.forall_mem_cons.mpr ⟨⟨List.mem_of_getElem? mcw156, mok156⟩, (List.forall_mem_cons.mpr ⟨⟨List.mem_of_getElem? mcw157, mok157⟩, (List.forall_mem_cons.mpr ⟨⟨List.mem_of_getElem? mcw158, mok158⟩, (List.forall_mem_cons.mpr ⟨⟨List.mem_of_getElem? mcw159, mok159⟩, (List.forall_mem_cons.mpr ⟨⟨List.mem_of_getElem? mcw160, mok160⟩, (List.forall_mem_cons.mpr ⟨⟨List.mem_of_getElem? mcw161, mok161⟩, (List.forall_mem_cons.mpr ⟨⟨List.mem_of_getElem? mcw162, mok162⟩, (List.forall_mem_cons.mpr ⟨⟨List.mem_of_getElem? mcw163, mok163⟩, (List.forall_mem_cons.mpr ⟨⟨List.mem_of_getElem? mcw164, mok164⟩, (List.forall_mem_cons.mpr ⟨⟨List.mem_of_getElem? mcw165, mok165⟩, (List.forall_mem_cons.mpr ⟨⟨List.mem_of_getElem? mcw166, mok166⟩, (List.forall_mem_cons.mpr ⟨⟨List.mem_of_getElem? mcw167, mok167⟩, (List.forall_mem_cons.mpr ⟨⟨List.mem_of_getElem? mcw168, mok168⟩, (List.forall_mem_cons.mpr ⟨⟨List.mem_of_getElem? mcw169, mok169⟩, (List.forall_mem_cons.mpr ⟨⟨List.mem_of_getElem? mcw170, mok170⟩, (List.forall_mem_cons.mpr ⟨⟨List.mem_of_getElem? mcw171, mok171⟩, (List.forall_mem_cons.mpr ⟨⟨List.mem_of_getElem? mcw172, mok172⟩, (List.forall_mem_cons.mpr ⟨⟨List.mem_of_getElem? mcw173, mok173⟩, (List.forall_mem_cons.mpr ⟨⟨List.mem_of_getElem? mcw174, mok174⟩, (List.forall_mem_cons.mpr ⟨⟨List.mem_of_getElem? mcw175, mok175⟩, (List.forall_mem_cons.mpr ⟨⟨List.mem_of_getElem? mcw176, mok176⟩, (List.forall_mem_cons.mpr ⟨⟨List.mem_of_getElem? mcw177, mok177⟩, (List.forall_mem_cons.mpr ⟨⟨List.mem_of_getElem? mcw178, mok178⟩, (List.forall_mem_cons.mpr ⟨⟨List.mem_of_getElem? mcw179, mok179⟩, (List.forall_mem_cons.mpr ⟨⟨List.mem_of_getElem? mcw180, mok180⟩, (List.forall_mem_cons.mpr ⟨⟨List.mem_of_getElem? mcw181, mok181⟩, (List.forall_mem_cons.mpr ⟨⟨List.mem_of_getElem? mcw182, mok182⟩, (List.forall_mem_cons.mpr ⟨⟨List.mem_of_getElem? mcw183, mok183⟩, (List.forall_mem_cons.mpr ⟨⟨List.mem_of_getElem? mcw184, mok184⟩, (List.forall_mem_cons.mpr ⟨⟨List.mem_of_getElem? mcw185, mok185⟩, (List.forall_mem_cons.mpr ⟨⟨List.mem_of_getElem? mcw186, mok186⟩, (List.forall_mem_cons.mpr ⟨⟨List.mem_of_getElem? mcw187, mok187⟩, (List.forall_mem_cons.mpr ⟨⟨List.mem_of_getElem? mcw188, mok188⟩, (List.forall_mem_cons.mpr ⟨⟨List.mem_of_getElem? mcw189, mok189⟩, (List.forall_mem_cons.mpr ⟨⟨List.mem_of_getElem? mcw190, mok190⟩, (List.forall_mem_cons.mpr ⟨⟨List.mem_of_getElem? mcw191, mok191⟩, (List.forall_mem_cons.mpr ⟨⟨List.mem_of_getElem? mcw192, mok192⟩, (List.forall_mem_cons.mpr ⟨⟨List.mem_of_getElem? mcw193, mok193⟩, (List.forall_mem_cons.mpr ⟨⟨List.mem_of_getElem? mcw194, mok194⟩, (List.forall_mem_cons.mpr ⟨⟨List.mem_of_getElem? mcw195, mok195⟩, (List.forall_mem_cons.mpr ⟨⟨List.mem_of_getElem? mcw196, mok196⟩, (List.forall_mem_cons.mpr ⟨⟨List.mem_of_getElem? mcw197, mok197⟩, (List.forall_mem_cons.mpr ⟨⟨List.mem_of_getElem? mcw198, mok198⟩, (List.forall_mem_cons.mpr ⟨⟨List.mem_of_getElem? mcw199, mok199⟩, (List.forall_mem_cons.mpr ⟨⟨List.mem_of_getElem? mcw200, mok200⟩, (List.forall_mem_cons.mpr ⟨⟨List.mem_of_getElem? mcw201, mok201⟩, (List.forall_mem_cons.mpr ⟨⟨List.mem_of_getElem? mcw202, mok202⟩, (List.forall_mem_cons.mpr ⟨⟨List.mem_of_getElem? mcw203, mok203⟩, (List.forall_mem_cons.mpr ⟨⟨List.mem_of_getElem? mcw204, mok204⟩, (List.forall_mem_cons.mpr ⟨⟨List.mem_of_getElem? mcw205, mok205⟩, (List.forall_mem_cons.mpr ⟨⟨List.mem_of_getElem? mcw206, mok206⟩, (List.forall_mem_cons.mpr ⟨⟨List.mem_of_getElem? mcw207, mok207⟩, (List.forall_mem_cons.mpr ⟨⟨List.mem_of_getElem? mcw208, mok208⟩, (List.forall_mem_cons.mpr ⟨⟨List.mem_of_getElem? mcw209, mok209⟩, (List.forall_mem_cons.mpr ⟨⟨List.mem_of_getElem? mcw210, mok210⟩, (List.forall_mem_cons.mpr ⟨⟨List.mem_of_getElem? mcw211, mok211⟩, (List.forall_mem_cons.mpr ⟨⟨List.mem_of_getElem? mcw212, mok212⟩, (List.forall_mem_cons.mpr ⟨⟨List.mem_of_getElem? mcw213, mok213⟩, (List.forall_mem_cons.mpr ⟨⟨List.mem_of_getElem? mcw214, mok214⟩, (List.forall_mem_cons.mpr ⟨⟨List.mem_of_getElem? mcw215, mok215⟩, (List.forall_mem_cons.mpr ⟨⟨List.mem_of_getElem? mcw216, mok216⟩, (List.forall_mem_cons.mpr ⟨⟨List.mem_of_getElem? mcw217, mok217⟩, (fun _ h => absurd h List.not_mem_nil)⟩)⟩)⟩)⟩)⟩)⟩)⟩)⟩)⟩)⟩)⟩)⟩)⟩)⟩)⟩)⟩)⟩)⟩)⟩)⟩)⟩)⟩)⟩)⟩)⟩)⟩)⟩)⟩)⟩)⟩)⟩)⟩)⟩)⟩)⟩)⟩)⟩)⟩)⟩)⟩)⟩)⟩)⟩)⟩)⟩)⟩)⟩)⟩)⟩)⟩)⟩)⟩)⟩)⟩)⟩)⟩)⟩)⟩)⟩)⟩)⟩)⟩)⟩)⟩)⟩)⟩)⟩)⟩)⟩)⟩)⟩)⟩)⟩)⟩)⟩)⟩)⟩)⟩)⟩)⟩)⟩)⟩)⟩)⟩)⟩)⟩)⟩)⟩)⟩)⟩)⟩)⟩)⟩)⟩)⟩)⟩)⟩)⟩)⟩)⟩)⟩)⟩)⟩)⟩)⟩)⟩)⟩)⟩)⟩)⟩)⟩)⟩)⟩)⟩)⟩)⟩)⟩)⟩)⟩)⟩)⟩)⟩)⟩)⟩)⟩)⟩)⟩)⟩)⟩)⟩)⟩)⟩)⟩)⟩)⟩)⟩)⟩)⟩)⟩)⟩)⟩)⟩)⟩)⟩)⟩)⟩)⟩)⟩)⟩)⟩)⟩)⟩)⟩)⟩)⟩)⟩)⟩)⟩)⟩)⟩)⟩)⟩)⟩)⟩)⟩)⟩)⟩)⟩)⟩)⟩)⟩)⟩)⟩)⟩)⟩)⟩)⟩)⟩)⟩)⟩)⟩)⟩)⟩)⟩)⟩)⟩)⟩)⟩)⟩)⟩)⟩)⟩)⟩)⟩)⟩)⟩)⟩)⟩)⟩)⟩)⟩)⟩)⟩)⟩)⟩)⟩)⟩)⟩)⟩)⟩)⟩)⟩)⟩)⟩)⟩)⟩)⟩)⟩)
