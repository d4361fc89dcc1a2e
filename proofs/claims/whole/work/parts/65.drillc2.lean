theorem tdOK_n : tdOK (fun _ => none) := ⟨(fun v q => by cases q), (fun v q => by cases q), (fun v q => by cases q), (fun v q => by cases q)⟩
theorem al_n {h : AH} {c : AE} {k : Nat} : (al h c k).1 = h.1 + 1 := rfl
theorem al_s {h : AH} {c : AE} {k : Nat} : (al h c k).2.1 = h.2.1 + k := rfl
theorem c_drInit {h : AH} {a : Nat} (hD : rO h a = some (1, [.null])) (h4 : 4 ≤ a) (hn : 4 ≤ h.1) (ha : a < h.1) : ∃ h1, run 14 (0, [some (.ref a)], [], h) = some (none, h1) ∧ h1.1 = h.1 + 1 ∧ h1.2.1 = h.2.1 + 4 ∧ (∀ b, b ≠ a → b < h.1 → h1.2.2 b = h.2.2 b) ∧ DrF h1 a h.1 (fun _ => none) := by
  have e4 : (4 : Int32).toNatClampNeg = 4 := by decide
  have e5 : ¬ ((4 : Int32) < 0 ∨ 100000 < 4) := by decide
  have r0 : rI (al h (aI 4 fun _ => 0) 4) h.1 = some (4, fun _ => 0) := rI_al
  have o0 : rO (al h (aI 4 fun _ => 0) 4) a = some (1, [.null]) := by rw [rO_of (cell_al (by omega)), hD]
  have n0 : (al h (aI 4 fun _ => 0) 4).1 = h.1 + 1 := rfl
  have s0 : (al h (aI 4 fun _ => 0) 4).2.1 = h.2.1 + 4 := rfl
  have c0 : ∀ b, b ≠ h.1 → (al h (aI 4 fun _ => 0) 4).2.2 b = h.2.2 b := fun b hb => cell_al hb
  generalize hh0 : al h (aI 4 fun _ => 0) 4 = h0 at *
  have p0 : pi h0 h.1 0 (-9) = some (si h0 h.1 0 (-9)) := pi_si (k := 0) hn r0 (by decide) (by decide)
  have r1 := rI_siA (k := 0) (x := -9) r0
  generalize hh1 : si h0 h.1 0 (-9) = h1 at *
  have p1 : pi h1 h.1 1 (-9) = some (si h1 h.1 1 (-9)) := pi_si (k := 1) hn r1 (by decide) (by decide)
  have r2 := rI_siA (k := 1) (x := -9) r1
  generalize hh2 : si h1 h.1 1 (-9) = h2 at *
  have p2 : pi h2 h.1 2 (-9) = some (si h2 h.1 2 (-9)) := pi_si (k := 2) hn r2 (by decide) (by decide)
  have r3 := rI_siA (k := 2) (x := -9) r2
  generalize hh3 : si h2 h.1 2 (-9) = h3 at *
  have p3 : pi h3 h.1 3 (-9) = some (si h3 h.1 3 (-9)) := pi_si (k := 3) hn r3 (by decide) (by decide)
  have r4 := rI_siA (k := 3) (x := -9) r3
  generalize hh4 : si h3 h.1 3 (-9) = h4x at *
  have o4 : rO h4x a = some (1, [.null]) := by rw [← hh4, rO_si, ← hh3, rO_si, ← hh2, rO_si, ← hh1, rO_si, o0]
  have p5 : pf h4x [(1, 0)] a (.ref h.1) = some (sf h4x a 0 (.ref h.1)) := pf_sf (by omega) o4 rfl rfl (Nat.le_of_ble_eq_true rfl) rfl
  have r5 := (show rI (sf h4x a 0 (.ref h.1)) h.1 = rI h4x h.1 from rI_sf).trans r4
  refine ⟨sf h4x a 0 (.ref h.1), ?_, ?_, ?_, fun b hb hlt => ?_, _, ?_, r5, fun q hq => ?_, h4, hn⟩
  · simp only [uX1_init_0, uX1_init_1, uX1_init_4, uX1_init_5, uX1_init_6, uX1_init_8, uX1_init_9, uX1_init_10, uX1_init_12, uX1_init_13, uX1_init_14, uX1_init_15, uX1_init_17, uX1_init_18, uX1_init_19, uX1_init_20, uX1_init_22, uX1_init_23, uX1_init_24, uX1_init_25, uX1_init_27, uX1_init_28, uX1_init_31, e4, e5, hh0, p0, p1, p2, p3, p5, Option.bind_some, Option.toList_some, Option.toList_none, List.cons_append, List.nil_append, if_true, if_false, and_self, and_true, true_and, or_self, or_true, true_or, false_or, or_false, i10, i00, i01, i11, Nat.reduceAdd, st1_0, st1_c, st1_1i, st1_1r, st1_1n, st1_1u, st1_1J, st2_0, st2_c, st2_1i, st2_1r, st2_1n, st2_1u, st2_1J]
  · rw [sf_n, ← hh4, si_n, ← hh3, si_n, ← hh2, si_n, ← hh1, si_n, n0]
  · rw [sf_s, ← hh4, si_s, ← hh3, si_s, ← hh2, si_s, ← hh1, si_s, s0]
  · rw [cell_sf hb, ← hh4, cell_si (by omega), ← hh3, cell_si (by omega), ← hh2, cell_si (by omega), ← hh1, cell_si (by omega), c0 b (by omega)]
  · rw [rO_sf, if_pos rfl, o4]; rfl
  · rw [updP, updP, updP, updP, oN_none]
    by_cases w3 : q = 3
    · rw [if_pos w3]
    · rw [if_neg w3]
      by_cases w2 : q = 2
      · rw [if_pos w2]
      · rw [if_neg w2]
        by_cases w1 : q = 1
        · rw [if_pos w1]
        · rw [if_neg w1, if_pos (by omega)]
theorem c_rdInit {h : AH} {r s i n : Nat} (hR : rO h r = some (2, [.null, .int 0, .int 0, .null, .int 0])) (h4 : 4 ≤ r) (hr : r < h.1) : ∃ h1, run 28 (0, [some (.ref r), some (.ref s), some (.int (nI i)), some (.int (nI n))], [], h) = some (none, h1) ∧ h1.1 = h.1 + 2 ∧ h1.2.1 = h.2.1 + 5 ∧ (∀ b, b ≠ r → b < h.1 → h1.2.2 b = h.2.2 b) ∧ DrF h1 h.1 (h.1 + 1) (fun _ => none) ∧ rO h1 r = some (2, [.ref s, .int (nI i), .int (nI n), .ref h.1, .int 0]) := by
  have o0 : rO (al h (aO 1 [.null]) 1) h.1 = some (1, [.null]) := rO_al (by decide)
  have oR : rO (al h (aO 1 [.null]) 1) r = some (2, [.null, .int 0, .int 0, .null, .int 0]) := by rw [rO_of (cell_al (by omega)), hR]
  have n0 : (al h (aO 1 [.null]) 1).1 = h.1 + 1 := rfl
  have s0 : (al h (aO 1 [.null]) 1).2.1 = h.2.1 + 1 := rfl
  have c0 : ∀ b, b ≠ h.1 → (al h (aO 1 [.null]) 1).2.2 b = h.2.2 b := fun b hb => cell_al hb
  generalize hh0 : al h (aO 1 [.null]) 1 = h0 at *
  obtain ⟨h1, r1, n1, s1, c1, D1⟩ := c_drInit o0 (by omega) (by omega) (by omega)
  have o1 : rO h1 r = some (2, [.null, .int 0, .int 0, .null, .int 0]) := by rw [rO_of (c1 r (by omega) (by omega)), oR]
  have pp : ∀ (hx : AH) (fs : List Value) (k : Nat) (v : Value) (ty : FieldType), rO hx r = some (2, fs) → fs.length = 5 → k < 5 → cty 2 k = some ty → okT ty v = true → pf hx [(2, k)] r v = some (sf hx r k v) := fun hx fs k v ty e1 e2 e3 e4 e5 => pf_sf (by omega) e1 (by simp [List.lookup]) e4 (by omega) e5
  have p1 : pf h1 [(2, 3)] r (.ref h.1) = some (sf h1 r 3 (.ref h.1)) := pf_sf (by omega) o1 rfl rfl (Nat.le_of_ble_eq_true rfl) rfl
  have o2 : rO (sf h1 r 3 (.ref h.1)) r = some (2, [.null, .int 0, .int 0, .ref h.1, .int 0]) := by rw [rO_sf, if_pos rfl, o1]; rfl
  generalize hh2 : sf h1 r 3 (.ref h.1) = h2 at *
  have p2 : pf h2 [(2, 0)] r (.ref s) = some (sf h2 r 0 (.ref s)) := pf_sf (by omega) o2 rfl rfl (Nat.le_of_ble_eq_true rfl) rfl
  have o3 : rO (sf h2 r 0 (.ref s)) r = some (2, [.ref s, .int 0, .int 0, .ref h.1, .int 0]) := by rw [rO_sf, if_pos rfl, o2]; rfl
  generalize hh3 : sf h2 r 0 (.ref s) = h3 at *
  have p3 : pf h3 [(2, 1)] r (.int (nI i)) = some (sf h3 r 1 (.int (nI i))) := pf_sf (by omega) o3 rfl rfl (Nat.le_of_ble_eq_true rfl) rfl
  have o4 : rO (sf h3 r 1 (.int (nI i))) r = some (2, [.ref s, .int (nI i), .int 0, .ref h.1, .int 0]) := by rw [rO_sf, if_pos rfl, o3]; rfl
  generalize hh4 : sf h3 r 1 (.int (nI i)) = h4x at *
  have p4 : pf h4x [(2, 2)] r (.int (nI n)) = some (sf h4x r 2 (.int (nI n))) := pf_sf (by omega) o4 rfl rfl (Nat.le_of_ble_eq_true rfl) rfl
  have o5 : rO (sf h4x r 2 (.int (nI n))) r = some (2, [.ref s, .int (nI i), .int (nI n), .ref h.1, .int 0]) := by rw [rO_sf, if_pos rfl, o4]; rfl
  generalize hh5 : sf h4x r 2 (.int (nI n)) = h5 at *
  have cc : ∀ b, b ≠ r → h5.2.2 b = h1.2.2 b := fun b hb => by rw [← hh5, cell_sf hb, ← hh4, cell_sf hb, ← hh3, cell_sf hb, ← hh2, cell_sf hb]
  refine ⟨h5, ?_, ?_, ?_, fun b hb hlt => ?_, ?_, o5⟩
  · simp only [uX2_init_0, uX2_init_1, uX2_init_4, uX2_init_5, uX2_init_8, uX2_init_9, uX2_init_12, uX2_init_15, uX2_init_16, uX2_init_16N, uX2_init_17, uX2_init_20, uX2_init_21, uX2_init_22, uX2_init_25, uX2_init_26, uX2_init_27, uX2_init_30, hh0, vX o0, r1, p1, p2, p3, p4, Option.bind_some, Option.toList_some, Option.toList_none, List.cons_append, List.nil_append, if_true, if_false, and_self, and_true, true_and, or_self, or_true, true_or, false_or, or_false, i10, i00, i01, i11, Nat.reduceAdd, st1_0, st1_c, st1_1i, st1_1r, st1_1n, st1_1u, st1_1J, st2_0, st2_c, st2_1i, st2_1r, st2_1n, st2_1u, st2_1J]
  · rw [← hh5, sf_n, ← hh4, sf_n, ← hh3, sf_n, ← hh2, sf_n, n1, n0]
  · rw [← hh5, sf_s, ← hh4, sf_s, ← hh3, sf_s, ← hh2, sf_s, s1, s0]
  · rw [cc b hb, c1 b (by omega) (by omega), c0 b (by omega)]
  · rw [n0] at D1
    exact drF_eq D1 (cc _ (by omega)) (cc _ (by omega))
def Lf (h h1 : AH) (dr : Nat) (xp xl f : Int32) : Prop := Dif [4] h h1 ∧ rO h1 4 = some (10, xF dr xp xl f)
def Ext (h h1 : AH) (n s : Nat) : Prop := (∀ b, b < h.1 → b ≠ 4 → h1.2.2 b = h.2.2 b) ∧ h1.1 = h.1 + n ∧ h1.2.1 = h.2.1 + s
section DX
variable {h : AH} {dr : Nat} {xp xl xf : Int32} {sz : Nat → Option Nat} {sl : Nat → Nat} {cm : Nat → Int32} {k : Nat}
theorem lf1 {x : Int32} (hX : rO h 4 = some (10, xF dr xp xl xf)) : Lf h (sf h 4 9 (.int x)) dr xp xl x := ⟨difSf (by simp), sX9 hX⟩
theorem lf2 {x y : Int32} (hX : rO h 4 = some (10, xF dr xp xl xf)) : Lf h (sf (sf h 4 9 (.int x)) 4 9 (.int y)) dr xp xl y := ⟨difT (difSf (by simp)) (difSf (by simp)), sX9 (sX9 hX)⟩
theorem c_drill_u {x lane i n : Int32} (hX : rO h 4 = some (10, xF dr xp xl xf)) (hx : ¬ (0 ≤ x.toInt ∧ x.toInt ≤ 3)) : run 104 (0, [some (.ref 4), some (.int x), some (.int lane), some (.int i), some (.int n), none, none, none, none], [], h) = some (some (.int (-1)), sf h 4 9 (.int 0)) := by
  simp only [uX11_drill_0, uX11_drill_1, uX11_drill_2, uX11_drill_5, uX11_drill_6, uX11_drill_7, uX11_drill_10, uX11_drill_10N, uX11_drill_12, uX11_drill_12N, uX11_drill_14, uX11_drill_14N, uX11_drill_17, uX11_drill_18, uX11_drill_19, uX11_drill_20, uX11_drill_21, uX11_drill_24, uX11_drill_27, uX11_drill_29, uX11_drill_30, uX11_drill_30N, uX11_drill_32, uX11_drill_33, uX11_drill_34, uX11_drill_36, uX11_drill_39, uX11_drill_41, uX11_drill_43, uX11_drill_46, uX11_drill_47, uX11_drill_49, uX11_drill_52, uX11_drill_53, uX11_drill_56, uX11_drill_57, uX11_drill_57N, uX11_drill_59, uX11_drill_60, uX11_drill_62, uX11_drill_65, uX11_drill_65N, uX11_drill_67, uX11_drill_67N, uX11_drill_69, uX11_drill_72, uX11_drill_74, uX11_drill_76, uX11_drill_79, uX11_drill_80, uX11_drill_80N, uX11_drill_82, uX11_drill_85, uX11_drill_88, uX11_drill_90, pX9 hX, vX (sX9 (x := 0) hX), c_sheetAt_n hx, Option.bind_some, Option.toList_some, Option.toList_none, List.cons_append, List.nil_append, if_true, if_false, and_self, and_true, true_and, or_self, or_true, true_or, false_or, or_false, i10, i00, i01, i11, Nat.reduceAdd, st1_0, st1_c, st1_1i, st1_1r, st1_1n, st1_1u, st1_1J, st2_0, st2_c, st2_1i, st2_1r, st2_1n, st2_1u, st2_1J]
theorem bar_lo {s : Option Nat} {l : Nat} {lane i n : Int32} (hl : ¬ (0 ≤ lane.toInt ∧ lane.toInt ≤ 2)) : bar s l lane i n = -2 := if_neg hl
theorem c_drill_b {lane i n : Int32} (hX : rO h 4 = some (10, xF dr xp xl xf)) (S : SheetC h sz sl cm) (hk : k < 4) (hb : ¬ bar (sz k) (sl k) lane i n = 0) : ∃ h1, run 104 (0, [some (.ref 4), some (.int (nI k)), some (.int lane), some (.int i), some (.int n), none, none, none, none], [], h) = some (some (.int (bar (sz k) (sl k) lane i n)), h1) ∧ Lf h h1 dr xp xl (fz (bar (sz k) (sl k) lane i n)) := by
  have hX2 := sX9 (x := 0) hX
  have S2 : SheetC (sf h 4 9 (.int 0)) sz sl cm := S.f4
  by_cases hl : 0 ≤ lane.toInt ∧ lane.toInt ≤ 2
  · obtain ⟨e1, e2, _⟩ := fz_back hl hb
    have r1 := c_faultOfCells (lane := lane) (i := i) (n := n) S2 hk hl
    rw [if_neg hb] at r1
    obtain ⟨hS, _⟩ := S2.2.1 k hk
    refine ⟨_, ?_, lf2 (x := 0) hX⟩
    simp only [uX11_drill_0, uX11_drill_1, uX11_drill_2, uX11_drill_5, uX11_drill_6, uX11_drill_7, uX11_drill_10, uX11_drill_10N, uX11_drill_12, uX11_drill_12N, uX11_drill_14, uX11_drill_14N, uX11_drill_17, uX11_drill_18, uX11_drill_19, uX11_drill_20, uX11_drill_21, uX11_drill_24, uX11_drill_27, uX11_drill_29, uX11_drill_30, uX11_drill_30N, uX11_drill_32, uX11_drill_33, uX11_drill_34, uX11_drill_36, uX11_drill_39, uX11_drill_41, uX11_drill_43, uX11_drill_46, uX11_drill_47, uX11_drill_49, uX11_drill_52, uX11_drill_53, uX11_drill_56, uX11_drill_57, uX11_drill_57N, uX11_drill_59, uX11_drill_60, uX11_drill_62, uX11_drill_65, uX11_drill_65N, uX11_drill_67, uX11_drill_67N, uX11_drill_69, uX11_drill_72, uX11_drill_74, uX11_drill_76, uX11_drill_79, uX11_drill_80, uX11_drill_80N, uX11_drill_82, uX11_drill_85, uX11_drill_88, uX11_drill_90, pX9 hX, vX hX2, c_sheetAt hX2 S2 hk, c_bl3, hl, vX hS, r1, e2, c_comeTo hX2, e1, Option.bind_some, Option.toList_some, Option.toList_none, List.cons_append, List.nil_append, if_true, if_false, and_self, and_true, true_and, or_self, or_true, true_or, false_or, or_false, i10, i00, i01, i11, Nat.reduceAdd, st1_0, st1_c, st1_1i, st1_1r, st1_1n, st1_1u, st1_1J, st2_0, st2_c, st2_1i, st2_1r, st2_1n, st2_1u, st2_1J]
  · rw [bar_lo hl]
    refine ⟨_, ?_, lf1 hX⟩
    simp only [uX11_drill_0, uX11_drill_1, uX11_drill_2, uX11_drill_5, uX11_drill_6, uX11_drill_7, uX11_drill_10, uX11_drill_10N, uX11_drill_12, uX11_drill_12N, uX11_drill_14, uX11_drill_14N, uX11_drill_17, uX11_drill_18, uX11_drill_19, uX11_drill_20, uX11_drill_21, uX11_drill_24, uX11_drill_27, uX11_drill_29, uX11_drill_30, uX11_drill_30N, uX11_drill_32, uX11_drill_33, uX11_drill_34, uX11_drill_36, uX11_drill_39, uX11_drill_41, uX11_drill_43, uX11_drill_46, uX11_drill_47, uX11_drill_49, uX11_drill_52, uX11_drill_53, uX11_drill_56, uX11_drill_57, uX11_drill_57N, uX11_drill_59, uX11_drill_60, uX11_drill_62, uX11_drill_65, uX11_drill_65N, uX11_drill_67, uX11_drill_67N, uX11_drill_69, uX11_drill_72, uX11_drill_74, uX11_drill_76, uX11_drill_79, uX11_drill_80, uX11_drill_80N, uX11_drill_82, uX11_drill_85, uX11_drill_88, uX11_drill_90, pX9 hX, vX hX2, c_sheetAt hX2 S2 hk, c_bl3, if_neg hl, Option.bind_some, Option.toList_some, Option.toList_none, List.cons_append, List.nil_append, if_true, if_false, and_self, and_true, true_and, or_self, or_true, true_or, false_or, or_false, i10, i00, i01, i11, Nat.reduceAdd, st1_0, st1_c, st1_1i, st1_1r, st1_1n, st1_1u, st1_1J, st2_0, st2_c, st2_1i, st2_1r, st2_1n, st2_1u, st2_1J]
    rfl
theorem bar_lane {s : Option Nat} {l : Nat} {lane i n : Int32} (hb : bar s l lane i n = 0) : 0 ≤ lane.toInt ∧ lane.toInt ≤ 2 := by
  by_cases hl : 0 ≤ lane.toInt ∧ lane.toInt ≤ 2
  · exact hl
  · rw [bar_lo hl] at hb
    exact absurd hb (by decide)
theorem c_drill {i0 n0 m : Nat} {lane : Int32} (hX : rO h 4 = some (10, xF dr xp xl xf)) (S : SheetC h sz sl cm) (St : StC h) (hN : 59 ≤ h.1) (hk : k < 4) (hb : bar (sz k) (sl k) lane (nI i0) (nI n0) = 0) (hs : sz k = some m) (hi : i0 + n0 ≤ m) : ∃ h1, Ext h h1 3 10 ∧ match txF (fun x => cm (60 * k + i0 + x)) n0 with
    | .inl q => run 104 (0, [some (.ref 4), some (.int (nI k)), some (.int lane), some (.int (nI i0)), some (.int (nI n0)), none, none, none, none], [], h) = some (some (.int (-100 - nI q)), h1) ∧ rO h1 4 = some (10, xF dr xp xl 0)
    | .inr t2 => run 104 (0, [some (.ref 4), some (.int (nI k)), some (.int lane), some (.int (nI i0)), some (.int (nI n0)), none, none, none, none], [], h) = some (some (.int (tI t2)), h1) ∧ rO h1 4 = some (10, xF (h.1 + 1) xp xl 0) ∧ DrF h1 (h.1 + 1) (h.1 + 2) t2 ∧ tdOK t2 := by
  have hX2 := sX9 (x := 0) hX
  have S2 : SheetC (sf h 4 9 (.int 0)) sz sl cm := S.f4
  have hl := bar_lane hb
  have hm := S.2.2.1 k m hs
  have r1 := c_faultOfCells (lane := lane) (i := nI i0) (n := nI n0) S2 hk hl
  rw [if_pos hb] at r1
  obtain ⟨hS, _⟩ := S2.2.1 k hk
  have r0 := c_sheetAt hX2 S2 hk
  have pp := pX9 (x := 0) hX
  have c0 : ∀ b, b ≠ 4 → (sf h 4 9 (.int 0)).2.2 b = h.2.2 b := fun b hb => cell_sf hb
  have n0e : (sf h 4 9 (.int 0)).1 = h.1 := sf_n
  have s0e : (sf h 4 9 (.int 0)).2.1 = h.2.1 := sf_s
  generalize hh0 : sf h 4 9 (.int 0) = h0 at *
  have o1 : rO (al h0 (aO 2 [.null, .int 0, .int 0, .null, .int 0]) 5) h0.1 = some (2, [.null, .int 0, .int 0, .null, .int 0]) := rO_al (by decide)
  have n1 : (al h0 (aO 2 [.null, .int 0, .int 0, .null, .int 0]) 5).1 = h0.1 + 1 := rfl
  have s1 : (al h0 (aO 2 [.null, .int 0, .int 0, .null, .int 0]) 5).2.1 = h0.2.1 + 5 := rfl
  have c1 : ∀ b, b ≠ h0.1 → (al h0 (aO 2 [.null, .int 0, .int 0, .null, .int 0]) 5).2.2 b = h0.2.2 b := fun b hb => cell_al hb
  generalize hh1 : al h0 (aO 2 [.null, .int 0, .int 0, .null, .int 0]) 5 = h1 at *
  obtain ⟨h2, r2, n2, s2, c2, D2, o2⟩ := c_rdInit (s := 28 + 2 * k) (i := i0) (n := n0) o1 (by omega) (by omega)
  have cA : ∀ b, b < h.1 → b ≠ 4 → h2.2.2 b = h.2.2 b := fun b hb h4 => by rw [c2 b (by omega) (by omega), c1 b (by omega), c0 b h4]
  have c4 : h2.2.2 4 = h0.2.2 4 := by rw [c2 4 (by omega) (by omega), c1 4 (by omega)]
  have R : RdC h2 h0.1 k i0 n0 h1.1 (h1.1 + 1) 0 (fun _ => none) sz sl cm m := ⟨o2, D2, tdOK_n, stC_eq St (fun b hb => cA b (by omega) (by omega)), sheetC_eq S (fun b hb => cA b (by omega) (by omega)), hs, hk, hi, Nat.zero_le _, by omega, by omega, by omega, by omega⟩
  obtain ⟨h3, D3, E⟩ := c_readText R
  have cB : ∀ b, b < h.1 → h3.2.2 b = h2.2.2 b := fun b hb => D3.1 b (by simp only [List.mem_cons, List.not_mem_nil, or_false]; omega)
  have o4 : rO h3 4 = some (10, xF dr xp xl 0) := by rw [rO_of (cB 4 (by omega)), rO_of c4, hX2]
  have n3 : h3.1 = h.1 + 3 := by rw [D3.2.1, n2, n1, n0e]
  have s3 : h3.2.1 = h.2.1 + 10 := by rw [D3.2.2, s2, s1, s0e]
  cases hx : txF (fun x => cm (60 * k + i0 + x)) n0 with
  | inl q =>
    rw [hx] at E
    have hq := E.2
    have c5 : (-100 : Int32) - nI q < 0 := by
      rw [Int32.lt_iff_toInt_lt, nIi, show (-100 : Int32) = Int32.ofInt (-100) by decide, ← Int32.ofInt_sub, Int32.toInt_ofInt_of_le (by show -2147483648 ≤ _; omega) (by show _ < 2147483648; omega), show (0 : Int32).toInt = 0 by decide]
      omega
    refine ⟨h3, ⟨fun b hb h4 => by rw [cB b hb, cA b hb h4], n3, s3⟩, ?_, o4⟩
    simp only [uX11_drill_0, uX11_drill_1, uX11_drill_2, uX11_drill_5, uX11_drill_6, uX11_drill_7, uX11_drill_10, uX11_drill_10N, uX11_drill_12, uX11_drill_12N, uX11_drill_14, uX11_drill_14N, uX11_drill_17, uX11_drill_18, uX11_drill_19, uX11_drill_20, uX11_drill_21, uX11_drill_24, uX11_drill_27, uX11_drill_29, uX11_drill_30, uX11_drill_30N, uX11_drill_32, uX11_drill_33, uX11_drill_34, uX11_drill_36, uX11_drill_39, uX11_drill_41, uX11_drill_43, uX11_drill_46, uX11_drill_47, uX11_drill_49, uX11_drill_52, uX11_drill_53, uX11_drill_56, uX11_drill_57, uX11_drill_57N, uX11_drill_59, uX11_drill_60, uX11_drill_62, uX11_drill_65, uX11_drill_65N, uX11_drill_67, uX11_drill_67N, uX11_drill_69, uX11_drill_72, uX11_drill_74, uX11_drill_76, uX11_drill_79, uX11_drill_80, uX11_drill_80N, uX11_drill_82, uX11_drill_85, uX11_drill_88, uX11_drill_90, pp, vX hX2, r0, c_bl3, hl, vX hS, r1, hh1, vX o1, r2, vX o2, E.1, c5, Option.bind_some, Option.toList_some, Option.toList_none, List.cons_append, List.nil_append, if_true, if_false, and_self, and_true, true_and, or_self, or_true, true_or, false_or, or_false, i10, i00, i01, i11, Nat.reduceAdd, st1_0, st1_c, st1_1i, st1_1r, st1_1n, st1_1u, st1_1J, st2_0, st2_c, st2_1i, st2_1r, st2_1n, st2_1u, st2_1J]
  | inr t2 =>
    rw [hx] at E
    obtain ⟨E1, E2, E3, E4⟩ := E
    have c5 : ¬ tI t2 < 0 := nI_pos (by have := cnt_le (isS t2) 4; omega)
    have r6 : run 29 (0, [some (.ref h0.1)], [], h3) = some (some (.ref h1.1), h3) := by
      have g3 : gf h3 [(2, 3)] h0.1 = some (.ref h1.1) := gf_at (by omega) E4 rfl rfl
      simp only [uX2_told_0, uX2_told_1, uX2_told_4, uX2_told_4N, g3, Option.bind_some, Option.toList_some, Option.toList_none, List.cons_append, List.nil_append, if_true, if_false, and_self, and_true, true_and, or_self, or_true, true_or, false_or, or_false, i10, i00, i01, i11, Nat.reduceAdd, st1_0, st1_c, st1_1i, st1_1r, st1_1n, st1_1u, st1_1J, st2_0, st2_c, st2_1i, st2_1r, st2_1n, st2_1u, st2_1J]
    have e1 : h1.1 = h.1 + 1 := by rw [n1, n0e]
    refine ⟨sf h3 4 6 (.ref h1.1), ⟨fun b hb h4 => by rw [cell_sf h4, cB b hb, cA b hb h4], by rw [sf_n, n3], by rw [sf_s, s3]⟩, ?_, ?_, ?_, E3⟩
    · simp only [uX11_drill_0, uX11_drill_1, uX11_drill_2, uX11_drill_5, uX11_drill_6, uX11_drill_7, uX11_drill_10, uX11_drill_10N, uX11_drill_12, uX11_drill_12N, uX11_drill_14, uX11_drill_14N, uX11_drill_17, uX11_drill_18, uX11_drill_19, uX11_drill_20, uX11_drill_21, uX11_drill_24, uX11_drill_27, uX11_drill_29, uX11_drill_30, uX11_drill_30N, uX11_drill_32, uX11_drill_33, uX11_drill_34, uX11_drill_36, uX11_drill_39, uX11_drill_41, uX11_drill_43, uX11_drill_46, uX11_drill_47, uX11_drill_49, uX11_drill_52, uX11_drill_53, uX11_drill_56, uX11_drill_57, uX11_drill_57N, uX11_drill_59, uX11_drill_60, uX11_drill_62, uX11_drill_65, uX11_drill_65N, uX11_drill_67, uX11_drill_67N, uX11_drill_69, uX11_drill_72, uX11_drill_74, uX11_drill_76, uX11_drill_79, uX11_drill_80, uX11_drill_80N, uX11_drill_82, uX11_drill_85, uX11_drill_88, uX11_drill_90, pp, vX hX2, r0, c_bl3, hl, vX hS, r1, hh1, vX o1, r2, vX o2, E1, c5, vX E4, r6, pX6 o4, Option.bind_some, Option.toList_some, Option.toList_none, List.cons_append, List.nil_append, if_true, if_false, and_self, and_true, true_and, or_self, or_true, true_or, false_or, or_false, i10, i00, i01, i11, Nat.reduceAdd, st1_0, st1_c, st1_1i, st1_1r, st1_1n, st1_1u, st1_1J, st2_0, st2_c, st2_1i, st2_1r, st2_1n, st2_1u, st2_1J]
    · rw [sX6 o4, e1]
    · rw [e1] at E2
      exact drF_eq E2 (cell_sf (by omega)) (cell_sf (by omega))
theorem c_ofDrill_d {x : Int32} (hx : x.toInt < 0 ∨ 3 < x.toInt) : run 105 (0, [some (.ref 4), some (.int x)], [], h) = some (some (.int (-2)), h) := by
  simp only [uX11_ofDrill_0, uX11_ofDrill_1_d hx, uX11_ofDrill_70, uX11_ofDrill_72]
theorem c_asB {b : Bool} : run 138 (0, [some (.int (bI b))], [], h) = some (some (.int (bI b)), h) := by
  rw [c_asNumber]
  cases b <;> rfl
variable {da : Nat} {t : Nat → Option Nat}
theorem c_ofDrill_0 (hX : rO h 4 = some (10, xF dr xp xl xf)) (D : DrF h dr da t) : run 105 (0, [some (.ref 4), some (.int 0)], [], h) = some (some (.int (oN (t 0))), h) := by
  simp only [uX11_ofDrill_0, uX11_ofDrill_1_0, uX11_ofDrill_1_1, uX11_ofDrill_1_2, uX11_ofDrill_1_3, uX11_ofDrill_1_d, uX11_ofDrill_32, uX11_ofDrill_33, uX11_ofDrill_36, uX11_ofDrill_39, uX11_ofDrill_40, uX11_ofDrill_41, uX11_ofDrill_44, uX11_ofDrill_47, uX11_ofDrill_48, uX11_ofDrill_49, uX11_ofDrill_52, uX11_ofDrill_55, uX11_ofDrill_58, uX11_ofDrill_59, uX11_ofDrill_60, uX11_ofDrill_63, uX11_ofDrill_66, uX11_ofDrill_69, uX11_ofDrill_70, uX11_ofDrill_72, gX6 hX, vX D.choose_spec.1, c_beginning D, Option.bind_some, Option.toList_some, Option.toList_none, List.cons_append, List.nil_append, if_true, if_false, and_self, and_true, true_and, or_self, or_true, true_or, false_or, or_false, i10, i00, i01, i11, Nat.reduceAdd, st1_0, st1_c, st1_1i, st1_1r, st1_1n, st1_1u, st1_1J, st2_0, st2_c, st2_1i, st2_1r, st2_1n, st2_1u, st2_1J]
theorem c_ofDrill_1 (hX : rO h 4 = some (10, xF dr xp xl xf)) (D : DrF h dr da t) : run 105 (0, [some (.ref 4), some (.int 1)], [], h) = some (some (.int (oN (t 1))), h) := by
  simp only [uX11_ofDrill_0, uX11_ofDrill_1_0, uX11_ofDrill_1_1, uX11_ofDrill_1_2, uX11_ofDrill_1_3, uX11_ofDrill_1_d, uX11_ofDrill_32, uX11_ofDrill_33, uX11_ofDrill_36, uX11_ofDrill_39, uX11_ofDrill_40, uX11_ofDrill_41, uX11_ofDrill_44, uX11_ofDrill_47, uX11_ofDrill_48, uX11_ofDrill_49, uX11_ofDrill_52, uX11_ofDrill_55, uX11_ofDrill_58, uX11_ofDrill_59, uX11_ofDrill_60, uX11_ofDrill_63, uX11_ofDrill_66, uX11_ofDrill_69, uX11_ofDrill_70, uX11_ofDrill_72, gX6 hX, vX D.choose_spec.1, c_multiple D, Option.bind_some, Option.toList_some, Option.toList_none, List.cons_append, List.nil_append, if_true, if_false, and_self, and_true, true_and, or_self, or_true, true_or, false_or, or_false, i10, i00, i01, i11, Nat.reduceAdd, st1_0, st1_c, st1_1i, st1_1r, st1_1n, st1_1u, st1_1J, st2_0, st2_c, st2_1i, st2_1r, st2_1n, st2_1u, st2_1J]
theorem c_ofDrill_2 (hX : rO h 4 = some (10, xF dr xp xl xf)) (D : DrF h dr da t) (ht : tdOK t) : run 105 (0, [some (.ref 4), some (.int 2)], [], h) = some (some (.int (bI (t 2).isSome)), h) := by
  simp only [uX11_ofDrill_0, uX11_ofDrill_1_0, uX11_ofDrill_1_1, uX11_ofDrill_1_2, uX11_ofDrill_1_3, uX11_ofDrill_1_d, uX11_ofDrill_32, uX11_ofDrill_33, uX11_ofDrill_36, uX11_ofDrill_39, uX11_ofDrill_40, uX11_ofDrill_41, uX11_ofDrill_44, uX11_ofDrill_47, uX11_ofDrill_48, uX11_ofDrill_49, uX11_ofDrill_52, uX11_ofDrill_55, uX11_ofDrill_58, uX11_ofDrill_59, uX11_ofDrill_60, uX11_ofDrill_63, uX11_ofDrill_66, uX11_ofDrill_69, uX11_ofDrill_70, uX11_ofDrill_72, gX6 hX, vX D.choose_spec.1, c_hasCheck D ht, c_asB, Option.bind_some, Option.toList_some, Option.toList_none, List.cons_append, List.nil_append, if_true, if_false, and_self, and_true, true_and, or_self, or_true, true_or, false_or, or_false, i10, i00, i01, i11, Nat.reduceAdd, st1_0, st1_c, st1_1i, st1_1r, st1_1n, st1_1u, st1_1J, st2_0, st2_c, st2_1i, st2_1r, st2_1n, st2_1u, st2_1J]
theorem c_ofDrill_3 (hX : rO h 4 = some (10, xF dr xp xl xf)) (D : DrF h dr da t) (ht : tdOK t) : run 105 (0, [some (.ref 4), some (.int 3)], [], h) = some (some (.int (bI (decide (t 3 = some 1)))), h) := by
  simp only [uX11_ofDrill_0, uX11_ofDrill_1_0, uX11_ofDrill_1_1, uX11_ofDrill_1_2, uX11_ofDrill_1_3, uX11_ofDrill_1_d, uX11_ofDrill_32, uX11_ofDrill_33, uX11_ofDrill_36, uX11_ofDrill_39, uX11_ofDrill_40, uX11_ofDrill_41, uX11_ofDrill_44, uX11_ofDrill_47, uX11_ofDrill_48, uX11_ofDrill_49, uX11_ofDrill_52, uX11_ofDrill_55, uX11_ofDrill_58, uX11_ofDrill_59, uX11_ofDrill_60, uX11_ofDrill_63, uX11_ofDrill_66, uX11_ofDrill_69, uX11_ofDrill_70, uX11_ofDrill_72, gX6 hX, vX D.choose_spec.1, c_allowsReuse D ht, c_asB, Option.bind_some, Option.toList_some, Option.toList_none, List.cons_append, List.nil_append, if_true, if_false, and_self, and_true, true_and, or_self, or_true, true_or, false_or, or_false, i10, i00, i01, i11, Nat.reduceAdd, st1_0, st1_c, st1_1i, st1_1r, st1_1n, st1_1u, st1_1J, st2_0, st2_c, st2_1i, st2_1r, st2_1n, st2_1u, st2_1J]
end DX
