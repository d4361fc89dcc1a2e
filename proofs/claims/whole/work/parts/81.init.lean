theorem stA {h : AH} {a cl k n : Nat} {fs : List Value} {ty : FieldType} (hO : rO h a = some (cl, fs)) (h4 : 4 ≤ a) (ha : a < h.1) (ht : cty cl k = some ty) (hl : k < fs.length) (ho : okT ty (.ref h.1) = true) : ∃ h1, pf (al h (aI n fun _ => 0) n) [(cl, k)] a (.ref h.1) = some h1 ∧ rO h1 a = some (cl, fs.set k (.ref h.1)) ∧ rI h1 h.1 = some (n, fun _ => 0) ∧ h1.1 = h.1 + 1 ∧ h1.2.1 = h.2.1 + n ∧ ∀ b, b ≠ a → b < h.1 → h1.2.2 b = h.2.2 b := by
  have o1 : rO (al h (aI n fun _ => 0) n) a = some (cl, fs) := by rw [rO_of (cell_al (by omega)), hO]
  refine ⟨sf (al h (aI n fun _ => 0) n) a k (.ref h.1), pf_sf (by omega) o1 (by simp [List.lookup]) ht hl ho, by rw [rO_sf, if_pos rfl, o1]; rfl, by rw [rI_sf]; exact rI_al, by rw [sf_n]; rfl, by rw [sf_s]; rfl, fun b hb hlt => by rw [cell_sf hb, cell_al (by omega)]⟩
theorem stRR {h : AH} {a cl k n tg : Nat} {fs : List Value} {ty : FieldType} (ht4 : 1 ≤ tg ∧ tg < 5) (hO : rO h a = some (cl, fs)) (h4 : 4 ≤ a) (ha : a < h.1) (ht : cty cl k = some ty) (hl : k < fs.length) (ho : okT ty (.ref h.1) = true) : ∃ h1, pf (al h (aR tg n fun _ => none) n) [(cl, k)] a (.ref h.1) = some h1 ∧ rO h1 a = some (cl, fs.set k (.ref h.1)) ∧ rR h1 h.1 = some (tg, n, fun _ => none) ∧ h1.1 = h.1 + 1 ∧ h1.2.1 = h.2.1 + n ∧ ∀ b, b ≠ a → b < h.1 → h1.2.2 b = h.2.2 b := by
  have o1 : rO (al h (aR tg n fun _ => none) n) a = some (cl, fs) := by rw [rO_of (cell_al (by omega)), hO]
  refine ⟨sf (al h (aR tg n fun _ => none) n) a k (.ref h.1), pf_sf (by omega) o1 (by simp [List.lookup]) ht hl ho, by rw [rO_sf, if_pos rfl, o1]; rfl, by rw [rR_sf]; exact rR_al ht4, by rw [sf_n]; rfl, by rw [sf_s]; rfl, fun b hb hlt => by rw [cell_sf hb, cell_al (by omega)]⟩
theorem stF {h : AH} {a cl k : Nat} {fs : List Value} {ty : FieldType} {v : Value} (hO : rO h a = some (cl, fs)) (h4 : 4 ≤ a) (ht : cty cl k = some ty) (hl : k < fs.length) (ho : okT ty v = true) : ∃ h1, pf h [(cl, k)] a v = some h1 ∧ rO h1 a = some (cl, fs.set k v) ∧ h1.1 = h.1 ∧ h1.2.1 = h.2.1 ∧ ∀ b, b ≠ a → h1.2.2 b = h.2.2 b := ⟨sf h a k v, pf_sf (by omega) hO (by simp [List.lookup]) ht hl ho, by rw [rO_sf, if_pos rfl, hO]; rfl, sf_n, sf_s, fun b hb => cell_sf hb⟩
def c0 (n : Nat) : Nat → Option Nat := fun u => if u < n then none else some 0
theorem fill_c0 {n : Nat} : (fun i : Nat => if 0 ≤ i ∧ i < 0 + n then (-9 : Int32) else 0) = fun u => oN (c0 n u) := by
  funext i
  unfold c0
  by_cases h : i < n
  · rw [if_pos h, if_pos (by omega)]; rfl
  · rw [if_neg h, if_neg (by omega)]; rfl
theorem fill_s0 {n : Nat} : (fun i : Nat => if 0 ≤ i ∧ i < 0 + n then (-1 : Int32) else 0) = fun u => szI (c0 n u) := by
  funext i
  unfold c0
  by_cases h : i < n
  · rw [if_pos h, if_pos (by omega)]; rfl
  · rw [if_neg h, if_neg (by omega)]; rfl
theorem k4 : (4 : Int32).toNatClampNeg = 4 := by decide
theorem k6 : (6 : Int32).toNatClampNeg = 6 := by decide
theorem k20 : (20 : Int32).toNatClampNeg = 20 := by decide
theorem k24 : (24 : Int32).toNatClampNeg = 24 := by decide
theorem k30 : (30 : Int32).toNatClampNeg = 30 := by decide
theorem k60 : (60 : Int32).toNatClampNeg = 60 := by decide
theorem k80 : (80 : Int32).toNatClampNeg = 80 := by decide
theorem k100 : (100 : Int32).toNatClampNeg = 100 := by decide
theorem k240 : (240 : Int32).toNatClampNeg = 240 := by decide
theorem k288 : (288 : Int32).toNatClampNeg = 288 := by decide
theorem q4 : ((4 : Int32) < 0 ∨ 100000 < 4) = False := eq_false (by decide)
theorem q6 : ((6 : Int32) < 0 ∨ 100000 < 6) = False := eq_false (by decide)
theorem q20 : ((20 : Int32) < 0 ∨ 100000 < 20) = False := eq_false (by decide)
theorem q24 : ((24 : Int32) < 0 ∨ 100000 < 24) = False := eq_false (by decide)
theorem q30 : ((30 : Int32) < 0 ∨ 100000 < 30) = False := eq_false (by decide)
theorem q60 : ((60 : Int32) < 0 ∨ 100000 < 60) = False := eq_false (by decide)
theorem q80 : ((80 : Int32) < 0 ∨ 100000 < 80) = False := eq_false (by decide)
theorem q100 : ((100 : Int32) < 0 ∨ 100000 < 100) = False := eq_false (by decide)
theorem q240 : ((240 : Int32) < 0 ∨ 100000 < 240) = False := eq_false (by decide)
theorem q288 : ((288 : Int32) < 0 ∨ 100000 < 288) = False := eq_false (by decide)
theorem q6100 : ((6 : Int32) < 0 ∨ (100 : Int32) < 0 ∨ 100000 < 6 ∨ 100000 < 100) = False := eq_false (by decide)
theorem c_bookInit {h : AH} (o0 : rO h 5 = some (0, [.null, .null, .null, .null, .int 0])) (n0 : h.1 = 6) : ∃ hz, run 0 (0, [some (.ref 5), none], [], h) = some (none, hz) ∧ hz.1 = 10 ∧ hz.2.1 = h.2.1 + 260 ∧ (∀ b, b < 5 → hz.2.2 b = h.2.2 b) ∧ BookC hz (c0 30) (c0 100) (fun _ => 0) := by
  obtain ⟨h1, p1, o1, r1, n1, s1, c1⟩ := stA (k := 0) (n := 30) o0 (by decide) (by rw [n0]; decide) rfl (Nat.le_of_ble_eq_true rfl) rfl
  rw [n0] at n1
  have o1 : rO h1 5 = some (0, [.ref 6, .null, .null, .null, .int 0]) := by rw [n0] at o1; exact o1
  have r1 : rI h1 6 = some (30, fun _ => 0) := by rw [n0] at r1; exact r1
  rw [n0] at c1
  obtain ⟨h2, p2, o2, r2, n2, s2, c2⟩ := stA (k := 1) (n := 30) o1 (by decide) (by rw [n1]; decide) rfl (Nat.le_of_ble_eq_true rfl) rfl
  rw [n1] at n2
  have o2 : rO h2 5 = some (0, [.ref 6, .ref 7, .null, .null, .int 0]) := by rw [n1] at o2; exact o2
  have r2 : rI h2 7 = some (30, fun _ => 0) := by rw [n1] at r2; exact r2
  rw [n1] at c2
  obtain ⟨h3, p3, o3, r3, n3, s3, c3⟩ := stA (k := 2) (n := 100) o2 (by decide) (by rw [n2]; decide) rfl (Nat.le_of_ble_eq_true rfl) rfl
  rw [n2] at n3
  have o3 : rO h3 5 = some (0, [.ref 6, .ref 7, .ref 8, .null, .int 0]) := by rw [n2] at o3; exact o3
  have r3 : rI h3 8 = some (100, fun _ => 0) := by rw [n2] at r3; exact r3
  rw [n2] at c3
  obtain ⟨h4, p4, o4, r4, n4, s4, c4⟩ := stA (k := 3) (n := 100) o3 (by decide) (by rw [n3]; decide) rfl (Nat.le_of_ble_eq_true rfl) rfl
  rw [n3] at n4
  have o4 : rO h4 5 = some (0, [.ref 6, .ref 7, .ref 8, .ref 9, .int 0]) := by rw [n3] at o4; exact o4
  have r4 : rI h4 9 = some (100, fun _ => 0) := by rw [n3] at r4; exact r4
  rw [n3] at c4
  have a6 : rI h4 6 = some (30, fun _ => 0) := by rw [rI_of (c4 6 (by decide) (by omega)), rI_of (c3 6 (by decide) (by omega)), rI_of (c2 6 (by decide) (by omega)), r1]
  have a7 : rI h4 7 = some (30, fun _ => 0) := by rw [rI_of (c4 7 (by decide) (by omega)), rI_of (c3 7 (by decide) (by omega)), r2]
  have a8 : rI h4 8 = some (100, fun _ => 0) := by rw [rI_of (c4 8 (by decide) (by omega)), r3]
  have hO : rO h4 5 = some (0, bF 0) := o4
  have lp1 := loopN (F := fun i => run 0 (38, [some (.ref 5), some (.int (nI i))], [], fillI h4 6 0 (fun _ => -9) i)) 30 (fun i hi => by
    have c1 : ¬ (30 : Int32) ≤ nI i := nI_ge (a := i) (b := 30) hi (by decide)
    have hB : rO (fillI h4 6 0 (fun _ => -9) i) 5 = some (0, bF 0) := by rw [rO_fill, hO]
    have f3 := rI_fillA (g := fun _ => -9) (o := 0) i a6
    have p1 : pi (fillI h4 6 0 (fun _ => -9) i) 6 (nI i) (-9) = some (fillI h4 6 0 (fun _ => -9) (i + 1)) := by
      rw [pi_si (by decide) f3 hi (by decide)]
      show _ = some (si (fillI h4 6 0 (fun _ => -9) i) 6 (0 + i) (-9))
      rw [Nat.zero_add]
    show run 0 (38, _) = run 0 (38, _)
    rw [uX0_init_38]
    simp only [uX0_init_0, uX0_init_1, uX0_init_4, uX0_init_5, uX0_init_7, uX0_init_9, uX0_init_12, uX0_init_13, uX0_init_15, uX0_init_17, uX0_init_20, uX0_init_21, uX0_init_23, uX0_init_25, uX0_init_28, uX0_init_29, uX0_init_31, uX0_init_33, uX0_init_36, uX0_init_37, uX0_init_39, uX0_init_41, uX0_init_44, uX0_init_45, uX0_init_48, uX0_init_49, uX0_init_51, uX0_init_52, uX0_init_55, uX0_init_58, uX0_init_59, uX0_init_61, uX0_init_63, uX0_init_66, uX0_init_67, uX0_init_70, uX0_init_71, uX0_init_73, uX0_init_74, uX0_init_77, uX0_init_80, c1, gB0 hB, p1, nI_1, Option.bind_some, Option.toList_some, Option.toList_none, List.cons_append, List.nil_append, if_true, if_false, and_self, and_true, true_and, or_self, or_true, true_or, false_or, or_false, i10, i00, i01, i11, Nat.reduceAdd, st1_0, st1_c, st1_1i, st1_1r, st1_1n, st1_1u, st1_1J, st2_0, st2_c, st2_1i, st2_1r, st2_1n, st2_1u, st2_1J])
  have lp2 := loopN (F := fun i => run 0 (60, [some (.ref 5), some (.int (nI i))], [], fillI (fillI h4 6 0 (fun _ => -9) 30) 8 0 (fun _ => -9) i)) 100 (fun i hi => by
    have c1 : ¬ (100 : Int32) ≤ nI i := nI_ge (a := i) (b := 100) hi (by decide)
    have hB : rO (fillI (fillI h4 6 0 (fun _ => -9) 30) 8 0 (fun _ => -9) i) 5 = some (0, bF 0) := by rw [rO_fill, rO_fill, hO]
    have f3 := rI_fillA (g := fun _ => -9) (o := 0) i (show rI (fillI h4 6 0 (fun _ => -9) 30) 8 = _ from (rI_fillN 30 (by decide)).trans a8)
    have p1 : pi (fillI (fillI h4 6 0 (fun _ => -9) 30) 8 0 (fun _ => -9) i) 8 (nI i) (-9) = some (fillI (fillI h4 6 0 (fun _ => -9) 30) 8 0 (fun _ => -9) (i + 1)) := by
      rw [pi_si (by decide) f3 hi (by decide)]
      show _ = some (si (fillI (fillI h4 6 0 (fun _ => -9) 30) 8 0 (fun _ => -9) i) 8 (0 + i) (-9))
      rw [Nat.zero_add]
    show run 0 (60, _) = run 0 (60, _)
    rw [uX0_init_60]
    simp only [uX0_init_0, uX0_init_1, uX0_init_4, uX0_init_5, uX0_init_7, uX0_init_9, uX0_init_12, uX0_init_13, uX0_init_15, uX0_init_17, uX0_init_20, uX0_init_21, uX0_init_23, uX0_init_25, uX0_init_28, uX0_init_29, uX0_init_31, uX0_init_33, uX0_init_36, uX0_init_37, uX0_init_39, uX0_init_41, uX0_init_44, uX0_init_45, uX0_init_48, uX0_init_49, uX0_init_51, uX0_init_52, uX0_init_55, uX0_init_58, uX0_init_59, uX0_init_61, uX0_init_63, uX0_init_66, uX0_init_67, uX0_init_70, uX0_init_71, uX0_init_73, uX0_init_74, uX0_init_77, uX0_init_80, c1, gB2 hB, p1, nI_1, Option.bind_some, Option.toList_some, Option.toList_none, List.cons_append, List.nil_append, if_true, if_false, and_self, and_true, true_and, or_self, or_true, true_or, false_or, or_false, i10, i00, i01, i11, Nat.reduceAdd, st1_0, st1_c, st1_1i, st1_1r, st1_1n, st1_1u, st1_1J, st2_0, st2_c, st2_1i, st2_1r, st2_1n, st2_1u, st2_1J])
  have q1 : (30 : Int32) ≤ nI 30 := by decide
  have q2 : (100 : Int32) ≤ nI 100 := by decide
  have rn : run 0 (0, [some (.ref 5), none], [], h) = some (none, fillI (fillI h4 6 0 (fun _ => -9) 30) 8 0 (fun _ => -9) 100) := by
    simp only [uX0_init_0, uX0_init_1, uX0_init_4, uX0_init_5, uX0_init_7, uX0_init_9, uX0_init_12, uX0_init_13, uX0_init_15, uX0_init_17, uX0_init_20, uX0_init_21, uX0_init_23, uX0_init_25, uX0_init_28, uX0_init_29, uX0_init_31, uX0_init_33, uX0_init_36, uX0_init_37, uX0_init_39, uX0_init_41, uX0_init_44, uX0_init_45, uX0_init_48, uX0_init_49, uX0_init_51, uX0_init_52, uX0_init_55, uX0_init_58, uX0_init_59, uX0_init_61, uX0_init_63, uX0_init_66, uX0_init_67, uX0_init_70, uX0_init_71, uX0_init_73, uX0_init_74, uX0_init_77, uX0_init_80, k4, k6, k20, k24, k30, k60, k80, k100, k240, k288, q4, q6, q20, q24, q30, q60, q80, q100, q240, q288, q6100, p1, p2, p3, p4, Option.bind_some, Option.toList_some, Option.toList_none, List.cons_append, List.nil_append, if_true, if_false, and_self, and_true, true_and, or_self, or_true, true_or, false_or, or_false, i10, i00, i01, i11, Nat.reduceAdd, st1_0, st1_c, st1_1i, st1_1r, st1_1n, st1_1u, st1_1J, st2_0, st2_c, st2_1i, st2_1r, st2_1n, st2_1u, st2_1J]
    refine Eq.trans lp1 ?_
    show run 0 (38, _) = _
    rw [uX0_init_38]
    simp only [uX0_init_0, uX0_init_1, uX0_init_4, uX0_init_5, uX0_init_7, uX0_init_9, uX0_init_12, uX0_init_13, uX0_init_15, uX0_init_17, uX0_init_20, uX0_init_21, uX0_init_23, uX0_init_25, uX0_init_28, uX0_init_29, uX0_init_31, uX0_init_33, uX0_init_36, uX0_init_37, uX0_init_39, uX0_init_41, uX0_init_44, uX0_init_45, uX0_init_48, uX0_init_49, uX0_init_51, uX0_init_52, uX0_init_55, uX0_init_58, uX0_init_59, uX0_init_61, uX0_init_63, uX0_init_66, uX0_init_67, uX0_init_70, uX0_init_71, uX0_init_73, uX0_init_74, uX0_init_77, uX0_init_80, q1, Option.bind_some, Option.toList_some, Option.toList_none, List.cons_append, List.nil_append, if_true, if_false, and_self, and_true, true_and, or_self, or_true, true_or, false_or, or_false, i10, i00, i01, i11, Nat.reduceAdd, st1_0, st1_c, st1_1i, st1_1r, st1_1n, st1_1u, st1_1J, st2_0, st2_c, st2_1i, st2_1r, st2_1n, st2_1u, st2_1J]
    refine Eq.trans lp2 ?_
    show run 0 (60, _) = _
    rw [uX0_init_60]
    simp only [uX0_init_0, uX0_init_1, uX0_init_4, uX0_init_5, uX0_init_7, uX0_init_9, uX0_init_12, uX0_init_13, uX0_init_15, uX0_init_17, uX0_init_20, uX0_init_21, uX0_init_23, uX0_init_25, uX0_init_28, uX0_init_29, uX0_init_31, uX0_init_33, uX0_init_36, uX0_init_37, uX0_init_39, uX0_init_41, uX0_init_44, uX0_init_45, uX0_init_48, uX0_init_49, uX0_init_51, uX0_init_52, uX0_init_55, uX0_init_58, uX0_init_59, uX0_init_61, uX0_init_63, uX0_init_66, uX0_init_67, uX0_init_70, uX0_init_71, uX0_init_73, uX0_init_74, uX0_init_77, uX0_init_80, q2, Option.bind_some, Option.toList_some, Option.toList_none, List.cons_append, List.nil_append, if_true, if_false, and_self, and_true, true_and, or_self, or_true, true_or, false_or, or_false, i10, i00, i01, i11, Nat.reduceAdd, st1_0, st1_c, st1_1i, st1_1r, st1_1n, st1_1u, st1_1J, st2_0, st2_c, st2_1i, st2_1r, st2_1n, st2_1u, st2_1J]
  have n30 : ∀ u, u < 30 → c0 30 u = none := fun u hu => if_pos hu
  have n100 : ∀ u, u < 100 → c0 100 u = none := fun u hu => if_pos hu
  have hz : ∀ p : Nat → Bool, (∀ u, u < 30 → p u = false) → cnt p 30 = 0 := fun p hp => by
    have : cnt p 30 = cnt (fun v => decide (none = some v)) 30 := cnt_congr 30 (fun u hu => by rw [hp u hu]; exact (decide_eq_false (fun q => by cases q)).symm)
    rw [this, cnt_at]
    rfl
  refine ⟨_, rn, by rw [fill_n, fill_n]; exact n4, by rw [fill_s, fill_s]; omega, fun b hb => ?_, ?_, ?_, ?_, ?_, ⟨fun _ => 0, ?_, fun b hb => ?_, fun b => by show (0 : Nat) < 1000; omega⟩, ⟨fun u g hu => ?_, fun g u hu => ?_⟩, fun u => by show (0 : Nat) < 100; omega, fun u g hu hg => ?_⟩
  · rw [cell_fill (by omega), cell_fill (by omega), c4 b (by omega) (by omega), c3 b (by omega) (by omega), c2 b (by omega) (by omega), c1 b (by omega) (by omega)]
  · rw [rO_fill, rO_fill, hO, hz (isS (c0 30)) (fun u hu => by unfold isS; rw [n30 u hu]; rfl)]
    rfl
  · rw [rI_fillN 100 (by decide), rI_fillA 30 a6, fill_c0]
  · rw [rI_fillN 100 (by decide), rI_fillN 30 (by decide), a7]
    rfl
  · rw [rI_fillA 100 (show rI (fillI h4 6 0 (fun _ => -9) 30) 8 = _ from (rI_fillN 30 (by decide)).trans a8), fill_c0]
  · rw [rI_fillN 100 (by decide), rI_fillN 30 (by decide), r4]
    rfl
  · show 0 = PB (c0 30) (c0 100) b
    unfold PB
    rw [hz]
    intro u hu
    unfold fitP
    rw [n30 u hu]
  · unfold c0 at hu
    split at hu
    · cases hu
    · cases hu; omega
  · unfold c0 at hu
    split at hu
    · cases hu
    · cases hu; omega
  · rw [n30 u hu, n100 g hg]
    exact ⟨(fun q => by cases q), (fun q => by cases q)⟩
theorem al2_n {h : AH} {n k : Nat} : (al2 h n k).1 = h.1 + 1 + n := rfl
theorem al2_s {h : AH} {n k : Nat} : (al2 h n k).2.1 = h.2.1 + n + n * k := rfl
theorem al2_c {h : AH} {n k b : Nat} (hb : b < h.1) : (al2 h n k).2.2 b = h.2.2 b := by
  show (if b = h.1 then _ else if h.1 < b ∧ b ≤ h.1 + n then _ else h.2.2 b) = _
  rw [if_neg (by omega), if_neg (by omega)]
theorem al2_r {h : AH} {n k : Nat} : rR (al2 h n k) h.1 = some (4, n, fun i => if i < n then some (h.1 + 1 + i) else none) := by
  have e : (al2 h n k).2.2 h.1 = aR 4 n (fun i => if i < n then some (h.1 + 1 + i) else none) := if_pos rfl
  unfold rR
  rw [e]
  rfl
theorem al2_i {h : AH} {n k i : Nat} (hi : i < n) : rI (al2 h n k) (h.1 + 1 + i) = some (k, fun _ => 0) := by
  have e : (al2 h n k).2.2 (h.1 + 1 + i) = aI k (fun _ => 0) := by
    show (if h.1 + 1 + i = h.1 then _ else if h.1 < h.1 + 1 + i ∧ h.1 + 1 + i ≤ h.1 + n then _ else _) = _
    rw [if_neg (by omega), if_pos (by omega)]
  unfold rI
  rw [e]
  rfl
theorem c_postsInit {h : AH} (o0 : rO h 10 = some (5, [.null, .null, .null, .null, .null, .int 0])) (n0 : h.1 = 11) : ∃ hz, run 66 (0, [some (.ref 10)], [], h) = some (none, hz) ∧ hz.1 = 22 ∧ hz.2.1 = h.2.1 + 630 ∧ (∀ b, b < 10 → hz.2.2 b = h.2.2 b) ∧ PostsC hz (fun _ _ => 0) (fun _ => 0) 0 ∧ T3C hz := by
  obtain ⟨h1, p1, o1, r1, n1, s1, c1⟩ := stA (k := 0) (n := 6) o0 (by decide) (by omega) rfl (Nat.le_of_ble_eq_true rfl) rfl
  rw [n0] at n1 c1
  have o1 : rO h1 10 = some (5, [.ref 11, .null, .null, .null, .null, .int 0]) := by rw [n0] at o1; exact o1
  have r1 : rI h1 11 = some (6, fun _ => 0) := by rw [n0] at r1; exact r1
  have om : rO (al2 h1 6 100) 10 = some (5, [.ref 11, .null, .null, .null, .null, .int 0]) := by rw [rO_of (al2_c (by omega)), o1]
  obtain ⟨h2, p2, o2, n2, s2, c2⟩ := stF (k := 1) (v := .ref h1.1) om (by decide) rfl (Nat.le_of_ble_eq_true rfl) rfl
  rw [al2_n, n1] at n2
  rw [al2_s] at s2
  have o2 : rO h2 10 = some (5, [.ref 11, .ref 12, .null, .null, .null, .int 0]) := by rw [n1] at o2; exact o2
  obtain ⟨h3, p3, o3, r3, n3, s3, c3⟩ := stA (k := 2) (n := 6) o2 (by decide) (by omega) rfl (Nat.le_of_ble_eq_true rfl) rfl
  rw [n2] at n3 c3
  have o3 : rO h3 10 = some (5, [.ref 11, .ref 12, .ref 19, .null, .null, .int 0]) := by rw [n2] at o3; exact o3
  have r3 : rI h3 19 = some (6, fun _ => 0) := by rw [n2] at r3; exact r3
  obtain ⟨h4, p4, o4, r4, n4, s4, c4⟩ := stA (k := 3) (n := 6) o3 (by decide) (by omega) rfl (Nat.le_of_ble_eq_true rfl) rfl
  rw [n3] at n4 c4
  have o4 : rO h4 10 = some (5, [.ref 11, .ref 12, .ref 19, .ref 20, .null, .int 0]) := by rw [n3] at o4; exact o4
  have r4 : rI h4 20 = some (6, fun _ => 0) := by rw [n3] at r4; exact r4
  obtain ⟨h5, p5, o5, r5, n5, s5, c5⟩ := stA (k := 4) (n := 6) o4 (by decide) (by omega) rfl (Nat.le_of_ble_eq_true rfl) rfl
  rw [n4] at n5 c5
  have o5 : rO h5 10 = some (5, [.ref 11, .ref 12, .ref 19, .ref 20, .ref 21, .int 0]) := by rw [n4] at o5; exact o5
  have r5 : rI h5 21 = some (6, fun _ => 0) := by rw [n4] at r5; exact r5
  have k3 : ∀ b, b ≠ 10 → b < 19 → h5.2.2 b = h2.2.2 b := fun b hb hl => by rw [c5 b hb (by omega), c4 b hb (by omega), c3 b hb (by omega)]
  have rn : run 66 (0, [some (.ref 10)], [], h) = some (none, h5) := by
    simp only [uX6_init_0, uX6_init_1, uX6_init_4, uX6_init_5, uX6_init_7, uX6_init_9, uX6_init_12, uX6_init_13, uX6_init_15, uX6_init_17, uX6_init_21, uX6_init_24, uX6_init_25, uX6_init_27, uX6_init_29, uX6_init_32, uX6_init_33, uX6_init_35, uX6_init_37, uX6_init_40, uX6_init_41, uX6_init_43, uX6_init_45, uX6_init_48, k4, k6, k20, k24, k30, k60, k80, k100, k240, k288, q4, q6, q20, q24, q30, q60, q80, q100, q240, q288, q6100, p1, p2, p3, p4, p5, Option.bind_some, Option.toList_some, Option.toList_none, List.cons_append, List.nil_append, if_true, if_false, and_self, and_true, true_and, or_self, or_true, true_or, false_or, or_false, i10, i00, i01, i11, Nat.reduceAdd, st1_0, st1_c, st1_1i, st1_1r, st1_1n, st1_1u, st1_1J, st2_0, st2_c, st2_1i, st2_1r, st2_1n, st2_1u, st2_1J]
  refine ⟨h5, rn, n5, by omega, fun b hb => ?_, ⟨o5, ?_, fun p hp => ?_, ?_, fun p d => by show (0 : Nat) ≤ 2000; omega, fun p => by show (0 : Nat) < 10; omega⟩, _, _, _, (show rI h5 19 = rI h3 19 by rw [rI_of (c5 19 (by decide) (by omega)), rI_of (c4 19 (by decide) (by omega))]).trans r3, (show rI h5 20 = rI h4 20 by rw [rI_of (c5 20 (by decide) (by omega))]).trans r4, r5⟩
  · rw [k3 b (by omega) (by omega), c2 b (by omega), al2_c (by omega), c1 b (by omega) (by omega)]
  · have e := al2_r (h := h1) (n := 6) (k := 100)
    rw [n1] at e
    rw [rR_of (k3 12 (by decide) (by omega)), rR_of (c2 12 (by decide))]
    have e2 : (fun i => if i < 6 then some (12 + 1 + i) else none) = brR := by
      funext i
      unfold brR
      rfl
    rw [e, ← e2]
  · have e := al2_i (h := h1) (n := 6) (k := 100) hp
    rw [n1] at e
    rw [rI_of (k3 (13 + p) (by omega) (by omega)), rI_of (c2 (13 + p) (by omega)), show 13 + p = 12 + 1 + p by omega, e]
    rfl
  · rw [rI_of (k3 11 (by decide) (by omega)), rI_of (c2 11 (by decide)), rI_of (al2_c (by omega)), r1]
    rfl
theorem c_sheetInit {h : AH} {a : Nat} (o0 : rO h a = some (6, [.null, .int 0, .int 0])) (h4 : 4 ≤ a) (ha : a < h.1) : ∃ hz, run 74 (0, [some (.ref a)], [], h) = some (none, hz) ∧ hz.1 = h.1 + 1 ∧ hz.2.1 = h.2.1 + 60 ∧ (∀ b, b ≠ a → b < h.1 → hz.2.2 b = h.2.2 b) ∧ rO hz a = some (6, [.ref h.1, .int (-1), .int 0]) ∧ rI hz h.1 = some (60, fun _ => 0) := by
  obtain ⟨h1, p1, o1, r1, n1, s1, c1⟩ := stA (k := 0) (n := 60) o0 h4 ha rfl (Nat.le_of_ble_eq_true rfl) rfl
  have o1 : rO h1 a = some (6, [.ref h.1, .int 0, .int 0]) := o1
  obtain ⟨h2, p2, o2, n2, s2, c2⟩ := stF (k := 1) (v := .int (-1)) o1 h4 rfl (Nat.le_of_ble_eq_true rfl) rfl
  have rn : run 74 (0, [some (.ref a)], [], h) = some (none, h2) := by
    simp only [uX7_init_0, uX7_init_1, uX7_init_4, uX7_init_5, uX7_init_7, uX7_init_9, uX7_init_12, uX7_init_13, uX7_init_14, uX7_init_17, k4, k6, k20, k24, k30, k60, k80, k100, k240, k288, q4, q6, q20, q24, q30, q60, q80, q100, q240, q288, q6100, p1, p2, Option.bind_some, Option.toList_some, Option.toList_none, List.cons_append, List.nil_append, if_true, if_false, and_self, and_true, true_and, or_self, or_true, true_or, false_or, or_false, i10, i00, i01, i11, Nat.reduceAdd, st1_0, st1_c, st1_1i, st1_1r, st1_1n, st1_1u, st1_1J, st2_0, st2_c, st2_1i, st2_1r, st2_1n, st2_1u, st2_1J]
  exact ⟨h2, rn, by omega, by omega, fun b hb hl => by rw [c2 b hb, c1 b hb hl], o2, by rw [rI_of (c2 h.1 (by omega)), r1]⟩
theorem r_init_l1 {hA : AH} (oL : rO hA 36 = some (11, mF 0 (-9) (-9) 0 0 0 0 0 0 0 0)) (aL : rI hA 37 = some (30, fun _ => 0)) : run 146 (194, [some (.ref 36), some (.int (nI 0))], [], hA) = run 146 (216, [some (.ref 36), some (.int (nI 0))], [], fillI hA 37 0 (fun _ => -9) 30) := by
  have lp := loopN (F := fun i => run 146 (194, [some (.ref 36), some (.int (nI i))], [], fillI hA 37 0 (fun _ => -9) i)) 30 (fun i hi => by
    have c1 : ¬ (30 : Int32) ≤ nI i := nI_ge (a := i) (b := 30) hi (by decide)
    have hB : rO (fillI hA 37 0 (fun _ => -9) i) 36 = some (11, mF 0 (-9) (-9) 0 0 0 0 0 0 0 0) := by rw [rO_fill, oL]
    have f3 := rI_fillA (g := fun _ => -9) (o := 0) i aL
    have p1 : pi (fillI hA 37 0 (fun _ => -9) i) 37 (nI i) (-9) = some (fillI hA 37 0 (fun _ => -9) (i + 1)) := by
      rw [pi_si (by decide) f3 hi (by decide)]
      show _ = some (si (fillI hA 37 0 (fun _ => -9) i) 37 (0 + i) (-9))
      rw [Nat.zero_add]
    show run 146 (194, _) = run 146 (194, _)
    rw [uX12_init_194]
    simp only [uX12_init_0, uX12_init_1, uX12_init_4, uX12_init_5, uX12_init_7, uX12_init_9, uX12_init_12, uX12_init_13, uX12_init_15, uX12_init_17, uX12_init_20, uX12_init_21, uX12_init_23, uX12_init_25, uX12_init_28, uX12_init_29, uX12_init_30, uX12_init_32, uX12_init_35, uX12_init_36, uX12_init_38, uX12_init_40, uX12_init_43, uX12_init_44, uX12_init_46, uX12_init_48, uX12_init_51, uX12_init_52, uX12_init_54, uX12_init_56, uX12_init_59, uX12_init_60, uX12_init_63, uX12_init_65, uX12_init_68, uX12_init_69, uX12_init_71, uX12_init_73, uX12_init_76, uX12_init_77, uX12_init_79, uX12_init_81, uX12_init_84, uX12_init_85, uX12_init_87, uX12_init_89, uX12_init_92, uX12_init_93, uX12_init_95, uX12_init_97, uX12_init_100, uX12_init_101, uX12_init_104, uX12_init_106, uX12_init_109, uX12_init_110, uX12_init_112, uX12_init_114, uX12_init_117, uX12_init_118, uX12_init_120, uX12_init_122, uX12_init_125, uX12_init_126, uX12_init_128, uX12_init_130, uX12_init_133, uX12_init_134, uX12_init_136, uX12_init_138, uX12_init_141, uX12_init_142, uX12_init_144, uX12_init_146, uX12_init_149, uX12_init_150, uX12_init_151, uX12_init_153, uX12_init_156, uX12_init_157, uX12_init_158, uX12_init_160, uX12_init_163, uX12_init_164, uX12_init_167, uX12_init_169, uX12_init_172, uX12_init_173, uX12_init_175, uX12_init_177, uX12_init_180, uX12_init_181, uX12_init_183, uX12_init_186, uX12_init_187, uX12_init_189, uX12_init_192, uX12_init_193, uX12_init_195, uX12_init_197, uX12_init_200, uX12_init_201, uX12_init_204, uX12_init_205, uX12_init_207, uX12_init_208, uX12_init_211, uX12_init_214, uX12_init_215, uX12_init_217, uX12_init_219, uX12_init_222, uX12_init_223, uX12_init_226, uX12_init_227, uX12_init_229, uX12_init_230, uX12_init_233, uX12_init_236, uX12_init_237, uX12_init_239, uX12_init_240, uX12_init_243, uX12_init_244, uX12_init_247, uX12_init_248, uX12_init_249, uX12_init_250, uX12_init_253, uX12_init_256, c1, gM1 hB, p1, nI_1, Option.bind_some, Option.toList_some, Option.toList_none, List.cons_append, List.nil_append, if_true, if_false, and_self, and_true, true_and, or_self, or_true, true_or, false_or, or_false, i10, i00, i01, i11, Nat.reduceAdd, st1_0, st1_c, st1_1i, st1_1r, st1_1n, st1_1u, st1_1J, st2_0, st2_c, st2_1i, st2_1r, st2_1n, st2_1u, st2_1J])
  have q1 : (30 : Int32) ≤ nI 30 := by decide
  refine Eq.trans lp ?_
  generalize fillI hA 37 0 (fun _ => -9) 30 = hB
  show run 146 (194, _) = _
  rw [uX12_init_194]
  simp only [uX12_init_0, uX12_init_1, uX12_init_4, uX12_init_5, uX12_init_7, uX12_init_9, uX12_init_12, uX12_init_13, uX12_init_15, uX12_init_17, uX12_init_20, uX12_init_21, uX12_init_23, uX12_init_25, uX12_init_28, uX12_init_29, uX12_init_30, uX12_init_32, uX12_init_35, uX12_init_36, uX12_init_38, uX12_init_40, uX12_init_43, uX12_init_44, uX12_init_46, uX12_init_48, uX12_init_51, uX12_init_52, uX12_init_54, uX12_init_56, uX12_init_59, uX12_init_60, uX12_init_63, uX12_init_65, uX12_init_68, uX12_init_69, uX12_init_71, uX12_init_73, uX12_init_76, uX12_init_77, uX12_init_79, uX12_init_81, uX12_init_84, uX12_init_85, uX12_init_87, uX12_init_89, uX12_init_92, uX12_init_93, uX12_init_95, uX12_init_97, uX12_init_100, uX12_init_101, uX12_init_104, uX12_init_106, uX12_init_109, uX12_init_110, uX12_init_112, uX12_init_114, uX12_init_117, uX12_init_118, uX12_init_120, uX12_init_122, uX12_init_125, uX12_init_126, uX12_init_128, uX12_init_130, uX12_init_133, uX12_init_134, uX12_init_136, uX12_init_138, uX12_init_141, uX12_init_142, uX12_init_144, uX12_init_146, uX12_init_149, uX12_init_150, uX12_init_151, uX12_init_153, uX12_init_156, uX12_init_157, uX12_init_158, uX12_init_160, uX12_init_163, uX12_init_164, uX12_init_167, uX12_init_169, uX12_init_172, uX12_init_173, uX12_init_175, uX12_init_177, uX12_init_180, uX12_init_181, uX12_init_183, uX12_init_186, uX12_init_187, uX12_init_189, uX12_init_192, uX12_init_193, uX12_init_195, uX12_init_197, uX12_init_200, uX12_init_201, uX12_init_204, uX12_init_205, uX12_init_207, uX12_init_208, uX12_init_211, uX12_init_214, uX12_init_215, uX12_init_217, uX12_init_219, uX12_init_222, uX12_init_223, uX12_init_226, uX12_init_227, uX12_init_229, uX12_init_230, uX12_init_233, uX12_init_236, uX12_init_237, uX12_init_239, uX12_init_240, uX12_init_243, uX12_init_244, uX12_init_247, uX12_init_248, uX12_init_249, uX12_init_250, uX12_init_253, uX12_init_256, q1, Option.bind_some, Option.toList_some, Option.toList_none, List.cons_append, List.nil_append, if_true, if_false, and_self, and_true, true_and, or_self, or_true, true_or, false_or, or_false, i10, i00, i01, i11, Nat.reduceAdd, st1_0, st1_c, st1_1i, st1_1r, st1_1n, st1_1u, st1_1J, st2_0, st2_c, st2_1i, st2_1r, st2_1n, st2_1u, st2_1J]
  rfl
theorem r_init_l2 {hA : AH} (oL : rO hA 36 = some (11, mF 0 (-9) (-9) 0 0 0 0 0 0 0 0)) (aL : rI hA 39 = some (100, fun _ => 0)) : run 146 (216, [some (.ref 36), some (.int (nI 0))], [], hA) = run 146 (238, [some (.ref 36), some (.int (nI 0))], [], fillI hA 39 0 (fun _ => -9) 100) := by
  have lp := loopN (F := fun i => run 146 (216, [some (.ref 36), some (.int (nI i))], [], fillI hA 39 0 (fun _ => -9) i)) 100 (fun i hi => by
    have c1 : ¬ (100 : Int32) ≤ nI i := nI_ge (a := i) (b := 100) hi (by decide)
    have hB : rO (fillI hA 39 0 (fun _ => -9) i) 36 = some (11, mF 0 (-9) (-9) 0 0 0 0 0 0 0 0) := by rw [rO_fill, oL]
    have f3 := rI_fillA (g := fun _ => -9) (o := 0) i aL
    have p1 : pi (fillI hA 39 0 (fun _ => -9) i) 39 (nI i) (-9) = some (fillI hA 39 0 (fun _ => -9) (i + 1)) := by
      rw [pi_si (by decide) f3 hi (by decide)]
      show _ = some (si (fillI hA 39 0 (fun _ => -9) i) 39 (0 + i) (-9))
      rw [Nat.zero_add]
    show run 146 (216, _) = run 146 (216, _)
    rw [uX12_init_216]
    simp only [uX12_init_0, uX12_init_1, uX12_init_4, uX12_init_5, uX12_init_7, uX12_init_9, uX12_init_12, uX12_init_13, uX12_init_15, uX12_init_17, uX12_init_20, uX12_init_21, uX12_init_23, uX12_init_25, uX12_init_28, uX12_init_29, uX12_init_30, uX12_init_32, uX12_init_35, uX12_init_36, uX12_init_38, uX12_init_40, uX12_init_43, uX12_init_44, uX12_init_46, uX12_init_48, uX12_init_51, uX12_init_52, uX12_init_54, uX12_init_56, uX12_init_59, uX12_init_60, uX12_init_63, uX12_init_65, uX12_init_68, uX12_init_69, uX12_init_71, uX12_init_73, uX12_init_76, uX12_init_77, uX12_init_79, uX12_init_81, uX12_init_84, uX12_init_85, uX12_init_87, uX12_init_89, uX12_init_92, uX12_init_93, uX12_init_95, uX12_init_97, uX12_init_100, uX12_init_101, uX12_init_104, uX12_init_106, uX12_init_109, uX12_init_110, uX12_init_112, uX12_init_114, uX12_init_117, uX12_init_118, uX12_init_120, uX12_init_122, uX12_init_125, uX12_init_126, uX12_init_128, uX12_init_130, uX12_init_133, uX12_init_134, uX12_init_136, uX12_init_138, uX12_init_141, uX12_init_142, uX12_init_144, uX12_init_146, uX12_init_149, uX12_init_150, uX12_init_151, uX12_init_153, uX12_init_156, uX12_init_157, uX12_init_158, uX12_init_160, uX12_init_163, uX12_init_164, uX12_init_167, uX12_init_169, uX12_init_172, uX12_init_173, uX12_init_175, uX12_init_177, uX12_init_180, uX12_init_181, uX12_init_183, uX12_init_186, uX12_init_187, uX12_init_189, uX12_init_192, uX12_init_193, uX12_init_195, uX12_init_197, uX12_init_200, uX12_init_201, uX12_init_204, uX12_init_205, uX12_init_207, uX12_init_208, uX12_init_211, uX12_init_214, uX12_init_215, uX12_init_217, uX12_init_219, uX12_init_222, uX12_init_223, uX12_init_226, uX12_init_227, uX12_init_229, uX12_init_230, uX12_init_233, uX12_init_236, uX12_init_237, uX12_init_239, uX12_init_240, uX12_init_243, uX12_init_244, uX12_init_247, uX12_init_248, uX12_init_249, uX12_init_250, uX12_init_253, uX12_init_256, c1, gM3 hB, p1, nI_1, Option.bind_some, Option.toList_some, Option.toList_none, List.cons_append, List.nil_append, if_true, if_false, and_self, and_true, true_and, or_self, or_true, true_or, false_or, or_false, i10, i00, i01, i11, Nat.reduceAdd, st1_0, st1_c, st1_1i, st1_1r, st1_1n, st1_1u, st1_1J, st2_0, st2_c, st2_1i, st2_1r, st2_1n, st2_1u, st2_1J])
  have q1 : (100 : Int32) ≤ nI 100 := by decide
  refine Eq.trans lp ?_
  generalize fillI hA 39 0 (fun _ => -9) 100 = hB
  show run 146 (216, _) = _
  rw [uX12_init_216]
  simp only [uX12_init_0, uX12_init_1, uX12_init_4, uX12_init_5, uX12_init_7, uX12_init_9, uX12_init_12, uX12_init_13, uX12_init_15, uX12_init_17, uX12_init_20, uX12_init_21, uX12_init_23, uX12_init_25, uX12_init_28, uX12_init_29, uX12_init_30, uX12_init_32, uX12_init_35, uX12_init_36, uX12_init_38, uX12_init_40, uX12_init_43, uX12_init_44, uX12_init_46, uX12_init_48, uX12_init_51, uX12_init_52, uX12_init_54, uX12_init_56, uX12_init_59, uX12_init_60, uX12_init_63, uX12_init_65, uX12_init_68, uX12_init_69, uX12_init_71, uX12_init_73, uX12_init_76, uX12_init_77, uX12_init_79, uX12_init_81, uX12_init_84, uX12_init_85, uX12_init_87, uX12_init_89, uX12_init_92, uX12_init_93, uX12_init_95, uX12_init_97, uX12_init_100, uX12_init_101, uX12_init_104, uX12_init_106, uX12_init_109, uX12_init_110, uX12_init_112, uX12_init_114, uX12_init_117, uX12_init_118, uX12_init_120, uX12_init_122, uX12_init_125, uX12_init_126, uX12_init_128, uX12_init_130, uX12_init_133, uX12_init_134, uX12_init_136, uX12_init_138, uX12_init_141, uX12_init_142, uX12_init_144, uX12_init_146, uX12_init_149, uX12_init_150, uX12_init_151, uX12_init_153, uX12_init_156, uX12_init_157, uX12_init_158, uX12_init_160, uX12_init_163, uX12_init_164, uX12_init_167, uX12_init_169, uX12_init_172, uX12_init_173, uX12_init_175, uX12_init_177, uX12_init_180, uX12_init_181, uX12_init_183, uX12_init_186, uX12_init_187, uX12_init_189, uX12_init_192, uX12_init_193, uX12_init_195, uX12_init_197, uX12_init_200, uX12_init_201, uX12_init_204, uX12_init_205, uX12_init_207, uX12_init_208, uX12_init_211, uX12_init_214, uX12_init_215, uX12_init_217, uX12_init_219, uX12_init_222, uX12_init_223, uX12_init_226, uX12_init_227, uX12_init_229, uX12_init_230, uX12_init_233, uX12_init_236, uX12_init_237, uX12_init_239, uX12_init_240, uX12_init_243, uX12_init_244, uX12_init_247, uX12_init_248, uX12_init_249, uX12_init_250, uX12_init_253, uX12_init_256, q1, Option.bind_some, Option.toList_some, Option.toList_none, List.cons_append, List.nil_append, if_true, if_false, and_self, and_true, true_and, or_self, or_true, true_or, false_or, or_false, i10, i00, i01, i11, Nat.reduceAdd, st1_0, st1_c, st1_1i, st1_1r, st1_1n, st1_1u, st1_1J, st2_0, st2_c, st2_1i, st2_1r, st2_1n, st2_1u, st2_1J]
  rfl
theorem r_init_l3 {hA : AH} (oL : rO hA 36 = some (11, mF 0 (-9) (-9) 0 0 0 0 0 0 0 0)) (aL : rI hA 55 = some (4, fun _ => 0)) : run 146 (238, [some (.ref 36), some (.int (nI 0))], [], hA) = some (none, fillI hA 55 0 (fun _ => -1) 4) := by
  have lp := loopN (F := fun i => run 146 (238, [some (.ref 36), some (.int (nI i))], [], fillI hA 55 0 (fun _ => -1) i)) 4 (fun i hi => by
    have c1 : ¬ (4 : Int32) ≤ nI i := nI_ge (a := i) (b := 4) hi (by decide)
    have hB : rO (fillI hA 55 0 (fun _ => -1) i) 36 = some (11, mF 0 (-9) (-9) 0 0 0 0 0 0 0 0) := by rw [rO_fill, oL]
    have f3 := rI_fillA (g := fun _ => -1) (o := 0) i aL
    have p1 : pi (fillI hA 55 0 (fun _ => -1) i) 55 (nI i) (-1) = some (fillI hA 55 0 (fun _ => -1) (i + 1)) := by
      rw [pi_si (by decide) f3 hi (by decide)]
      show _ = some (si (fillI hA 55 0 (fun _ => -1) i) 55 (0 + i) (-1))
      rw [Nat.zero_add]
    show run 146 (238, _) = run 146 (238, _)
    rw [uX12_init_238]
    simp only [uX12_init_0, uX12_init_1, uX12_init_4, uX12_init_5, uX12_init_7, uX12_init_9, uX12_init_12, uX12_init_13, uX12_init_15, uX12_init_17, uX12_init_20, uX12_init_21, uX12_init_23, uX12_init_25, uX12_init_28, uX12_init_29, uX12_init_30, uX12_init_32, uX12_init_35, uX12_init_36, uX12_init_38, uX12_init_40, uX12_init_43, uX12_init_44, uX12_init_46, uX12_init_48, uX12_init_51, uX12_init_52, uX12_init_54, uX12_init_56, uX12_init_59, uX12_init_60, uX12_init_63, uX12_init_65, uX12_init_68, uX12_init_69, uX12_init_71, uX12_init_73, uX12_init_76, uX12_init_77, uX12_init_79, uX12_init_81, uX12_init_84, uX12_init_85, uX12_init_87, uX12_init_89, uX12_init_92, uX12_init_93, uX12_init_95, uX12_init_97, uX12_init_100, uX12_init_101, uX12_init_104, uX12_init_106, uX12_init_109, uX12_init_110, uX12_init_112, uX12_init_114, uX12_init_117, uX12_init_118, uX12_init_120, uX12_init_122, uX12_init_125, uX12_init_126, uX12_init_128, uX12_init_130, uX12_init_133, uX12_init_134, uX12_init_136, uX12_init_138, uX12_init_141, uX12_init_142, uX12_init_144, uX12_init_146, uX12_init_149, uX12_init_150, uX12_init_151, uX12_init_153, uX12_init_156, uX12_init_157, uX12_init_158, uX12_init_160, uX12_init_163, uX12_init_164, uX12_init_167, uX12_init_169, uX12_init_172, uX12_init_173, uX12_init_175, uX12_init_177, uX12_init_180, uX12_init_181, uX12_init_183, uX12_init_186, uX12_init_187, uX12_init_189, uX12_init_192, uX12_init_193, uX12_init_195, uX12_init_197, uX12_init_200, uX12_init_201, uX12_init_204, uX12_init_205, uX12_init_207, uX12_init_208, uX12_init_211, uX12_init_214, uX12_init_215, uX12_init_217, uX12_init_219, uX12_init_222, uX12_init_223, uX12_init_226, uX12_init_227, uX12_init_229, uX12_init_230, uX12_init_233, uX12_init_236, uX12_init_237, uX12_init_239, uX12_init_240, uX12_init_243, uX12_init_244, uX12_init_247, uX12_init_248, uX12_init_249, uX12_init_250, uX12_init_253, uX12_init_256, c1, gM28 hB, p1, nI_1, Option.bind_some, Option.toList_some, Option.toList_none, List.cons_append, List.nil_append, if_true, if_false, and_self, and_true, true_and, or_self, or_true, true_or, false_or, or_false, i10, i00, i01, i11, Nat.reduceAdd, st1_0, st1_c, st1_1i, st1_1r, st1_1n, st1_1u, st1_1J, st2_0, st2_c, st2_1i, st2_1r, st2_1n, st2_1u, st2_1J])
  have q1 : (4 : Int32) ≤ nI 4 := by decide
  refine Eq.trans lp ?_
  generalize fillI hA 55 0 (fun _ => -1) 4 = hB
  show run 146 (238, _) = _
  rw [uX12_init_238]
  simp only [uX12_init_0, uX12_init_1, uX12_init_4, uX12_init_5, uX12_init_7, uX12_init_9, uX12_init_12, uX12_init_13, uX12_init_15, uX12_init_17, uX12_init_20, uX12_init_21, uX12_init_23, uX12_init_25, uX12_init_28, uX12_init_29, uX12_init_30, uX12_init_32, uX12_init_35, uX12_init_36, uX12_init_38, uX12_init_40, uX12_init_43, uX12_init_44, uX12_init_46, uX12_init_48, uX12_init_51, uX12_init_52, uX12_init_54, uX12_init_56, uX12_init_59, uX12_init_60, uX12_init_63, uX12_init_65, uX12_init_68, uX12_init_69, uX12_init_71, uX12_init_73, uX12_init_76, uX12_init_77, uX12_init_79, uX12_init_81, uX12_init_84, uX12_init_85, uX12_init_87, uX12_init_89, uX12_init_92, uX12_init_93, uX12_init_95, uX12_init_97, uX12_init_100, uX12_init_101, uX12_init_104, uX12_init_106, uX12_init_109, uX12_init_110, uX12_init_112, uX12_init_114, uX12_init_117, uX12_init_118, uX12_init_120, uX12_init_122, uX12_init_125, uX12_init_126, uX12_init_128, uX12_init_130, uX12_init_133, uX12_init_134, uX12_init_136, uX12_init_138, uX12_init_141, uX12_init_142, uX12_init_144, uX12_init_146, uX12_init_149, uX12_init_150, uX12_init_151, uX12_init_153, uX12_init_156, uX12_init_157, uX12_init_158, uX12_init_160, uX12_init_163, uX12_init_164, uX12_init_167, uX12_init_169, uX12_init_172, uX12_init_173, uX12_init_175, uX12_init_177, uX12_init_180, uX12_init_181, uX12_init_183, uX12_init_186, uX12_init_187, uX12_init_189, uX12_init_192, uX12_init_193, uX12_init_195, uX12_init_197, uX12_init_200, uX12_init_201, uX12_init_204, uX12_init_205, uX12_init_207, uX12_init_208, uX12_init_211, uX12_init_214, uX12_init_215, uX12_init_217, uX12_init_219, uX12_init_222, uX12_init_223, uX12_init_226, uX12_init_227, uX12_init_229, uX12_init_230, uX12_init_233, uX12_init_236, uX12_init_237, uX12_init_239, uX12_init_240, uX12_init_243, uX12_init_244, uX12_init_247, uX12_init_248, uX12_init_249, uX12_init_250, uX12_init_253, uX12_init_256, q1, Option.bind_some, Option.toList_some, Option.toList_none, List.cons_append, List.nil_append, if_true, if_false, and_self, and_true, true_and, or_self, or_true, true_or, false_or, or_false, i10, i00, i01, i11, Nat.reduceAdd, st1_0, st1_c, st1_1i, st1_1r, st1_1n, st1_1u, st1_1J, st2_0, st2_c, st2_1i, st2_1r, st2_1n, st2_1u, st2_1J]
theorem rs_zero {h : AH} {f40 f50 f58 : Nat → Int32} (oL : rO h 36 = some (11, mF 0 (-9) (-9) 0 0 0 0 0 0 0 0)) (a37 : rI h 37 = some (30, fun u => oN (c0 30 u))) (a38 : rI h 38 = some (30, fun _ => 0)) (a39 : rI h 39 = some (100, fun u => oN (c0 100 u))) (a40 : rI h 40 = some (4, f40)) (a41 : rI h 41 = some (24, fun _ => 0)) (a42 : rI h 42 = some (24, fun _ => 0)) (a43 : rI h 43 = some (24, fun _ => 0)) (a44 : rI h 44 = some (288, fun _ => 0)) (a45 : rI h 45 = some (24, fun _ => 0)) (a46 : rI h 46 = some (20, fun _ => 0)) (a47 : rI h 47 = some (20, fun _ => 0)) (a48 : rI h 48 = some (20, fun _ => 0)) (a49 : rI h 49 = some (240, fun _ => 0)) (a50 : rI h 50 = some (80, f50)) (a51 : rI h 51 = some (6, fun _ => 0)) (a52 : rI h 52 = some (20, fun _ => 0)) (a53 : rI h 53 = some (20, fun _ => 0)) (a54 : rI h 54 = some (20, fun _ => 0)) (a55 : rI h 55 = some (4, fun u => szI (c0 4 u))) (a56 : rI h 56 = some (4, fun _ => 0)) (a57 : rI h 57 = some (240, fun _ => 0)) (a58 : rI h 58 = some (60, f58)) : RS h (c0 30) (c0 100) (fun _ => 0) (fun _ => 0) (fun _ => 0) (fun _ => 0) (fun _ => 0) 0 (fun _ => none) 0 (fun _ => 0) (fun _ => 0) (fun _ => 0) (fun _ => 0) (fun _ _ => 0) 0 (fun _ => 0) (fun _ => 0) (fun _ => 0) (fun _ _ => 0) (c0 4) (fun _ => 0) (fun _ => 0) 0 0 := by
  refine ⟨0, 0, f40, f50, f58, oL, ⟨a37, a38, a39, ⟨fun u g hu => ?_, fun g u hu => ?_⟩, fun u => by show (0 : Nat) < 100; omega⟩, ⟨by omega, fun b => by show (0 : Nat) < 100; omega, fun b => by show (0 : Nat) < 100; omega, fun b => by show (0 : Nat) < 100; omega, fun b => by show (0 : Nat) < 10; omega, a52, a53, a54, a51⟩, ⟨a41, a42, a43, a44, a45, by omega, fun p => by show (0 : Nat) < 3; omega, fun p => by show (0 : Nat) < 6; omega, fun p => by show (0 : Nat) ≤ 12; omega, fun p => by show (0 : Nat) ≤ 20; omega, fun p j => by show (0 : Nat) < 100; omega, fun p hp => by omega⟩, ⟨a46, a47, a48, a49, by omega, fun p => by show (0 : Nat) < 24; omega, fun p => by show (0 : Nat) < 100; omega, fun p => by show (0 : Nat) ≤ 12; omega, fun p j => by show (0 : Nat) < 100; omega, fun p hp => by omega⟩, ⟨a55, a56, a57, fun k m hk => ?_, fun k => by show (0 : Nat) < 3; omega⟩, a40, a50, a58, fun p hp => rfl, fun p => Nat.le_refl _⟩
  · unfold c0 at hu
    split at hu
    · cases hu
    · cases hu; omega
  · unfold c0 at hu
    split at hu
    · cases hu
    · cases hu; omega
  · unfold c0 at hk
    split at hk
    · cases hk
    · cases hk; omega
