theorem pX9 {h : AH} {dr : Nat} {xp xl xf : Int32} {x : Int32} (hX : rO h 4 = some (10, xF dr xp xl xf)) : pf h [(10, 9)] 4 (.int x) = some (sf h 4 9 (.int x)) := pf_sf (by decide) hX rfl rfl (Nat.le_of_ble_eq_true rfl) rfl
theorem sX9 {h : AH} {dr : Nat} {xp xl xf : Int32} {x : Int32} (hX : rO h 4 = some (10, xF dr xp xl xf)) : rO (sf h 4 9 (.int x)) 4 = some (10, xF dr xp xl x) := by rw [rO_sf, if_pos rfl, hX]; rfl
theorem pX8 {h : AH} {dr : Nat} {xp xl xf : Int32} {x : Int32} (hX : rO h 4 = some (10, xF dr xp xl xf)) : pf h [(10, 8)] 4 (.int x) = some (sf h 4 8 (.int x)) := pf_sf (by decide) hX rfl rfl (Nat.le_of_ble_eq_true rfl) rfl
theorem sX8 {h : AH} {dr : Nat} {xp xl xf : Int32} {x : Int32} (hX : rO h 4 = some (10, xF dr xp xl xf)) : rO (sf h 4 8 (.int x)) 4 = some (10, xF dr xp x xf) := by rw [rO_sf, if_pos rfl, hX]; rfl
theorem pX7 {h : AH} {dr : Nat} {xp xl xf : Int32} {x : Int32} (hX : rO h 4 = some (10, xF dr xp xl xf)) : pf h [(10, 7)] 4 (.int x) = some (sf h 4 7 (.int x)) := pf_sf (by decide) hX rfl rfl (Nat.le_of_ble_eq_true rfl) rfl
theorem sX7 {h : AH} {dr : Nat} {xp xl xf : Int32} {x : Int32} (hX : rO h 4 = some (10, xF dr xp xl xf)) : rO (sf h 4 7 (.int x)) 4 = some (10, xF dr x xl xf) := by rw [rO_sf, if_pos rfl, hX]; rfl
theorem pX6 {h : AH} {dr : Nat} {xp xl xf : Int32} {x : Nat} (hX : rO h 4 = some (10, xF dr xp xl xf)) : pf h [(10, 6)] 4 (.ref x) = some (sf h 4 6 (.ref x)) := pf_sf (by decide) hX rfl rfl (Nat.le_of_ble_eq_true rfl) rfl
theorem sX6 {h : AH} {dr : Nat} {xp xl xf : Int32} {x : Nat} (hX : rO h 4 = some (10, xF dr xp xl xf)) : rO (sf h 4 6 (.ref x)) 4 = some (10, xF x xp xl xf) := by rw [rO_sf, if_pos rfl, hX]; rfl
def shR (i : Nat) : Option Nat := if i < 4 then some (28 + 2 * i) else none
def slC (o : Option Nat) (l : Nat) : Int32 := match o with
  | none => -1
  | some _ => nI l
def szC (o : Option Nat) : Int32 := match o with
  | none => 0
  | some n => nI n
def sF (k : Nat) (o : Option Nat) (l : Nat) : List Value := [.ref (29 + 2 * k), .int (slC o l), .int (szC o)]
def SheetC (h : AH) (sz : Nat → Option Nat) (sl : Nat → Nat) (cm : Nat → Int32) : Prop := rR h 25 = some (3, 4, shR) ∧ (∀ k, k < 4 → rO h (28 + 2 * k) = some (6, sF k (sz k) (sl k)) ∧ ∃ f, rI h (29 + 2 * k) = some (60, f) ∧ ∀ m, sz k = some m → ∀ i, i < m → f i = cm (60 * k + i)) ∧ (∀ k n, sz k = some n → n ≤ 60) ∧ ∀ k, sl k < 3
section SCG
variable {h : AH} {a ca : Nat} {ln s : Int32}
theorem gS0 (hS : rO h a = some (6, [.ref ca, .int ln, .int s])) (h4 : 4 ≤ a) : gf h [(6, 0)] a = some (.ref ca) := gf_at (by omega) hS rfl rfl
theorem gS1 (hS : rO h a = some (6, [.ref ca, .int ln, .int s])) (h4 : 4 ≤ a) : gf h [(6, 1)] a = some (.int ln) := gf_at (by omega) hS rfl rfl
theorem gS2 (hS : rO h a = some (6, [.ref ca, .int ln, .int s])) (h4 : 4 ≤ a) : gf h [(6, 2)] a = some (.int s) := gf_at (by omega) hS rfl rfl
theorem pS1 {x : Int32} (hS : rO h a = some (6, [.ref ca, .int ln, .int s])) (h4 : 4 ≤ a) : pf h [(6, 1)] a (.int x) = some (sf h a 1 (.int x)) := pf_sf (by omega) hS rfl rfl (Nat.le_of_ble_eq_true rfl) rfl
theorem pS2 {x : Int32} (hS : rO h a = some (6, [.ref ca, .int ln, .int s])) (h4 : 4 ≤ a) : pf h [(6, 2)] a (.int x) = some (sf h a 2 (.int x)) := pf_sf (by omega) hS rfl rfl (Nat.le_of_ble_eq_true rfl) rfl
theorem sS1 {x : Int32} (hS : rO h a = some (6, [.ref ca, .int ln, .int s])) : rO (sf h a 1 (.int x)) a = some (6, [.ref ca, .int x, .int s]) := by rw [rO_sf, if_pos rfl, hS]; rfl
theorem sS2 {x : Int32} (hS : rO h a = some (6, [.ref ca, .int ln, .int s])) : rO (sf h a 2 (.int x)) a = some (6, [.ref ca, .int ln, .int x]) := by rw [rO_sf, if_pos rfl, hS]; rfl
theorem c_isNothing (hS : rO h a = some (6, [.ref ca, .int ln, .int s])) (h4 : 4 ≤ a) : run 75 (0, [some (.ref a)], [], h) = some (some (.int (if ln = -1 then 1 else 0)), h) := by
  by_cases q : ln = -1
  · simp only [uX7_isNothing_0, uX7_isNothing_1, uX7_isNothing_4, uX7_isNothing_5, uX7_isNothing_8, uX7_isNothing_9, uX7_isNothing_12, uX7_isNothing_13, gS1 hS h4, q, Option.bind_some, Option.toList_some, Option.toList_none, List.cons_append, List.nil_append, if_true, if_false, and_self, and_true, true_and, or_self, or_true, true_or, false_or, or_false, i10, i00, i01, i11, Nat.reduceAdd, st1_0, st1_c, st1_1i, st1_1r, st1_1n, st1_1u, st1_1J, st2_0, st2_c, st2_1i, st2_1r, st2_1n, st2_1u, st2_1J]
  · simp only [uX7_isNothing_0, uX7_isNothing_1, uX7_isNothing_4, uX7_isNothing_5, uX7_isNothing_8, uX7_isNothing_9, uX7_isNothing_12, uX7_isNothing_13, gS1 hS h4, q, Option.bind_some, Option.toList_some, Option.toList_none, List.cons_append, List.nil_append, if_true, if_false, and_self, and_true, true_and, or_self, or_true, true_or, false_or, or_false, i10, i00, i01, i11, Nat.reduceAdd, st1_0, st1_c, st1_1i, st1_1r, st1_1n, st1_1u, st1_1J, st2_0, st2_c, st2_1i, st2_1r, st2_1n, st2_1u, st2_1J]
theorem c_isOfLane {a2 ca2 : Nat} {ln2 s2 : Int32} (hS : rO h a = some (6, [.ref ca, .int ln, .int s])) (h4 : 4 ≤ a) (hS2 : rO h a2 = some (6, [.ref ca2, .int ln2, .int s2])) (h42 : 4 ≤ a2) : run 78 (0, [some (.ref a), some (.ref a2)], [], h) = some (some (.int (if ln = ln2 then 1 else 0)), h) := by
  by_cases q : ln = ln2
  · simp only [uX7_isOfLaneOf_0, uX7_isOfLaneOf_1, uX7_isOfLaneOf_4, uX7_isOfLaneOf_4N, uX7_isOfLaneOf_5, uX7_isOfLaneOf_8, uX7_isOfLaneOf_11, uX7_isOfLaneOf_12, uX7_isOfLaneOf_15, uX7_isOfLaneOf_16, gS1 hS h4, gS1 hS2 h42, q, Option.bind_some, Option.toList_some, Option.toList_none, List.cons_append, List.nil_append, if_true, if_false, and_self, and_true, true_and, or_self, or_true, true_or, false_or, or_false, i10, i00, i01, i11, Nat.reduceAdd, st1_0, st1_c, st1_1i, st1_1r, st1_1n, st1_1u, st1_1J, st2_0, st2_c, st2_1i, st2_1r, st2_1n, st2_1u, st2_1J]
  · simp only [uX7_isOfLaneOf_0, uX7_isOfLaneOf_1, uX7_isOfLaneOf_4, uX7_isOfLaneOf_4N, uX7_isOfLaneOf_5, uX7_isOfLaneOf_8, uX7_isOfLaneOf_11, uX7_isOfLaneOf_12, uX7_isOfLaneOf_15, uX7_isOfLaneOf_16, gS1 hS h4, gS1 hS2 h42, q, Option.bind_some, Option.toList_some, Option.toList_none, List.cons_append, List.nil_append, if_true, if_false, and_self, and_true, true_and, or_self, or_true, true_or, false_or, or_false, i10, i00, i01, i11, Nat.reduceAdd, st1_0, st1_c, st1_1i, st1_1r, st1_1n, st1_1u, st1_1J, st2_0, st2_c, st2_1i, st2_1r, st2_1n, st2_1u, st2_1J]
theorem c_hasCell {x : Int32} (hS : rO h a = some (6, [.ref ca, .int ln, .int s])) (h4 : 4 ≤ a) : run 79 (0, [some (.ref a), some (.int x)], [], h) = some (some (.int (if 0 ≤ x.toInt ∧ x.toInt < s.toInt then 1 else 0)), h) := by
  by_cases q : 0 ≤ x.toInt ∧ x.toInt < s.toInt
  · simp only [uX7_hasCell_0, uX7_hasCell_1, uX7_hasCell_2, uX7_hasCell_5, uX7_hasCell_8, gS2 hS h4, c_isBelow, if_pos q, Option.bind_some, Option.toList_some, Option.toList_none, List.cons_append, List.nil_append, if_true, if_false, and_self, and_true, true_and, or_self, or_true, true_or, false_or, or_false, i10, i00, i01, i11, Nat.reduceAdd, st1_0, st1_c, st1_1i, st1_1r, st1_1n, st1_1u, st1_1J, st2_0, st2_c, st2_1i, st2_1r, st2_1n, st2_1u, st2_1J]
  · simp only [uX7_hasCell_0, uX7_hasCell_1, uX7_hasCell_2, uX7_hasCell_5, uX7_hasCell_8, gS2 hS h4, c_isBelow, if_neg q, Option.bind_some, Option.toList_some, Option.toList_none, List.cons_append, List.nil_append, if_true, if_false, and_self, and_true, true_and, or_self, or_true, true_or, false_or, or_false, i10, i00, i01, i11, Nat.reduceAdd, st1_0, st1_c, st1_1i, st1_1r, st1_1n, st1_1u, st1_1J, st2_0, st2_c, st2_1i, st2_1r, st2_1n, st2_1u, st2_1J]
theorem c_hasCells {m : Nat} {i n : Int32} (hS : rO h a = some (6, [.ref ca, .int ln, .int (nI m)])) (h4 : 4 ≤ a) (hm : m ≤ 60) : run 80 (0, [some (.ref a), some (.int i), some (.int n)], [], h) = some (some (.int (if 0 ≤ n.toInt ∧ 0 ≤ i.toInt ∧ i.toInt + n.toInt ≤ m then 1 else 0)), h) := by
  have em : (nI m).toInt = m := nI_toInt (by omega)
  have g2 := gS2 hS h4
  have hi := i64r i
  have hn := i64r n
  by_cases q1 : n.toInt < 0
  · have q : ¬ (0 ≤ n.toInt ∧ 0 ≤ i.toInt ∧ i.toInt + n.toInt ≤ m) := by omega
    simp only [uX7_hasCells_0, uX7_hasCells_1, uX7_hasCells_4, uX7_hasCells_5, uX7_hasCells_6, uX7_hasCells_9, uX7_hasCells_12, uX7_hasCells_13, uX7_hasCells_16, uX7_hasCells_17, uX7_hasCells_18, uX7_hasCells_21, uX7_hasCells_22, uX7_hasCells_23, uX7_hasCells_26, uX7_hasCells_27, uX7_hasCells_30, uX7_hasCells_31, lt0I n, q1, if_neg q, Option.bind_some, Option.toList_some, Option.toList_none, List.cons_append, List.nil_append, if_true, if_false, and_self, and_true, true_and, or_self, or_true, true_or, false_or, or_false, i10, i00, i01, i11, Nat.reduceAdd, st1_0, st1_c, st1_1i, st1_1r, st1_1n, st1_1u, st1_1J, st2_0, st2_c, st2_1i, st2_1r, st2_1n, st2_1u, st2_1J]
  · by_cases q2 : nI m < n
    · have q3 := Int32.lt_iff_toInt_lt.mp q2
      by_cases q4 : i.toInt < 0
      · have q : ¬ (0 ≤ n.toInt ∧ 0 ≤ i.toInt ∧ i.toInt + n.toInt ≤ m) := by omega
        simp only [uX7_hasCells_0, uX7_hasCells_1, uX7_hasCells_4, uX7_hasCells_5, uX7_hasCells_6, uX7_hasCells_9, uX7_hasCells_12, uX7_hasCells_13, uX7_hasCells_16, uX7_hasCells_17, uX7_hasCells_18, uX7_hasCells_21, uX7_hasCells_22, uX7_hasCells_23, uX7_hasCells_26, uX7_hasCells_27, uX7_hasCells_30, uX7_hasCells_31, lt0I n, q1, g2, q2, if_neg q, Option.bind_some, Option.toList_some, Option.toList_none, List.cons_append, List.nil_append, if_true, if_false, and_self, and_true, true_and, or_self, or_true, true_or, false_or, or_false, i10, i00, i01, i11, Nat.reduceAdd, st1_0, st1_c, st1_1i, st1_1r, st1_1n, st1_1u, st1_1J, st2_0, st2_c, st2_1i, st2_1r, st2_1n, st2_1u, st2_1J]
      · have q : ¬ (0 ≤ n.toInt ∧ 0 ≤ i.toInt ∧ i.toInt + n.toInt ≤ m) := by omega
        simp only [uX7_hasCells_0, uX7_hasCells_1, uX7_hasCells_4, uX7_hasCells_5, uX7_hasCells_6, uX7_hasCells_9, uX7_hasCells_12, uX7_hasCells_13, uX7_hasCells_16, uX7_hasCells_17, uX7_hasCells_18, uX7_hasCells_21, uX7_hasCells_22, uX7_hasCells_23, uX7_hasCells_26, uX7_hasCells_27, uX7_hasCells_30, uX7_hasCells_31, lt0I n, q1, g2, q2, if_neg q, Option.bind_some, Option.toList_some, Option.toList_none, List.cons_append, List.nil_append, if_true, if_false, and_self, and_true, true_and, or_self, or_true, true_or, false_or, or_false, i10, i00, i01, i11, Nat.reduceAdd, st1_0, st1_c, st1_1i, st1_1r, st1_1n, st1_1u, st1_1J, st2_0, st2_c, st2_1i, st2_1r, st2_1n, st2_1u, st2_1J]
    · have q3 := Int32.le_iff_toInt_le.mp (Int32.not_lt.mp q2)
      by_cases q4 : i.toInt < 0
      · have q : ¬ (0 ≤ n.toInt ∧ 0 ≤ i.toInt ∧ i.toInt + n.toInt ≤ m) := by omega
        simp only [uX7_hasCells_0, uX7_hasCells_1, uX7_hasCells_4, uX7_hasCells_5, uX7_hasCells_6, uX7_hasCells_9, uX7_hasCells_12, uX7_hasCells_13, uX7_hasCells_16, uX7_hasCells_17, uX7_hasCells_18, uX7_hasCells_21, uX7_hasCells_22, uX7_hasCells_23, uX7_hasCells_26, uX7_hasCells_27, uX7_hasCells_30, uX7_hasCells_31, lt0I n, lt0I i, q1, g2, q2, q4, if_neg q, Option.bind_some, Option.toList_some, Option.toList_none, List.cons_append, List.nil_append, if_true, if_false, and_self, and_true, true_and, or_self, or_true, true_or, false_or, or_false, i10, i00, i01, i11, Nat.reduceAdd, st1_0, st1_c, st1_1i, st1_1r, st1_1n, st1_1u, st1_1J, st2_0, st2_c, st2_1i, st2_1r, st2_1n, st2_1u, st2_1J]
      · obtain ⟨n0, z1, z2⟩ := nIof (x := n) (by omega)
        subst z2
        rw [nI_toInt z1] at q3 ⊢
        rw [nI_toInt z1] at q1
        have es : (nI m - nI n0).toInt = (m : Int) - n0 := nI_subI (by omega) (by omega)
        have c1 : ((nI m - nI n0) < i) = ((m : Int) - n0 < i.toInt) := by rw [Int32.lt_iff_toInt_lt, es]
        have q1b : ¬ (nI n0).toInt < 0 := by rw [nI_toInt z1]; omega
        by_cases q5 : (m : Int) - n0 < i.toInt
        · have q : ¬ (0 ≤ (n0 : Int) ∧ 0 ≤ i.toInt ∧ i.toInt + n0 ≤ m) := by omega
          simp only [uX7_hasCells_0, uX7_hasCells_1, uX7_hasCells_4, uX7_hasCells_5, uX7_hasCells_6, uX7_hasCells_9, uX7_hasCells_12, uX7_hasCells_13, uX7_hasCells_16, uX7_hasCells_17, uX7_hasCells_18, uX7_hasCells_21, uX7_hasCells_22, uX7_hasCells_23, uX7_hasCells_26, uX7_hasCells_27, uX7_hasCells_30, uX7_hasCells_31, lt0I (nI n0), lt0I i, q1b, g2, q2, q4, c1, q5, if_neg q, Option.bind_some, Option.toList_some, Option.toList_none, List.cons_append, List.nil_append, if_true, if_false, and_self, and_true, true_and, or_self, or_true, true_or, false_or, or_false, i10, i00, i01, i11, Nat.reduceAdd, st1_0, st1_c, st1_1i, st1_1r, st1_1n, st1_1u, st1_1J, st2_0, st2_c, st2_1i, st2_1r, st2_1n, st2_1u, st2_1J]
        · have q : 0 ≤ (n0 : Int) ∧ 0 ≤ i.toInt ∧ i.toInt + n0 ≤ m := by omega
          simp only [uX7_hasCells_0, uX7_hasCells_1, uX7_hasCells_4, uX7_hasCells_5, uX7_hasCells_6, uX7_hasCells_9, uX7_hasCells_12, uX7_hasCells_13, uX7_hasCells_16, uX7_hasCells_17, uX7_hasCells_18, uX7_hasCells_21, uX7_hasCells_22, uX7_hasCells_23, uX7_hasCells_26, uX7_hasCells_27, uX7_hasCells_30, uX7_hasCells_31, lt0I (nI n0), lt0I i, q1b, g2, q2, q4, c1, q5, if_pos q, Option.bind_some, Option.toList_some, Option.toList_none, List.cons_append, List.nil_append, if_true, if_false, and_self, and_true, true_and, or_self, or_true, true_or, false_or, or_false, i10, i00, i01, i11, Nat.reduceAdd, st1_0, st1_c, st1_1i, st1_1r, st1_1n, st1_1u, st1_1J, st2_0, st2_c, st2_1i, st2_1r, st2_1n, st2_1u, st2_1J]
theorem c_at {m x : Nat} {f : Nat → Int32} (hS : rO h a = some (6, [.ref ca, .int ln, .int (nI m)])) (h4 : 4 ≤ a) (hm : m ≤ 60) (hx : x < m) (hf : rI h ca = some (60, f)) : run 84 (0, [some (.ref a), some (.int (nI x))], [], h) = some (some (.int (f x)), h) := by
  have e1 : 0 ≤ (nI x).toInt ∧ (nI x).toInt < (nI m).toInt := by rw [nI_toInt (by omega), nI_toInt (by omega)]; omega
  have e2 : 0 ≤ (nI x).toInt ∧ (nI x).toInt ≤ 59 := nI_rng (by omega) (by omega)
  have r1 := c_hasCell (x := nI x) hS h4
  rw [if_pos e1] at r1
  simp only [uX7_at_0, uX7_at_1, uX7_at_2, uX7_at_5, uX7_at_8, uX7_at_9, uX7_at_11, uX7_at_14, uX7_at_17, uX7_at_18, uX7_at_21, uX7_at_22, uX7_at_23, uX7_at_26, uX7_at_27, vX hS, r1, c_bl60, e2, gS0 hS h4, gi_nI hf (show x < 60 by omega) (by decide), Option.bind_some, Option.toList_some, Option.toList_none, List.cons_append, List.nil_append, if_true, if_false, and_self, and_true, true_and, or_self, or_true, true_or, false_or, or_false, i10, i00, i01, i11, Nat.reduceAdd, st1_0, st1_c, st1_1i, st1_1r, st1_1n, st1_1u, st1_1J, st2_0, st2_c, st2_1i, st2_1r, st2_1n, st2_1u, st2_1J]
theorem c_cutToLane {l : Nat} {v s : Int32} (hl : l < 3) (hS : rO h a = some (6, [.ref ca, .int (nI l), .int s])) (h4 : 4 ≤ a) : run 86 (0, [some (.ref a), some (.int v)], [], h) = some (some (.int (cutL l v)), h) := by
  have g1 := gS1 hS h4
  match l, hl with
  | 0, _ =>
    rw [show nI 0 = 0 from rfl] at g1
    simp only [uX7_cutToLane_0, uX7_cutToLane_1, uX7_cutToLane_4_0, uX7_cutToLane_4_1, uX7_cutToLane_4_d, uX7_cutToLane_32, uX7_cutToLane_33, uX7_cutToLane_34, uX7_cutToLane_35, uX7_cutToLane_36, uX7_cutToLane_37, uX7_cutToLane_38, uX7_cutToLane_39, g1, cutL, Option.bind_some, Option.toList_some, Option.toList_none, List.cons_append, List.nil_append, if_true, if_false, and_self, and_true, true_and, or_self, or_true, true_or, false_or, or_false, i10, i00, i01, i11, Nat.reduceAdd, st1_0, st1_c, st1_1i, st1_1r, st1_1n, st1_1u, st1_1J, st2_0, st2_c, st2_1i, st2_1r, st2_1n, st2_1u, st2_1J]
  | 1, _ =>
    rw [show nI 1 = 1 from rfl] at g1
    simp only [uX7_cutToLane_0, uX7_cutToLane_1, uX7_cutToLane_4_0, uX7_cutToLane_4_1, uX7_cutToLane_4_d, uX7_cutToLane_32, uX7_cutToLane_33, uX7_cutToLane_34, uX7_cutToLane_35, uX7_cutToLane_36, uX7_cutToLane_37, uX7_cutToLane_38, uX7_cutToLane_39, g1, cutL, Nat.one_ne_zero, Option.bind_some, Option.toList_some, Option.toList_none, List.cons_append, List.nil_append, if_true, if_false, and_self, and_true, true_and, or_self, or_true, true_or, false_or, or_false, i10, i00, i01, i11, Nat.reduceAdd, st1_0, st1_c, st1_1i, st1_1r, st1_1n, st1_1u, st1_1J, st2_0, st2_c, st2_1i, st2_1r, st2_1n, st2_1u, st2_1J]
  | 2, _ =>
    have hx : (nI 2).toInt ≠ 0 ∧ (nI 2).toInt ≠ 1 := by decide
    have e : cutL 2 v = v := rfl
    rw [e]
    simp only [uX7_cutToLane_0, uX7_cutToLane_1, g1, uX7_cutToLane_4_d hx, uX7_cutToLane_38, uX7_cutToLane_39, Option.bind_some, Option.toList_some, Option.toList_none, List.cons_append, List.nil_append, if_true, if_false, and_self, and_true, true_and, or_self, or_true, true_or, false_or, or_false, i10, i00, i01, i11, Nat.reduceAdd, st1_0, st1_c, st1_1i, st1_1r, st1_1n, st1_1u, st1_1J, st2_0, st2_c, st2_1i, st2_1r, st2_1n, st2_1u, st2_1J]
theorem c_change {m x l : Nat} {v : Int32} {f : Nat → Int32} (hl : l < 3) (hS : rO h a = some (6, [.ref ca, .int (nI l), .int (nI m)])) (h4 : 4 ≤ a) (h5 : 4 ≤ ca) (hm : m ≤ 60) (hx : x < m) (hf : rI h ca = some (60, f)) : run 85 (0, [some (.ref a), some (.int (nI x)), some (.int v)], [], h) = some (none, si h ca x (cutL l v)) := by
  have e1 : 0 ≤ (nI x).toInt ∧ (nI x).toInt < (nI m).toInt := by rw [nI_toInt (by omega), nI_toInt (by omega)]; omega
  have e2 : 0 ≤ (nI x).toInt ∧ (nI x).toInt ≤ 59 := nI_rng (by omega) (by omega)
  have p1 : pi h ca (nI x) (cutL l v) = _ := pi_si h5 hf (show x < 60 by omega) (by decide)
  have r1 := c_hasCell (x := nI x) hS h4
  rw [if_pos e1] at r1
  simp only [uX7_change_0, uX7_change_1, uX7_change_2, uX7_change_5, uX7_change_8, uX7_change_9, uX7_change_11, uX7_change_14, uX7_change_17, uX7_change_18, uX7_change_21, uX7_change_22, uX7_change_23, uX7_change_24, uX7_change_27, uX7_change_28, vX hS, r1, c_bl60, e2, gS0 hS h4, c_cutToLane hl hS h4, p1, Option.bind_some, Option.toList_some, Option.toList_none, List.cons_append, List.nil_append, if_true, if_false, and_self, and_true, true_and, or_self, or_true, true_or, false_or, or_false, i10, i00, i01, i11, Nat.reduceAdd, st1_0, st1_c, st1_1i, st1_1r, st1_1n, st1_1u, st1_1J, st2_0, st2_c, st2_1i, st2_1r, st2_1n, st2_1u, st2_1J]
theorem c_empty (hS : rO h a = some (6, [.ref ca, .int ln, .int s])) (h4 : 4 ≤ a) : run 76 (0, [some (.ref a)], [], h) = some (none, sf (sf h a 1 (.int (-1))) a 2 (.int 0)) := by
  simp only [uX7_empty_0, uX7_empty_1, uX7_empty_2, uX7_empty_5, uX7_empty_6, uX7_empty_7, uX7_empty_10, pS1 hS h4, pS2 (sS1 hS) h4, Option.bind_some, Option.toList_some, Option.toList_none, List.cons_append, List.nil_append, if_true, if_false, and_self, and_true, true_and, or_self, or_true, true_or, false_or, or_false, i10, i00, i01, i11, Nat.reduceAdd, st1_0, st1_c, st1_1i, st1_1r, st1_1n, st1_1u, st1_1J, st2_0, st2_c, st2_1i, st2_1r, st2_1n, st2_1u, st2_1J]
theorem c_renew {n : Nat} {l : Int32} {f : Nat → Int32} (hS : rO h a = some (6, [.ref ca, .int ln, .int s])) (h4 : 4 ≤ a) (h5 : 4 ≤ ca) (hn : n ≤ 60) (hf : rI h ca = some (60, f)) : run 77 (0, [some (.ref a), some (.int l), some (.int (nI n)), none], [], h) = some (none, fillI (sf (sf h a 1 (.int l)) a 2 (.int (nI n))) ca 0 (fun _ => 0) 60) := by
  have e1 : nI n ≤ 60 := nI_le (b := 60) hn (by decide)
  have e2 : (if (0 : Int32) < nI n then nI n else 0) = nI n := by
    by_cases q : n = 0
    · rw [q]; rfl
    · rw [if_pos (show (0 : Int32) < nI n from nI_lt (a := 0) (b := n) (by omega) (by omega))]
  have hS2 := sS2 (x := nI n) (sS1 (x := l) hS)
  generalize hh : sf (sf h a 1 (.int l)) a 2 (.int (nI n)) = h2 at hS2
  have f2 : rI h2 ca = some (60, f) := by rw [← hh, rI_sf, rI_sf, hf]
  have lp := loopN (F := fun i => run 77 (21, [some (.ref a), some (.int l), some (.int (nI n)), some (.int (nI i))], [], fillI h2 ca 0 (fun _ => 0) i)) 60 (fun i hi => by
    have c1 : ¬ (60 : Int32) ≤ nI i := nI_ge (a := i) (b := 60) hi (by decide)
    have hS3 : rO (fillI h2 ca 0 (fun _ => 0) i) a = some (6, [.ref ca, .int l, .int (nI n)]) := by rw [rO_fill, hS2]
    have f3 := rI_fillA (g := fun _ => 0) (o := 0) i f2
    have p1 : pi (fillI h2 ca 0 (fun _ => 0) i) ca (nI i) 0 = some (fillI h2 ca 0 (fun _ => 0) (i + 1)) := by
      rw [pi_si h5 f3 hi (by decide)]
      show _ = some (si (fillI h2 ca 0 (fun _ => 0) i) ca (0 + i) 0)
      rw [Nat.zero_add]
    show run 77 (21, _) = run 77 (21, _)
    rw [uX7_renew_21]
    simp only [uX7_renew_0, uX7_renew_1, uX7_renew_2, uX7_renew_5, uX7_renew_6, uX7_renew_7, uX7_renew_8, uX7_renew_10, uX7_renew_13, uX7_renew_16, uX7_renew_19, uX7_renew_20, uX7_renew_22, uX7_renew_24, uX7_renew_27, uX7_renew_28, uX7_renew_31, uX7_renew_32, uX7_renew_33, uX7_renew_34, uX7_renew_37, uX7_renew_40, c1, gS0 hS3 h4, p1, nI_1, Option.bind_some, Option.toList_some, Option.toList_none, List.cons_append, List.nil_append, if_true, if_false, and_self, and_true, true_and, or_self, or_true, true_or, false_or, or_false, i10, i00, i01, i11, Nat.reduceAdd, st1_0, st1_c, st1_1i, st1_1r, st1_1n, st1_1u, st1_1J, st2_0, st2_c, st2_1i, st2_1r, st2_1n, st2_1u, st2_1J])
  have c1 : (60 : Int32) ≤ nI 60 := by decide
  simp only [uX7_renew_0, uX7_renew_1, uX7_renew_2, uX7_renew_5, uX7_renew_6, uX7_renew_7, uX7_renew_8, uX7_renew_10, uX7_renew_13, uX7_renew_16, uX7_renew_19, uX7_renew_20, uX7_renew_22, uX7_renew_24, uX7_renew_27, uX7_renew_28, uX7_renew_31, uX7_renew_32, uX7_renew_33, uX7_renew_34, uX7_renew_37, uX7_renew_40, pS1 hS h4, j_min, e1, j_max, e2, pS2 (sS1 hS) h4, hh, Option.bind_some, Option.toList_some, Option.toList_none, List.cons_append, List.nil_append, if_true, if_false, and_self, and_true, true_and, or_self, or_true, true_or, false_or, or_false, i10, i00, i01, i11, Nat.reduceAdd, st1_0, st1_c, st1_1i, st1_1r, st1_1n, st1_1u, st1_1J, st2_0, st2_c, st2_1i, st2_1r, st2_1n, st2_1u, st2_1J]
  refine Eq.trans lp ?_
  show run 77 (21, _) = _
  rw [uX7_renew_21]
  simp only [uX7_renew_0, uX7_renew_1, uX7_renew_2, uX7_renew_5, uX7_renew_6, uX7_renew_7, uX7_renew_8, uX7_renew_10, uX7_renew_13, uX7_renew_16, uX7_renew_19, uX7_renew_20, uX7_renew_22, uX7_renew_24, uX7_renew_27, uX7_renew_28, uX7_renew_31, uX7_renew_32, uX7_renew_33, uX7_renew_34, uX7_renew_37, uX7_renew_40, c1, Option.bind_some, Option.toList_some, Option.toList_none, List.cons_append, List.nil_append, if_true, if_false, and_self, and_true, true_and, or_self, or_true, true_or, false_or, or_false, i10, i00, i01, i11, Nat.reduceAdd, st1_0, st1_c, st1_1i, st1_1r, st1_1n, st1_1u, st1_1J, st2_0, st2_c, st2_1i, st2_1r, st2_1n, st2_1u, st2_1J]
end SCG
theorem nI_clampN {k : Nat} (hk : k < 2 ^ 31) : (nI k).toNatClampNeg = k := nI_clamp hk
section SCX
variable {h : AH} {dr : Nat} {xp xl xf : Int32} {sz : Nat → Option Nat} {sl : Nat → Nat} {cm : Nat → Int32} {k : Nat}
theorem sheetC_eq {h1 : AH} (S : SheetC h sz sl cm) (he : ∀ b, b = 25 ∨ (28 ≤ b ∧ b ≤ 35) → h1.2.2 b = h.2.2 b) : SheetC h1 sz sl cm := by
  obtain ⟨a1, a2, a3⟩ := S
  refine ⟨by rw [rR_of (he 25 (by omega)), a1], fun k hk => ?_, a3⟩
  rw [rO_of (he (28 + 2 * k) (by omega)), rI_of (he (29 + 2 * k) (by omega))]
  exact a2 k hk
theorem c_sheetAt_n {x : Int32} (hx : ¬ (0 ≤ x.toInt ∧ x.toInt ≤ 3)) : run 140 (0, [some (.ref 4), some (.int x)], [], h) = some (some .null, h) := by
  simp only [uX11_sheetAt_0, uX11_sheetAt_1, uX11_sheetAt_2, uX11_sheetAt_5, uX11_sheetAt_8, uX11_sheetAt_9, uX11_sheetAt_12, uX11_sheetAt_13, uX11_sheetAt_14, uX11_sheetAt_17, uX11_sheetAt_18, uX11_sheetAt_18N, c_bl4, if_neg hx, Option.bind_some, Option.toList_some, Option.toList_none, List.cons_append, List.nil_append, if_true, if_false, and_self, and_true, true_and, or_self, or_true, true_or, false_or, or_false, i10, i00, i01, i11, Nat.reduceAdd, st1_0, st1_c, st1_1i, st1_1r, st1_1n, st1_1u, st1_1J, st2_0, st2_c, st2_1i, st2_1r, st2_1n, st2_1u, st2_1J]
theorem c_sheetAt (hX : rO h 4 = some (10, xF dr xp xl xf)) (S : SheetC h sz sl cm) (hk : k < 4) : run 140 (0, [some (.ref 4), some (.int (nI k))], [], h) = some (some (.ref (28 + 2 * k)), h) := by
  have h1 : 0 ≤ (nI k).toInt ∧ (nI k).toInt ≤ 3 := nI_rng (by omega) (by omega)
  have g1 : ga h 25 (nI k) = some (.ref (28 + 2 * k)) := by
    rw [ga_nI (by decide) S.1 hk (by decide)]
    unfold shR
    rw [if_pos hk]
    rfl
  simp only [uX11_sheetAt_0, uX11_sheetAt_1, uX11_sheetAt_2, uX11_sheetAt_5, uX11_sheetAt_8, uX11_sheetAt_9, uX11_sheetAt_12, uX11_sheetAt_13, uX11_sheetAt_14, uX11_sheetAt_17, uX11_sheetAt_18, uX11_sheetAt_18N, c_bl4, h1, gX5 hX, g1, Option.bind_some, Option.toList_some, Option.toList_none, List.cons_append, List.nil_append, if_true, if_false, and_self, and_true, true_and, or_self, or_true, true_or, false_or, or_false, i10, i00, i01, i11, Nat.reduceAdd, st1_0, st1_c, st1_1i, st1_1r, st1_1n, st1_1u, st1_1J, st2_0, st2_c, st2_1i, st2_1r, st2_1n, st2_1u, st2_1J]
theorem c_comeTo {f : Int32} (hX : rO h 4 = some (10, xF dr xp xl xf)) : run 143 (0, [some (.ref 4), some (.int f)], [], h) = some (some (.int (-10 - f)), sf h 4 9 (.int f)) := by
  simp only [uX11_comeTo_0, uX11_comeTo_1, uX11_comeTo_2, uX11_comeTo_5, uX11_comeTo_7, uX11_comeTo_8, uX11_comeTo_9, pX9 hX, Option.bind_some, Option.toList_some, Option.toList_none, List.cons_append, List.nil_append, if_true, if_false, and_self, and_true, true_and, or_self, or_true, true_or, false_or, or_false, i10, i00, i01, i11, Nat.reduceAdd, st1_0, st1_c, st1_1i, st1_1r, st1_1n, st1_1u, st1_1J, st2_0, st2_c, st2_1i, st2_1r, st2_1n, st2_1u, st2_1J]
theorem fz_back {s : Option Nat} {l : Nat} {lane i n : Int32} (hl : 0 ≤ lane.toInt ∧ lane.toInt ≤ 2) (hb : ¬ bar s l lane i n = 0) : -10 - fz (bar s l lane i n) = bar s l lane i n ∧ ¬ fz (bar s l lane i n) = 0 ∧ (bar s l lane i n = -11 ∨ bar s l lane i n = -12 ∨ bar s l lane i n = -13 ∨ bar s l lane i n = -14) := by
  have h1 : bar s l lane i n = -11 ∨ bar s l lane i n = -12 ∨ bar s l lane i n = -13 ∨ bar s l lane i n = -14 := by
    unfold bar at hb ⊢
    rw [if_pos hl] at hb ⊢
    cases s with
    | none => exact Or.inl rfl
    | some m =>
      simp only at hb ⊢
      split
      · rename_i e
        rw [if_pos e] at hb
        split
        · exact Or.inr (Or.inr (Or.inr rfl))
        · rename_i e2
          rw [if_neg e2] at hb
          split
          · exact Or.inr (Or.inr (Or.inl rfl))
          · rename_i e3
            rw [if_neg e3] at hb
            exact absurd rfl hb
      · exact Or.inr (Or.inl rfl)
  refine ⟨?_, ?_, h1⟩
  · rcases h1 with e | e | e | e <;> rw [e] <;> decide
  · rcases h1 with e | e | e | e <;> rw [e] <;> decide
theorem c_faultOfCells {lane i n : Int32} (S : SheetC h sz sl cm) (hk : k < 4) (hl : 0 ≤ lane.toInt ∧ lane.toInt ≤ 2) : run 82 (0, [some (.ref (28 + 2 * k)), some (.int lane), some (.int i), some (.int n), none], [], h) = some (some (.int (if bar (sz k) (sl k) lane i n = 0 then 0 else fz (bar (sz k) (sl k) lane i n))), h) := by
  obtain ⟨a1, a2, a3, a4⟩ := S
  obtain ⟨hS, f, hf, hc⟩ := a2 k hk
  have h4 : 4 ≤ 28 + 2 * k := by omega
  have hlt := a4 k
  unfold bar
  rw [if_pos hl]
  cases hs : sz k with
  | none =>
    rw [hs] at hS
    have hS : rO h (28 + 2 * k) = some (6, [.ref (29 + 2 * k), .int (-1), .int 0]) := hS
    have r1 := c_isNothing hS h4
    rw [if_pos rfl] at r1
    have e1 : (if (-11 : Int32) = 0 then 0 else fz (-11)) = 1 := by decide
    simp only [e1, uX7_faultOfCells_0, uX7_faultOfCells_1, uX7_faultOfCells_2, uX7_faultOfCells_5, uX7_faultOfCells_7, uX7_faultOfCells_9, uX7_faultOfCells_12, uX7_faultOfCells_14, uX7_faultOfCells_15, uX7_faultOfCells_16, uX7_faultOfCells_19, uX7_faultOfCells_20, uX7_faultOfCells_21, uX7_faultOfCells_22, uX7_faultOfCells_23, uX7_faultOfCells_24, uX7_faultOfCells_27, uX7_faultOfCells_30, uX7_faultOfCells_31, uX7_faultOfCells_34, uX7_faultOfCells_35, uX7_faultOfLane_0, uX7_faultOfLane_1, uX7_faultOfLane_4, uX7_faultOfLane_7, uX7_faultOfLane_8, uX7_faultOfLane_9, uX7_faultOfLane_10, uX7_faultOfLane_13, uX7_faultOfLane_14, uX7_faultOfLane_17, uX7_faultOfLane_18, uX7_faultOfLane_21, uX7_faultOfLane_22, vX hS, r1, Option.bind_some, Option.toList_some, Option.toList_none, List.cons_append, List.nil_append, if_true, if_false, and_self, and_true, true_and, or_self, or_true, true_or, false_or, or_false, i10, i00, i01, i11, Nat.reduceAdd, st1_0, st1_c, st1_1i, st1_1r, st1_1n, st1_1u, st1_1J, st2_0, st2_c, st2_1i, st2_1r, st2_1n, st2_1u, st2_1J]
  | some m =>
    have hm := a3 k m hs
    rw [hs] at hS
    have hS : rO h (28 + 2 * k) = some (6, [.ref (29 + 2 * k), .int (nI (sl k)), .int (nI m)]) := hS
    have r1 := c_isNothing hS h4
    rw [if_neg (ne1 (show sl k < 2 ^ 31 by omega))] at r1
    simp only
    by_cases q : nI (sl k) = lane
    · rw [if_pos q]
      by_cases q2 : n.toInt < 0
      · have q2b : ¬ 0 ≤ n.toInt := by omega
        have e1 : (if (-14 : Int32) = 0 then 0 else fz (-14)) = 4 := by decide
        rw [if_pos q2]
        simp only [e1, uX7_faultOfCells_0, uX7_faultOfCells_1, uX7_faultOfCells_2, uX7_faultOfCells_5, uX7_faultOfCells_7, uX7_faultOfCells_9, uX7_faultOfCells_12, uX7_faultOfCells_14, uX7_faultOfCells_15, uX7_faultOfCells_16, uX7_faultOfCells_19, uX7_faultOfCells_20, uX7_faultOfCells_21, uX7_faultOfCells_22, uX7_faultOfCells_23, uX7_faultOfCells_24, uX7_faultOfCells_27, uX7_faultOfCells_30, uX7_faultOfCells_31, uX7_faultOfCells_34, uX7_faultOfCells_35, uX7_faultOfLane_0, uX7_faultOfLane_1, uX7_faultOfLane_4, uX7_faultOfLane_7, uX7_faultOfLane_8, uX7_faultOfLane_9, uX7_faultOfLane_10, uX7_faultOfLane_13, uX7_faultOfLane_14, uX7_faultOfLane_17, uX7_faultOfLane_18, uX7_faultOfLane_21, uX7_faultOfLane_22, vX hS, r1, gS1 hS h4, q, ge0I n, q2b, Option.bind_some, Option.toList_some, Option.toList_none, List.cons_append, List.nil_append, if_true, if_false, and_self, and_true, true_and, or_self, or_true, true_or, false_or, or_false, i10, i00, i01, i11, Nat.reduceAdd, st1_0, st1_c, st1_1i, st1_1r, st1_1n, st1_1u, st1_1J, st2_0, st2_c, st2_1i, st2_1r, st2_1n, st2_1u, st2_1J]
      · have q2b : 0 ≤ n.toInt := by omega
        have r2 := c_hasCells (i := i) (n := n) hS h4 hm
        rw [if_neg q2]
        by_cases q3 : i.toInt < 0 ∨ (m : Int) < i.toInt + n.toInt
        · have e1 : (if (-13 : Int32) = 0 then 0 else fz (-13)) = 3 := by decide
          rw [if_pos q3]
          rw [if_neg (by omega)] at r2
          simp only [e1, uX7_faultOfCells_0, uX7_faultOfCells_1, uX7_faultOfCells_2, uX7_faultOfCells_5, uX7_faultOfCells_7, uX7_faultOfCells_9, uX7_faultOfCells_12, uX7_faultOfCells_14, uX7_faultOfCells_15, uX7_faultOfCells_16, uX7_faultOfCells_19, uX7_faultOfCells_20, uX7_faultOfCells_21, uX7_faultOfCells_22, uX7_faultOfCells_23, uX7_faultOfCells_24, uX7_faultOfCells_27, uX7_faultOfCells_30, uX7_faultOfCells_31, uX7_faultOfCells_34, uX7_faultOfCells_35, uX7_faultOfLane_0, uX7_faultOfLane_1, uX7_faultOfLane_4, uX7_faultOfLane_7, uX7_faultOfLane_8, uX7_faultOfLane_9, uX7_faultOfLane_10, uX7_faultOfLane_13, uX7_faultOfLane_14, uX7_faultOfLane_17, uX7_faultOfLane_18, uX7_faultOfLane_21, uX7_faultOfLane_22, vX hS, r1, gS1 hS h4, q, ge0I n, q2b, r2, Option.bind_some, Option.toList_some, Option.toList_none, List.cons_append, List.nil_append, if_true, if_false, and_self, and_true, true_and, or_self, or_true, true_or, false_or, or_false, i10, i00, i01, i11, Nat.reduceAdd, st1_0, st1_c, st1_1i, st1_1r, st1_1n, st1_1u, st1_1J, st2_0, st2_c, st2_1i, st2_1r, st2_1n, st2_1u, st2_1J]
        · have e1 : (if (0 : Int32) = 0 then 0 else fz 0) = 0 := by decide
          rw [if_neg q3]
          rw [if_pos (by omega)] at r2
          simp only [uX7_faultOfCells_0, uX7_faultOfCells_1, uX7_faultOfCells_2, uX7_faultOfCells_5, uX7_faultOfCells_7, uX7_faultOfCells_9, uX7_faultOfCells_12, uX7_faultOfCells_14, uX7_faultOfCells_15, uX7_faultOfCells_16, uX7_faultOfCells_19, uX7_faultOfCells_20, uX7_faultOfCells_21, uX7_faultOfCells_22, uX7_faultOfCells_23, uX7_faultOfCells_24, uX7_faultOfCells_27, uX7_faultOfCells_30, uX7_faultOfCells_31, uX7_faultOfCells_34, uX7_faultOfCells_35, uX7_faultOfLane_0, uX7_faultOfLane_1, uX7_faultOfLane_4, uX7_faultOfLane_7, uX7_faultOfLane_8, uX7_faultOfLane_9, uX7_faultOfLane_10, uX7_faultOfLane_13, uX7_faultOfLane_14, uX7_faultOfLane_17, uX7_faultOfLane_18, uX7_faultOfLane_21, uX7_faultOfLane_22, vX hS, r1, gS1 hS h4, q, ge0I n, q2b, r2, Option.bind_some, Option.toList_some, Option.toList_none, List.cons_append, List.nil_append, if_true, if_false, and_self, and_true, true_and, or_self, or_true, true_or, false_or, or_false, i10, i00, i01, i11, Nat.reduceAdd, st1_0, st1_c, st1_1i, st1_1r, st1_1n, st1_1u, st1_1J, st2_0, st2_c, st2_1i, st2_1r, st2_1n, st2_1u, st2_1J]
    · have e1 : (if (-12 : Int32) = 0 then 0 else fz (-12)) = 2 := by decide
      have e2 : ¬ (2 : Int32) = 0 := by decide
      rw [if_neg q]
      simp only [e1, uX7_faultOfCells_0, uX7_faultOfCells_1, uX7_faultOfCells_2, uX7_faultOfCells_5, uX7_faultOfCells_7, uX7_faultOfCells_9, uX7_faultOfCells_12, uX7_faultOfCells_14, uX7_faultOfCells_15, uX7_faultOfCells_16, uX7_faultOfCells_19, uX7_faultOfCells_20, uX7_faultOfCells_21, uX7_faultOfCells_22, uX7_faultOfCells_23, uX7_faultOfCells_24, uX7_faultOfCells_27, uX7_faultOfCells_30, uX7_faultOfCells_31, uX7_faultOfCells_34, uX7_faultOfCells_35, uX7_faultOfLane_0, uX7_faultOfLane_1, uX7_faultOfLane_4, uX7_faultOfLane_7, uX7_faultOfLane_8, uX7_faultOfLane_9, uX7_faultOfLane_10, uX7_faultOfLane_13, uX7_faultOfLane_14, uX7_faultOfLane_17, uX7_faultOfLane_18, uX7_faultOfLane_21, uX7_faultOfLane_22, vX hS, r1, gS1 hS h4, q, e2, Option.bind_some, Option.toList_some, Option.toList_none, List.cons_append, List.nil_append, if_true, if_false, and_self, and_true, true_and, or_self, or_true, true_or, false_or, or_false, i10, i00, i01, i11, Nat.reduceAdd, st1_0, st1_c, st1_1i, st1_1r, st1_1n, st1_1u, st1_1J, st2_0, st2_c, st2_1i, st2_1r, st2_1n, st2_1u, st2_1J]
theorem c_atS {m x : Nat} (S : SheetC h sz sl cm) (hk : k < 4) (hs : sz k = some m) (hx : x < m) : run 84 (0, [some (.ref (28 + 2 * k)), some (.int (nI x))], [], h) = some (some (.int (cm (60 * k + x))), h) := by
  obtain ⟨a1, a2, a3, a4⟩ := S
  obtain ⟨hS, f, hf, hc⟩ := a2 k hk
  rw [hs] at hS
  have hS : rO h (28 + 2 * k) = some (6, [.ref (29 + 2 * k), .int (nI (sl k)), .int (nI m)]) := hS
  rw [c_at hS (by omega) (a3 k m hs) hx hf, hc m hs x hx]
theorem c_sheet_u {x lane n : Int32} (hX : rO h 4 = some (10, xF dr xp xl xf)) (hx : ¬ (0 ≤ x.toInt ∧ x.toInt ≤ 3)) : run 126 (0, [some (.ref 4), some (.int x), some (.int lane), some (.int n), none], [], h) = some (some (.int (-1)), sf h 4 9 (.int 0)) := by
  simp only [uX11_sheet_0, uX11_sheet_1, uX11_sheet_2, uX11_sheet_5, uX11_sheet_6, uX11_sheet_7, uX11_sheet_10, uX11_sheet_10N, uX11_sheet_12, uX11_sheet_12N, uX11_sheet_14, uX11_sheet_14N, uX11_sheet_17, uX11_sheet_18, uX11_sheet_19, uX11_sheet_20, uX11_sheet_21, uX11_sheet_24, uX11_sheet_27, uX11_sheet_28, uX11_sheet_30, uX11_sheet_33, uX11_sheet_35, uX11_sheet_36, uX11_sheet_37, uX11_sheet_40, uX11_sheet_41, uX11_sheet_42, uX11_sheet_45, uX11_sheet_46, uX11_sheet_46N, uX11_sheet_48, uX11_sheet_49, uX11_sheet_50, uX11_sheet_53, uX11_sheet_54, pX9 hX, vX (sX9 (x := 0) hX), c_sheetAt_n hx, Option.bind_some, Option.toList_some, Option.toList_none, List.cons_append, List.nil_append, if_true, if_false, and_self, and_true, true_and, or_self, or_true, true_or, false_or, or_false, i10, i00, i01, i11, Nat.reduceAdd, st1_0, st1_c, st1_1i, st1_1r, st1_1n, st1_1u, st1_1J, st2_0, st2_c, st2_1i, st2_1r, st2_1n, st2_1u, st2_1J]
theorem cell_sf4 {v : Value} {b q : Nat} (hb : b ≠ 4) : (sf h 4 q v).2.2 b = h.2.2 b := cell_sf hb
theorem SheetC.f4 {v : Value} {q : Nat} (S : SheetC h sz sl cm) : SheetC (sf h 4 q v) sz sl cm := sheetC_eq S (fun b hb => cell_sf (by omega))
theorem c_sheet_o {lane n : Int32} (hX : rO h 4 = some (10, xF dr xp xl xf)) (S : SheetC h sz sl cm) (hk : k < 4) (hx : ¬ (0 ≤ lane.toInt ∧ lane.toInt ≤ 2) ∨ 60 < n.toInt) : run 126 (0, [some (.ref 4), some (.int (nI k)), some (.int lane), some (.int n), none], [], h) = some (some (.int (-2)), sf h 4 9 (.int 0)) := by
  have hX2 := sX9 (x := 0) hX
  by_cases h1 : 0 ≤ lane.toInt ∧ lane.toInt ≤ 2
  · have h2 : ¬ n.toInt ≤ 60 := by have := hx.resolve_left (fun q => q h1); omega
    simp only [uX11_sheet_0, uX11_sheet_1, uX11_sheet_2, uX11_sheet_5, uX11_sheet_6, uX11_sheet_7, uX11_sheet_10, uX11_sheet_10N, uX11_sheet_12, uX11_sheet_12N, uX11_sheet_14, uX11_sheet_14N, uX11_sheet_17, uX11_sheet_18, uX11_sheet_19, uX11_sheet_20, uX11_sheet_21, uX11_sheet_24, uX11_sheet_27, uX11_sheet_28, uX11_sheet_30, uX11_sheet_33, uX11_sheet_35, uX11_sheet_36, uX11_sheet_37, uX11_sheet_40, uX11_sheet_41, uX11_sheet_42, uX11_sheet_45, uX11_sheet_46, uX11_sheet_46N, uX11_sheet_48, uX11_sheet_49, uX11_sheet_50, uX11_sheet_53, uX11_sheet_54, pX9 hX, vX hX2, c_sheetAt hX2 S.f4 hk, c_bl3, h1, leI (show (60 : Int32).toInt = 60 by decide), h2, Option.bind_some, Option.toList_some, Option.toList_none, List.cons_append, List.nil_append, if_true, if_false, and_self, and_true, true_and, or_self, or_true, true_or, false_or, or_false, i10, i00, i01, i11, Nat.reduceAdd, st1_0, st1_c, st1_1i, st1_1r, st1_1n, st1_1u, st1_1J, st2_0, st2_c, st2_1i, st2_1r, st2_1n, st2_1u, st2_1J]
  · simp only [uX11_sheet_0, uX11_sheet_1, uX11_sheet_2, uX11_sheet_5, uX11_sheet_6, uX11_sheet_7, uX11_sheet_10, uX11_sheet_10N, uX11_sheet_12, uX11_sheet_12N, uX11_sheet_14, uX11_sheet_14N, uX11_sheet_17, uX11_sheet_18, uX11_sheet_19, uX11_sheet_20, uX11_sheet_21, uX11_sheet_24, uX11_sheet_27, uX11_sheet_28, uX11_sheet_30, uX11_sheet_33, uX11_sheet_35, uX11_sheet_36, uX11_sheet_37, uX11_sheet_40, uX11_sheet_41, uX11_sheet_42, uX11_sheet_45, uX11_sheet_46, uX11_sheet_46N, uX11_sheet_48, uX11_sheet_49, uX11_sheet_50, uX11_sheet_53, uX11_sheet_54, pX9 hX, vX hX2, c_sheetAt hX2 S.f4 hk, c_bl3, if_neg h1, Option.bind_some, Option.toList_some, Option.toList_none, List.cons_append, List.nil_append, if_true, if_false, and_self, and_true, true_and, or_self, or_true, true_or, false_or, or_false, i10, i00, i01, i11, Nat.reduceAdd, st1_0, st1_c, st1_1i, st1_1r, st1_1n, st1_1u, st1_1J, st2_0, st2_c, st2_1i, st2_1r, st2_1n, st2_1u, st2_1J]
theorem c_sheet_f {lane n : Int32} (hX : rO h 4 = some (10, xF dr xp xl xf)) (S : SheetC h sz sl cm) (hk : k < 4) (hl : 0 ≤ lane.toInt ∧ lane.toInt ≤ 2) (hn : n.toInt < 0) : run 126 (0, [some (.ref 4), some (.int (nI k)), some (.int lane), some (.int n), none], [], h) = some (some (.int (-14)), sf (sf h 4 9 (.int 0)) 4 9 (.int 4)) := by
  have hX2 := sX9 (x := 0) hX
  have h2 : n.toInt ≤ 60 := by omega
  have h3 : ¬ 0 ≤ n.toInt := by omega
  have e1 : (-10 : Int32) - 4 = -14 := by decide
  simp only [uX11_sheet_0, uX11_sheet_1, uX11_sheet_2, uX11_sheet_5, uX11_sheet_6, uX11_sheet_7, uX11_sheet_10, uX11_sheet_10N, uX11_sheet_12, uX11_sheet_12N, uX11_sheet_14, uX11_sheet_14N, uX11_sheet_17, uX11_sheet_18, uX11_sheet_19, uX11_sheet_20, uX11_sheet_21, uX11_sheet_24, uX11_sheet_27, uX11_sheet_28, uX11_sheet_30, uX11_sheet_33, uX11_sheet_35, uX11_sheet_36, uX11_sheet_37, uX11_sheet_40, uX11_sheet_41, uX11_sheet_42, uX11_sheet_45, uX11_sheet_46, uX11_sheet_46N, uX11_sheet_48, uX11_sheet_49, uX11_sheet_50, uX11_sheet_53, uX11_sheet_54, pX9 hX, vX hX2, c_sheetAt hX2 S.f4 hk, c_bl3, hl, leI (show (60 : Int32).toInt = 60 by decide), h2, ge0I n, h3, c_comeTo hX2, e1, Option.bind_some, Option.toList_some, Option.toList_none, List.cons_append, List.nil_append, if_true, if_false, and_self, and_true, true_and, or_self, or_true, true_or, false_or, or_false, i10, i00, i01, i11, Nat.reduceAdd, st1_0, st1_c, st1_1i, st1_1r, st1_1n, st1_1u, st1_1J, st2_0, st2_c, st2_1i, st2_1r, st2_1n, st2_1u, st2_1J]
def szU (sz : Nat → Option Nat) (k : Nat) (o : Option Nat) : Nat → Option Nat := fun q => if q = k then o else sz q
def slU (sl : Nat → Nat) (k l : Nat) : Nat → Nat := fun q => if q = k then l else sl q
def cmZ (cm : Nat → Int32) (o n : Nat) (g : Nat → Int32) : Nat → Int32 := fun i => if o ≤ i ∧ i < o + n then g (i - o) else cm i
theorem c_sheet {l n : Nat} (hX : rO h 4 = some (10, xF dr xp xl xf)) (S : SheetC h sz sl cm) (hk : k < 4) (hl : l < 3) (hn : n ≤ 60) : ∃ h1, run 126 (0, [some (.ref 4), some (.int (nI k)), some (.int (nI l)), some (.int (nI n)), none], [], h) = some (some (.int 1), h1) ∧ Dif [4, 28 + 2 * k, 29 + 2 * k] h h1 ∧ rO h1 4 = some (10, xF dr xp xl 0) ∧ SheetC h1 (szU sz k (some n)) (slU sl k l) (cmZ cm (60 * k) n (fun _ => 0)) := by
  have hX2 := sX9 (x := 0) hX
  have h2 : (nI n).toInt ≤ 60 := by rw [nI_toInt (by omega)]; omega
  have h3 : 0 ≤ (nI n).toInt := by rw [nI_toInt (by omega)]; omega
  have hlr : 0 ≤ (nI l).toInt ∧ (nI l).toInt ≤ 2 := nI_rng (by omega) (by omega)
  have S2 : SheetC (sf h 4 9 (.int 0)) sz sl cm := S.f4
  obtain ⟨hS, f, hf, hc⟩ := S2.2.1 k hk
  have r1 := c_renew (n := n) (l := nI l) hS (by omega) (by omega) hn hf
  have hS1 := sS2 (x := nI n) (sS1 (x := nI l) hS)
  have rr := c_sheetAt hX2 S2 hk
  generalize hh0 : sf h 4 9 (.int 0) = h0 at *
  have D0 : Dif [4, 28 + 2 * k, 29 + 2 * k] h h0 := by rw [← hh0]; exact difSf (by simp)
  generalize hh : fillI (sf (sf h0 (28 + 2 * k) 1 (.int (nI l))) (28 + 2 * k) 2 (.int (nI n))) (29 + 2 * k) 0 (fun _ => 0) 60 = h1 at r1
  have D1 : Dif [28 + 2 * k, 29 + 2 * k] h0 h1 := by
    rw [← hh]
    exact difT (difT (difSf (by simp)) (difSf (by simp))) (difFill (by simp))
  refine ⟨h1, ?_, difT D0 ⟨fun b hb => D1.1 b (fun q => hb (by simp only [List.mem_cons, List.not_mem_nil, or_false] at q ⊢; omega)), D1.2⟩, ?_, ?_, fun q hq => ?_, fun q m hq => ?_, fun q => ?_⟩
  · have pp := pX9 (x := 0) hX
    rw [hh0] at pp
    simp only [uX11_sheet_0, uX11_sheet_1, uX11_sheet_2, uX11_sheet_5, uX11_sheet_6, uX11_sheet_7, uX11_sheet_10, uX11_sheet_10N, uX11_sheet_12, uX11_sheet_12N, uX11_sheet_14, uX11_sheet_14N, uX11_sheet_17, uX11_sheet_18, uX11_sheet_19, uX11_sheet_20, uX11_sheet_21, uX11_sheet_24, uX11_sheet_27, uX11_sheet_28, uX11_sheet_30, uX11_sheet_33, uX11_sheet_35, uX11_sheet_36, uX11_sheet_37, uX11_sheet_40, uX11_sheet_41, uX11_sheet_42, uX11_sheet_45, uX11_sheet_46, uX11_sheet_46N, uX11_sheet_48, uX11_sheet_49, uX11_sheet_50, uX11_sheet_53, uX11_sheet_54, pp, vX hX2, rr, c_bl3, hlr, leI (show (60 : Int32).toInt = 60 by decide), h2, ge0I (nI n), h3, vX hS, r1, Option.bind_some, Option.toList_some, Option.toList_none, List.cons_append, List.nil_append, if_true, if_false, and_self, and_true, true_and, or_self, or_true, true_or, false_or, or_false, i10, i00, i01, i11, Nat.reduceAdd, st1_0, st1_c, st1_1i, st1_1r, st1_1n, st1_1u, st1_1J, st2_0, st2_c, st2_1i, st2_1r, st2_1n, st2_1u, st2_1J]
  · rw [difO D1 (by simp only [List.mem_cons, List.not_mem_nil, or_false]; omega), hX2]
  · rw [difRR D1 (by simp only [List.mem_cons, List.not_mem_nil, or_false]; omega), S2.1]
  · obtain ⟨hSq, fq, hfq, hcq⟩ := S2.2.1 q hq
    by_cases e : q = k
    · subst e
      refine ⟨?_, _, by rw [← hh]; exact rI_fillA 60 (by rw [rI_sf, rI_sf, hf]), fun m hm i hi => ?_⟩
      · rw [← hh, rO_fill, hS1]
        unfold szU slU
        rw [if_pos rfl, if_pos rfl]
        rfl
      · unfold szU at hm
        rw [if_pos rfl] at hm
        cases hm
        unfold cmZ
        rw [if_pos (by omega), if_pos (by omega)]
    · have e1 : szU sz k (some n) q = sz q := if_neg e
      have e2 : slU sl k l q = sl q := if_neg e
      rw [difO D1 (by simp only [List.mem_cons, List.not_mem_nil, or_false]; omega), difI D1 (by simp only [List.mem_cons, List.not_mem_nil, or_false]; omega), e1, e2]
      refine ⟨hSq, fq, hfq, fun m hm i hi => ?_⟩
      rw [hcq m hm i hi]
      have := S2.2.2.1 q m hm
      unfold cmZ
      rw [if_neg (by omega)]
  · unfold szU at hq
    split at hq
    · cases hq; exact hn
    · exact S2.2.2.1 q m hq
  · unfold slU
    split
    · exact hl
    · exact S2.2.2.2 q
theorem c_lose_u {x : Int32} (hX : rO h 4 = some (10, xF dr xp xl xf)) (hx : ¬ (0 ≤ x.toInt ∧ x.toInt ≤ 3)) : run 127 (0, [some (.ref 4), some (.int x), none, none], [], h) = some (some (.int (-1)), h) := by
  simp only [uX11_lose_0, uX11_lose_1, uX11_lose_2, uX11_lose_5, uX11_lose_5N, uX11_lose_6, uX11_lose_6N, uX11_lose_7, uX11_lose_7N, uX11_lose_10, uX11_lose_11, uX11_lose_12, uX11_lose_12N, uX11_lose_13, uX11_lose_16, uX11_lose_17, uX11_lose_17N, uX11_lose_18, uX11_lose_21, uX11_lose_22, uX11_lose_25, uX11_lose_26, uX11_lose_29, uX11_lose_30, uX11_lose_33, vX hX, c_sheetAt_n hx, Option.bind_some, Option.toList_some, Option.toList_none, List.cons_append, List.nil_append, if_true, if_false, and_self, and_true, true_and, or_self, or_true, true_or, false_or, or_false, i10, i00, i01, i11, Nat.reduceAdd, st1_0, st1_c, st1_1i, st1_1r, st1_1n, st1_1u, st1_1J, st2_0, st2_c, st2_1i, st2_1r, st2_1n, st2_1u, st2_1J]
theorem c_lose (hX : rO h 4 = some (10, xF dr xp xl xf)) (S : SheetC h sz sl cm) (hk : k < 4) : ∃ h1, run 127 (0, [some (.ref 4), some (.int (nI k)), none, none], [], h) = some (some (.int (if (sz k).isSome then 1 else 0)), h1) ∧ Dif [28 + 2 * k] h h1 ∧ SheetC h1 (szU sz k none) sl cm := by
  obtain ⟨hS, f, hf, hc⟩ := S.2.1 k hk
  have hlt := S.2.2.2 k
  have r1 := c_empty hS (by omega)
  have hS1 := sS2 (x := 0) (sS1 (x := -1) hS)
  have rn := c_isNothing hS (by omega)
  generalize hh : sf (sf h (28 + 2 * k) 1 (.int (-1))) (28 + 2 * k) 2 (.int 0) = h1 at r1 hS1
  have D1 : Dif [28 + 2 * k] h h1 := by
    rw [← hh]
    exact difT (difSf (by simp)) (difSf (by simp))
  refine ⟨h1, ?_, D1, ?_, fun q hq => ?_, fun q m hq => ?_, S.2.2.2⟩
  · cases hs : sz k with
    | none =>
      rw [hs] at rn
      have e : slC none (sl k) = -1 := rfl
      rw [e, if_pos rfl] at rn
      simp only [uX11_lose_0, uX11_lose_1, uX11_lose_2, uX11_lose_5, uX11_lose_5N, uX11_lose_6, uX11_lose_6N, uX11_lose_7, uX11_lose_7N, uX11_lose_10, uX11_lose_11, uX11_lose_12, uX11_lose_12N, uX11_lose_13, uX11_lose_16, uX11_lose_17, uX11_lose_17N, uX11_lose_18, uX11_lose_21, uX11_lose_22, uX11_lose_25, uX11_lose_26, uX11_lose_29, uX11_lose_30, uX11_lose_33, vX hX, c_sheetAt hX S hk, vX hS, rn, r1, c_asNumber, Option.isSome_none, Bool.false_eq_true, Option.bind_some, Option.toList_some, Option.toList_none, List.cons_append, List.nil_append, if_true, if_false, and_self, and_true, true_and, or_self, or_true, true_or, false_or, or_false, i10, i00, i01, i11, Nat.reduceAdd, st1_0, st1_c, st1_1i, st1_1r, st1_1n, st1_1u, st1_1J, st2_0, st2_c, st2_1i, st2_1r, st2_1n, st2_1u, st2_1J]
    | some m =>
      rw [hs] at rn
      have e : ¬ slC (some m) (sl k) = -1 := ne1 (by omega)
      rw [if_neg e] at rn
      simp only [uX11_lose_0, uX11_lose_1, uX11_lose_2, uX11_lose_5, uX11_lose_5N, uX11_lose_6, uX11_lose_6N, uX11_lose_7, uX11_lose_7N, uX11_lose_10, uX11_lose_11, uX11_lose_12, uX11_lose_12N, uX11_lose_13, uX11_lose_16, uX11_lose_17, uX11_lose_17N, uX11_lose_18, uX11_lose_21, uX11_lose_22, uX11_lose_25, uX11_lose_26, uX11_lose_29, uX11_lose_30, uX11_lose_33, vX hX, c_sheetAt hX S hk, vX hS, rn, r1, c_asNumber, Option.isSome_some, Option.bind_some, Option.toList_some, Option.toList_none, List.cons_append, List.nil_append, if_true, if_false, and_self, and_true, true_and, or_self, or_true, true_or, false_or, or_false, i10, i00, i01, i11, Nat.reduceAdd, st1_0, st1_c, st1_1i, st1_1r, st1_1n, st1_1u, st1_1J, st2_0, st2_c, st2_1i, st2_1r, st2_1n, st2_1u, st2_1J]
  · rw [difRR D1 (by simp only [List.mem_cons, List.not_mem_nil, or_false]; omega), S.1]
  · obtain ⟨hSq, fq, hfq, hcq⟩ := S.2.1 q hq
    by_cases e : q = k
    · subst e
      refine ⟨?_, f, by rw [difI D1 (by simp only [List.mem_cons, List.not_mem_nil, or_false]; omega), hf], fun m hm => ?_⟩
      · rw [hS1]
        unfold szU
        rw [if_pos rfl]
        rfl
      · unfold szU at hm
        rw [if_pos rfl] at hm
        cases hm
    · have e1 : szU sz k none q = sz q := if_neg e
      rw [difO D1 (by simp only [List.mem_cons, List.not_mem_nil, or_false]; omega), difI D1 (by simp only [List.mem_cons, List.not_mem_nil, or_false]; omega), e1]
      exact ⟨hSq, fq, hfq, hcq⟩
  · unfold szU at hq
    split at hq
    · cases hq
    · exact S.2.2.1 q m hq
theorem c_put_u {x i v : Int32} (hX : rO h 4 = some (10, xF dr xp xl xf)) (hx : ¬ (0 ≤ x.toInt ∧ x.toInt ≤ 3)) : run 128 (0, [some (.ref 4), some (.int x), some (.int i), some (.int v), none], [], h) = some (some (.int (-1)), sf h 4 9 (.int 0)) := by
  simp only [uX11_put_0, uX11_put_1, uX11_put_2, uX11_put_5, uX11_put_6, uX11_put_7, uX11_put_10, uX11_put_10N, uX11_put_12, uX11_put_12N, uX11_put_14, uX11_put_14N, uX11_put_17, uX11_put_18, uX11_put_19, uX11_put_19N, uX11_put_21, uX11_put_24, uX11_put_27, uX11_put_28, uX11_put_29, uX11_put_32, uX11_put_33, uX11_put_33N, uX11_put_35, uX11_put_36, uX11_put_39, uX11_put_42, uX11_put_43, uX11_put_44, uX11_put_47, uX11_put_48, uX11_put_48N, uX11_put_50, uX11_put_51, uX11_put_52, uX11_put_55, uX11_put_56, pX9 hX, vX (sX9 (x := 0) hX), c_sheetAt_n hx, Option.bind_some, Option.toList_some, Option.toList_none, List.cons_append, List.nil_append, if_true, if_false, and_self, and_true, true_and, or_self, or_true, true_or, false_or, or_false, i10, i00, i01, i11, Nat.reduceAdd, st1_0, st1_c, st1_1i, st1_1r, st1_1n, st1_1u, st1_1J, st2_0, st2_c, st2_1i, st2_1r, st2_1n, st2_1u, st2_1J]
theorem c_put_f {i v : Int32} (hX : rO h 4 = some (10, xF dr xp xl xf)) (S : SheetC h sz sl cm) (hk : k < 4) (hn : ¬ noC (sz k) i = 0) : run 128 (0, [some (.ref 4), some (.int (nI k)), some (.int i), some (.int v), none], [], h) = some (some (.int (-10 - noC (sz k) i)), sf (sf h 4 9 (.int 0)) 4 9 (.int (noC (sz k) i))) := by
  have hX2 := sX9 (x := 0) hX
  have S2 : SheetC (sf h 4 9 (.int 0)) sz sl cm := S.f4
  obtain ⟨hS, f, hf, hc⟩ := S2.2.1 k hk
  have hlt := S.2.2.2 k
  have rn := c_isNothing hS (by omega)
  have rc := c_hasCell (x := i) hS (by omega)
  cases hs : sz k with
  | none =>
    rw [hs] at rn
    have e : slC none (sl k) = -1 := rfl
    rw [e, if_pos rfl] at rn
    have e2 : noC none i = 1 := rfl
    rw [e2]
    simp only [uX11_put_0, uX11_put_1, uX11_put_2, uX11_put_5, uX11_put_6, uX11_put_7, uX11_put_10, uX11_put_10N, uX11_put_12, uX11_put_12N, uX11_put_14, uX11_put_14N, uX11_put_17, uX11_put_18, uX11_put_19, uX11_put_19N, uX11_put_21, uX11_put_24, uX11_put_27, uX11_put_28, uX11_put_29, uX11_put_32, uX11_put_33, uX11_put_33N, uX11_put_35, uX11_put_36, uX11_put_39, uX11_put_42, uX11_put_43, uX11_put_44, uX11_put_47, uX11_put_48, uX11_put_48N, uX11_put_50, uX11_put_51, uX11_put_52, uX11_put_55, uX11_put_56, pX9 hX, vX hX2, c_sheetAt hX2 S2 hk, vX hS, rn, c_comeTo hX2, Option.bind_some, Option.toList_some, Option.toList_none, List.cons_append, List.nil_append, if_true, if_false, and_self, and_true, true_and, or_self, or_true, true_or, false_or, or_false, i10, i00, i01, i11, Nat.reduceAdd, st1_0, st1_c, st1_1i, st1_1r, st1_1n, st1_1u, st1_1J, st2_0, st2_c, st2_1i, st2_1r, st2_1n, st2_1u, st2_1J]
  | some m =>
    rw [hs] at rn hn
    have hm := S.2.2.1 k m hs
    have e : ¬ slC (some m) (sl k) = -1 := ne1 (by omega)
    rw [if_neg e] at rn
    have q : ¬ (0 ≤ i.toInt ∧ i.toInt ≤ (m : Int) - 1) := fun q => hn (if_pos q)
    have e2 : noC (some m) i = 3 := if_neg q
    rw [hs, if_neg (show ¬ (0 ≤ i.toInt ∧ i.toInt < (szC (some m)).toInt) by
      show ¬ (0 ≤ i.toInt ∧ i.toInt < (nI m).toInt)
      rw [nI_toInt (by omega)]
      omega)] at rc
    rw [e2]
    simp only [uX11_put_0, uX11_put_1, uX11_put_2, uX11_put_5, uX11_put_6, uX11_put_7, uX11_put_10, uX11_put_10N, uX11_put_12, uX11_put_12N, uX11_put_14, uX11_put_14N, uX11_put_17, uX11_put_18, uX11_put_19, uX11_put_19N, uX11_put_21, uX11_put_24, uX11_put_27, uX11_put_28, uX11_put_29, uX11_put_32, uX11_put_33, uX11_put_33N, uX11_put_35, uX11_put_36, uX11_put_39, uX11_put_42, uX11_put_43, uX11_put_44, uX11_put_47, uX11_put_48, uX11_put_48N, uX11_put_50, uX11_put_51, uX11_put_52, uX11_put_55, uX11_put_56, pX9 hX, vX hX2, c_sheetAt hX2 S2 hk, vX hS, rn, rc, c_comeTo hX2, Option.bind_some, Option.toList_some, Option.toList_none, List.cons_append, List.nil_append, if_true, if_false, and_self, and_true, true_and, or_self, or_true, true_or, false_or, or_false, i10, i00, i01, i11, Nat.reduceAdd, st1_0, st1_c, st1_1i, st1_1r, st1_1n, st1_1u, st1_1J, st2_0, st2_c, st2_1i, st2_1r, st2_1n, st2_1u, st2_1J]
theorem c_put {i0 m : Nat} {v : Int32} (hX : rO h 4 = some (10, xF dr xp xl xf)) (S : SheetC h sz sl cm) (hk : k < 4) (hs : sz k = some m) (hi : i0 < m) : ∃ h1, run 128 (0, [some (.ref 4), some (.int (nI k)), some (.int (nI i0)), some (.int v), none], [], h) = some (some (.int 1), h1) ∧ Dif [4, 29 + 2 * k] h h1 ∧ rO h1 4 = some (10, xF dr xp xl 0) ∧ SheetC h1 sz sl (upd cm (60 * k + i0) (cutL (sl k) v)) := by
  have hX2 := sX9 (x := 0) hX
  have S2 : SheetC (sf h 4 9 (.int 0)) sz sl cm := S.f4
  obtain ⟨hS, f, hf, hc⟩ := S2.2.1 k hk
  have hm := S.2.2.1 k m hs
  have hlt := S.2.2.2 k
  rw [hs] at hS
  have hS : rO (sf h 4 9 (.int 0)) (28 + 2 * k) = some (6, [.ref (29 + 2 * k), .int (nI (sl k)), .int (nI m)]) := hS
  have rn := c_isNothing hS (by omega)
  rw [if_neg (ne1 (by omega))] at rn
  have rc := c_hasCell (x := nI i0) hS (by omega)
  rw [if_pos (by rw [nI_toInt (by omega), nI_toInt (by omega)]; omega)] at rc
  have r1 := c_change (x := i0) (v := v) hlt hS (by omega) (by omega) hm hi hf
  have rr := c_sheetAt hX2 S2 hk
  have pp := pX9 (x := 0) hX
  generalize hh0 : sf h 4 9 (.int 0) = h0 at *
  have D0 : Dif [4, 29 + 2 * k] h h0 := by rw [← hh0]; exact difSf (by simp)
  generalize hh : si h0 (29 + 2 * k) i0 (cutL (sl k) v) = h1 at r1
  have D1 : Dif [29 + 2 * k] h0 h1 := by rw [← hh]; exact difSi (by simp)
  refine ⟨h1, ?_, difT D0 ⟨fun b hb => D1.1 b (fun q => hb (by simp only [List.mem_cons, List.not_mem_nil, or_false] at q ⊢; omega)), D1.2⟩, ?_, ?_, fun q hq => ?_, S2.2.2⟩
  · simp only [uX11_put_0, uX11_put_1, uX11_put_2, uX11_put_5, uX11_put_6, uX11_put_7, uX11_put_10, uX11_put_10N, uX11_put_12, uX11_put_12N, uX11_put_14, uX11_put_14N, uX11_put_17, uX11_put_18, uX11_put_19, uX11_put_19N, uX11_put_21, uX11_put_24, uX11_put_27, uX11_put_28, uX11_put_29, uX11_put_32, uX11_put_33, uX11_put_33N, uX11_put_35, uX11_put_36, uX11_put_39, uX11_put_42, uX11_put_43, uX11_put_44, uX11_put_47, uX11_put_48, uX11_put_48N, uX11_put_50, uX11_put_51, uX11_put_52, uX11_put_55, uX11_put_56, pp, vX hX2, rr, vX hS, rn, rc, r1, Option.bind_some, Option.toList_some, Option.toList_none, List.cons_append, List.nil_append, if_true, if_false, and_self, and_true, true_and, or_self, or_true, true_or, false_or, or_false, i10, i00, i01, i11, Nat.reduceAdd, st1_0, st1_c, st1_1i, st1_1r, st1_1n, st1_1u, st1_1J, st2_0, st2_c, st2_1i, st2_1r, st2_1n, st2_1u, st2_1J]
  · rw [difO D1 (by simp only [List.mem_cons, List.not_mem_nil, or_false]; omega), hX2]
  · rw [difRR D1 (by simp only [List.mem_cons, List.not_mem_nil, or_false]; omega), S2.1]
  · obtain ⟨hSq, fq, hfq, hcq⟩ := S2.2.1 q hq
    rw [difO D1 (by simp only [List.mem_cons, List.not_mem_nil, or_false]; omega)]
    refine ⟨hSq, ?_⟩
    by_cases e : q = k
    · subst e
      refine ⟨_, by rw [← hh]; exact rI_siA hf, fun m2 hm2 i hi2 => ?_⟩
      rw [updP, updP, hc m2 hm2 i hi2]
      by_cases w : i = i0
      · rw [if_pos w, if_pos (by omega)]
      · rw [if_neg w, if_neg (by omega)]
    · rw [difI D1 (by simp only [List.mem_cons, List.not_mem_nil, or_false]; omega)]
      refine ⟨fq, hfq, fun m2 hm2 i hi2 => ?_⟩
      have := S2.2.2.1 q m2 hm2
      rw [updP, hcq m2 hm2 i hi2, if_neg (by omega)]
end SCX
