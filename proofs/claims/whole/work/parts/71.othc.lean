section OCX
variable {h : AH} {dr : Nat} {xp xl xf : Int32} {L : Nat} {lp ld ln : Nat → Nat} {lg : Nat → Nat → Nat} {la ma : Nat → Nat} {a b d : Nat} {c w : Nat → Option Nat} {wt : Nat → Nat}
theorem min3 {x y : Nat} (hx : x ≤ 12) (hy : y ≤ 12) : (if nI x ≤ nI y then nI x else nI y) = nI (min x y) := by
  by_cases q : x ≤ y
  · rw [if_pos (nI_le q (by omega)), Nat.min_eq_left q]
  · rw [if_neg (nI_ge (by omega) (by omega)), Nat.min_eq_right (by omega)]
theorem c_places (K : LettersC h L lp ld ln lg la ma) (ha : a < L) (hb : b < L) : run 39 (0, [some (.ref (la a)), some (.ref (la b))], [], h) = some (some (.int (nI (pls (ln a) (ln b)))), h) := by
  obtain ⟨a1, _⟩ := K.2.1 a ha
  obtain ⟨b1, _⟩ := K.2.1 b hb
  have h1 := K.2.2.2.2.2.1 a
  have h2 := K.2.2.2.2.2.1 b
  have e1 := min3 h1 h2
  have e2 : (if (8 : Int32) ≤ nI (min (ln a) (ln b)) then 8 else nI (min (ln a) (ln b))) = nI (pls (ln a) (ln b)) := min3 (x := 8) (by omega) (by omega)
  simp only [uX4_places_0, uX4_places_2, uX4_places_3, uX4_places_6, uX4_places_6N, uX4_places_7, uX4_places_10, uX4_places_13, uX4_places_16, vX a1, vX b1, c_lsize K ha, c_lsize K hb, j_min, e1, e2, Option.bind_some, Option.toList_some, Option.toList_none, List.cons_append, List.nil_append, if_true, if_false, and_self, and_true, true_and, or_self, or_true, true_or, false_or, or_false, i10, i00, i01, i11, Nat.reduceAdd, st1_0, st1_c, st1_1i, st1_1r, st1_1n, st1_1u, st1_1J, st2_0, st2_c, st2_1i, st2_1r, st2_1n, st2_1u, st2_1J]
theorem c_apart {j : Nat} (K : LettersC h L lp ld ln lg la ma) (ha : a < L) (hb : b < L) (hj : j < ln a) (hj2 : j < ln b) : run 40 (0, [some (.ref (la a)), some (.ref (la b)), some (.int (nI j))], [], h) = some (some (.int (nI (subm (lg a j) (lg b j)))), h) := by
  obtain ⟨a1, _⟩ := K.2.1 a ha
  obtain ⟨b1, _⟩ := K.2.1 b hb
  have h1 := K.2.2.2.2.2.2.1 a j
  have h2 := K.2.2.2.2.2.2.1 b j
  have r3 := j_subm (h := h) (show lg a j < 2 ^ 30 by omega) (show lg b j < 2 ^ 30 by omega)
  simp only [uX4_apart_0, uX4_apart_1, uX4_apart_2, uX4_apart_5, uX4_apart_5N, uX4_apart_6, uX4_apart_7, uX4_apart_10, uX4_apart_11, uX4_apart_13, uX4_apart_16, vX a1, vX b1, c_lgroupAt K ha hj, c_lgroupAt K hb hj2, r3, Option.bind_some, Option.toList_some, Option.toList_none, List.cons_append, List.nil_append, if_true, if_false, and_self, and_true, true_and, or_self, or_true, true_or, false_or, or_false, i10, i00, i01, i11, Nat.reduceAdd, st1_0, st1_c, st1_1i, st1_1r, st1_1n, st1_1u, st1_1J, st2_0, st2_c, st2_1i, st2_1r, st2_1n, st2_1u, st2_1J]
theorem c_pairs {q : Nat} (B : BookC h c w wt) (hq : q < 100) : run 9 (0, [some (.ref 5), some (.int (nI q))], [], h) = some (some (.int (nI (PB c w q))), h) := by
  obtain ⟨pr, a9, hpr, _⟩ := B.2.2.2.2.1
  rw [c_pairsApart hq B.1 a9, hpr q hq]
theorem c_spreadC (B : BookC h c w wt) : run 10 (0, [some (.ref 5), none, none], [], h) = some (some (.int (nI (spF c w))), h) := by
  obtain ⟨pr, a9, hpr, hb⟩ := B.2.2.2.2.1
  rw [c_spreadOfCodes hb B.1 a9]
  have e : cnt (fun b => decide (0 < pr b)) 100 = spF c w := cnt_congr 100 (fun u hu => by simp only [hpr u hu])
  rw [e]
theorem pls_lt {x y j : Nat} (h : j < pls x y) : j < x ∧ j < y := by
  unfold pls at h
  omega
theorem c_fitting (B : BookC h c w wt) (K : LettersC h L lp ld ln lg la ma) (ha : a < L) (hb : b < L) : run 41 (0, [some (.ref 5), some (.ref (la a)), some (.ref (la b)), none, none, none], [], h) = some (some (.int (nI (ftF c w (lg a) (lg b) (pls (ln a) (ln b))))), h) := by
  have hp8 := pls_le (ln a) (ln b)
  have hpl := c_places K ha hb
  have lp1 := loopN (F := fun t => run 41 (12, [some (.ref 5), some (.ref (la a)), some (.ref (la b)), some (.int (nI (pls (ln a) (ln b)))), some (.int (nI (ftF c w (lg a) (lg b) t))), some (.int (nI t))], [], h)) (pls (ln a) (ln b)) (fun j hj => by
    obtain ⟨j1, j2⟩ := pls_lt hj
    have c1 : ¬ nI (pls (ln a) (ln b)) ≤ nI j := nI_ge hj (by omega)
    have r1 := c_apart K ha hb j1 j2
    have r2 := c_pairs B (subm_lt (lg a j) (lg b j))
    have hP := PB_le (c := c) (w := w) (b := subm (lg a j) (lg b j))
    show run 41 (12, _) = run 41 (12, _)
    rw [uX4_fitting_12]
    by_cases q : 0 < PB c w (subm (lg a j) (lg b j))
    · have c2 : ¬ nI (PB c w (subm (lg a j) (lg b j))) ≤ 0 := nI_nle q (by omega)
      have es : ftF c w (lg a) (lg b) (j + 1) = ftF c w (lg a) (lg b) j + 1 := by
        unfold ftF
        rw [cnt_s, decide_eq_true q]
        rfl
      rw [es]
      simp only [uX4_fitting_0, uX4_fitting_0N, uX4_fitting_1, uX4_fitting_1N, uX4_fitting_2, uX4_fitting_5, uX4_fitting_6, uX4_fitting_7, uX4_fitting_9, uX4_fitting_10, uX4_fitting_14, uX4_fitting_15, uX4_fitting_18, uX4_fitting_19, uX4_fitting_19N, uX4_fitting_20, uX4_fitting_20N, uX4_fitting_21, uX4_fitting_23, uX4_fitting_26, uX4_fitting_29, uX4_fitting_32, uX4_fitting_35, uX4_fitting_38, uX4_fitting_41, uX4_fitting_43, c1, r1, vX B.1, r2, c2, nI_1, Option.bind_some, Option.toList_some, Option.toList_none, List.cons_append, List.nil_append, if_true, if_false, and_self, and_true, true_and, or_self, or_true, true_or, false_or, or_false, i10, i00, i01, i11, Nat.reduceAdd, st1_0, st1_c, st1_1i, st1_1r, st1_1n, st1_1u, st1_1J, st2_0, st2_c, st2_1i, st2_1r, st2_1n, st2_1u, st2_1J]
    · have c2 : nI (PB c w (subm (lg a j) (lg b j))) ≤ 0 := by rw [show PB c w (subm (lg a j) (lg b j)) = 0 by omega]; decide
      have es : ftF c w (lg a) (lg b) (j + 1) = ftF c w (lg a) (lg b) j := by
        unfold ftF
        rw [cnt_s, decide_eq_false q]
        rfl
      rw [es]
      simp only [uX4_fitting_0, uX4_fitting_0N, uX4_fitting_1, uX4_fitting_1N, uX4_fitting_2, uX4_fitting_5, uX4_fitting_6, uX4_fitting_7, uX4_fitting_9, uX4_fitting_10, uX4_fitting_14, uX4_fitting_15, uX4_fitting_18, uX4_fitting_19, uX4_fitting_19N, uX4_fitting_20, uX4_fitting_20N, uX4_fitting_21, uX4_fitting_23, uX4_fitting_26, uX4_fitting_29, uX4_fitting_32, uX4_fitting_35, uX4_fitting_38, uX4_fitting_41, uX4_fitting_43, c1, r1, vX B.1, r2, c2, nI_1, Option.bind_some, Option.toList_some, Option.toList_none, List.cons_append, List.nil_append, if_true, if_false, and_self, and_true, true_and, or_self, or_true, true_or, false_or, or_false, i10, i00, i01, i11, Nat.reduceAdd, st1_0, st1_c, st1_1i, st1_1r, st1_1n, st1_1u, st1_1J, st2_0, st2_c, st2_1i, st2_1r, st2_1n, st2_1u, st2_1J])
  have c1 : nI (pls (ln a) (ln b)) ≤ nI (pls (ln a) (ln b)) := nI_le (Nat.le_refl _) (by omega)
  simp only [uX4_fitting_0, uX4_fitting_0N, uX4_fitting_1, uX4_fitting_1N, uX4_fitting_2, uX4_fitting_5, uX4_fitting_6, uX4_fitting_7, uX4_fitting_9, uX4_fitting_10, uX4_fitting_14, uX4_fitting_15, uX4_fitting_18, uX4_fitting_19, uX4_fitting_19N, uX4_fitting_20, uX4_fitting_20N, uX4_fitting_21, uX4_fitting_23, uX4_fitting_26, uX4_fitting_29, uX4_fitting_32, uX4_fitting_35, uX4_fitting_38, uX4_fitting_41, uX4_fitting_43, hpl, Option.bind_some, Option.toList_some, Option.toList_none, List.cons_append, List.nil_append, if_true, if_false, and_self, and_true, true_and, or_self, or_true, true_or, false_or, or_false, i10, i00, i01, i11, Nat.reduceAdd, st1_0, st1_c, st1_1i, st1_1r, st1_1n, st1_1u, st1_1J, st2_0, st2_c, st2_1i, st2_1r, st2_1n, st2_1u, st2_1J]
  refine Eq.trans lp1 ?_
  show run 41 (12, _) = _
  rw [uX4_fitting_12]
  simp only [uX4_fitting_0, uX4_fitting_0N, uX4_fitting_1, uX4_fitting_1N, uX4_fitting_2, uX4_fitting_5, uX4_fitting_6, uX4_fitting_7, uX4_fitting_9, uX4_fitting_10, uX4_fitting_14, uX4_fitting_15, uX4_fitting_18, uX4_fitting_19, uX4_fitting_19N, uX4_fitting_20, uX4_fitting_20N, uX4_fitting_21, uX4_fitting_23, uX4_fitting_26, uX4_fitting_29, uX4_fitting_32, uX4_fitting_35, uX4_fitting_38, uX4_fitting_41, uX4_fitting_43, c1, Option.bind_some, Option.toList_some, Option.toList_none, List.cons_append, List.nil_append, if_true, if_false, and_self, and_true, true_and, or_self, or_true, true_or, false_or, or_false, i10, i00, i01, i11, Nat.reduceAdd, st1_0, st1_c, st1_1i, st1_1r, st1_1n, st1_1u, st1_1J, st2_0, st2_c, st2_1i, st2_1r, st2_1n, st2_1u, st2_1J]
theorem c_sure (B : BookC h c w wt) (K : LettersC h L lp ld ln lg la ma) (ha : a < L) (hb : b < L) : run 42 (0, [some (.ref 5), some (.ref (la a)), some (.ref (la b)), none, none, none], [], h) = some (some (.int (nI (suF c w (lg a) (lg b) (pls (ln a) (ln b))))), h) := by
  have hp8 := pls_le (ln a) (ln b)
  have hpl := c_places K ha hb
  have lp1 := loopN (F := fun t => run 42 (12, [some (.ref 5), some (.ref (la a)), some (.ref (la b)), some (.int (nI (pls (ln a) (ln b)))), some (.int (nI (suF c w (lg a) (lg b) t))), some (.int (nI t))], [], h)) (pls (ln a) (ln b)) (fun j hj => by
    obtain ⟨j1, j2⟩ := pls_lt hj
    have c1 : ¬ nI (pls (ln a) (ln b)) ≤ nI j := nI_ge hj (by omega)
    have r1 := c_apart K ha hb j1 j2
    have r2 := c_pairs B (subm_lt (lg a j) (lg b j))
    have hP := PB_le (c := c) (w := w) (b := subm (lg a j) (lg b j))
    show run 42 (12, _) = run 42 (12, _)
    rw [uX4_sure_12]
    by_cases q : PB c w (subm (lg a j) (lg b j)) = 1
    · have c2 : nI (PB c w (subm (lg a j) (lg b j))) = 1 := by rw [q]; rfl
      have es : suF c w (lg a) (lg b) (j + 1) = suF c w (lg a) (lg b) j + 1 := by
        unfold suF
        rw [cnt_s, decide_eq_true q]
        rfl
      rw [es]
      simp only [uX4_sure_0, uX4_sure_0N, uX4_sure_1, uX4_sure_1N, uX4_sure_2, uX4_sure_5, uX4_sure_6, uX4_sure_7, uX4_sure_9, uX4_sure_10, uX4_sure_14, uX4_sure_15, uX4_sure_18, uX4_sure_19, uX4_sure_19N, uX4_sure_20, uX4_sure_20N, uX4_sure_21, uX4_sure_23, uX4_sure_26, uX4_sure_29, uX4_sure_30, uX4_sure_33, uX4_sure_36, uX4_sure_39, uX4_sure_42, uX4_sure_44, c1, r1, vX B.1, r2, c2, nI_1, Option.bind_some, Option.toList_some, Option.toList_none, List.cons_append, List.nil_append, if_true, if_false, and_self, and_true, true_and, or_self, or_true, true_or, false_or, or_false, i10, i00, i01, i11, Nat.reduceAdd, st1_0, st1_c, st1_1i, st1_1r, st1_1n, st1_1u, st1_1J, st2_0, st2_c, st2_1i, st2_1r, st2_1n, st2_1u, st2_1J]
    · have c2 : ¬ nI (PB c w (subm (lg a j) (lg b j))) = 1 := nI_ne (b := 1) q (by omega) (by omega)
      have es : suF c w (lg a) (lg b) (j + 1) = suF c w (lg a) (lg b) j := by
        unfold suF
        rw [cnt_s, decide_eq_false q]
        rfl
      rw [es]
      simp only [uX4_sure_0, uX4_sure_0N, uX4_sure_1, uX4_sure_1N, uX4_sure_2, uX4_sure_5, uX4_sure_6, uX4_sure_7, uX4_sure_9, uX4_sure_10, uX4_sure_14, uX4_sure_15, uX4_sure_18, uX4_sure_19, uX4_sure_19N, uX4_sure_20, uX4_sure_20N, uX4_sure_21, uX4_sure_23, uX4_sure_26, uX4_sure_29, uX4_sure_30, uX4_sure_33, uX4_sure_36, uX4_sure_39, uX4_sure_42, uX4_sure_44, c1, r1, vX B.1, r2, c2, nI_1, Option.bind_some, Option.toList_some, Option.toList_none, List.cons_append, List.nil_append, if_true, if_false, and_self, and_true, true_and, or_self, or_true, true_or, false_or, or_false, i10, i00, i01, i11, Nat.reduceAdd, st1_0, st1_c, st1_1i, st1_1r, st1_1n, st1_1u, st1_1J, st2_0, st2_c, st2_1i, st2_1r, st2_1n, st2_1u, st2_1J])
  have c1 : nI (pls (ln a) (ln b)) ≤ nI (pls (ln a) (ln b)) := nI_le (Nat.le_refl _) (by omega)
  simp only [uX4_sure_0, uX4_sure_0N, uX4_sure_1, uX4_sure_1N, uX4_sure_2, uX4_sure_5, uX4_sure_6, uX4_sure_7, uX4_sure_9, uX4_sure_10, uX4_sure_14, uX4_sure_15, uX4_sure_18, uX4_sure_19, uX4_sure_19N, uX4_sure_20, uX4_sure_20N, uX4_sure_21, uX4_sure_23, uX4_sure_26, uX4_sure_29, uX4_sure_30, uX4_sure_33, uX4_sure_36, uX4_sure_39, uX4_sure_42, uX4_sure_44, hpl, Option.bind_some, Option.toList_some, Option.toList_none, List.cons_append, List.nil_append, if_true, if_false, and_self, and_true, true_and, or_self, or_true, true_or, false_or, or_false, i10, i00, i01, i11, Nat.reduceAdd, st1_0, st1_c, st1_1i, st1_1r, st1_1n, st1_1u, st1_1J, st2_0, st2_c, st2_1i, st2_1r, st2_1n, st2_1u, st2_1J]
  refine Eq.trans lp1 ?_
  show run 42 (12, _) = _
  rw [uX4_sure_12]
  simp only [uX4_sure_0, uX4_sure_0N, uX4_sure_1, uX4_sure_1N, uX4_sure_2, uX4_sure_5, uX4_sure_6, uX4_sure_7, uX4_sure_9, uX4_sure_10, uX4_sure_14, uX4_sure_15, uX4_sure_18, uX4_sure_19, uX4_sure_19N, uX4_sure_20, uX4_sure_20N, uX4_sure_21, uX4_sure_23, uX4_sure_26, uX4_sure_29, uX4_sure_30, uX4_sure_33, uX4_sure_36, uX4_sure_39, uX4_sure_42, uX4_sure_44, c1, Option.bind_some, Option.toList_some, Option.toList_none, List.cons_append, List.nil_append, if_true, if_false, and_self, and_true, true_and, or_self, or_true, true_or, false_or, or_false, i10, i00, i01, i11, Nat.reduceAdd, st1_0, st1_c, st1_1i, st1_1r, st1_1n, st1_1u, st1_1J, st2_0, st2_c, st2_1i, st2_1r, st2_1n, st2_1u, st2_1J]
theorem c_beside_u {x y z : Int32} (hX : rO h 4 = some (10, xF dr xp xl xf)) (K : LettersC h L lp ld ln lg la ma) (hx : ¬ (0 ≤ x.toInt ∧ x.toInt ≤ (L : Int) - 1) ∨ ¬ (0 ≤ y.toInt ∧ y.toInt ≤ (L : Int) - 1)) : run 115 (0, [some (.ref 4), some (.int x), some (.int y), some (.int z), none, none], [], h) = some (some (.int (-1)), h) := by
  have hL := K.2.2.1
  by_cases h1 : 0 ≤ x.toInt ∧ x.toInt ≤ (L : Int) - 1
  · have h2 := hx.resolve_left (fun q => q h1)
    obtain ⟨a, q1, q2, q3⟩ := inR h1
    subst q3
    simp only [uX11_beside_0, uX11_beside_1, uX11_beside_2, uX11_beside_5, uX11_beside_5N, uX11_beside_7, uX11_beside_8, uX11_beside_9, uX11_beside_12, uX11_beside_12N, uX11_beside_14, uX11_beside_14N, uX11_beside_16, uX11_beside_16N, uX11_beside_19, uX11_beside_19N, uX11_beside_21, uX11_beside_21N, uX11_beside_24, uX11_beside_25, uX11_beside_26, uX11_beside_27, uX11_beside_28, uX11_beside_31, uX11_beside_33, uX11_beside_34, uX11_beside_35_0, uX11_beside_35_1, uX11_beside_35_2, uX11_beside_35_3, uX11_beside_35_d, uX11_beside_64, uX11_beside_64N, uX11_beside_66, uX11_beside_66N, uX11_beside_68, uX11_beside_71, uX11_beside_72, uX11_beside_73, uX11_beside_76, uX11_beside_76N, uX11_beside_78, uX11_beside_78N, uX11_beside_80, uX11_beside_83, uX11_beside_84, uX11_beside_84N, uX11_beside_86, uX11_beside_89, uX11_beside_89N, uX11_beside_91, uX11_beside_94, uX11_beside_97, uX11_beside_98, uX11_beside_101, uX11_beside_102, uX11_beside_105, uX11_beside_106, uX11_beside_107, uX11_beside_110, uX11_beside_110N, uX11_beside_112, uX11_beside_112N, uX11_beside_114, uX11_beside_117, uX11_beside_118, uX11_beside_120, vX hX, c_letterAt hX K (show a < L by omega), c_letterAt_n hX K h2, Option.bind_some, Option.toList_some, Option.toList_none, List.cons_append, List.nil_append, if_true, if_false, and_self, and_true, true_and, or_self, or_true, true_or, false_or, or_false, i10, i00, i01, i11, Nat.reduceAdd, st1_0, st1_c, st1_1i, st1_1r, st1_1n, st1_1u, st1_1J, st2_0, st2_c, st2_1i, st2_1r, st2_1n, st2_1u, st2_1J]
  · by_cases h2 : 0 ≤ y.toInt ∧ y.toInt ≤ (L : Int) - 1
    · obtain ⟨b, q1, q2, q3⟩ := inR h2
      subst q3
      simp only [uX11_beside_0, uX11_beside_1, uX11_beside_2, uX11_beside_5, uX11_beside_5N, uX11_beside_7, uX11_beside_8, uX11_beside_9, uX11_beside_12, uX11_beside_12N, uX11_beside_14, uX11_beside_14N, uX11_beside_16, uX11_beside_16N, uX11_beside_19, uX11_beside_19N, uX11_beside_21, uX11_beside_21N, uX11_beside_24, uX11_beside_25, uX11_beside_26, uX11_beside_27, uX11_beside_28, uX11_beside_31, uX11_beside_33, uX11_beside_34, uX11_beside_35_0, uX11_beside_35_1, uX11_beside_35_2, uX11_beside_35_3, uX11_beside_35_d, uX11_beside_64, uX11_beside_64N, uX11_beside_66, uX11_beside_66N, uX11_beside_68, uX11_beside_71, uX11_beside_72, uX11_beside_73, uX11_beside_76, uX11_beside_76N, uX11_beside_78, uX11_beside_78N, uX11_beside_80, uX11_beside_83, uX11_beside_84, uX11_beside_84N, uX11_beside_86, uX11_beside_89, uX11_beside_89N, uX11_beside_91, uX11_beside_94, uX11_beside_97, uX11_beside_98, uX11_beside_101, uX11_beside_102, uX11_beside_105, uX11_beside_106, uX11_beside_107, uX11_beside_110, uX11_beside_110N, uX11_beside_112, uX11_beside_112N, uX11_beside_114, uX11_beside_117, uX11_beside_118, uX11_beside_120, vX hX, c_letterAt hX K (show b < L by omega), c_letterAt_n hX K h1, Option.bind_some, Option.toList_some, Option.toList_none, List.cons_append, List.nil_append, if_true, if_false, and_self, and_true, true_and, or_self, or_true, true_or, false_or, or_false, i10, i00, i01, i11, Nat.reduceAdd, st1_0, st1_c, st1_1i, st1_1r, st1_1n, st1_1u, st1_1J, st2_0, st2_c, st2_1i, st2_1r, st2_1n, st2_1u, st2_1J]
    · simp only [uX11_beside_0, uX11_beside_1, uX11_beside_2, uX11_beside_5, uX11_beside_5N, uX11_beside_7, uX11_beside_8, uX11_beside_9, uX11_beside_12, uX11_beside_12N, uX11_beside_14, uX11_beside_14N, uX11_beside_16, uX11_beside_16N, uX11_beside_19, uX11_beside_19N, uX11_beside_21, uX11_beside_21N, uX11_beside_24, uX11_beside_25, uX11_beside_26, uX11_beside_27, uX11_beside_28, uX11_beside_31, uX11_beside_33, uX11_beside_34, uX11_beside_35_0, uX11_beside_35_1, uX11_beside_35_2, uX11_beside_35_3, uX11_beside_35_d, uX11_beside_64, uX11_beside_64N, uX11_beside_66, uX11_beside_66N, uX11_beside_68, uX11_beside_71, uX11_beside_72, uX11_beside_73, uX11_beside_76, uX11_beside_76N, uX11_beside_78, uX11_beside_78N, uX11_beside_80, uX11_beside_83, uX11_beside_84, uX11_beside_84N, uX11_beside_86, uX11_beside_89, uX11_beside_89N, uX11_beside_91, uX11_beside_94, uX11_beside_97, uX11_beside_98, uX11_beside_101, uX11_beside_102, uX11_beside_105, uX11_beside_106, uX11_beside_107, uX11_beside_110, uX11_beside_110N, uX11_beside_112, uX11_beside_112N, uX11_beside_114, uX11_beside_117, uX11_beside_118, uX11_beside_120, vX hX, c_letterAt_n hX K h1, c_letterAt_n hX K h2, Option.bind_some, Option.toList_some, Option.toList_none, List.cons_append, List.nil_append, if_true, if_false, and_self, and_true, true_and, or_self, or_true, true_or, false_or, or_false, i10, i00, i01, i11, Nat.reduceAdd, st1_0, st1_c, st1_1i, st1_1r, st1_1n, st1_1u, st1_1J, st2_0, st2_c, st2_1i, st2_1r, st2_1n, st2_1u, st2_1J]
theorem c_beside_o {z : Int32} (hX : rO h 4 = some (10, xF dr xp xl xf)) (K : LettersC h L lp ld ln lg la ma) (ha : a < L) (hb : b < L) (hz : ¬ (0 ≤ z.toInt ∧ z.toInt ≤ 3) ∨ a = b) : run 115 (0, [some (.ref 4), some (.int (nI a)), some (.int (nI b)), some (.int z), none, none], [], h) = some (some (.int (-2)), h) := by
  have hL := K.2.2.1
  by_cases e : a = b
  · subst e
    simp only [uX11_beside_0, uX11_beside_1, uX11_beside_2, uX11_beside_5, uX11_beside_5N, uX11_beside_7, uX11_beside_8, uX11_beside_9, uX11_beside_12, uX11_beside_12N, uX11_beside_14, uX11_beside_14N, uX11_beside_16, uX11_beside_16N, uX11_beside_19, uX11_beside_19N, uX11_beside_21, uX11_beside_21N, uX11_beside_24, uX11_beside_25, uX11_beside_26, uX11_beside_27, uX11_beside_28, uX11_beside_31, uX11_beside_33, uX11_beside_34, uX11_beside_35_0, uX11_beside_35_1, uX11_beside_35_2, uX11_beside_35_3, uX11_beside_35_d, uX11_beside_64, uX11_beside_64N, uX11_beside_66, uX11_beside_66N, uX11_beside_68, uX11_beside_71, uX11_beside_72, uX11_beside_73, uX11_beside_76, uX11_beside_76N, uX11_beside_78, uX11_beside_78N, uX11_beside_80, uX11_beside_83, uX11_beside_84, uX11_beside_84N, uX11_beside_86, uX11_beside_89, uX11_beside_89N, uX11_beside_91, uX11_beside_94, uX11_beside_97, uX11_beside_98, uX11_beside_101, uX11_beside_102, uX11_beside_105, uX11_beside_106, uX11_beside_107, uX11_beside_110, uX11_beside_110N, uX11_beside_112, uX11_beside_112N, uX11_beside_114, uX11_beside_117, uX11_beside_118, uX11_beside_120, vX hX, c_letterAt hX K ha, Option.bind_some, Option.toList_some, Option.toList_none, List.cons_append, List.nil_append, if_true, if_false, and_self, and_true, true_and, or_self, or_true, true_or, false_or, or_false, i10, i00, i01, i11, Nat.reduceAdd, st1_0, st1_c, st1_1i, st1_1r, st1_1n, st1_1u, st1_1J, st2_0, st2_c, st2_1i, st2_1r, st2_1n, st2_1u, st2_1J]
  · have e1 := nI_ne e (by omega) (by omega)
    have h2 := hz.resolve_right e
    have h3 : z.toInt < 0 ∨ 3 < z.toInt := by omega
    simp only [uX11_beside_35_d h3, uX11_beside_0, uX11_beside_1, uX11_beside_2, uX11_beside_5, uX11_beside_5N, uX11_beside_7, uX11_beside_8, uX11_beside_9, uX11_beside_12, uX11_beside_12N, uX11_beside_14, uX11_beside_14N, uX11_beside_16, uX11_beside_16N, uX11_beside_19, uX11_beside_19N, uX11_beside_21, uX11_beside_21N, uX11_beside_24, uX11_beside_25, uX11_beside_26, uX11_beside_27, uX11_beside_28, uX11_beside_31, uX11_beside_33, uX11_beside_34, uX11_beside_64, uX11_beside_64N, uX11_beside_66, uX11_beside_66N, uX11_beside_68, uX11_beside_71, uX11_beside_72, uX11_beside_73, uX11_beside_76, uX11_beside_76N, uX11_beside_78, uX11_beside_78N, uX11_beside_80, uX11_beside_83, uX11_beside_84, uX11_beside_84N, uX11_beside_86, uX11_beside_89, uX11_beside_89N, uX11_beside_91, uX11_beside_94, uX11_beside_97, uX11_beside_98, uX11_beside_101, uX11_beside_102, uX11_beside_105, uX11_beside_106, uX11_beside_107, uX11_beside_110, uX11_beside_110N, uX11_beside_112, uX11_beside_112N, uX11_beside_114, uX11_beside_117, uX11_beside_118, uX11_beside_120, vX hX, c_letterAt hX K ha, c_letterAt hX K hb, e1, Option.bind_some, Option.toList_some, Option.toList_none, List.cons_append, List.nil_append, if_true, if_false, and_self, and_true, true_and, or_self, or_true, true_or, false_or, or_false, i10, i00, i01, i11, Nat.reduceAdd, st1_0, st1_c, st1_1i, st1_1r, st1_1n, st1_1u, st1_1J, st2_0, st2_c, st2_1i, st2_1r, st2_1n, st2_1u, st2_1J]
theorem c_beside {z : Nat} (hX : rO h 4 = some (10, xF dr xp xl xf)) (B : BookC h c w wt) (K : LettersC h L lp ld ln lg la ma) (ha : a < L) (hb : b < L) (hz : z < 4) (hab : a ≠ b) : run 115 (0, [some (.ref 4), some (.int (nI a)), some (.int (nI b)), some (.int (nI z)), none, none], [], h) = some (some (.int (beS c w lp ln lg a b z)), h) := by
  have hL := K.2.2.1
  have e1 := nI_ne hab (by omega) (by omega)
  obtain ⟨a1, _, a3, _⟩ := K.2.1 a ha
  obtain ⟨b1, _, b3, _⟩ := K.2.1 b hb
  unfold beS
  match z, hz with
  | 0, _ =>
    have z0 : nI 0 = 0 := rfl
    simp only [uX11_beside_0, uX11_beside_1, uX11_beside_2, uX11_beside_5, uX11_beside_5N, uX11_beside_7, uX11_beside_8, uX11_beside_9, uX11_beside_12, uX11_beside_12N, uX11_beside_14, uX11_beside_14N, uX11_beside_16, uX11_beside_16N, uX11_beside_19, uX11_beside_19N, uX11_beside_21, uX11_beside_21N, uX11_beside_24, uX11_beside_25, uX11_beside_26, uX11_beside_27, uX11_beside_28, uX11_beside_31, uX11_beside_33, uX11_beside_34, uX11_beside_35_0, uX11_beside_35_1, uX11_beside_35_2, uX11_beside_35_3, uX11_beside_35_d, uX11_beside_64, uX11_beside_64N, uX11_beside_66, uX11_beside_66N, uX11_beside_68, uX11_beside_71, uX11_beside_72, uX11_beside_73, uX11_beside_76, uX11_beside_76N, uX11_beside_78, uX11_beside_78N, uX11_beside_80, uX11_beside_83, uX11_beside_84, uX11_beside_84N, uX11_beside_86, uX11_beside_89, uX11_beside_89N, uX11_beside_91, uX11_beside_94, uX11_beside_97, uX11_beside_98, uX11_beside_101, uX11_beside_102, uX11_beside_105, uX11_beside_106, uX11_beside_107, uX11_beside_110, uX11_beside_110N, uX11_beside_112, uX11_beside_112N, uX11_beside_114, uX11_beside_117, uX11_beside_118, uX11_beside_120, vX hX, c_letterAt hX K ha, c_letterAt hX K hb, e1, z0, c_places K ha hb, Option.bind_some, Option.toList_some, Option.toList_none, List.cons_append, List.nil_append, if_true, if_false, and_self, and_true, true_and, or_self, or_true, true_or, false_or, or_false, i10, i00, i01, i11, Nat.reduceAdd, st1_0, st1_c, st1_1i, st1_1r, st1_1n, st1_1u, st1_1J, st2_0, st2_c, st2_1i, st2_1r, st2_1n, st2_1u, st2_1J]
  | 1, _ =>
    have z0 : nI 1 = 1 := rfl
    have n1 : ¬ (1 : Nat) = 0 := by decide
    simp only [uX11_beside_0, uX11_beside_1, uX11_beside_2, uX11_beside_5, uX11_beside_5N, uX11_beside_7, uX11_beside_8, uX11_beside_9, uX11_beside_12, uX11_beside_12N, uX11_beside_14, uX11_beside_14N, uX11_beside_16, uX11_beside_16N, uX11_beside_19, uX11_beside_19N, uX11_beside_21, uX11_beside_21N, uX11_beside_24, uX11_beside_25, uX11_beside_26, uX11_beside_27, uX11_beside_28, uX11_beside_31, uX11_beside_33, uX11_beside_34, uX11_beside_35_0, uX11_beside_35_1, uX11_beside_35_2, uX11_beside_35_3, uX11_beside_35_d, uX11_beside_64, uX11_beside_64N, uX11_beside_66, uX11_beside_66N, uX11_beside_68, uX11_beside_71, uX11_beside_72, uX11_beside_73, uX11_beside_76, uX11_beside_76N, uX11_beside_78, uX11_beside_78N, uX11_beside_80, uX11_beside_83, uX11_beside_84, uX11_beside_84N, uX11_beside_86, uX11_beside_89, uX11_beside_89N, uX11_beside_91, uX11_beside_94, uX11_beside_97, uX11_beside_98, uX11_beside_101, uX11_beside_102, uX11_beside_105, uX11_beside_106, uX11_beside_107, uX11_beside_110, uX11_beside_110N, uX11_beside_112, uX11_beside_112N, uX11_beside_114, uX11_beside_117, uX11_beside_118, uX11_beside_120, vX hX, c_letterAt hX K ha, c_letterAt hX K hb, e1, z0, n1, gX0 hX, c_fitting B K ha hb, Option.bind_some, Option.toList_some, Option.toList_none, List.cons_append, List.nil_append, if_true, if_false, and_self, and_true, true_and, or_self, or_true, true_or, false_or, or_false, i10, i00, i01, i11, Nat.reduceAdd, st1_0, st1_c, st1_1i, st1_1r, st1_1n, st1_1u, st1_1J, st2_0, st2_c, st2_1i, st2_1r, st2_1n, st2_1u, st2_1J]
  | 2, _ =>
    have z0 : nI 2 = 2 := rfl
    have n1 : ¬ (2 : Nat) = 0 := by decide
    have n2 : ¬ (2 : Nat) = 1 := by decide
    have x1 := K.2.2.2.1 a
    have x2 := K.2.2.2.1 b
    by_cases q : lp a = lp b
    · have g0 := gL0 a1 a3
      rw [q] at g0
      simp only [uX11_beside_0, uX11_beside_1, uX11_beside_2, uX11_beside_5, uX11_beside_5N, uX11_beside_7, uX11_beside_8, uX11_beside_9, uX11_beside_12, uX11_beside_12N, uX11_beside_14, uX11_beside_14N, uX11_beside_16, uX11_beside_16N, uX11_beside_19, uX11_beside_19N, uX11_beside_21, uX11_beside_21N, uX11_beside_24, uX11_beside_25, uX11_beside_26, uX11_beside_27, uX11_beside_28, uX11_beside_31, uX11_beside_33, uX11_beside_34, uX11_beside_35_0, uX11_beside_35_1, uX11_beside_35_2, uX11_beside_35_3, uX11_beside_35_d, uX11_beside_64, uX11_beside_64N, uX11_beside_66, uX11_beside_66N, uX11_beside_68, uX11_beside_71, uX11_beside_72, uX11_beside_73, uX11_beside_76, uX11_beside_76N, uX11_beside_78, uX11_beside_78N, uX11_beside_80, uX11_beside_83, uX11_beside_84, uX11_beside_84N, uX11_beside_86, uX11_beside_89, uX11_beside_89N, uX11_beside_91, uX11_beside_94, uX11_beside_97, uX11_beside_98, uX11_beside_101, uX11_beside_102, uX11_beside_105, uX11_beside_106, uX11_beside_107, uX11_beside_110, uX11_beside_110N, uX11_beside_112, uX11_beside_112N, uX11_beside_114, uX11_beside_117, uX11_beside_118, uX11_beside_120, vX hX, c_letterAt hX K ha, c_letterAt hX K hb, e1, z0, n1, n2, g0, gL0 b1 b3, c_asNumber, q, Option.bind_some, Option.toList_some, Option.toList_none, List.cons_append, List.nil_append, if_true, if_false, and_self, and_true, true_and, or_self, or_true, true_or, false_or, or_false, i10, i00, i01, i11, Nat.reduceAdd, st1_0, st1_c, st1_1i, st1_1r, st1_1n, st1_1u, st1_1J, st2_0, st2_c, st2_1i, st2_1r, st2_1n, st2_1u, st2_1J]
    · have c2 := nI_ne q (by omega) (by omega)
      simp only [uX11_beside_0, uX11_beside_1, uX11_beside_2, uX11_beside_5, uX11_beside_5N, uX11_beside_7, uX11_beside_8, uX11_beside_9, uX11_beside_12, uX11_beside_12N, uX11_beside_14, uX11_beside_14N, uX11_beside_16, uX11_beside_16N, uX11_beside_19, uX11_beside_19N, uX11_beside_21, uX11_beside_21N, uX11_beside_24, uX11_beside_25, uX11_beside_26, uX11_beside_27, uX11_beside_28, uX11_beside_31, uX11_beside_33, uX11_beside_34, uX11_beside_35_0, uX11_beside_35_1, uX11_beside_35_2, uX11_beside_35_3, uX11_beside_35_d, uX11_beside_64, uX11_beside_64N, uX11_beside_66, uX11_beside_66N, uX11_beside_68, uX11_beside_71, uX11_beside_72, uX11_beside_73, uX11_beside_76, uX11_beside_76N, uX11_beside_78, uX11_beside_78N, uX11_beside_80, uX11_beside_83, uX11_beside_84, uX11_beside_84N, uX11_beside_86, uX11_beside_89, uX11_beside_89N, uX11_beside_91, uX11_beside_94, uX11_beside_97, uX11_beside_98, uX11_beside_101, uX11_beside_102, uX11_beside_105, uX11_beside_106, uX11_beside_107, uX11_beside_110, uX11_beside_110N, uX11_beside_112, uX11_beside_112N, uX11_beside_114, uX11_beside_117, uX11_beside_118, uX11_beside_120, vX hX, c_letterAt hX K ha, c_letterAt hX K hb, e1, z0, n1, n2, gL0 a1 a3, gL0 b1 b3, c2, c_asNumber, q, Option.bind_some, Option.toList_some, Option.toList_none, List.cons_append, List.nil_append, if_true, if_false, and_self, and_true, true_and, or_self, or_true, true_or, false_or, or_false, i10, i00, i01, i11, Nat.reduceAdd, st1_0, st1_c, st1_1i, st1_1r, st1_1n, st1_1u, st1_1J, st2_0, st2_c, st2_1i, st2_1r, st2_1n, st2_1u, st2_1J]
  | 3, _ =>
    have z0 : nI 3 = 3 := rfl
    have n1 : ¬ (3 : Nat) = 0 := by decide
    have n2 : ¬ (3 : Nat) = 1 := by decide
    have n3 : ¬ (3 : Nat) = 2 := by decide
    simp only [uX11_beside_0, uX11_beside_1, uX11_beside_2, uX11_beside_5, uX11_beside_5N, uX11_beside_7, uX11_beside_8, uX11_beside_9, uX11_beside_12, uX11_beside_12N, uX11_beside_14, uX11_beside_14N, uX11_beside_16, uX11_beside_16N, uX11_beside_19, uX11_beside_19N, uX11_beside_21, uX11_beside_21N, uX11_beside_24, uX11_beside_25, uX11_beside_26, uX11_beside_27, uX11_beside_28, uX11_beside_31, uX11_beside_33, uX11_beside_34, uX11_beside_35_0, uX11_beside_35_1, uX11_beside_35_2, uX11_beside_35_3, uX11_beside_35_d, uX11_beside_64, uX11_beside_64N, uX11_beside_66, uX11_beside_66N, uX11_beside_68, uX11_beside_71, uX11_beside_72, uX11_beside_73, uX11_beside_76, uX11_beside_76N, uX11_beside_78, uX11_beside_78N, uX11_beside_80, uX11_beside_83, uX11_beside_84, uX11_beside_84N, uX11_beside_86, uX11_beside_89, uX11_beside_89N, uX11_beside_91, uX11_beside_94, uX11_beside_97, uX11_beside_98, uX11_beside_101, uX11_beside_102, uX11_beside_105, uX11_beside_106, uX11_beside_107, uX11_beside_110, uX11_beside_110N, uX11_beside_112, uX11_beside_112N, uX11_beside_114, uX11_beside_117, uX11_beside_118, uX11_beside_120, vX hX, c_letterAt hX K ha, c_letterAt hX K hb, e1, z0, n1, n2, n3, gX0 hX, c_sure B K ha hb, Option.bind_some, Option.toList_some, Option.toList_none, List.cons_append, List.nil_append, if_true, if_false, and_self, and_true, true_and, or_self, or_true, true_or, false_or, or_false, i10, i00, i01, i11, Nat.reduceAdd, st1_0, st1_c, st1_1i, st1_1r, st1_1n, st1_1u, st1_1J, st2_0, st2_c, st2_1i, st2_1r, st2_1n, st2_1u, st2_1J]
theorem c_power {x n : Nat} (hx : x < 2 ^ 31) (hn : n < 1000) : run 46 (0, [some (.int (nI x)), some (.int (nI n)), none, none, none], [], h) = some (some (.long (lN (x ^ n))), h) := by
  have lp1 := loopN (F := fun j => run 46 (5, [some (.int (nI x)), some (.int (nI n)), some (.long (lN (x ^ j))), none, some (.int (nI j))], [], h)) n (fun j hj => by
    have c1 : ¬ nI n ≤ nI j := nI_ge hj (by omega)
    have e0 : (nI x).toInt64 = lN x := nI_l hx
    have e1 : lN (x ^ j) * lN x = lN (x ^ (j + 1)) := by rw [lN_mul, Nat.pow_succ]
    show run 46 (5, _) = run 46 (5, _)
    rw [uX4_power_5]
    simp only [uX4_power_0, uX4_power_1, uX4_power_2, uX4_power_3, uX4_power_7, uX4_power_8, uX4_power_11, uX4_power_12, uX4_power_13, uX4_power_14, uX4_power_15, uX4_power_16, uX4_power_19, uX4_power_22, uX4_power_23, c1, e0, e1, nI_1, Option.bind_some, Option.toList_some, Option.toList_none, List.cons_append, List.nil_append, if_true, if_false, and_self, and_true, true_and, or_self, or_true, true_or, false_or, or_false, i10, i00, i01, i11, Nat.reduceAdd, st1_0, st1_c, st1_1i, st1_1r, st1_1n, st1_1u, st1_1J, st2_0, st2_c, st2_1i, st2_1r, st2_1n, st2_1u, st2_1J])
  have c1 : nI n ≤ nI n := nI_le (Nat.le_refl _) (by omega)
  simp only [uX4_power_0, uX4_power_1, uX4_power_2, uX4_power_3, uX4_power_7, uX4_power_8, uX4_power_11, uX4_power_12, uX4_power_13, uX4_power_14, uX4_power_15, uX4_power_16, uX4_power_19, uX4_power_22, uX4_power_23, Option.bind_some, Option.toList_some, Option.toList_none, List.cons_append, List.nil_append, if_true, if_false, and_self, and_true, true_and, or_self, or_true, true_or, false_or, or_false, i10, i00, i01, i11, Nat.reduceAdd, st1_0, st1_c, st1_1i, st1_1r, st1_1n, st1_1u, st1_1J, st2_0, st2_c, st2_1i, st2_1r, st2_1n, st2_1u, st2_1J]
  refine Eq.trans lp1 ?_
  show run 46 (5, _) = _
  rw [uX4_power_5]
  simp only [uX4_power_0, uX4_power_1, uX4_power_2, uX4_power_3, uX4_power_7, uX4_power_8, uX4_power_11, uX4_power_12, uX4_power_13, uX4_power_14, uX4_power_15, uX4_power_16, uX4_power_19, uX4_power_22, uX4_power_23, c1, Option.bind_some, Option.toList_some, Option.toList_none, List.cons_append, List.nil_append, if_true, if_false, and_self, and_true, true_and, or_self, or_true, true_or, false_or, or_false, i10, i00, i01, i11, Nat.reduceAdd, st1_0, st1_c, st1_1i, st1_1r, st1_1n, st1_1u, st1_1J, st2_0, st2_c, st2_1i, st2_1r, st2_1n, st2_1u, st2_1J]
theorem c_rowsThatFit {n f s : Nat} (hn : n ≤ 8) (hf : f ≤ n) (hs : s ≤ 100) : run 45 (0, [some (.int (nI n)), some (.int (nI f)), some (.int (nI s)), none, none, none, none, none], [], h) = some (some (.long (lN (rwF n s f))), h) := by
  have lp1 := loopN (F := fun j => run 45 (8, [some (.int (nI n)), some (.int (nI f)), some (.int (nI s)), some (.long (lN (rwS n s f (j - f)))), none, some (.long (lN (chF n j))), none, some (.int (nI j))], [], h)) (n + 1) (fun j hj => by
    have c1 : ¬ nI n < nI j := nI_nlt (by omega) (by omega)
    have hc := chF_le n (by omega) j (by omega)
    have hm : chF n j * (n - j) ≤ 70 * 8 := Nat.mul_le_mul hc (by omega)
    have e0 : nI n - nI j = nI (n - j) := pk_sub (by omega)
    have e1 : lN (chF n j) * (nI (n - j)).toInt64 / (nI (j + 1)).toInt64 = lN (chF n (j + 1)) := by
      rw [nI_l (by omega), nI_l (by omega), lN_mul, lN_divI (by omega) (by omega) (by omega)]
      rfl
    have z : ¬ (nI (j + 1)).toInt64 = 0 := by
      rw [nI_l (by omega), show (0 : Int64) = lN 0 by decide, lN_eqI (by omega) (by omega)]
      omega
    have e2 : (100 : Int32) - nI s = nI (100 - s) := pk_sub (a := 100) (by omega)
    have h2 := c_power (h := h) (x := s) (n := j) (by omega) (by omega)
    have h3 := c_power (h := h) (x := 100 - s) (n := n - j) (by omega) (by omega)
    show run 45 (8, _) = run 45 (8, _)
    rw [uX4_rowsThatFit_8]
    by_cases q : f ≤ j
    · have c2 : ¬ nI j < nI f := nI_nlt q (by omega)
      have e3 : lN (rwS n s f (j - f)) + lN (chF n j) * lN (s ^ j) * lN ((100 - s) ^ (n - j)) = lN (rwS n s f (j + 1 - f)) := by
        rw [lN_mul, lN_mul, lN_add, show j + 1 - f = (j - f) + 1 by omega]
        show _ = lN (rwS n s f (j - f) + rwT n s (f + (j - f)))
        rw [show f + (j - f) = j by omega]
        rfl
      simp only [uX4_rowsThatFit_0, uX4_rowsThatFit_1, uX4_rowsThatFit_2, uX4_rowsThatFit_3, uX4_rowsThatFit_5, uX4_rowsThatFit_6, uX4_rowsThatFit_10, uX4_rowsThatFit_11, uX4_rowsThatFit_14, uX4_rowsThatFit_16, uX4_rowsThatFit_17, uX4_rowsThatFit_20, uX4_rowsThatFit_21, uX4_rowsThatFit_23, uX4_rowsThatFit_24, uX4_rowsThatFit_26, uX4_rowsThatFit_29, uX4_rowsThatFit_30, uX4_rowsThatFit_32, uX4_rowsThatFit_33, uX4_rowsThatFit_34, uX4_rowsThatFit_35, uX4_rowsThatFit_37, uX4_rowsThatFit_38, uX4_rowsThatFit_41, uX4_rowsThatFit_42, uX4_rowsThatFit_43, uX4_rowsThatFit_44, uX4_rowsThatFit_46, uX4_rowsThatFit_47, uX4_rowsThatFit_49, uX4_rowsThatFit_50, uX4_rowsThatFit_51, uX4_rowsThatFit_52, uX4_rowsThatFit_54, uX4_rowsThatFit_55, uX4_rowsThatFit_56, uX4_rowsThatFit_57, uX4_rowsThatFit_58, uX4_rowsThatFit_60, uX4_rowsThatFit_63, uX4_rowsThatFit_66, uX4_rowsThatFit_67, c1, c2, h2, e2, e0, h3, e3, nI_1, e1, z, Option.bind_some, Option.toList_some, Option.toList_none, List.cons_append, List.nil_append, if_true, if_false, and_self, and_true, true_and, or_self, or_true, true_or, false_or, or_false, i10, i00, i01, i11, Nat.reduceAdd, st1_0, st1_c, st1_1i, st1_1r, st1_1n, st1_1u, st1_1J, st2_0, st2_c, st2_1i, st2_1r, st2_1n, st2_1u, st2_1J]
    · have c2 : nI j < nI f := nI_lt (by omega) (by omega)
      have e3 : j + 1 - f = j - f := by omega
      rw [e3]
      simp only [uX4_rowsThatFit_0, uX4_rowsThatFit_1, uX4_rowsThatFit_2, uX4_rowsThatFit_3, uX4_rowsThatFit_5, uX4_rowsThatFit_6, uX4_rowsThatFit_10, uX4_rowsThatFit_11, uX4_rowsThatFit_14, uX4_rowsThatFit_16, uX4_rowsThatFit_17, uX4_rowsThatFit_20, uX4_rowsThatFit_21, uX4_rowsThatFit_23, uX4_rowsThatFit_24, uX4_rowsThatFit_26, uX4_rowsThatFit_29, uX4_rowsThatFit_30, uX4_rowsThatFit_32, uX4_rowsThatFit_33, uX4_rowsThatFit_34, uX4_rowsThatFit_35, uX4_rowsThatFit_37, uX4_rowsThatFit_38, uX4_rowsThatFit_41, uX4_rowsThatFit_42, uX4_rowsThatFit_43, uX4_rowsThatFit_44, uX4_rowsThatFit_46, uX4_rowsThatFit_47, uX4_rowsThatFit_49, uX4_rowsThatFit_50, uX4_rowsThatFit_51, uX4_rowsThatFit_52, uX4_rowsThatFit_54, uX4_rowsThatFit_55, uX4_rowsThatFit_56, uX4_rowsThatFit_57, uX4_rowsThatFit_58, uX4_rowsThatFit_60, uX4_rowsThatFit_63, uX4_rowsThatFit_66, uX4_rowsThatFit_67, c1, c2, e0, nI_1, e1, z, Option.bind_some, Option.toList_some, Option.toList_none, List.cons_append, List.nil_append, if_true, if_false, and_self, and_true, true_and, or_self, or_true, true_or, false_or, or_false, i10, i00, i01, i11, Nat.reduceAdd, st1_0, st1_c, st1_1i, st1_1r, st1_1n, st1_1u, st1_1J, st2_0, st2_c, st2_1i, st2_1r, st2_1n, st2_1u, st2_1J])
  have c1 : nI n < nI (n + 1) := nI_lt (by omega) (by omega)
  have es : rwS n s f (0 - f) = 0 := by rw [Nat.zero_sub]; rfl
  simp only [es] at lp1
  simp only [uX4_rowsThatFit_0, uX4_rowsThatFit_1, uX4_rowsThatFit_2, uX4_rowsThatFit_3, uX4_rowsThatFit_5, uX4_rowsThatFit_6, uX4_rowsThatFit_10, uX4_rowsThatFit_11, uX4_rowsThatFit_14, uX4_rowsThatFit_16, uX4_rowsThatFit_17, uX4_rowsThatFit_20, uX4_rowsThatFit_21, uX4_rowsThatFit_23, uX4_rowsThatFit_24, uX4_rowsThatFit_26, uX4_rowsThatFit_29, uX4_rowsThatFit_30, uX4_rowsThatFit_32, uX4_rowsThatFit_33, uX4_rowsThatFit_34, uX4_rowsThatFit_35, uX4_rowsThatFit_37, uX4_rowsThatFit_38, uX4_rowsThatFit_41, uX4_rowsThatFit_42, uX4_rowsThatFit_43, uX4_rowsThatFit_44, uX4_rowsThatFit_46, uX4_rowsThatFit_47, uX4_rowsThatFit_49, uX4_rowsThatFit_50, uX4_rowsThatFit_51, uX4_rowsThatFit_52, uX4_rowsThatFit_54, uX4_rowsThatFit_55, uX4_rowsThatFit_56, uX4_rowsThatFit_57, uX4_rowsThatFit_58, uX4_rowsThatFit_60, uX4_rowsThatFit_63, uX4_rowsThatFit_66, uX4_rowsThatFit_67, Option.bind_some, Option.toList_some, Option.toList_none, List.cons_append, List.nil_append, if_true, if_false, and_self, and_true, true_and, or_self, or_true, true_or, false_or, or_false, i10, i00, i01, i11, Nat.reduceAdd, st1_0, st1_c, st1_1i, st1_1r, st1_1n, st1_1u, st1_1J, st2_0, st2_c, st2_1i, st2_1r, st2_1n, st2_1u, st2_1J]
  refine Eq.trans lp1 ?_
  rw [uX4_rowsThatFit_8]
  simp only [uX4_rowsThatFit_0, uX4_rowsThatFit_1, uX4_rowsThatFit_2, uX4_rowsThatFit_3, uX4_rowsThatFit_5, uX4_rowsThatFit_6, uX4_rowsThatFit_10, uX4_rowsThatFit_11, uX4_rowsThatFit_14, uX4_rowsThatFit_16, uX4_rowsThatFit_17, uX4_rowsThatFit_20, uX4_rowsThatFit_21, uX4_rowsThatFit_23, uX4_rowsThatFit_24, uX4_rowsThatFit_26, uX4_rowsThatFit_29, uX4_rowsThatFit_30, uX4_rowsThatFit_32, uX4_rowsThatFit_33, uX4_rowsThatFit_34, uX4_rowsThatFit_35, uX4_rowsThatFit_37, uX4_rowsThatFit_38, uX4_rowsThatFit_41, uX4_rowsThatFit_42, uX4_rowsThatFit_43, uX4_rowsThatFit_44, uX4_rowsThatFit_46, uX4_rowsThatFit_47, uX4_rowsThatFit_49, uX4_rowsThatFit_50, uX4_rowsThatFit_51, uX4_rowsThatFit_52, uX4_rowsThatFit_54, uX4_rowsThatFit_55, uX4_rowsThatFit_56, uX4_rowsThatFit_57, uX4_rowsThatFit_58, uX4_rowsThatFit_60, uX4_rowsThatFit_63, uX4_rowsThatFit_66, uX4_rowsThatFit_67, c1, Option.bind_some, Option.toList_some, Option.toList_none, List.cons_append, List.nil_append, if_true, if_false, and_self, and_true, true_and, or_self, or_true, true_or, false_or, or_false, i10, i00, i01, i11, Nat.reduceAdd, st1_0, st1_c, st1_1i, st1_1r, st1_1n, st1_1u, st1_1J, st2_0, st2_c, st2_1i, st2_1r, st2_1n, st2_1u, st2_1J]
  rfl
theorem c_shareOf (B : BookC h c w wt) (K : LettersC h L lp ld ln lg la ma) (ha : a < L) (hb : b < L) : run 43 (0, [some (.ref 5), some (.ref (la a)), some (.ref (la b)), some (.int (nI (spF c w))), none, none, none], [], h) = some (some (.long (lN (vlF c w ln lg a b))), h) := by
  have hp8 := pls_le (ln a) (ln b)
  have hfl := ftF_le (c := c) (w := w) (la := lg a) (lb := lg b) (n := pls (ln a) (ln b))
  have r1 := c_rowsThatFit (h := h) hp8 hfl (spF_le (c := c) (w := w))
  have e8 : (8 : Int32) - nI (pls (ln a) (ln b)) = nI (8 - pls (ln a) (ln b)) := pk_sub (a := 8) hp8
  have r2 := c_power (h := h) (x := 100) (n := 8 - pls (ln a) (ln b)) (by omega) (by omega)
  have z : nI 100 = 100 := rfl
  rw [z] at r2
  have eV : lN (rwF (pls (ln a) (ln b)) (spF c w) (ftF c w (lg a) (lg b) (pls (ln a) (ln b)))) * lN (100 ^ (8 - pls (ln a) (ln b))) = lN (vlF c w ln lg a b) := lN_mul _ _
  simp only [uX4_shareOf_0, uX4_shareOf_0N, uX4_shareOf_1, uX4_shareOf_1N, uX4_shareOf_4, uX4_shareOf_4N, uX4_shareOf_5, uX4_shareOf_5N, uX4_shareOf_8, uX4_shareOf_11, uX4_shareOf_12, uX4_shareOf_12N, uX4_shareOf_13, uX4_shareOf_13N, uX4_shareOf_14, uX4_shareOf_17, uX4_shareOf_19, uX4_shareOf_21, uX4_shareOf_22, uX4_shareOf_22N, uX4_shareOf_23, uX4_shareOf_23N, uX4_shareOf_24, uX4_shareOf_27, uX4_shareOf_28, uX4_shareOf_31, uX4_shareOf_33, uX4_shareOf_35, uX4_shareOf_37, uX4_shareOf_39, uX4_shareOf_41, uX4_shareOf_42, uX4_shareOf_45, uX4_shareOf_46, c_places K ha hb, c_fitting B K ha hb, r1, e8, r2, eV, Option.bind_some, Option.toList_some, Option.toList_none, List.cons_append, List.nil_append, if_true, if_false, and_self, and_true, true_and, or_self, or_true, true_or, false_or, or_false, i10, i00, i01, i11, Nat.reduceAdd, st1_0, st1_c, st1_1i, st1_1r, st1_1n, st1_1u, st1_1J, st2_0, st2_c, st2_1i, st2_1r, st2_1n, st2_1u, st2_1J]
def fp : Nat → Nat × Nat
  | 0 => (1, 1)
  | n + 1 => match fp n with
    | (a, b) => (b, a + b)
theorem fp_1 (n : Nat) : (fp (n + 1)).1 = (fp n).2 := rfl
theorem fp_2 (n : Nat) : (fp (n + 1)).2 = (fp n).1 + (fp n).2 := rfl
theorem c_gcd_loop {u v : Int64} : ∀ (e x y s : Nat) (l9 l10 : Option Value), s + e = 100 → x < 2 ^ 63 → y < 2 ^ 63 → (y < (fp e).1 ∨ (y ≤ x ∧ x < (fp e).2)) → run 47 (9, [some (.long u), none, some (.long v), none, some (.long (lN x)), none, some (.long (lN y)), none, some (.int (nI s)), l9, l10], [], h) = some (some (.long (lN (Nat.gcd x y))), h) := by
  intro e
  induction e with
  | zero =>
    intro x y s l9 l10 hs hx hy hQ
    have hy0 : y = 0 := by
      rcases hQ with q | q
      · have : y < 1 := q
        omega
      · have : x < 1 := q.2
        omega
    subst hy0
    have c1 : (100 : Int32) ≤ nI s := by rw [show s = 100 by omega]; decide
    rw [Nat.gcd_zero_right, uX4_greatestDivisor_9]
    simp only [uX4_greatestDivisor_0, uX4_greatestDivisor_1, uX4_greatestDivisor_3, uX4_greatestDivisor_4, uX4_greatestDivisor_6, uX4_greatestDivisor_7, uX4_greatestDivisor_11, uX4_greatestDivisor_13, uX4_greatestDivisor_16, uX4_greatestDivisor_18, uX4_greatestDivisor_19, uX4_greatestDivisor_20, uX4_greatestDivisor_23, uX4_greatestDivisor_25, uX4_greatestDivisor_27, uX4_greatestDivisor_28, uX4_greatestDivisor_30, uX4_greatestDivisor_32, uX4_greatestDivisor_34, uX4_greatestDivisor_36, uX4_greatestDivisor_38, uX4_greatestDivisor_41, uX4_greatestDivisor_44, uX4_greatestDivisor_46, c1, Option.bind_some, Option.toList_some, Option.toList_none, List.cons_append, List.nil_append, if_true, if_false, and_self, and_true, true_and, or_self, or_true, true_or, false_or, or_false, i10, i00, i01, i11, Nat.reduceAdd, st1_0, st1_c, st1_1i, st1_1r, st1_1n, st1_1u, st1_1J, st2_0, st2_c, st2_1i, st2_1r, st2_1n, st2_1u, st2_1J]
  | succ e ih =>
    intro x y s l9 l10 hs hx hy hQ
    have c1 : ¬ (100 : Int32) ≤ nI s := nI_ge (a := s) (b := 100) (by omega) (by decide)
    have e0 : (0 : Int64) = lN 0 := by decide
    rw [uX4_greatestDivisor_9]
    by_cases y0 : y = 0
    · subst y0
      have c2 : lN 0 = 0 := by decide
      rw [Nat.gcd_zero_right]
      simp only [uX4_greatestDivisor_0, uX4_greatestDivisor_1, uX4_greatestDivisor_3, uX4_greatestDivisor_4, uX4_greatestDivisor_6, uX4_greatestDivisor_7, uX4_greatestDivisor_11, uX4_greatestDivisor_13, uX4_greatestDivisor_16, uX4_greatestDivisor_18, uX4_greatestDivisor_19, uX4_greatestDivisor_20, uX4_greatestDivisor_23, uX4_greatestDivisor_25, uX4_greatestDivisor_27, uX4_greatestDivisor_28, uX4_greatestDivisor_30, uX4_greatestDivisor_32, uX4_greatestDivisor_34, uX4_greatestDivisor_36, uX4_greatestDivisor_38, uX4_greatestDivisor_41, uX4_greatestDivisor_44, uX4_greatestDivisor_46, c1, lg_cmp_eq, c2, Option.bind_some, Option.toList_some, Option.toList_none, List.cons_append, List.nil_append, if_true, if_false, and_self, and_true, true_and, or_self, or_true, true_or, false_or, or_false, i10, i00, i01, i11, Nat.reduceAdd, st1_0, st1_c, st1_1i, st1_1r, st1_1n, st1_1u, st1_1J, st2_0, st2_c, st2_1i, st2_1r, st2_1n, st2_1u, st2_1J]
    · have c2 : ¬ lN y = 0 := by rw [e0, lN_eqI hy (by omega)]; exact y0
      have er : lN x - lN x / lN y * lN y = lN (x % y) := lN_remI hx hy (by omega)
      have hm : x % y < y := Nat.mod_lt _ (by omega)
      have ih1 := ih y (x % y) (s + 1) (some (.long (lN (x % y)))) none (by omega) hy (by omega) (by
        rw [fp_1, fp_2] at hQ
        by_cases q : y < (fp e).2
        · exact Or.inr ⟨by omega, q⟩
        · refine Or.inl ?_
          rcases hQ with z | z
          · exact absurd z q
          · have : x % y ≤ x - y := by
              rw [Nat.mod_eq_sub_mod z.1]
              exact Nat.mod_le _ _
            omega)
      rw [show Nat.gcd x y = Nat.gcd y (x % y) by rw [Nat.gcd_comm x y, Nat.gcd_rec, Nat.gcd_comm]]
      simp only [uX4_greatestDivisor_0, uX4_greatestDivisor_1, uX4_greatestDivisor_3, uX4_greatestDivisor_4, uX4_greatestDivisor_6, uX4_greatestDivisor_7, uX4_greatestDivisor_11, uX4_greatestDivisor_13, uX4_greatestDivisor_16, uX4_greatestDivisor_18, uX4_greatestDivisor_19, uX4_greatestDivisor_20, uX4_greatestDivisor_23, uX4_greatestDivisor_25, uX4_greatestDivisor_27, uX4_greatestDivisor_28, uX4_greatestDivisor_30, uX4_greatestDivisor_32, uX4_greatestDivisor_34, uX4_greatestDivisor_36, uX4_greatestDivisor_38, uX4_greatestDivisor_41, uX4_greatestDivisor_44, uX4_greatestDivisor_46, c1, lg_cmp_eq, c2, er, nI_1, Option.bind_some, Option.toList_some, Option.toList_none, List.cons_append, List.nil_append, if_true, if_false, and_self, and_true, true_and, or_self, or_true, true_or, false_or, or_false, i10, i00, i01, i11, Nat.reduceAdd, st1_0, st1_c, st1_1i, st1_1r, st1_1n, st1_1u, st1_1J, st2_0, st2_c, st2_1i, st2_1r, st2_1n, st2_1u, st2_1J]
      exact ih1
theorem c_gcd {x y : Nat} (hx : x < 2 ^ 63) (hy : y ≤ 10000000000000000) : run 47 (0, [some (.long (lN x)), none, some (.long (lN y)), none, none, none, none, none, none, none, none], [], h) = some (some (.long (lN (Nat.gcd x y))), h) := by
  have hF : (10000000000000000 : Nat) < (fp 100).1 := by decide
  have lp1 := c_gcd_loop (h := h) (u := lN x) (v := lN y) 100 x y 0 none none (by omega) hx (by omega) (Or.inl (by omega))
  simp only [uX4_greatestDivisor_0, uX4_greatestDivisor_1, uX4_greatestDivisor_3, uX4_greatestDivisor_4, uX4_greatestDivisor_6, uX4_greatestDivisor_7, uX4_greatestDivisor_11, uX4_greatestDivisor_13, uX4_greatestDivisor_16, uX4_greatestDivisor_18, uX4_greatestDivisor_19, uX4_greatestDivisor_20, uX4_greatestDivisor_23, uX4_greatestDivisor_25, uX4_greatestDivisor_27, uX4_greatestDivisor_28, uX4_greatestDivisor_30, uX4_greatestDivisor_32, uX4_greatestDivisor_34, uX4_greatestDivisor_36, uX4_greatestDivisor_38, uX4_greatestDivisor_41, uX4_greatestDivisor_44, uX4_greatestDivisor_46, Option.bind_some, Option.toList_some, Option.toList_none, List.cons_append, List.nil_append, if_true, if_false, and_self, and_true, true_and, or_self, or_true, true_or, false_or, or_false, i10, i00, i01, i11, Nat.reduceAdd, st1_0, st1_c, st1_1i, st1_1r, st1_1n, st1_1u, st1_1J, st2_0, st2_c, st2_1i, st2_1r, st2_1n, st2_1u, st2_1J]
  exact lp1
theorem c_shareIn {z : Nat} (B : BookC h c w wt) (K : LettersC h L lp ld ln lg la ma) (ha : a < L) (hb : b < L) (hz : z < 2) : run 44 (0, [some (.ref 5), some (.ref (la a)), some (.ref (la b)), some (.int (nI z)), none, none, none, none], [], h) = some (some (.long (lN ((if nI z = 0 then rwL c w ln lg a b else 100 ^ pls (ln a) (ln b)) / Nat.gcd (rwL c w ln lg a b) (100 ^ pls (ln a) (ln b))))), h) := by
  have hp8 := pls_le (ln a) (ln b)
  have r1 := c_spreadC B
  have r2 := c_shareOf B K ha hb
  have hv := vlF_lt (c := c) (w := w) (ln := ln) (lg := lg) a b
  have r3 := c_gcd (h := h) (x := vlF c w ln lg a b) (y := 10000000000000000) hv (by omega)
  have eA : lN 10000000000000000 = 10000000000000000 := by decide
  have e8 : (10000000000000000 : Nat) = 100 ^ pls (ln a) (ln b) * 100 ^ (8 - pls (ln a) (ln b)) := by
    rw [← Nat.pow_add, show pls (ln a) (ln b) + (8 - pls (ln a) (ln b)) = 8 by omega]
  have hq : 0 < 100 ^ (8 - pls (ln a) (ln b)) := Nat.pow_pos (by decide)
  have eG : Nat.gcd (vlF c w ln lg a b) 10000000000000000 = Nat.gcd (rwL c w ln lg a b) (100 ^ pls (ln a) (ln b)) * 100 ^ (8 - pls (ln a) (ln b)) := by
    rw [e8]
    unfold vlF
    rw [Nat.gcd_mul_right]
  have hg : 0 < Nat.gcd (vlF c w ln lg a b) 10000000000000000 := Nat.gcd_pos_of_pos_right _ (by decide)
  have hgl : Nat.gcd (vlF c w ln lg a b) 10000000000000000 ≤ 10000000000000000 := Nat.gcd_le_right _ (by decide)
  have c1 : ¬ lN (Nat.gcd (vlF c w ln lg a b) 10000000000000000) = 0 := by
    rw [show (0 : Int64) = lN 0 by decide, lN_eqI (by omega) (by omega)]
    omega
  rw [eA] at r3
  have d1 : lN (vlF c w ln lg a b) / lN (Nat.gcd (vlF c w ln lg a b) 10000000000000000) = lN (rwL c w ln lg a b / Nat.gcd (rwL c w ln lg a b) (100 ^ pls (ln a) (ln b))) := by
    rw [lN_divI hv (by omega) hg, eG]
    unfold vlF
    rw [Nat.mul_div_mul_right _ _ hq]
  have d2 : 10000000000000000 / lN (Nat.gcd (vlF c w ln lg a b) 10000000000000000) = lN (100 ^ pls (ln a) (ln b) / Nat.gcd (rwL c w ln lg a b) (100 ^ pls (ln a) (ln b))) := by
    rw [← eA, lN_divI (by omega) (by omega) hg, eG]
    conv => lhs; rw [e8]
    rw [Nat.mul_div_mul_right _ _ hq]
  by_cases q : nI z = 0
  · rw [if_pos q]
    simp only [uX4_shareInLeastTerms_0, uX4_shareInLeastTerms_1, uX4_shareInLeastTerms_1N, uX4_shareInLeastTerms_2, uX4_shareInLeastTerms_2N, uX4_shareInLeastTerms_3, uX4_shareInLeastTerms_4, uX4_shareInLeastTerms_7, uX4_shareInLeastTerms_10, uX4_shareInLeastTerms_12, uX4_shareInLeastTerms_14, uX4_shareInLeastTerms_17, uX4_shareInLeastTerms_20, uX4_shareInLeastTerms_22, uX4_shareInLeastTerms_24, uX4_shareInLeastTerms_25, uX4_shareInLeastTerms_26, uX4_shareInLeastTerms_29, uX4_shareInLeastTerms_32, uX4_shareInLeastTerms_33, uX4_shareInLeastTerms_34, uX4_shareInLeastTerms_37, uX4_shareInLeastTerms_39, uX4_shareInLeastTerms_41, uX4_shareInLeastTerms_42, uX4_shareInLeastTerms_45, uX4_shareInLeastTerms_48, uX4_shareInLeastTerms_50, uX4_shareInLeastTerms_51, vX B.1, r1, r2, r3, lg_cmp_eq, c1, q, d1, Option.bind_some, Option.toList_some, Option.toList_none, List.cons_append, List.nil_append, if_true, if_false, and_self, and_true, true_and, or_self, or_true, true_or, false_or, or_false, i10, i00, i01, i11, Nat.reduceAdd, st1_0, st1_c, st1_1i, st1_1r, st1_1n, st1_1u, st1_1J, st2_0, st2_c, st2_1i, st2_1r, st2_1n, st2_1u, st2_1J]
  · rw [if_neg q]
    simp only [uX4_shareInLeastTerms_0, uX4_shareInLeastTerms_1, uX4_shareInLeastTerms_1N, uX4_shareInLeastTerms_2, uX4_shareInLeastTerms_2N, uX4_shareInLeastTerms_3, uX4_shareInLeastTerms_4, uX4_shareInLeastTerms_7, uX4_shareInLeastTerms_10, uX4_shareInLeastTerms_12, uX4_shareInLeastTerms_14, uX4_shareInLeastTerms_17, uX4_shareInLeastTerms_20, uX4_shareInLeastTerms_22, uX4_shareInLeastTerms_24, uX4_shareInLeastTerms_25, uX4_shareInLeastTerms_26, uX4_shareInLeastTerms_29, uX4_shareInLeastTerms_32, uX4_shareInLeastTerms_33, uX4_shareInLeastTerms_34, uX4_shareInLeastTerms_37, uX4_shareInLeastTerms_39, uX4_shareInLeastTerms_41, uX4_shareInLeastTerms_42, uX4_shareInLeastTerms_45, uX4_shareInLeastTerms_48, uX4_shareInLeastTerms_50, uX4_shareInLeastTerms_51, vX B.1, r1, r2, r3, lg_cmp_eq, c1, q, d2, Option.bind_some, Option.toList_some, Option.toList_none, List.cons_append, List.nil_append, if_true, if_false, and_self, and_true, true_and, or_self, or_true, true_or, false_or, or_false, i10, i00, i01, i11, Nat.reduceAdd, st1_0, st1_c, st1_1i, st1_1r, st1_1n, st1_1u, st1_1J, st2_0, st2_c, st2_1i, st2_1r, st2_1n, st2_1u, st2_1J]
theorem c_chance_u {x y z : Int32} (hX : rO h 4 = some (10, xF dr xp xl xf)) (K : LettersC h L lp ld ln lg la ma) (hx : ¬ (0 ≤ x.toInt ∧ x.toInt ≤ (L : Int) - 1) ∨ ¬ (0 ≤ y.toInt ∧ y.toInt ≤ (L : Int) - 1) ∨ ¬ (0 ≤ z.toInt ∧ z.toInt ≤ 1) ∨ x = y) : run 117 (0, [some (.ref 4), some (.int x), some (.int y), some (.int z), none, none], [], h) = some (some (.long (-9223372036854775808)), h) := by
  have hL := K.2.2.1
  by_cases h1 : 0 ≤ x.toInt ∧ x.toInt ≤ (L : Int) - 1
  · obtain ⟨a, q1, q2, q3⟩ := inR h1
    have r1 := c_letterAt hX K (show a < L by omega)
    rw [← q3] at r1
    by_cases h2 : 0 ≤ y.toInt ∧ y.toInt ≤ (L : Int) - 1
    · obtain ⟨b, w1, w2, w3⟩ := inR h2
      have r2 := c_letterAt hX K (show b < L by omega)
      rw [← w3] at r2
      by_cases h3 : 0 ≤ z.toInt ∧ z.toInt ≤ 1
      · have h4 : x = y := ((hx.resolve_left (fun q => q h1)).resolve_left (fun q => q h2)).resolve_left (fun q => q h3)
        subst h4
        simp only [uX11_chance_0, uX11_chance_1, uX11_chance_2, uX11_chance_5, uX11_chance_5N, uX11_chance_7, uX11_chance_8, uX11_chance_9, uX11_chance_12, uX11_chance_12N, uX11_chance_14, uX11_chance_14N, uX11_chance_16, uX11_chance_16N, uX11_chance_19, uX11_chance_19N, uX11_chance_21, uX11_chance_21N, uX11_chance_24, uX11_chance_25, uX11_chance_26, uX11_chance_29, uX11_chance_32, uX11_chance_33, uX11_chance_34, uX11_chance_37, uX11_chance_40, uX11_chance_41, uX11_chance_42, uX11_chance_45, uX11_chance_45N, uX11_chance_47, uX11_chance_47N, uX11_chance_49, uX11_chance_50, uX11_chance_53, vX hX, r1, r2, c_bl2, if_pos h3, Option.bind_some, Option.toList_some, Option.toList_none, List.cons_append, List.nil_append, if_true, if_false, and_self, and_true, true_and, or_self, or_true, true_or, false_or, or_false, i10, i00, i01, i11, Nat.reduceAdd, st1_0, st1_c, st1_1i, st1_1r, st1_1n, st1_1u, st1_1J, st2_0, st2_c, st2_1i, st2_1r, st2_1n, st2_1u, st2_1J]
      · simp only [uX11_chance_0, uX11_chance_1, uX11_chance_2, uX11_chance_5, uX11_chance_5N, uX11_chance_7, uX11_chance_8, uX11_chance_9, uX11_chance_12, uX11_chance_12N, uX11_chance_14, uX11_chance_14N, uX11_chance_16, uX11_chance_16N, uX11_chance_19, uX11_chance_19N, uX11_chance_21, uX11_chance_21N, uX11_chance_24, uX11_chance_25, uX11_chance_26, uX11_chance_29, uX11_chance_32, uX11_chance_33, uX11_chance_34, uX11_chance_37, uX11_chance_40, uX11_chance_41, uX11_chance_42, uX11_chance_45, uX11_chance_45N, uX11_chance_47, uX11_chance_47N, uX11_chance_49, uX11_chance_50, uX11_chance_53, vX hX, r1, r2, c_bl2, if_neg h3, Option.bind_some, Option.toList_some, Option.toList_none, List.cons_append, List.nil_append, if_true, if_false, and_self, and_true, true_and, or_self, or_true, true_or, false_or, or_false, i10, i00, i01, i11, Nat.reduceAdd, st1_0, st1_c, st1_1i, st1_1r, st1_1n, st1_1u, st1_1J, st2_0, st2_c, st2_1i, st2_1r, st2_1n, st2_1u, st2_1J]
    · simp only [uX11_chance_0, uX11_chance_1, uX11_chance_2, uX11_chance_5, uX11_chance_5N, uX11_chance_7, uX11_chance_8, uX11_chance_9, uX11_chance_12, uX11_chance_12N, uX11_chance_14, uX11_chance_14N, uX11_chance_16, uX11_chance_16N, uX11_chance_19, uX11_chance_19N, uX11_chance_21, uX11_chance_21N, uX11_chance_24, uX11_chance_25, uX11_chance_26, uX11_chance_29, uX11_chance_32, uX11_chance_33, uX11_chance_34, uX11_chance_37, uX11_chance_40, uX11_chance_41, uX11_chance_42, uX11_chance_45, uX11_chance_45N, uX11_chance_47, uX11_chance_47N, uX11_chance_49, uX11_chance_50, uX11_chance_53, vX hX, r1, c_letterAt_n hX K h2, Option.bind_some, Option.toList_some, Option.toList_none, List.cons_append, List.nil_append, if_true, if_false, and_self, and_true, true_and, or_self, or_true, true_or, false_or, or_false, i10, i00, i01, i11, Nat.reduceAdd, st1_0, st1_c, st1_1i, st1_1r, st1_1n, st1_1u, st1_1J, st2_0, st2_c, st2_1i, st2_1r, st2_1n, st2_1u, st2_1J]
  · by_cases h2 : 0 ≤ y.toInt ∧ y.toInt ≤ (L : Int) - 1
    · obtain ⟨b, w1, w2, w3⟩ := inR h2
      have r2 := c_letterAt hX K (show b < L by omega)
      rw [← w3] at r2
      simp only [uX11_chance_0, uX11_chance_1, uX11_chance_2, uX11_chance_5, uX11_chance_5N, uX11_chance_7, uX11_chance_8, uX11_chance_9, uX11_chance_12, uX11_chance_12N, uX11_chance_14, uX11_chance_14N, uX11_chance_16, uX11_chance_16N, uX11_chance_19, uX11_chance_19N, uX11_chance_21, uX11_chance_21N, uX11_chance_24, uX11_chance_25, uX11_chance_26, uX11_chance_29, uX11_chance_32, uX11_chance_33, uX11_chance_34, uX11_chance_37, uX11_chance_40, uX11_chance_41, uX11_chance_42, uX11_chance_45, uX11_chance_45N, uX11_chance_47, uX11_chance_47N, uX11_chance_49, uX11_chance_50, uX11_chance_53, vX hX, c_letterAt_n hX K h1, r2, Option.bind_some, Option.toList_some, Option.toList_none, List.cons_append, List.nil_append, if_true, if_false, and_self, and_true, true_and, or_self, or_true, true_or, false_or, or_false, i10, i00, i01, i11, Nat.reduceAdd, st1_0, st1_c, st1_1i, st1_1r, st1_1n, st1_1u, st1_1J, st2_0, st2_c, st2_1i, st2_1r, st2_1n, st2_1u, st2_1J]
    · simp only [uX11_chance_0, uX11_chance_1, uX11_chance_2, uX11_chance_5, uX11_chance_5N, uX11_chance_7, uX11_chance_8, uX11_chance_9, uX11_chance_12, uX11_chance_12N, uX11_chance_14, uX11_chance_14N, uX11_chance_16, uX11_chance_16N, uX11_chance_19, uX11_chance_19N, uX11_chance_21, uX11_chance_21N, uX11_chance_24, uX11_chance_25, uX11_chance_26, uX11_chance_29, uX11_chance_32, uX11_chance_33, uX11_chance_34, uX11_chance_37, uX11_chance_40, uX11_chance_41, uX11_chance_42, uX11_chance_45, uX11_chance_45N, uX11_chance_47, uX11_chance_47N, uX11_chance_49, uX11_chance_50, uX11_chance_53, vX hX, c_letterAt_n hX K h1, c_letterAt_n hX K h2, Option.bind_some, Option.toList_some, Option.toList_none, List.cons_append, List.nil_append, if_true, if_false, and_self, and_true, true_and, or_self, or_true, true_or, false_or, or_false, i10, i00, i01, i11, Nat.reduceAdd, st1_0, st1_c, st1_1i, st1_1r, st1_1n, st1_1u, st1_1J, st2_0, st2_c, st2_1i, st2_1r, st2_1n, st2_1u, st2_1J]
theorem c_chance {z : Nat} (hX : rO h 4 = some (10, xF dr xp xl xf)) (B : BookC h c w wt) (K : LettersC h L lp ld ln lg la ma) (ha : a < L) (hb : b < L) (hz : z < 2) (hab : a ≠ b) : run 117 (0, [some (.ref 4), some (.int (nI a)), some (.int (nI b)), some (.int (nI z)), none, none], [], h) = some (some (.long (lN ((if nI z = 0 then rwL c w ln lg a b else 100 ^ pls (ln a) (ln b)) / Nat.gcd (rwL c w ln lg a b) (100 ^ pls (ln a) (ln b))))), h) := by
  have hL := K.2.2.1
  have e1 := nI_ne hab (by omega) (by omega)
  have h3 : 0 ≤ (nI z).toInt ∧ (nI z).toInt ≤ 1 := nI_rng (by omega) (by omega)
  simp only [uX11_chance_0, uX11_chance_1, uX11_chance_2, uX11_chance_5, uX11_chance_5N, uX11_chance_7, uX11_chance_8, uX11_chance_9, uX11_chance_12, uX11_chance_12N, uX11_chance_14, uX11_chance_14N, uX11_chance_16, uX11_chance_16N, uX11_chance_19, uX11_chance_19N, uX11_chance_21, uX11_chance_21N, uX11_chance_24, uX11_chance_25, uX11_chance_26, uX11_chance_29, uX11_chance_32, uX11_chance_33, uX11_chance_34, uX11_chance_37, uX11_chance_40, uX11_chance_41, uX11_chance_42, uX11_chance_45, uX11_chance_45N, uX11_chance_47, uX11_chance_47N, uX11_chance_49, uX11_chance_50, uX11_chance_53, vX hX, c_letterAt hX K ha, c_letterAt hX K hb, c_bl2, if_pos h3, e1, gX0 hX, c_shareIn B K ha hb hz, Option.bind_some, Option.toList_some, Option.toList_none, List.cons_append, List.nil_append, if_true, if_false, and_self, and_true, true_and, or_self, or_true, true_or, false_or, or_false, i10, i00, i01, i11, Nat.reduceAdd, st1_0, st1_c, st1_1i, st1_1r, st1_1n, st1_1u, st1_1J, st2_0, st2_c, st2_1i, st2_1r, st2_1n, st2_1u, st2_1J]
end OCX
