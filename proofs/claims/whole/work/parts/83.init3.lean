theorem ne0 {a b : Nat} : (fun p : Nat => if p < 0 then some (a + b) else none) = fun _ => none := by
  funext p
  rw [if_neg (by omega)]
theorem c_sheets {h : AH} {xs : List Value} (hX : rO h 4 = some (10, xs)) (hx5 : xs[5]? = some (.ref 25)) (n0 : h.1 = 28) (r0 : rR h 25 = some (3, 4, fun _ => none)) : ∃ hz, run 101 (76, [some (.ref 4), some (.int (nI 0))], [], h) = some (none, hz) ∧ hz.1 = 36 ∧ hz.2.1 = h.2.1 + 252 ∧ (∀ b, b ≠ 25 → b < 28 → hz.2.2 b = h.2.2 b) ∧ rR hz 25 = some (3, 4, shR) ∧ ∀ i, i < 4 → rO hz (28 + 2 * i) = some (6, [.ref (29 + 2 * i), .int (-1), .int 0]) ∧ rI hz (29 + 2 * i) = some (60, fun _ => 0) := by
  have i0 : h.1 = 28 + 2 * 0 ∧ h.2.1 = h.2.1 + 63 * 0 ∧ (∀ b, b ≠ 25 → b < 28 → h.2.2 b = h.2.2 b) ∧ rR h 25 = some (3, 4, fun i => if i < 0 then some (28 + 2 * i) else none) ∧ ∀ i, i < 0 → rO h (28 + 2 * i) = some (6, [.ref (29 + 2 * i), .int (-1), .int 0]) ∧ rI h (29 + 2 * i) = some (60, fun _ => 0) := by
    refine ⟨n0, rfl, fun _ _ _ => rfl, ?_, fun i hi => by omega⟩
    rw [r0]
    congr 3
  obtain ⟨hz, lp, z1, z2, z3, z4, z5⟩ := loopE (F := fun k h1 => run 101 (76, [some (.ref 4), some (.int (nI k))], [], h1)) (I := fun k h1 => h1.1 = 28 + 2 * k ∧ h1.2.1 = h.2.1 + 63 * k ∧ (∀ b, b ≠ 25 → b < 28 → h1.2.2 b = h.2.2 b) ∧ rR h1 25 = some (3, 4, fun i => if i < k then some (28 + 2 * i) else none) ∧ ∀ i, i < k → rO h1 (28 + 2 * i) = some (6, [.ref (29 + 2 * i), .int (-1), .int 0]) ∧ rI h1 (29 + 2 * i) = some (60, fun _ => 0)) 4 h i0 (fun k h1 hk I => by
    obtain ⟨z1, z2, z3, z4, z5⟩ := I
    have c1 : ¬ (4 : Int32) ≤ nI k := nI_ge (a := k) (b := 4) hk (by decide)
    have X1 : rO h1 4 = some (10, xs) := by rw [rO_of (z3 4 (by decide) (by decide)), hX]
    have g5 : gf h1 [(10, 5)] 4 = some (.ref 25) := gf_at (by decide) X1 rfl hx5
    have oS : rO (al h1 (aO 6 [.null, .int 0, .int 0]) 3) h1.1 = some (6, [.null, .int 0, .int 0]) := rO_al (by decide)
    have nS : (al h1 (aO 6 [.null, .int 0, .int 0]) 3).1 = h1.1 + 1 := rfl
    have sS : (al h1 (aO 6 [.null, .int 0, .int 0]) 3).2.1 = h1.2.1 + 3 := rfl
    have cS : ∀ b, b ≠ h1.1 → (al h1 (aO 6 [.null, .int 0, .int 0]) 3).2.2 b = h1.2.2 b := fun b hb => cell_al hb
    generalize hhS : al h1 (aO 6 [.null, .int 0, .int 0]) 3 = hS at *
    obtain ⟨hT, rT, nT, sT', cT, oT, aT⟩ := c_sheetInit oS (by omega) (by omega)
    have R1 : rR hT 25 = some (3, 4, fun i => if i < k then some (28 + 2 * i) else none) := by rw [rR_of (cT 25 (by omega) (by omega)), rR_of (cS 25 (by omega)), z4]
    have p1 := pa_sr (a := 25) (j := k) (by decide) R1 hk (by decide) oT (by omega) (by decide)
    have cA : ∀ b, b ≠ 25 → b < h1.1 → (sr hT 25 k h1.1).2.2 b = h1.2.2 b := fun b hb hlt => by rw [cell_sr hb, cT b (by omega) (by omega), cS b (by omega)]
    refine ⟨sr hT 25 k h1.1, ?_, by rw [sr_n]; omega, by rw [sr_s]; omega, fun b hb hlt => by rw [cA b hb (by omega), z3 b hb hlt], ?_, fun i hi => ?_⟩
    · show run 101 (76, _) = run 101 (76, _)
      rw [uX11_init_76]
      simp only [uX11_init_0, uX11_init_1, uX11_init_4, uX11_init_5, uX11_init_8, uX11_init_9, uX11_init_12, uX11_init_15, uX11_init_16, uX11_init_19, uX11_init_20, uX11_init_23, uX11_init_26, uX11_init_27, uX11_init_30, uX11_init_31, uX11_init_34, uX11_init_37, uX11_init_38, uX11_init_40, uX11_init_43, uX11_init_46, uX11_init_47, uX11_init_49, uX11_init_52, uX11_init_55, uX11_init_56, uX11_init_57, uX11_init_60, uX11_init_63, uX11_init_64, uX11_init_67, uX11_init_68, uX11_init_71, uX11_init_74, uX11_init_75, uX11_init_77, uX11_init_78, uX11_init_81, uX11_init_82, uX11_init_85, uX11_init_86, uX11_init_89, uX11_init_90, uX11_init_93, uX11_init_94, uX11_init_97, uX11_init_100, c1, g5, hhS, vX oS, rT, p1, nI_1, Option.bind_some, Option.toList_some, Option.toList_none, List.cons_append, List.nil_append, if_true, if_false, and_self, and_true, true_and, or_self, or_true, true_or, false_or, or_false, i10, i00, i01, i11, Nat.reduceAdd, st1_0, st1_c, st1_1i, st1_1r, st1_1n, st1_1u, st1_1J, st2_0, st2_c, st2_1i, st2_1r, st2_1n, st2_1u, st2_1J]
    · rw [rR_sr, if_pos rfl, R1]
      show some (3, 4, va_up (fun i => if i < k then some (28 + 2 * i) else none) k (some h1.1)) = _
      congr 3
      funext i
      unfold va_up
      by_cases w : i = k
      · rw [if_pos w, if_pos (by omega), z1, w]
      · rw [if_neg w]
        show (if i < k then some (28 + 2 * i) else none) = _
        by_cases w2 : i < k
        · rw [if_pos w2, if_pos (by omega)]
        · rw [if_neg w2, if_neg (by omega)]
    · by_cases w : i = k
      · subst w
        have e1 : 28 + 2 * i = h1.1 := by omega
        have e2 : 29 + 2 * i = hS.1 := by omega
        rw [e1, e2, rO_sr, rI_sr]
        exact ⟨oT, aT⟩
      · obtain ⟨y1, y2⟩ := z5 i (by omega)
        rw [rO_of (cA (28 + 2 * i) (by omega) (by omega)), rI_of (cA (29 + 2 * i) (by omega) (by omega))]
        exact ⟨y1, y2⟩)
  have q1 : (4 : Int32) ≤ nI 4 := by decide
  refine ⟨hz, ?_, by omega, by omega, z3, ?_, z5⟩
  · refine Eq.trans lp ?_
    show run 101 (76, _) = _
    rw [uX11_init_76]
    simp only [uX11_init_0, uX11_init_1, uX11_init_4, uX11_init_5, uX11_init_8, uX11_init_9, uX11_init_12, uX11_init_15, uX11_init_16, uX11_init_19, uX11_init_20, uX11_init_23, uX11_init_26, uX11_init_27, uX11_init_30, uX11_init_31, uX11_init_34, uX11_init_37, uX11_init_38, uX11_init_40, uX11_init_43, uX11_init_46, uX11_init_47, uX11_init_49, uX11_init_52, uX11_init_55, uX11_init_56, uX11_init_57, uX11_init_60, uX11_init_63, uX11_init_64, uX11_init_67, uX11_init_68, uX11_init_71, uX11_init_74, uX11_init_75, uX11_init_77, uX11_init_78, uX11_init_81, uX11_init_82, uX11_init_85, uX11_init_86, uX11_init_89, uX11_init_90, uX11_init_93, uX11_init_94, uX11_init_97, uX11_init_100, q1, Option.bind_some, Option.toList_some, Option.toList_none, List.cons_append, List.nil_append, if_true, if_false, and_self, and_true, true_and, or_self, or_true, true_or, false_or, or_false, i10, i00, i01, i11, Nat.reduceAdd, st1_0, st1_c, st1_1i, st1_1r, st1_1n, st1_1u, st1_1J, st2_0, st2_c, st2_1i, st2_1r, st2_1n, st2_1u, st2_1J]
  · rw [z4]
    rfl
theorem c_init {h : AH} (o0 : rO h 4 = some (10, [.null, .null, .null, .null, .null, .null, .null, .int 0, .int 0, .int 0])) (n0 : h.1 = 5) : ∃ hz, run 101 (0, [some (.ref 4), none], [], h) = some (none, hz) ∧ hz.1 = 36 ∧ hz.2.1 ≤ h.2.1 + 1500 ∧ (∀ b, b < 4 → hz.2.2 b = h.2.2 b) ∧ CS hz (c0 30) (c0 100) (fun _ => 0) (fun _ => 0) (fun _ => 0) (fun _ => 0) (fun _ => 0) 0 (fun _ => none) 0 (fun _ => 0) (fun _ => 0) (fun _ => 0) (fun _ => 0) (fun _ _ => 0) 0 (fun _ => 0) (fun _ => 0) (fun _ => 0) (fun _ _ => 0) (c0 4) (fun _ => 0) (fun _ => 0) 0 0 := by
  -- book
  have oA : rO (al h (aO 0 [.null, .null, .null, .null, .int 0]) 5) 5 = some (0, [.null, .null, .null, .null, .int 0]) := by
    have := rO_al (h := h) (c := 0) (k := 5) (fs := [.null, .null, .null, .null, .int 0]) (by decide)
    rw [n0] at this
    exact this
  have nA : (al h (aO 0 [.null, .null, .null, .null, .int 0]) 5).1 = 6 := by rw [al_n, n0]
  have sA : (al h (aO 0 [.null, .null, .null, .null, .int 0]) 5).2.1 = h.2.1 + 5 := rfl
  have cA : ∀ b, b < 5 → (al h (aO 0 [.null, .null, .null, .null, .int 0]) 5).2.2 b = h.2.2 b := fun b hb => cell_al (by omega)
  generalize hhA : al h (aO 0 [.null, .null, .null, .null, .int 0]) 5 = hA at *
  obtain ⟨hB, rB, nB, sB, cB, BB⟩ := c_bookInit oA nA
  have oB : rO hB 4 = some (10, [.null, .null, .null, .null, .null, .null, .null, .int 0, .int 0, .int 0]) := by rw [rO_of (cB 4 (by decide)), rO_of (cA 4 (by decide)), o0]
  obtain ⟨hC, pC, oC, nC, sC, cC⟩ := stF (k := 0) (v := .ref 5) oB (by decide) rfl (Nat.le_of_ble_eq_true rfl) rfl
  have oC : rO hC 4 = some (10, [.ref 5, .null, .null, .null, .null, .null, .null, .int 0, .int 0, .int 0]) := oC
  rw [nB] at nC
  have t1 : run 101 (0, [some (.ref 4), none], [], h) = run 101 (15, [some (.ref 4), none], [], hC) := by
    simp only [uX11_init_0, uX11_init_1, uX11_init_4, uX11_init_5, uX11_init_8, uX11_init_9, uX11_init_12, n0, hhA, vX oA, rB, pC, Option.bind_some, Option.toList_some, Option.toList_none, List.cons_append, List.nil_append, if_true, if_false, and_self, and_true, true_and, or_self, or_true, true_or, false_or, or_false, i10, i00, i01, i11, Nat.reduceAdd, st1_0, st1_c, st1_1i, st1_1r, st1_1n, st1_1u, st1_1J, st2_0, st2_c, st2_1i, st2_1r, st2_1n, st2_1u, st2_1J]
  -- posts
  have oD : rO (al hC (aO 5 [.null, .null, .null, .null, .null, .int 0]) 6) 10 = some (5, [.null, .null, .null, .null, .null, .int 0]) := by
    have := rO_al (h := hC) (c := 5) (k := 6) (fs := [.null, .null, .null, .null, .null, .int 0]) (by decide)
    rw [nC] at this
    exact this
  have nD : (al hC (aO 5 [.null, .null, .null, .null, .null, .int 0]) 6).1 = 11 := by rw [al_n, nC]
  have sD : (al hC (aO 5 [.null, .null, .null, .null, .null, .int 0]) 6).2.1 = hC.2.1 + 6 := rfl
  have cD : ∀ b, b < 10 → (al hC (aO 5 [.null, .null, .null, .null, .null, .int 0]) 6).2.2 b = hC.2.2 b := fun b hb => cell_al (by omega)
  generalize hhD : al hC (aO 5 [.null, .null, .null, .null, .null, .int 0]) 6 = hD at *
  obtain ⟨hE, rE, nE, sE, cE, PE, TE⟩ := c_postsInit oD nD
  have oE : rO hE 4 = some (10, [.ref 5, .null, .null, .null, .null, .null, .null, .int 0, .int 0, .int 0]) := by rw [rO_of (cE 4 (by decide)), rO_of (cD 4 (by decide)), oC]
  obtain ⟨hF, pF', oF, nF, sF', cF⟩ := stF (k := 1) (v := .ref 10) oE (by decide) rfl (Nat.le_of_ble_eq_true rfl) rfl
  have oF : rO hF 4 = some (10, [.ref 5, .ref 10, .null, .null, .null, .null, .null, .int 0, .int 0, .int 0]) := oF
  rw [nE] at nF
  have t2 : run 101 (15, [some (.ref 4), none], [], hC) = run 101 (26, [some (.ref 4), none], [], hF) := by
    simp only [uX11_init_15, uX11_init_16, uX11_init_19, uX11_init_20, uX11_init_23, nC, hhD, vX oD, rE, pF', Option.bind_some, Option.toList_some, Option.toList_none, List.cons_append, List.nil_append, if_true, if_false, and_self, and_true, true_and, or_self, or_true, true_or, false_or, or_false, i10, i00, i01, i11, Nat.reduceAdd, st1_0, st1_c, st1_1i, st1_1r, st1_1n, st1_1u, st1_1J, st2_0, st2_c, st2_1i, st2_1r, st2_1n, st2_1u, st2_1J]
  -- trace
  have oG : rO (al hF (aO 9 [.int 0]) 1) 22 = some (9, [.int 0]) := by
    have := rO_al (h := hF) (c := 9) (k := 1) (fs := [.int 0]) (by decide)
    rw [nF] at this
    exact this
  have nG : (al hF (aO 9 [.int 0]) 1).1 = 23 := by rw [al_n, nF]
  have sG : (al hF (aO 9 [.int 0]) 1).2.1 = hF.2.1 + 1 := rfl
  have cG : ∀ b, b < 22 → (al hF (aO 9 [.int 0]) 1).2.2 b = hF.2.2 b := fun b hb => cell_al (by omega)
  generalize hhG : al hF (aO 9 [.int 0]) 1 = hG at *
  have oG4 : rO hG 4 = some (10, [.ref 5, .ref 10, .null, .null, .null, .null, .null, .int 0, .int 0, .int 0]) := by rw [rO_of (cG 4 (by decide)), oF]
  obtain ⟨hH, pH, oH, nH, sH, cH⟩ := stF (k := 2) (v := .ref 22) oG4 (by decide) rfl (Nat.le_of_ble_eq_true rfl) rfl
  have oH : rO hH 4 = some (10, [.ref 5, .ref 10, .ref 22, .null, .null, .null, .null, .int 0, .int 0, .int 0]) := oH
  rw [nG] at nH
  have rT : run 99 (0, [some (.ref 22)], [], hG) = some (none, hG) := by simp only [uX10_init_0, uX10_init_1, uX10_init_4]
  have t3 : run 101 (26, [some (.ref 4), none], [], hF) = run 101 (37, [some (.ref 4), none], [], hH) := by
    simp only [uX11_init_26, uX11_init_27, uX11_init_30, uX11_init_31, uX11_init_34, nF, hhG, vX oG, rT, pH, Option.bind_some, Option.toList_some, Option.toList_none, List.cons_append, List.nil_append, if_true, if_false, and_self, and_true, true_and, or_self, or_true, true_or, false_or, or_false, i10, i00, i01, i11, Nat.reduceAdd, st1_0, st1_c, st1_1i, st1_1r, st1_1n, st1_1u, st1_1J, st2_0, st2_c, st2_1i, st2_1r, st2_1n, st2_1u, st2_1J]
  -- three rows
  obtain ⟨hI, pI, oI, rI', nI', sI, cI⟩ := stRR (k := 3) (n := 24) (tg := 1) (by decide) oH (by decide) (by omega) rfl (Nat.le_of_ble_eq_true rfl) rfl
  rw [nH] at nI' rI' cI
  have oI : rO hI 4 = some (10, [.ref 5, .ref 10, .ref 22, .ref 23, .null, .null, .null, .int 0, .int 0, .int 0]) := by rw [nH] at oI; exact oI
  have t4 : run 101 (37, [some (.ref 4), none], [], hH) = run 101 (46, [some (.ref 4), none], [], hI) := by
    simp only [uX11_init_37, uX11_init_38, uX11_init_40, uX11_init_43, k24, q24, pI, Option.bind_some, Option.toList_some, Option.toList_none, List.cons_append, List.nil_append, if_true, if_false, and_self, and_true, true_and, or_self, or_true, true_or, false_or, or_false, i10, i00, i01, i11, Nat.reduceAdd, st1_0, st1_c, st1_1i, st1_1r, st1_1n, st1_1u, st1_1J, st2_0, st2_c, st2_1i, st2_1r, st2_1n, st2_1u, st2_1J]
  obtain ⟨hJ, pJ, oJ, rJ, nJ, sJ, cJ⟩ := stRR (k := 4) (n := 20) (tg := 2) (by decide) oI (by decide) (by omega) rfl (Nat.le_of_ble_eq_true rfl) rfl
  rw [nI'] at nJ rJ cJ
  have oJ : rO hJ 4 = some (10, [.ref 5, .ref 10, .ref 22, .ref 23, .ref 24, .null, .null, .int 0, .int 0, .int 0]) := by rw [nI'] at oJ; exact oJ
  have t5 : run 101 (46, [some (.ref 4), none], [], hI) = run 101 (55, [some (.ref 4), none], [], hJ) := by
    simp only [uX11_init_46, uX11_init_47, uX11_init_49, uX11_init_52, k20, q20, pJ, Option.bind_some, Option.toList_some, Option.toList_none, List.cons_append, List.nil_append, if_true, if_false, and_self, and_true, true_and, or_self, or_true, true_or, false_or, or_false, i10, i00, i01, i11, Nat.reduceAdd, st1_0, st1_c, st1_1i, st1_1r, st1_1n, st1_1u, st1_1J, st2_0, st2_c, st2_1i, st2_1r, st2_1n, st2_1u, st2_1J]
  obtain ⟨hK, pK, oK, rK, nK, sK, cK⟩ := stRR (k := 5) (n := 4) (tg := 3) (by decide) oJ (by decide) (by omega) rfl (Nat.le_of_ble_eq_true rfl) rfl
  rw [nJ] at nK rK cK
  have oK : rO hK 4 = some (10, [.ref 5, .ref 10, .ref 22, .ref 23, .ref 24, .ref 25, .null, .int 0, .int 0, .int 0]) := by rw [nJ] at oK; exact oK
  have t6 : run 101 (55, [some (.ref 4), none], [], hJ) = run 101 (63, [some (.ref 4), none], [], hK) := by
    simp only [uX11_init_55, uX11_init_56, uX11_init_57, uX11_init_60, k4, q4, pK, Option.bind_some, Option.toList_some, Option.toList_none, List.cons_append, List.nil_append, if_true, if_false, and_self, and_true, true_and, or_self, or_true, true_or, false_or, or_false, i10, i00, i01, i11, Nat.reduceAdd, st1_0, st1_c, st1_1i, st1_1r, st1_1n, st1_1u, st1_1J, st2_0, st2_c, st2_1i, st2_1r, st2_1n, st2_1u, st2_1J]
  -- drill
  have oL : rO (al hK (aO 1 [.null]) 1) 26 = some (1, [.null]) := by
    have := rO_al (h := hK) (c := 1) (k := 1) (fs := [.null]) (by decide)
    rw [nK] at this
    exact this
  have nL : (al hK (aO 1 [.null]) 1).1 = 27 := by rw [al_n, nK]
  have sL : (al hK (aO 1 [.null]) 1).2.1 = hK.2.1 + 1 := rfl
  have cL : ∀ b, b < 26 → (al hK (aO 1 [.null]) 1).2.2 b = hK.2.2 b := fun b hb => cell_al (by omega)
  generalize hhL : al hK (aO 1 [.null]) 1 = hL at *
  obtain ⟨hM, rM, nM, sM, cM, DM⟩ := c_drInit oL (by decide) (by omega) (by omega)
  rw [nL] at nM DM cM
  have oM : rO hM 4 = some (10, [.ref 5, .ref 10, .ref 22, .ref 23, .ref 24, .ref 25, .null, .int 0, .int 0, .int 0]) := by rw [rO_of (cM 4 (by decide) (by decide)), rO_of (cL 4 (by decide)), oK]
  obtain ⟨hN, pN, oN', nN, sN, cN⟩ := stF (k := 6) (v := .ref 26) oM (by decide) rfl (Nat.le_of_ble_eq_true rfl) rfl
  have oN' : rO hN 4 = some (10, xF 26 0 0 0) := oN'
  rw [nM] at nN
  have t7 : run 101 (63, [some (.ref 4), none], [], hK) = run 101 (76, [some (.ref 4), some (.int (nI 0))], [], hN) := by
    simp only [uX11_init_63, uX11_init_64, uX11_init_67, uX11_init_68, uX11_init_71, uX11_init_74, uX11_init_75, nK, hhL, vX oL, rM, pN, Option.bind_some, Option.toList_some, Option.toList_none, List.cons_append, List.nil_append, if_true, if_false, and_self, and_true, true_and, or_self, or_true, true_or, false_or, or_false, i10, i00, i01, i11, Nat.reduceAdd, st1_0, st1_c, st1_1i, st1_1r, st1_1n, st1_1u, st1_1J, st2_0, st2_c, st2_1i, st2_1r, st2_1n, st2_1u, st2_1J]
    rfl
  have k25 : rR hN 25 = some (3, 4, fun _ => none) := by rw [rR_of (cN 25 (by decide)), rR_of (cM 25 (by decide) (by decide)), rR_of (cL 25 (by decide)), rK]
  obtain ⟨hz, rz, nz, sz', cz, Rz, Sz⟩ := c_sheets oN' rfl nN k25
  have k1 : ∀ b, b ≠ 4 → b ≠ 25 → b < 26 → hz.2.2 b = hK.2.2 b := fun b h4 h25 hlt => by rw [cz b h25 (by omega), cN b h4, cM b (by omega) (by omega), cL b hlt]
  have k2 : ∀ b, b ≠ 4 → b < 25 → hz.2.2 b = hJ.2.2 b := fun b h4 hlt => by rw [k1 b h4 (by omega) (by omega), cK b h4 (by omega)]
  have k3 : ∀ b, b ≠ 4 → b < 24 → hz.2.2 b = hI.2.2 b := fun b h4 hlt => by rw [k2 b h4 (by omega), cJ b h4 (by omega)]
  have k4' : ∀ b, b ≠ 4 → b < 23 → hz.2.2 b = hG.2.2 b := fun b h4 hlt => by rw [k3 b h4 (by omega), cI b h4 (by omega), cH b h4]
  have k5 : ∀ b, b ≠ 4 → b < 22 → hz.2.2 b = hE.2.2 b := fun b h4 hlt => by rw [k4' b h4 (by omega), cG b hlt, cF b h4]
  have k6' : ∀ b, b ≠ 4 → b < 10 → hz.2.2 b = hB.2.2 b := fun b h4 hlt => by rw [k5 b h4 (by omega), cE b hlt, cD b hlt, cC b h4]
  refine ⟨hz, t1.trans (t2.trans (t3.trans (t4.trans (t5.trans (t6.trans (t7.trans rz)))))), nz, by omega, fun b hb => by rw [k6' b (by omega) (by omega), cB b (by omega), cA b (by omega)], 26, 27, fun _ => 0, fun _ => 0, fun _ => 0, fun _ => 0, ?_, ?_, ?_, ?_, ?_, ⟨?_, fun p hp => by omega, by omega, fun p => by show (0 : Nat) < 3; omega, fun p => by show (0 : Nat) < 6; omega, fun p => by show (0 : Nat) ≤ 12; omega, fun p => by show (0 : Nat) ≤ 20; omega, fun p j => by show (0 : Nat) < 100; omega, fun p hp => by omega⟩, ⟨?_, fun p hp => by omega, by omega, fun p => by show (0 : Nat) < 24; omega, fun p => by show (0 : Nat) < 100; omega, fun p => by show (0 : Nat) ≤ 12; omega, fun p j => by show (0 : Nat) < 100; omega, fun p hp => by omega⟩, ⟨Rz, fun k hk => ?_, fun k m hk => ?_, fun k => by show (0 : Nat) < 3; omega⟩, ?_, tdOK_n, Or.inl rfl, by omega, Or.inl rfl, by omega⟩
  · rw [rO_of (cz 4 (by decide) (by decide)), oN']
    rfl
  · exact bookC_eq BB (fun b hb => k6' b (by omega) (by omega))
  · exact postsC_eq PE (fun b hb => k5 b (by omega) (by omega))
  · exact t3C_eq TE (fun b hb => k5 b (by omega) (by omega))
  · rw [rO_of (k4' 22 (by decide) (by decide)), oG]
  · rw [rR_of (k3 23 (by decide) (by decide)), rI']
    congr 3
  · rw [rR_of (k2 24 (by decide) (by decide)), rJ]
    congr 3
  · obtain ⟨y1, y2⟩ := Sz k hk
    have e0 : c0 4 k = none := if_pos hk
    rw [e0]
    exact ⟨y1, _, y2, fun m hm => by cases hm⟩
  · unfold c0 at hk
    split at hk
    · cases hk
    · cases hk; omega
  · refine drF_eq DM ?_ ?_
    · rw [cz 26 (by decide) (by decide), cN 26 (by decide)]
    · rw [cz 27 (by decide) (by decide), cN 27 (by decide)]
