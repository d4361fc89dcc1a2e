theorem c_isBelow {x b : Int32} {h : AH} : run 137 (0, [some (.int x), some (.int b)], [], h) = some (some (.int (if 0 ≤ x.toInt ∧ x.toInt < b.toInt then 1 else 0)), h) := by
  by_cases h1 : x < 0
  · have h2 : ¬ (0 ≤ x.toInt ∧ x.toInt < b.toInt) := fun q => by
      have := Int32.lt_iff_toInt_lt.mp h1
      have e : (0 : Int32).toInt = 0 := by decide
      omega
    simp only [uX11_isBelow_0, uX11_isBelow_1, uX11_isBelow_4, uX11_isBelow_5, uX11_isBelow_6, uX11_isBelow_9, uX11_isBelow_10, uX11_isBelow_13, uX11_isBelow_14, h1, h2, if_true, if_false, and_self, and_true, true_and, or_self, or_true, true_or, false_or, or_false, i10, i00, i01, i11]
  · have h3 : 0 ≤ x.toInt := by
      have := Int32.le_iff_toInt_le.mp (Int32.not_lt.mp h1)
      have e : (0 : Int32).toInt = 0 := by decide
      omega
    by_cases h4 : b ≤ x
    · have h2 : ¬ (0 ≤ x.toInt ∧ x.toInt < b.toInt) := fun q => by
        have := Int32.le_iff_toInt_le.mp h4
        omega
      simp only [uX11_isBelow_0, uX11_isBelow_1, uX11_isBelow_4, uX11_isBelow_5, uX11_isBelow_6, uX11_isBelow_9, uX11_isBelow_10, uX11_isBelow_13, uX11_isBelow_14, h1, h4, h2, if_true, if_false, and_self, and_true, true_and, or_self, or_true, true_or, false_or, or_false, i10, i00, i01, i11]
    · have h5 := Int32.lt_iff_toInt_lt.mp (Int32.not_le.mp h4)
      have h2 : 0 ≤ x.toInt ∧ x.toInt < b.toInt := ⟨h3, h5⟩
      simp only [uX11_isBelow_0, uX11_isBelow_1, uX11_isBelow_4, uX11_isBelow_5, uX11_isBelow_6, uX11_isBelow_9, uX11_isBelow_10, uX11_isBelow_13, uX11_isBelow_14, h1, h4, h2, if_true, if_false, and_self, and_true, true_and, or_self, or_true, true_or, false_or, or_false, i10, i00, i01, i11]
theorem c_isBelowI {x b : Int32} {n : Int} {h : AH} (hb : b.toInt = n + 1) : run 137 (0, [some (.int x), some (.int b)], [], h) = some (some (.int (if 0 ≤ x.toInt ∧ x.toInt ≤ n then 1 else 0)), h) := by
  rw [c_isBelow, hb]
  have e : (0 ≤ x.toInt ∧ x.toInt < n + 1) = (0 ≤ x.toInt ∧ x.toInt ≤ n) := propext ⟨fun q => by omega, fun q => by omega⟩
  simp only [e]
theorem c_bl30 {x : Int32} {h : AH} : run 137 (0, [some (.int x), some (.int 30)], [], h) = some (some (.int (if 0 ≤ x.toInt ∧ x.toInt ≤ 29 then 1 else 0)), h) := c_isBelowI (by decide)
theorem c_bl100 {x : Int32} {h : AH} : run 137 (0, [some (.int x), some (.int 100)], [], h) = some (some (.int (if 0 ≤ x.toInt ∧ x.toInt ≤ 99 then 1 else 0)), h) := c_isBelowI (by decide)
theorem c_bl6 {x : Int32} {h : AH} : run 137 (0, [some (.int x), some (.int 6)], [], h) = some (some (.int (if 0 ≤ x.toInt ∧ x.toInt ≤ 5 then 1 else 0)), h) := c_isBelowI (by decide)
theorem c_bl24 {x : Int32} {h : AH} : run 137 (0, [some (.int x), some (.int 24)], [], h) = some (some (.int (if 0 ≤ x.toInt ∧ x.toInt ≤ 23 then 1 else 0)), h) := c_isBelowI (by decide)
theorem c_bl20 {x : Int32} {h : AH} : run 137 (0, [some (.int x), some (.int 20)], [], h) = some (some (.int (if 0 ≤ x.toInt ∧ x.toInt ≤ 19 then 1 else 0)), h) := c_isBelowI (by decide)
theorem c_bl3 {x : Int32} {h : AH} : run 137 (0, [some (.int x), some (.int 3)], [], h) = some (some (.int (if 0 ≤ x.toInt ∧ x.toInt ≤ 2 then 1 else 0)), h) := c_isBelowI (by decide)
theorem c_bl4 {x : Int32} {h : AH} : run 137 (0, [some (.int x), some (.int 4)], [], h) = some (some (.int (if 0 ≤ x.toInt ∧ x.toInt ≤ 3 then 1 else 0)), h) := c_isBelowI (by decide)
theorem c_bl60 {x : Int32} {h : AH} : run 137 (0, [some (.int x), some (.int 60)], [], h) = some (some (.int (if 0 ≤ x.toInt ∧ x.toInt ≤ 59 then 1 else 0)), h) := c_isBelowI (by decide)
theorem c_bl2 {x : Int32} {h : AH} : run 137 (0, [some (.int x), some (.int 2)], [], h) = some (some (.int (if 0 ≤ x.toInt ∧ x.toInt ≤ 1 then 1 else 0)), h) := c_isBelowI (by decide)
theorem c_asNumber {x : Int32} {h : AH} : run 138 (0, [some (.int x)], [], h) = some (some (.int (if x = 0 then 0 else 1)), h) := by
  by_cases h1 : x = 0
  · simp only [uX11_asNumber_0, uX11_asNumber_1, uX11_asNumber_4, uX11_asNumber_5, uX11_asNumber_8, uX11_asNumber_9, h1, if_true, if_false, and_self, and_true, true_and, or_self, or_true, true_or, false_or, or_false, i10, i00, i01, i11]
  · simp only [uX11_asNumber_0, uX11_asNumber_1, uX11_asNumber_4, uX11_asNumber_5, uX11_asNumber_8, uX11_asNumber_9, h1, if_true, if_false, and_self, and_true, true_and, or_self, or_true, true_or, false_or, or_false, i10, i00, i01, i11]
theorem lt0I (x : Int32) : (x < 0) = (x.toInt < 0) := by
  rw [Int32.lt_iff_toInt_lt]
  rfl
theorem leI {x b : Int32} {n : Int} (hb : b.toInt = n) : (x ≤ b) = (x.toInt ≤ n) := by
  rw [Int32.le_iff_toInt_le, hb]
theorem ltI {x b : Int32} {n : Int} (hb : b.toInt = n) : (x < b) = (x.toInt < n) := by
  rw [Int32.lt_iff_toInt_lt, hb]
def xF (dr : Nat) (pc lc lf : Int32) : List Value := [.ref 5, .ref 10, .ref 22, .ref 23, .ref 24, .ref 25, .ref dr, .int pc, .int lc, .int lf]
def bF (cn : Int32) : List Value := [.ref 6, .ref 7, .ref 8, .ref 9, .int cn]
def pF (bg : Int32) : List Value := [.ref 11, .ref 12, .ref 19, .ref 20, .ref 21, .int bg]
theorem gX0 {h : AH} {dr : Nat} {pc lc lf : Int32} (hX : rO h 4 = some (10, xF dr pc lc lf)) : gf h [(10, 0)] 4 = some (.ref 5) := gf_at (by decide) hX rfl rfl
theorem gX1 {h : AH} {dr : Nat} {pc lc lf : Int32} (hX : rO h 4 = some (10, xF dr pc lc lf)) : gf h [(10, 1)] 4 = some (.ref 10) := gf_at (by decide) hX rfl rfl
theorem gX2 {h : AH} {dr : Nat} {pc lc lf : Int32} (hX : rO h 4 = some (10, xF dr pc lc lf)) : gf h [(10, 2)] 4 = some (.ref 22) := gf_at (by decide) hX rfl rfl
theorem gX3 {h : AH} {dr : Nat} {pc lc lf : Int32} (hX : rO h 4 = some (10, xF dr pc lc lf)) : gf h [(10, 3)] 4 = some (.ref 23) := gf_at (by decide) hX rfl rfl
theorem gX4 {h : AH} {dr : Nat} {pc lc lf : Int32} (hX : rO h 4 = some (10, xF dr pc lc lf)) : gf h [(10, 4)] 4 = some (.ref 24) := gf_at (by decide) hX rfl rfl
theorem gX5 {h : AH} {dr : Nat} {pc lc lf : Int32} (hX : rO h 4 = some (10, xF dr pc lc lf)) : gf h [(10, 5)] 4 = some (.ref 25) := gf_at (by decide) hX rfl rfl
theorem gX6 {h : AH} {dr : Nat} {pc lc lf : Int32} (hX : rO h 4 = some (10, xF dr pc lc lf)) : gf h [(10, 6)] 4 = some (.ref dr) := gf_at (by decide) hX rfl rfl
theorem gX7 {h : AH} {dr : Nat} {pc lc lf : Int32} (hX : rO h 4 = some (10, xF dr pc lc lf)) : gf h [(10, 7)] 4 = some (.int pc) := gf_at (by decide) hX rfl rfl
theorem gX8 {h : AH} {dr : Nat} {pc lc lf : Int32} (hX : rO h 4 = some (10, xF dr pc lc lf)) : gf h [(10, 8)] 4 = some (.int lc) := gf_at (by decide) hX rfl rfl
theorem gX9 {h : AH} {dr : Nat} {pc lc lf : Int32} (hX : rO h 4 = some (10, xF dr pc lc lf)) : gf h [(10, 9)] 4 = some (.int lf) := gf_at (by decide) hX rfl rfl
theorem gB0 {h : AH} {cn : Int32} (hB : rO h 5 = some (0, bF cn)) : gf h [(0, 0)] 5 = some (.ref 6) := gf_at (by decide) hB rfl rfl
theorem gB1 {h : AH} {cn : Int32} (hB : rO h 5 = some (0, bF cn)) : gf h [(0, 1)] 5 = some (.ref 7) := gf_at (by decide) hB rfl rfl
theorem gB2 {h : AH} {cn : Int32} (hB : rO h 5 = some (0, bF cn)) : gf h [(0, 2)] 5 = some (.ref 8) := gf_at (by decide) hB rfl rfl
theorem gB3 {h : AH} {cn : Int32} (hB : rO h 5 = some (0, bF cn)) : gf h [(0, 3)] 5 = some (.ref 9) := gf_at (by decide) hB rfl rfl
theorem gB4 {h : AH} {cn : Int32} (hB : rO h 5 = some (0, bF cn)) : gf h [(0, 4)] 5 = some (.int cn) := gf_at (by decide) hB rfl rfl
theorem gP0 {h : AH} {bg : Int32} (hP : rO h 10 = some (5, pF bg)) : gf h [(5, 0)] 10 = some (.ref 11) := gf_at (by decide) hP rfl rfl
theorem gP1 {h : AH} {bg : Int32} (hP : rO h 10 = some (5, pF bg)) : gf h [(5, 1)] 10 = some (.ref 12) := gf_at (by decide) hP rfl rfl
theorem gP2 {h : AH} {bg : Int32} (hP : rO h 10 = some (5, pF bg)) : gf h [(5, 2)] 10 = some (.ref 19) := gf_at (by decide) hP rfl rfl
theorem gP3 {h : AH} {bg : Int32} (hP : rO h 10 = some (5, pF bg)) : gf h [(5, 3)] 10 = some (.ref 20) := gf_at (by decide) hP rfl rfl
theorem gP4 {h : AH} {bg : Int32} (hP : rO h 10 = some (5, pF bg)) : gf h [(5, 4)] 10 = some (.ref 21) := gf_at (by decide) hP rfl rfl
theorem gP5 {h : AH} {bg : Int32} (hP : rO h 10 = some (5, pF bg)) : gf h [(5, 5)] 10 = some (.int bg) := gf_at (by decide) hP rfl rfl
theorem vX {h : AH} {a c : Nat} {fs : List Value} (hX : rO h a = some (c, fs)) (l : Nat) : vc h [(c, l)] a = some l := vc_at hX (by simp [List.lookup])
section CB
variable {h : AH} {cn : Int32}
theorem c_codeOf_o {x : Int32} (hx : ¬ (0 ≤ x.toInt ∧ x.toInt ≤ 29)) : run 1 (0, [some (.ref 5), some (.int x)], [], h) = some (some (.int (-9)), h) := by
  simp only [uX0_codeOf_0, uX0_codeOf_1, uX0_codeOf_3, uX0_codeOf_6, uX0_codeOf_9, uX0_codeOf_10, uX0_codeOf_13, uX0_codeOf_14, uX0_codeOf_15, uX0_codeOf_18, uX0_codeOf_20, c_bl30, hx, Option.bind_some, Option.toList_some, Option.toList_none, List.cons_append, List.nil_append, if_true, if_false, and_self, and_true, true_and, or_self, or_true, true_or, false_or, or_false, i10, i00, i01, i11]
theorem c_codeOf {f : Nat → Int32} {k : Nat} (hk : k < 30) (hB : rO h 5 = some (0, bF cn)) (a : rI h 6 = some (30, f)) : run 1 (0, [some (.ref 5), some (.int (nI k))], [], h) = some (some (.int (f k)), h) := by
  have h1 : 0 ≤ (nI k).toInt ∧ (nI k).toInt ≤ 29 := nI_rng (by omega) (by omega)
  simp only [uX0_codeOf_0, uX0_codeOf_1, uX0_codeOf_3, uX0_codeOf_6, uX0_codeOf_9, uX0_codeOf_10, uX0_codeOf_13, uX0_codeOf_14, uX0_codeOf_15, uX0_codeOf_18, uX0_codeOf_20, c_bl30, h1, gB0 hB, gi_nI a hk (by decide), Option.bind_some, Option.toList_some, Option.toList_none, List.cons_append, List.nil_append, if_true, if_false, and_self, and_true, true_and, or_self, or_true, true_or, false_or, or_false, i10, i00, i01, i11]
theorem c_wordOf_o {x : Int32} (hx : ¬ (0 ≤ x.toInt ∧ x.toInt ≤ 99)) : run 2 (0, [some (.ref 5), some (.int x)], [], h) = some (some (.int (-9)), h) := by
  simp only [uX0_wordOf_0, uX0_wordOf_1, uX0_wordOf_3, uX0_wordOf_6, uX0_wordOf_9, uX0_wordOf_10, uX0_wordOf_13, uX0_wordOf_14, uX0_wordOf_15, uX0_wordOf_18, uX0_wordOf_20, c_bl100, hx, Option.bind_some, Option.toList_some, Option.toList_none, List.cons_append, List.nil_append, if_true, if_false, and_self, and_true, true_and, or_self, or_true, true_or, false_or, or_false, i10, i00, i01, i11]
theorem c_wordOf {f : Nat → Int32} {k : Nat} (hk : k < 100) (hB : rO h 5 = some (0, bF cn)) (a : rI h 8 = some (100, f)) : run 2 (0, [some (.ref 5), some (.int (nI k))], [], h) = some (some (.int (f k)), h) := by
  have h1 : 0 ≤ (nI k).toInt ∧ (nI k).toInt ≤ 99 := nI_rng (by omega) (by omega)
  simp only [uX0_wordOf_0, uX0_wordOf_1, uX0_wordOf_3, uX0_wordOf_6, uX0_wordOf_9, uX0_wordOf_10, uX0_wordOf_13, uX0_wordOf_14, uX0_wordOf_15, uX0_wordOf_18, uX0_wordOf_20, c_bl100, h1, gB2 hB, gi_nI a hk (by decide), Option.bind_some, Option.toList_some, Option.toList_none, List.cons_append, List.nil_append, if_true, if_false, and_self, and_true, true_and, or_self, or_true, true_or, false_or, or_false, i10, i00, i01, i11]
theorem c_weightOf {f : Nat → Int32} {k : Nat} (hk : k < 30) (hB : rO h 5 = some (0, bF cn)) (a : rI h 7 = some (30, f)) : run 3 (0, [some (.ref 5), some (.int (nI k))], [], h) = some (some (.int (f k)), h) := by
  have h1 : 0 ≤ (nI k).toInt ∧ (nI k).toInt ≤ 29 := nI_rng (by omega) (by omega)
  simp only [uX0_weightOf_0, uX0_weightOf_1, uX0_weightOf_3, uX0_weightOf_6, uX0_weightOf_9, uX0_weightOf_10, uX0_weightOf_13, uX0_weightOf_14, uX0_weightOf_15, uX0_weightOf_18, uX0_weightOf_19, c_bl30, h1, gB1 hB, gi_nI a hk (by decide), Option.bind_some, Option.toList_some, Option.toList_none, List.cons_append, List.nil_append, if_true, if_false, and_self, and_true, true_and, or_self, or_true, true_or, false_or, or_false, i10, i00, i01, i11]
theorem c_giveWeight {f : Nat → Int32} {k : Nat} {x : Int32} (hk : k < 30) (hB : rO h 5 = some (0, bF cn)) (a : rI h 7 = some (30, f)) : run 6 (0, [some (.ref 5), some (.int (nI k)), some (.int x)], [], h) = some (none, si h 7 k x) := by
  have h1 : 0 ≤ (nI k).toInt ∧ (nI k).toInt ≤ 29 := nI_rng (by omega) (by omega)
  have p1 : pi h 7 (nI k) x = _ := pi_si (by decide) a hk (by decide)
  simp only [uX0_giveWeight_0, uX0_giveWeight_1, uX0_giveWeight_3, uX0_giveWeight_6, uX0_giveWeight_9, uX0_giveWeight_10, uX0_giveWeight_13, uX0_giveWeight_14, uX0_giveWeight_15, uX0_giveWeight_16, c_bl30, h1, gB1 hB, p1, Option.bind_some, Option.toList_some, Option.toList_none, List.cons_append, List.nil_append, if_true, if_false, and_self, and_true, true_and, or_self, or_true, true_or, false_or, or_false, i10, i00, i01, i11]
theorem c_codeCount (hB : rO h 5 = some (0, bF cn)) : run 4 (0, [some (.ref 5)], [], h) = some (some (.int cn), h) := by
  simp only [uX0_codeCount_0, uX0_codeCount_1, uX0_codeCount_4, gB4 hB, Option.bind_some, Option.toList_some, Option.toList_none, List.cons_append, List.nil_append]
theorem c_pairsApart {f : Nat → Int32} {k : Nat} (hk : k < 100) (hB : rO h 5 = some (0, bF cn)) (a : rI h 9 = some (100, f)) : run 9 (0, [some (.ref 5), some (.int (nI k))], [], h) = some (some (.int (f k)), h) := by
  have h1 : 0 ≤ (nI k).toInt ∧ (nI k).toInt ≤ 99 := nI_rng (by omega) (by omega)
  simp only [uX0_pairsApart_0, uX0_pairsApart_1, uX0_pairsApart_3, uX0_pairsApart_6, uX0_pairsApart_9, uX0_pairsApart_10, uX0_pairsApart_13, uX0_pairsApart_14, uX0_pairsApart_15, uX0_pairsApart_18, uX0_pairsApart_19, c_bl100, h1, gB3 hB, gi_nI a hk (by decide), Option.bind_some, Option.toList_some, Option.toList_none, List.cons_append, List.nil_append, if_true, if_false, and_self, and_true, true_and, or_self, or_true, true_or, false_or, or_false, i10, i00, i01, i11]
theorem c_spreadOfCodes_loop {f : Nat → Nat} (hf : ∀ b, f b < 1000) (hB : rO h 5 = some (0, bF cn)) (a : rI h 9 = some (100, fun b => nI (f b))) : ∀ d b, b + d = 100 → run 10 (4, [some (.ref 5), some (.int (nI (cnt (fun b => decide (0 < f b)) b))), some (.int (nI b))], [], h) = some (some (.int (nI (cnt (fun b => decide (0 < f b)) 100))), h) := by
  intro d
  induction d with
  | zero =>
    intro b hb
    have hb : b = 100 := by omega
    subst hb
    have c1 : (100 : Int32) ≤ nI 100 := by decide
    simp only [uX0_spreadOfCodes_0, uX0_spreadOfCodes_1, uX0_spreadOfCodes_2, uX0_spreadOfCodes_3, uX0_spreadOfCodes_4, uX0_spreadOfCodes_5, uX0_spreadOfCodes_7, uX0_spreadOfCodes_10, uX0_spreadOfCodes_11, uX0_spreadOfCodes_14, uX0_spreadOfCodes_15, uX0_spreadOfCodes_16, uX0_spreadOfCodes_19, uX0_spreadOfCodes_22, uX0_spreadOfCodes_25, uX0_spreadOfCodes_28, uX0_spreadOfCodes_29, c1, if_true, if_false, and_self, and_true, true_and, or_self, or_true, true_or, false_or, or_false, i10, i00, i01, i11]
  | succ d ih =>
    intro b hb
    have c1 : ¬ (100 : Int32) ≤ nI b := nI_ge (a := b) (b := 100) (by omega) (by decide)
    have ih1 := ih (b + 1) (by omega)
    have hfb := hf b
    rw [uX0_spreadOfCodes_4]
    by_cases hz : 0 < f b
    · have e0 : nI (cnt (fun b => decide (0 < f b)) b + 1) = nI (cnt (fun b => decide (0 < f b)) (b + 1)) := by
        show _ = nI (cnt _ b + if decide (0 < f b) then 1 else 0)
        rw [if_pos (decide_eq_true hz)]
      have c2 : ¬ nI (f b) ≤ 0 := nI_nle hz (by omega)
      simp only [uX0_spreadOfCodes_0, uX0_spreadOfCodes_1, uX0_spreadOfCodes_2, uX0_spreadOfCodes_3, uX0_spreadOfCodes_5, uX0_spreadOfCodes_7, uX0_spreadOfCodes_10, uX0_spreadOfCodes_11, uX0_spreadOfCodes_14, uX0_spreadOfCodes_15, uX0_spreadOfCodes_16, uX0_spreadOfCodes_19, uX0_spreadOfCodes_22, uX0_spreadOfCodes_25, uX0_spreadOfCodes_28, uX0_spreadOfCodes_29, gB3 hB, gi_nI a (show b < 100 by omega) (by decide), c1, c2, nI_1, e0, Option.bind_some, Option.toList_some, Option.toList_none, List.cons_append, List.nil_append, if_true, if_false, and_self, and_true, true_and, or_self, or_true, true_or, false_or, or_false, i10, i00, i01, i11, Nat.reduceAdd, st1_0, st1_c, st1_1i, st1_1r, st1_1n, st1_1u, st1_1J, st2_0, st2_c, st2_1i, st2_1r, st2_1n, st2_1u, st2_1J]
      exact ih1
    · have e0 : nI (cnt (fun b => decide (0 < f b)) b) = nI (cnt (fun b => decide (0 < f b)) (b + 1)) := by
        show _ = nI (cnt _ b + if decide (0 < f b) then 1 else 0)
        rw [if_neg (by simpa using hz)]
        rfl
      have c2 : nI (f b) ≤ 0 := by
        rw [show f b = 0 by omega]
        decide
      rw [e0]
      simp only [uX0_spreadOfCodes_0, uX0_spreadOfCodes_1, uX0_spreadOfCodes_2, uX0_spreadOfCodes_3, uX0_spreadOfCodes_5, uX0_spreadOfCodes_7, uX0_spreadOfCodes_10, uX0_spreadOfCodes_11, uX0_spreadOfCodes_14, uX0_spreadOfCodes_15, uX0_spreadOfCodes_16, uX0_spreadOfCodes_19, uX0_spreadOfCodes_22, uX0_spreadOfCodes_25, uX0_spreadOfCodes_28, uX0_spreadOfCodes_29, gB3 hB, gi_nI a (show b < 100 by omega) (by decide), c1, c2, nI_1, Option.bind_some, Option.toList_some, Option.toList_none, List.cons_append, List.nil_append, if_true, if_false, and_self, and_true, true_and, or_self, or_true, true_or, false_or, or_false, i10, i00, i01, i11, Nat.reduceAdd, st1_0, st1_c, st1_1i, st1_1r, st1_1n, st1_1u, st1_1J, st2_0, st2_c, st2_1i, st2_1r, st2_1n, st2_1u, st2_1J]
      exact ih1
theorem c_spreadOfCodes {f : Nat → Nat} (hf : ∀ b, f b < 1000) (hB : rO h 5 = some (0, bF cn)) (a : rI h 9 = some (100, fun b => nI (f b))) : run 10 (0, [some (.ref 5), none, none], [], h) = some (some (.int (nI (cnt (fun b => decide (0 < f b)) 100))), h) := by
  simp only [uX0_spreadOfCodes_0, uX0_spreadOfCodes_1, uX0_spreadOfCodes_2, uX0_spreadOfCodes_3, uX0_spreadOfCodes_5, uX0_spreadOfCodes_7, uX0_spreadOfCodes_10, uX0_spreadOfCodes_11, uX0_spreadOfCodes_14, uX0_spreadOfCodes_15, uX0_spreadOfCodes_16, uX0_spreadOfCodes_19, uX0_spreadOfCodes_22, uX0_spreadOfCodes_25, uX0_spreadOfCodes_28, uX0_spreadOfCodes_29, Option.bind_some, Option.toList_some, Option.toList_none, List.cons_append, List.nil_append, Nat.reduceAdd, st1_0, st1_c, st1_1i, st1_1r, st1_1n, st1_1u, st1_1J, st2_0, st2_c, st2_1i, st2_1r, st2_1n, st2_1u, st2_1J]
  exact c_spreadOfCodes_loop hf hB a 100 0 rfl
theorem c_weight_u {w n : Int32} (hw : ¬ (0 ≤ w.toInt ∧ w.toInt ≤ 29)) : run 103 (0, [some (.ref 4), some (.int w), some (.int n), none], [], h) = some (some (.int (-1)), h) := by
  simp only [uX11_weight_0, uX11_weight_1, uX11_weight_3, uX11_weight_6, uX11_weight_9, uX11_weight_10, uX11_weight_11, uX11_weight_12, uX11_weight_15, uX11_weight_16, uX11_weight_18, uX11_weight_21, uX11_weight_23, uX11_weight_24, uX11_weight_25, uX11_weight_28, uX11_weight_29, uX11_weight_32, uX11_weight_33, uX11_weight_34, uX11_weight_37, uX11_weight_38, uX11_weight_39, uX11_weight_42, uX11_weight_43, c_bl30, hw, Option.bind_some, Option.toList_some, Option.toList_none, List.cons_append, List.nil_append, if_true, if_false, and_self, and_true, true_and, or_self, or_true, true_or, false_or, or_false, i10, i00, i01, i11]
theorem c_weight_o {n : Int32} {k : Nat} (hk : k < 30) (hn : ¬ (0 ≤ n.toInt ∧ n.toInt ≤ 99)) : run 103 (0, [some (.ref 4), some (.int (nI k)), some (.int n), none], [], h) = some (some (.int (-2)), h) := by
  have h1 : 0 ≤ (nI k).toInt ∧ (nI k).toInt ≤ 29 := nI_rng (by omega) (by omega)
  by_cases h2 : n.toInt < 0
  · simp only [uX11_weight_0, uX11_weight_1, uX11_weight_3, uX11_weight_6, uX11_weight_9, uX11_weight_10, uX11_weight_11, uX11_weight_12, uX11_weight_15, uX11_weight_16, uX11_weight_18, uX11_weight_21, uX11_weight_23, uX11_weight_24, uX11_weight_25, uX11_weight_28, uX11_weight_29, uX11_weight_32, uX11_weight_33, uX11_weight_34, uX11_weight_37, uX11_weight_38, uX11_weight_39, uX11_weight_42, uX11_weight_43, c_bl30, h1, lt0I, h2, Option.bind_some, Option.toList_some, Option.toList_none, List.cons_append, List.nil_append, if_true, if_false, and_self, and_true, true_and, or_self, or_true, true_or, false_or, or_false, i10, i00, i01, i11]
  · have h3 : ¬ n.toInt ≤ 99 := fun q => hn ⟨by omega, q⟩
    simp only [uX11_weight_0, uX11_weight_1, uX11_weight_3, uX11_weight_6, uX11_weight_9, uX11_weight_10, uX11_weight_11, uX11_weight_12, uX11_weight_15, uX11_weight_16, uX11_weight_18, uX11_weight_21, uX11_weight_23, uX11_weight_24, uX11_weight_25, uX11_weight_28, uX11_weight_29, uX11_weight_32, uX11_weight_33, uX11_weight_34, uX11_weight_37, uX11_weight_38, uX11_weight_39, uX11_weight_42, uX11_weight_43, c_bl30, h1, lt0I, h2, leI (show (99 : Int32).toInt = 99 by decide), h3, Option.bind_some, Option.toList_some, Option.toList_none, List.cons_append, List.nil_append, if_true, if_false, and_self, and_true, true_and, or_self, or_true, true_or, false_or, or_false, i10, i00, i01, i11]
theorem c_weight {k j dr : Nat} {pc lc lf : Int32} {f : Nat → Int32} (hk : k < 30) (hj : j < 100) (hX : rO h 4 = some (10, xF dr pc lc lf)) (hB : rO h 5 = some (0, bF cn)) (a : rI h 7 = some (30, f)) : run 103 (0, [some (.ref 4), some (.int (nI k)), some (.int (nI j)), none], [], h) = some (some (.int (f k)), si h 7 k (nI j)) := by
  have h1 : 0 ≤ (nI k).toInt ∧ (nI k).toInt ≤ 29 := nI_rng (by omega) (by omega)
  have h2 := nI_rng (k := j) (b := 99) (by omega) (by omega)
  have h3 : ¬ (nI j).toInt < 0 := by omega
  simp only [uX11_weight_0, uX11_weight_1, uX11_weight_3, uX11_weight_6, uX11_weight_9, uX11_weight_10, uX11_weight_11, uX11_weight_12, uX11_weight_15, uX11_weight_16, uX11_weight_18, uX11_weight_21, uX11_weight_23, uX11_weight_24, uX11_weight_25, uX11_weight_28, uX11_weight_29, uX11_weight_32, uX11_weight_33, uX11_weight_34, uX11_weight_37, uX11_weight_38, uX11_weight_39, uX11_weight_42, uX11_weight_43, c_bl30, h1, lt0I, h3, leI (show (99 : Int32).toInt = 99 by decide), h2.2, gX0 hX, vX hB, c_weightOf hk hB a, c_giveWeight hk hB a, Option.bind_some, Option.toList_some, Option.toList_none, List.cons_append, List.nil_append, if_true, if_false, and_self, and_true, true_and, or_self, or_true, true_or, false_or, or_false, i10, i00, i01, i11, Nat.reduceAdd, st1_0, st1_c, st1_1i, st1_1r, st1_1n, st1_1u, st1_1J, st2_0, st2_c, st2_1i, st2_1r, st2_1n, st2_1u, st2_1J]
theorem c_spread {dr : Nat} {pc lc lf : Int32} {f : Nat → Nat} (hf : ∀ b, f b < 1000) (hX : rO h 4 = some (10, xF dr pc lc lf)) (hB : rO h 5 = some (0, bF cn)) (a : rI h 9 = some (100, fun b => nI (f b))) : run 116 (0, [some (.ref 4)], [], h) = some (some (.int (nI (cnt (fun b => decide (0 < f b)) 100))), h) := by
  simp only [uX11_spread_0, uX11_spread_1, uX11_spread_4, uX11_spread_7, gX0 hX, vX hB, c_spreadOfCodes hf hB a, Option.bind_some, Option.toList_some, Option.toList_none, List.cons_append, List.nil_append]
theorem c_fault {dr : Nat} {pc lc lf : Int32} (hX : rO h 4 = some (10, xF dr pc lc lf)) : run 135 (0, [some (.ref 4)], [], h) = some (some (.int lf), h) := by
  simp only [uX11_fault_0, uX11_fault_1, uX11_fault_4, gX9 hX, Option.bind_some, Option.toList_some, Option.toList_none, List.cons_append, List.nil_append]
theorem c_trace {dr : Nat} {pc lc lf tr : Int32} (hX : rO h 4 = some (10, xF dr pc lc lf)) (hT : rO h 22 = some (9, [.int tr])) : run 134 (0, [some (.ref 4)], [], h) = some (some (.int tr), h) := by
  have g1 : gf h [(9, 0)] 22 = some (.int tr) := gf_at (by decide) hT rfl rfl
  simp only [uX11_trace_0, uX11_trace_1, uX11_trace_4, uX11_trace_7, gX2 hX, g1, Option.bind_some, Option.toList_some, Option.toList_none, List.cons_append, List.nil_append]
theorem c_leave {tr x : Int32} (hT : rO h 22 = some (9, [.int tr])) : run 100 (0, [some (.ref 22), some (.int x)], [], h) = some (none, sf h 22 0 (.int (31 * tr + x))) := by
  have g1 : gf h [(9, 0)] 22 = some (.int tr) := gf_at (by decide) hT rfl rfl
  have p1 : ∀ z, pf h [(9, 0)] 22 (.int z) = some (sf h 22 0 (.int z)) := fun z => pf_sf (by decide) hT rfl rfl (Nat.le_of_ble_eq_true rfl) rfl
  simp only [uX10_leave_0, uX10_leave_1, uX10_leave_3, uX10_leave_4, uX10_leave_7, uX10_leave_8, uX10_leave_9, uX10_leave_10, uX10_leave_13, g1, p1, Option.bind_some, Option.toList_some, Option.toList_none, List.cons_append, List.nil_append]
theorem c_bagCount {bg : Int32} (hP : rO h 10 = some (5, pF bg)) : run 67 (0, [some (.ref 10)], [], h) = some (some (.int bg), h) := by
  simp only [uX6_bagCount_0, uX6_bagCount_1, uX6_bagCount_4, gP5 hP, Option.bind_some, Option.toList_some, Option.toList_none, List.cons_append, List.nil_append]
theorem c_many_d {x : Int32} (hx : x.toInt < 0 ∨ 3 < x.toInt) : run 136 (0, [some (.ref 4), some (.int x)], [], h) = some (some (.int (-2)), h) := by
  rw [uX11_many_0, uX11_many_1_d hx]
  simp only [uX11_many_0, uX11_many_32, uX11_many_33, uX11_many_36, uX11_many_39, uX11_many_40, uX11_many_41, uX11_many_44, uX11_many_45, uX11_many_46, uX11_many_49, uX11_many_50, uX11_many_51, uX11_many_54, uX11_many_57, uX11_many_58, uX11_many_60]
theorem c_many_0 {dr : Nat} {pc lc lf : Int32} (hX : rO h 4 = some (10, xF dr pc lc lf)) (hB : rO h 5 = some (0, bF cn)) : run 136 (0, [some (.ref 4), some (.int 0)], [], h) = some (some (.int cn), h) := by
  rw [uX11_many_0, uX11_many_1_0]
  simp only [uX11_many_0, uX11_many_32, uX11_many_33, uX11_many_36, uX11_many_39, uX11_many_40, uX11_many_41, uX11_many_44, uX11_many_45, uX11_many_46, uX11_many_49, uX11_many_50, uX11_many_51, uX11_many_54, uX11_many_57, uX11_many_58, uX11_many_60, gX0 hX, vX hB, c_codeCount hB, Option.bind_some, Option.toList_some, Option.toList_none, List.cons_append, List.nil_append]
theorem c_many_1 {dr : Nat} {pc lc lf : Int32} (hX : rO h 4 = some (10, xF dr pc lc lf)) : run 136 (0, [some (.ref 4), some (.int 1)], [], h) = some (some (.int pc), h) := by
  rw [uX11_many_0, uX11_many_1_1]
  simp only [uX11_many_0, uX11_many_32, uX11_many_33, uX11_many_36, uX11_many_39, uX11_many_40, uX11_many_41, uX11_many_44, uX11_many_45, uX11_many_46, uX11_many_49, uX11_many_50, uX11_many_51, uX11_many_54, uX11_many_57, uX11_many_58, uX11_many_60, gX7 hX, Option.bind_some, Option.toList_some, Option.toList_none, List.cons_append, List.nil_append]
theorem c_many_2 {dr : Nat} {pc lc lf : Int32} (hX : rO h 4 = some (10, xF dr pc lc lf)) : run 136 (0, [some (.ref 4), some (.int 2)], [], h) = some (some (.int lc), h) := by
  rw [uX11_many_0, uX11_many_1_2]
  simp only [uX11_many_0, uX11_many_32, uX11_many_33, uX11_many_36, uX11_many_39, uX11_many_40, uX11_many_41, uX11_many_44, uX11_many_45, uX11_many_46, uX11_many_49, uX11_many_50, uX11_many_51, uX11_many_54, uX11_many_57, uX11_many_58, uX11_many_60, gX8 hX, Option.bind_some, Option.toList_some, Option.toList_none, List.cons_append, List.nil_append]
theorem c_many_3 {dr : Nat} {pc lc lf bg : Int32} (hX : rO h 4 = some (10, xF dr pc lc lf)) (hP : rO h 10 = some (5, pF bg)) : run 136 (0, [some (.ref 4), some (.int 3)], [], h) = some (some (.int bg), h) := by
  rw [uX11_many_0, uX11_many_1_3]
  simp only [uX11_many_0, uX11_many_32, uX11_many_33, uX11_many_36, uX11_many_39, uX11_many_40, uX11_many_41, uX11_many_44, uX11_many_45, uX11_many_46, uX11_many_49, uX11_many_50, uX11_many_51, uX11_many_54, uX11_many_57, uX11_many_58, uX11_many_60, gX1 hX, vX hP, c_bagCount hP, Option.bind_some, Option.toList_some, Option.toList_none, List.cons_append, List.nil_append]
theorem c_changeNeed {bg x : Int32} {f : Nat → Int32} {k : Nat} (hk : k < 6) (hP : rO h 10 = some (5, pF bg)) (a : rI h 11 = some (6, f)) : run 68 (0, [some (.ref 10), some (.int (nI k)), some (.int x), none], [], h) = some (some (.int (f k)), si h 11 k x) := by
  have h1 : 0 ≤ (nI k).toInt ∧ (nI k).toInt ≤ 5 := nI_rng (by omega) (by omega)
  have p1 : pi h 11 (nI k) x = _ := pi_si (by decide) a hk (by decide)
  simp only [uX6_changeNeed_0, uX6_changeNeed_1, uX6_changeNeed_3, uX6_changeNeed_6, uX6_changeNeed_9, uX6_changeNeed_10, uX6_changeNeed_11, uX6_changeNeed_12, uX6_changeNeed_15, uX6_changeNeed_16, uX6_changeNeed_17, uX6_changeNeed_18, uX6_changeNeed_19, uX6_changeNeed_22, uX6_changeNeed_23, uX6_changeNeed_24, uX6_changeNeed_25, uX6_changeNeed_26, c_bl6, h1, gP0 hP, gi_nI a hk (by decide), p1, Option.bind_some, Option.toList_some, Option.toList_none, List.cons_append, List.nil_append, if_true, if_false, and_self, and_true, true_and, or_self, or_true, true_or, false_or, or_false, i10, i00, i01, i11, Nat.reduceAdd, st1_0, st1_c, st1_1i, st1_1r, st1_1n, st1_1u, st1_1J, st2_0, st2_c, st2_1i, st2_1r, st2_1n, st2_1u, st2_1J]
theorem c_need_u {w n : Int32} (hw : ¬ (0 ≤ w.toInt ∧ w.toInt ≤ 5)) : run 111 (0, [some (.ref 4), some (.int w), some (.int n)], [], h) = some (some (.int (-1)), h) := by
  simp only [uX11_need_0, uX11_need_1, uX11_need_3, uX11_need_6, uX11_need_9, uX11_need_10, uX11_need_11, uX11_need_12, uX11_need_15, uX11_need_16, uX11_need_18, uX11_need_21, uX11_need_23, uX11_need_24, uX11_need_25, uX11_need_28, uX11_need_29, uX11_need_30, uX11_need_33, c_bl6, hw, Option.bind_some, Option.toList_some, Option.toList_none, List.cons_append, List.nil_append, if_true, if_false, and_self, and_true, true_and, or_self, or_true, true_or, false_or, or_false, i10, i00, i01, i11]
theorem c_need_o {n : Int32} {k : Nat} (hk : k < 6) (hn : ¬ (0 ≤ n.toInt ∧ n.toInt ≤ 9)) : run 111 (0, [some (.ref 4), some (.int (nI k)), some (.int n)], [], h) = some (some (.int (-2)), h) := by
  have h1 : 0 ≤ (nI k).toInt ∧ (nI k).toInt ≤ 5 := nI_rng (by omega) (by omega)
  by_cases h2 : n.toInt < 0
  · simp only [uX11_need_0, uX11_need_1, uX11_need_3, uX11_need_6, uX11_need_9, uX11_need_10, uX11_need_11, uX11_need_12, uX11_need_15, uX11_need_16, uX11_need_18, uX11_need_21, uX11_need_23, uX11_need_24, uX11_need_25, uX11_need_28, uX11_need_29, uX11_need_30, uX11_need_33, c_bl6, h1, lt0I, h2, Option.bind_some, Option.toList_some, Option.toList_none, List.cons_append, List.nil_append, if_true, if_false, and_self, and_true, true_and, or_self, or_true, true_or, false_or, or_false, i10, i00, i01, i11]
  · have h3 : ¬ n.toInt ≤ 9 := fun q => hn ⟨by omega, q⟩
    simp only [uX11_need_0, uX11_need_1, uX11_need_3, uX11_need_6, uX11_need_9, uX11_need_10, uX11_need_11, uX11_need_12, uX11_need_15, uX11_need_16, uX11_need_18, uX11_need_21, uX11_need_23, uX11_need_24, uX11_need_25, uX11_need_28, uX11_need_29, uX11_need_30, uX11_need_33, c_bl6, h1, lt0I, h2, leI (show (9 : Int32).toInt = 9 by decide), h3, Option.bind_some, Option.toList_some, Option.toList_none, List.cons_append, List.nil_append, if_true, if_false, and_self, and_true, true_and, or_self, or_true, true_or, false_or, or_false, i10, i00, i01, i11]
theorem c_need {k j dr : Nat} {pc lc lf bg : Int32} {f : Nat → Int32} (hk : k < 6) (hj : j < 10) (hX : rO h 4 = some (10, xF dr pc lc lf)) (hP : rO h 10 = some (5, pF bg)) (a : rI h 11 = some (6, f)) : run 111 (0, [some (.ref 4), some (.int (nI k)), some (.int (nI j))], [], h) = some (some (.int (f k)), si h 11 k (nI j)) := by
  have h1 : 0 ≤ (nI k).toInt ∧ (nI k).toInt ≤ 5 := nI_rng (by omega) (by omega)
  have h2 := nI_rng (k := j) (b := 9) (by omega) (by omega)
  have h3 : ¬ (nI j).toInt < 0 := by omega
  simp only [uX11_need_0, uX11_need_1, uX11_need_3, uX11_need_6, uX11_need_9, uX11_need_10, uX11_need_11, uX11_need_12, uX11_need_15, uX11_need_16, uX11_need_18, uX11_need_21, uX11_need_23, uX11_need_24, uX11_need_25, uX11_need_28, uX11_need_29, uX11_need_30, uX11_need_33, c_bl6, h1, lt0I, h3, leI (show (9 : Int32).toInt = 9 by decide), h2.2, gX1 hX, vX hP, c_changeNeed hk hP a, Option.bind_some, Option.toList_some, Option.toList_none, List.cons_append, List.nil_append, if_true, if_false, and_self, and_true, true_and, or_self, or_true, true_or, false_or, or_false, i10, i00, i01, i11]
end CB
