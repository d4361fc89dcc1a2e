section LC2
variable {h : AH} {dr : Nat} {xp xl xf : Int32} {L : Nat} {lp ld ln : Nat → Nat} {lg : Nat → Nat → Nat} {la ma : Nat → Nat} {x p : Nat} {P : Nat} {pk pp pn pl : Nat → Nat} {gr : Nat → Nat → Nat} {pa qa : Nat → Nat}
theorem lettersC_eq {h1 : AH} (K : LettersC h L lp ld ln lg la ma) (hn : h.1 ≤ h1.1) (he : ∀ b, b = 24 ∨ (59 ≤ b ∧ b < h.1 ∧ ∃ x, x < L ∧ (b = la x ∨ b = ma x)) → h1.2.2 b = h.2.2 b) : LettersC h1 L lp ld ln lg la ma := by
  obtain ⟨a1, a2, a3⟩ := K
  refine ⟨by rw [rR_of (he 24 (by omega)), a1], fun p hp => ?_, a3⟩
  obtain ⟨b1, b2, b3, b4, b5, b6⟩ := a2 p hp
  rw [rO_of (he (la p) (Or.inr ⟨b3, b5, p, hp, Or.inl rfl⟩)), rI_of (he (ma p) (Or.inr ⟨b4, b6, p, hp, Or.inr rfl⟩))]
  exact ⟨b1, b2, b3, b4, by omega, by omega⟩
theorem c_letterAt_n {z : Int32} (hX : rO h 4 = some (10, xF dr xp xl xf)) (K : LettersC h L lp ld ln lg la ma) (hx : ¬ (0 ≤ z.toInt ∧ z.toInt ≤ (L : Int) - 1)) : run 142 (0, [some (.ref 4), some (.int z)], [], h) = some (some .null, h) := by
  by_cases h1 : 0 ≤ z.toInt ∧ z.toInt ≤ 19
  · obtain ⟨p, q1, q2, q3⟩ := inR h1
    subst q3
    have hp : ¬ p < L := fun w => hx (nI_rng (by omega) (by omega))
    have g1 : ga h 24 (nI p) = some .null := by
      rw [ga_nI (by decide) K.1 (by omega) (by decide), if_neg hp]
      rfl
    simp only [uX11_letterAt_0, uX11_letterAt_1, uX11_letterAt_3, uX11_letterAt_6, uX11_letterAt_9, uX11_letterAt_10, uX11_letterAt_13, uX11_letterAt_14, uX11_letterAt_15, uX11_letterAt_18, uX11_letterAt_19, uX11_letterAt_19N, c_bl20, h1, gX4 hX, g1, Option.bind_some, Option.toList_some, Option.toList_none, List.cons_append, List.nil_append, if_true, if_false, and_self, and_true, true_and, or_self, or_true, true_or, false_or, or_false, i10, i00, i01, i11, Nat.reduceAdd, st1_0, st1_c, st1_1i, st1_1r, st1_1n, st1_1u, st1_1J, st2_0, st2_c, st2_1i, st2_1r, st2_1n, st2_1u, st2_1J]
  · simp only [uX11_letterAt_0, uX11_letterAt_1, uX11_letterAt_3, uX11_letterAt_6, uX11_letterAt_9, uX11_letterAt_10, uX11_letterAt_13, uX11_letterAt_14, uX11_letterAt_15, uX11_letterAt_18, uX11_letterAt_19, uX11_letterAt_19N, c_bl20, if_neg h1, Option.bind_some, Option.toList_some, Option.toList_none, List.cons_append, List.nil_append, if_true, if_false, and_self, and_true, true_and, or_self, or_true, true_or, false_or, or_false, i10, i00, i01, i11, Nat.reduceAdd, st1_0, st1_c, st1_1i, st1_1r, st1_1n, st1_1u, st1_1J, st2_0, st2_c, st2_1i, st2_1r, st2_1n, st2_1u, st2_1J]
theorem c_letterAt (hX : rO h 4 = some (10, xF dr xp xl xf)) (K : LettersC h L lp ld ln lg la ma) (hp : x < L) : run 142 (0, [some (.ref 4), some (.int (nI x))], [], h) = some (some (.ref (la x)), h) := by
  have hL := K.2.2.1
  have h1 : 0 ≤ (nI x).toInt ∧ (nI x).toInt ≤ 19 := nI_rng (by omega) (by omega)
  have g1 : ga h 24 (nI x) = some (.ref (la x)) := by
    rw [ga_nI (by decide) K.1 (by omega) (by decide), if_pos hp]
    rfl
  simp only [uX11_letterAt_0, uX11_letterAt_1, uX11_letterAt_3, uX11_letterAt_6, uX11_letterAt_9, uX11_letterAt_10, uX11_letterAt_13, uX11_letterAt_14, uX11_letterAt_15, uX11_letterAt_18, uX11_letterAt_19, uX11_letterAt_19N, c_bl20, h1, gX4 hX, g1, Option.bind_some, Option.toList_some, Option.toList_none, List.cons_append, List.nil_append, if_true, if_false, and_self, and_true, true_and, or_self, or_true, true_or, false_or, or_false, i10, i00, i01, i11, Nat.reduceAdd, st1_0, st1_c, st1_1i, st1_1r, st1_1n, st1_1u, st1_1J, st2_0, st2_c, st2_1i, st2_1r, st2_1n, st2_1u, st2_1J]
theorem gL0 {a u o q : Nat} (hL : rO h a = some (3, [.int (nI u), .int (nI o), .ref q])) (h4 : 59 ≤ a) : gf h [(3, 0)] a = some (.int (nI u)) := gf_at (by omega) hL rfl rfl
theorem gL1 {a u o q : Nat} (hL : rO h a = some (3, [.int (nI u), .int (nI o), .ref q])) (h4 : 59 ≤ a) : gf h [(3, 1)] a = some (.int (nI o)) := gf_at (by omega) hL rfl rfl
theorem gL2 {a u o q : Nat} (hL : rO h a = some (3, [.int (nI u), .int (nI o), .ref q])) (h4 : 59 ≤ a) : gf h [(3, 2)] a = some (.ref q) := gf_at (by omega) hL rfl rfl
theorem c_lsize (K : LettersC h L lp ld ln lg la ma) (hx : x < L) : run 37 (0, [some (.ref (la x))], [], h) = some (some (.int (nI (ln x))), h) := by
  obtain ⟨b1, ⟨f, b2, _⟩, b3, b4, b5, b6⟩ := K.2.1 x hx
  simp only [uX3_size_0, uX3_size_1, uX3_size_4, uX3_size_5, gL2 b1 b3, gl_nI b2, Option.bind_some, Option.toList_some, Option.toList_none, List.cons_append, List.nil_append, if_true, if_false, and_self, and_true, true_and, or_self, or_true, true_or, false_or, or_false, i10, i00, i01, i11, Nat.reduceAdd, st1_0, st1_c, st1_1i, st1_1r, st1_1n, st1_1u, st1_1J, st2_0, st2_c, st2_1i, st2_1r, st2_1n, st2_1u, st2_1J]
theorem c_lgroupAt {j : Nat} (K : LettersC h L lp ld ln lg la ma) (hx : x < L) (hj : j < ln x) : run 38 (0, [some (.ref (la x)), some (.int (nI j))], [], h) = some (some (.int (nI (lg x j))), h) := by
  obtain ⟨b1, ⟨f, b2, be⟩, b3, b4, b5, b6⟩ := K.2.1 x hx
  have hn := K.2.2.2.2.2.1 x
  have e1 : 0 ≤ (nI j).toInt ∧ (nI j).toInt < (nI (ln x)).toInt := by rw [nI_toInt (by omega), nI_toInt (by omega)]; omega
  have g1 : gi h (ma x) (nI j) = some (nI (lg x j)) := by rw [gi_nI b2 hj (by omega), be j hj]
  simp only [uX3_groupAt_0, uX3_groupAt_1, uX3_groupAt_2, uX3_groupAt_5, uX3_groupAt_6, uX3_groupAt_9, uX3_groupAt_12, uX3_groupAt_13, uX3_groupAt_16, uX3_groupAt_17, uX3_groupAt_18, uX3_groupAt_21, uX3_groupAt_22, gL2 b1 b3, gl_nI b2, c_isBelow, if_pos e1, g1, Option.bind_some, Option.toList_some, Option.toList_none, List.cons_append, List.nil_append, if_true, if_false, and_self, and_true, true_and, or_self, or_true, true_or, false_or, or_false, i10, i00, i01, i11, Nat.reduceAdd, st1_0, st1_c, st1_1i, st1_1r, st1_1n, st1_1u, st1_1J, st2_0, st2_c, st2_1i, st2_1r, st2_1n, st2_1u, st2_1J]
theorem c_ofLetter_u {z y : Int32} (hX : rO h 4 = some (10, xF dr xp xl xf)) (K : LettersC h L lp ld ln lg la ma) (hx : ¬ (0 ≤ z.toInt ∧ z.toInt ≤ (L : Int) - 1)) : run 109 (0, [some (.ref 4), some (.int z), some (.int y), none], [], h) = some (some (.int (-1)), h) := by
  simp only [uX11_ofLetter_0, uX11_ofLetter_1, uX11_ofLetter_2, uX11_ofLetter_5, uX11_ofLetter_5N, uX11_ofLetter_6, uX11_ofLetter_6N, uX11_ofLetter_7, uX11_ofLetter_7N, uX11_ofLetter_10, uX11_ofLetter_11, uX11_ofLetter_12, uX11_ofLetter_13_0, uX11_ofLetter_13_1, uX11_ofLetter_13_2, uX11_ofLetter_13_d, uX11_ofLetter_40, uX11_ofLetter_40N, uX11_ofLetter_41, uX11_ofLetter_44, uX11_ofLetter_45, uX11_ofLetter_45N, uX11_ofLetter_46, uX11_ofLetter_49, uX11_ofLetter_50, uX11_ofLetter_50N, uX11_ofLetter_51, uX11_ofLetter_54, uX11_ofLetter_55, uX11_ofLetter_56, uX11_ofLetter_58, uX11_ofLetter_59, uX11_ofLetter_59N, uX11_ofLetter_60, uX11_ofLetter_63, uX11_ofLetter_66, uX11_ofLetter_69, uX11_ofLetter_69N, uX11_ofLetter_70, uX11_ofLetter_71, uX11_ofLetter_73, uX11_ofLetter_74, uX11_ofLetter_77, uX11_ofLetter_80, uX11_ofLetter_82, vX hX, c_letterAt_n hX K hx, Option.bind_some, Option.toList_some, Option.toList_none, List.cons_append, List.nil_append, if_true, if_false, and_self, and_true, true_and, or_self, or_true, true_or, false_or, or_false, i10, i00, i01, i11, Nat.reduceAdd, st1_0, st1_c, st1_1i, st1_1r, st1_1n, st1_1u, st1_1J, st2_0, st2_c, st2_1i, st2_1r, st2_1n, st2_1u, st2_1J]
theorem c_ofLetter {y : Int32} (hX : rO h 4 = some (10, xF dr xp xl xf)) (K : LettersC h L lp ld ln lg la ma) (hx : x < L) : run 109 (0, [some (.ref 4), some (.int (nI x)), some (.int y), none], [], h) = some (some (.int (ofL (lp x) (ld x) (ln x) (lg x) y)), h) := by
  have r0 := c_letterAt hX K hx
  have sz := c_lsize K hx
  obtain ⟨b1, ⟨f, b2, be⟩, b3, b4, b5, b6⟩ := K.2.1 x hx
  have hn := K.2.2.2.2.2.1 x
  rcases sw3 y with e | e | e | e
  · subst e
    simp only [uX11_ofLetter_0, uX11_ofLetter_1, uX11_ofLetter_2, uX11_ofLetter_5, uX11_ofLetter_5N, uX11_ofLetter_6, uX11_ofLetter_6N, uX11_ofLetter_7, uX11_ofLetter_7N, uX11_ofLetter_10, uX11_ofLetter_11, uX11_ofLetter_12, uX11_ofLetter_13_0, uX11_ofLetter_13_1, uX11_ofLetter_13_2, uX11_ofLetter_13_d, uX11_ofLetter_40, uX11_ofLetter_40N, uX11_ofLetter_41, uX11_ofLetter_44, uX11_ofLetter_45, uX11_ofLetter_45N, uX11_ofLetter_46, uX11_ofLetter_49, uX11_ofLetter_50, uX11_ofLetter_50N, uX11_ofLetter_51, uX11_ofLetter_54, uX11_ofLetter_55, uX11_ofLetter_56, uX11_ofLetter_58, uX11_ofLetter_59, uX11_ofLetter_59N, uX11_ofLetter_60, uX11_ofLetter_63, uX11_ofLetter_66, uX11_ofLetter_69, uX11_ofLetter_69N, uX11_ofLetter_70, uX11_ofLetter_71, uX11_ofLetter_73, uX11_ofLetter_74, uX11_ofLetter_77, uX11_ofLetter_80, uX11_ofLetter_82, vX hX, r0, gL0 b1 b3, ofL, Option.bind_some, Option.toList_some, Option.toList_none, List.cons_append, List.nil_append, if_true, if_false, and_self, and_true, true_and, or_self, or_true, true_or, false_or, or_false, i10, i00, i01, i11, Nat.reduceAdd, st1_0, st1_c, st1_1i, st1_1r, st1_1n, st1_1u, st1_1J, st2_0, st2_c, st2_1i, st2_1r, st2_1n, st2_1u, st2_1J]
  · subst e
    simp only [uX11_ofLetter_0, uX11_ofLetter_1, uX11_ofLetter_2, uX11_ofLetter_5, uX11_ofLetter_5N, uX11_ofLetter_6, uX11_ofLetter_6N, uX11_ofLetter_7, uX11_ofLetter_7N, uX11_ofLetter_10, uX11_ofLetter_11, uX11_ofLetter_12, uX11_ofLetter_13_0, uX11_ofLetter_13_1, uX11_ofLetter_13_2, uX11_ofLetter_13_d, uX11_ofLetter_40, uX11_ofLetter_40N, uX11_ofLetter_41, uX11_ofLetter_44, uX11_ofLetter_45, uX11_ofLetter_45N, uX11_ofLetter_46, uX11_ofLetter_49, uX11_ofLetter_50, uX11_ofLetter_50N, uX11_ofLetter_51, uX11_ofLetter_54, uX11_ofLetter_55, uX11_ofLetter_56, uX11_ofLetter_58, uX11_ofLetter_59, uX11_ofLetter_59N, uX11_ofLetter_60, uX11_ofLetter_63, uX11_ofLetter_66, uX11_ofLetter_69, uX11_ofLetter_69N, uX11_ofLetter_70, uX11_ofLetter_71, uX11_ofLetter_73, uX11_ofLetter_74, uX11_ofLetter_77, uX11_ofLetter_80, uX11_ofLetter_82, vX hX, r0, gL1 b1 b3, ofL, i10, Option.bind_some, Option.toList_some, Option.toList_none, List.cons_append, List.nil_append, if_true, if_false, and_self, and_true, true_and, or_self, or_true, true_or, false_or, or_false, i10, i00, i01, i11, Nat.reduceAdd, st1_0, st1_c, st1_1i, st1_1r, st1_1n, st1_1u, st1_1J, st2_0, st2_c, st2_1i, st2_1r, st2_1n, st2_1u, st2_1J]
  · subst e
    have d0 : ¬ (2 : Int32) = 0 := by decide
    have d1 : ¬ (2 : Int32) = 1 := by decide
    simp only [uX11_ofLetter_0, uX11_ofLetter_1, uX11_ofLetter_2, uX11_ofLetter_5, uX11_ofLetter_5N, uX11_ofLetter_6, uX11_ofLetter_6N, uX11_ofLetter_7, uX11_ofLetter_7N, uX11_ofLetter_10, uX11_ofLetter_11, uX11_ofLetter_12, uX11_ofLetter_13_0, uX11_ofLetter_13_1, uX11_ofLetter_13_2, uX11_ofLetter_13_d, uX11_ofLetter_40, uX11_ofLetter_40N, uX11_ofLetter_41, uX11_ofLetter_44, uX11_ofLetter_45, uX11_ofLetter_45N, uX11_ofLetter_46, uX11_ofLetter_49, uX11_ofLetter_50, uX11_ofLetter_50N, uX11_ofLetter_51, uX11_ofLetter_54, uX11_ofLetter_55, uX11_ofLetter_56, uX11_ofLetter_58, uX11_ofLetter_59, uX11_ofLetter_59N, uX11_ofLetter_60, uX11_ofLetter_63, uX11_ofLetter_66, uX11_ofLetter_69, uX11_ofLetter_69N, uX11_ofLetter_70, uX11_ofLetter_71, uX11_ofLetter_73, uX11_ofLetter_74, uX11_ofLetter_77, uX11_ofLetter_80, uX11_ofLetter_82, vX hX, r0, vX b1, sz, ofL, d0, d1, Option.bind_some, Option.toList_some, Option.toList_none, List.cons_append, List.nil_append, if_true, if_false, and_self, and_true, true_and, or_self, or_true, true_or, false_or, or_false, i10, i00, i01, i11, Nat.reduceAdd, st1_0, st1_c, st1_1i, st1_1r, st1_1n, st1_1u, st1_1J, st2_0, st2_c, st2_1i, st2_1r, st2_1n, st2_1u, st2_1J]
  · rw [ofL_d e]
    obtain ⟨s1, s2⟩ := sub10 (y := y) hn (by omega)
    by_cases w : 10 ≤ y.toInt ∧ y.toInt ≤ 9 + (ln x : Int)
    · have s3 := s2 w
      have bl : run 137 (0, [some (.int (nI (y.toInt - 10).toNat)), some (.int (nI (ln x)))], [], h) = some (some (.int 1), h) := by
        rw [← s3, c_isBelow, if_pos (by rw [s1]; exact w)]
      have r2 := c_lgroupAt (j := (y.toInt - 10).toNat) K hx (by omega)
      rw [if_pos w]
      simp only [uX11_ofLetter_0, uX11_ofLetter_1, uX11_ofLetter_2, uX11_ofLetter_5, uX11_ofLetter_6, uX11_ofLetter_7, uX11_ofLetter_12, uX11_ofLetter_13_d e, uX11_ofLetter_10, uX11_ofLetter_11, uX11_ofLetter_40, uX11_ofLetter_40N, uX11_ofLetter_41, uX11_ofLetter_44, uX11_ofLetter_45, uX11_ofLetter_45N, uX11_ofLetter_46, uX11_ofLetter_49, uX11_ofLetter_50, uX11_ofLetter_50N, uX11_ofLetter_51, uX11_ofLetter_54, uX11_ofLetter_55, uX11_ofLetter_56, uX11_ofLetter_58, uX11_ofLetter_59, uX11_ofLetter_59N, uX11_ofLetter_60, uX11_ofLetter_63, uX11_ofLetter_66, uX11_ofLetter_69, uX11_ofLetter_69N, uX11_ofLetter_70, uX11_ofLetter_71, uX11_ofLetter_73, uX11_ofLetter_74, uX11_ofLetter_77, uX11_ofLetter_80, uX11_ofLetter_82, vX hX, r0, vX b1, sz, s3, bl, r2, Option.bind_some, Option.toList_some, Option.toList_none, List.cons_append, List.nil_append, if_true, if_false, and_self, and_true, true_and, or_self, or_true, true_or, false_or, or_false, i10, i00, i01, i11, Nat.reduceAdd, st1_0, st1_c, st1_1i, st1_1r, st1_1n, st1_1u, st1_1J, st2_0, st2_c, st2_1i, st2_1r, st2_1n, st2_1u, st2_1J]
    · have bl : run 137 (0, [some (.int (y - 10)), some (.int (nI (ln x)))], [], h) = some (some (.int 0), h) := by
        rw [c_isBelow, if_neg (by rw [s1]; exact w)]
      rw [if_neg w]
      simp only [uX11_ofLetter_0, uX11_ofLetter_1, uX11_ofLetter_2, uX11_ofLetter_5, uX11_ofLetter_6, uX11_ofLetter_7, uX11_ofLetter_12, uX11_ofLetter_13_d e, uX11_ofLetter_10, uX11_ofLetter_11, uX11_ofLetter_40, uX11_ofLetter_40N, uX11_ofLetter_41, uX11_ofLetter_44, uX11_ofLetter_45, uX11_ofLetter_45N, uX11_ofLetter_46, uX11_ofLetter_49, uX11_ofLetter_50, uX11_ofLetter_50N, uX11_ofLetter_51, uX11_ofLetter_54, uX11_ofLetter_55, uX11_ofLetter_56, uX11_ofLetter_58, uX11_ofLetter_59, uX11_ofLetter_59N, uX11_ofLetter_60, uX11_ofLetter_63, uX11_ofLetter_66, uX11_ofLetter_69, uX11_ofLetter_69N, uX11_ofLetter_70, uX11_ofLetter_71, uX11_ofLetter_73, uX11_ofLetter_74, uX11_ofLetter_77, uX11_ofLetter_80, uX11_ofLetter_82, vX hX, r0, vX b1, sz, bl, Option.bind_some, Option.toList_some, Option.toList_none, List.cons_append, List.nil_append, if_true, if_false, and_self, and_true, true_and, or_self, or_true, true_or, false_or, or_false, i10, i00, i01, i11, Nat.reduceAdd, st1_0, st1_c, st1_1i, st1_1r, st1_1n, st1_1u, st1_1J, st2_0, st2_c, st2_1i, st2_1r, st2_1n, st2_1u, st2_1J]
theorem c_uncovered {j : Nat} (K : LettersC h L lp ld ln lg la ma) (G : PagesC h P pk pp pn pl gr pa qa) (hx : x < L) (hp : p < P) (hj : j < ln x) (hj2 : j < pn p) : run 59 (0, [some (.ref (pa p)), some (.ref (la x)), some (.int (nI j))], [], h) = some (some (.int (nI (subm (lg x j) (gr p j)))), h) := by
  obtain ⟨b1, _, b3, _⟩ := K.2.1 x hx
  obtain ⟨c1, ⟨f, c2, ce⟩, c3, _⟩ := G.2.1 p hp
  have hk := G.2.2.2.1 p
  have hn := G.2.2.2.2.2.1 p
  have h1 := K.2.2.2.2.2.2.1 x j
  have h2 := G.2.2.2.2.2.2.2.1 p j
  have r1 := c_lgroupAt K hx hj
  have r2 := c_pgroupAt (j := j) c1 hk (by omega) c2 (by omega) hj2
  rw [ce j hj2] at r2
  have r3 := j_subm (h := h) (show lg x j < 2 ^ 30 by omega) (show gr p j < 2 ^ 30 by omega)
  simp only [uX5_uncovered_0, uX5_uncovered_0N, uX5_uncovered_1, uX5_uncovered_2, uX5_uncovered_5, uX5_uncovered_6, uX5_uncovered_7, uX5_uncovered_10, uX5_uncovered_11, uX5_uncovered_13, uX5_uncovered_16, vX b1, r1, vPg c1 hk, r2, r3, Option.bind_some, Option.toList_some, Option.toList_none, List.cons_append, List.nil_append, if_true, if_false, and_self, and_true, true_and, or_self, or_true, true_or, false_or, or_false, i10, i00, i01, i11, Nat.reduceAdd, st1_0, st1_c, st1_1i, st1_1r, st1_1n, st1_1u, st1_1J, st2_0, st2_c, st2_1i, st2_1r, st2_1n, st2_1u, st2_1J]
variable {da : Nat} {t : Nat → Option Nat}
theorem c_isWrong_y (hX : rO h 4 = some (10, xF dr xp xl xf)) (K : LettersC h L lp ld ln lg la ma) (G : PagesC h P pk pp pn pl gr pa qa) (D : DrF h dr da t) (ht : tdOK t) (hx : x < L) (hp : p < P) (hW : pn p - pk p < ln x ∨ wrF (t 0) (t 2).isSome (fun j => subm (lg x j) (gr p j)) (ln x)) : run 144 (0, [some (.ref 4), some (.ref (la x)), some (.ref (pa p)), none, none, none, none], [], h) = some (some (.int 1), h) ∧ True := by
  refine ⟨?_, trivial⟩
  have r1 := c_lsize K hx
  obtain ⟨b1, _, b3, _⟩ := K.2.1 x hx
  obtain ⟨c1, ⟨f, c2, ce⟩, c3, _⟩ := G.2.1 p hp
  have hk := G.2.2.2.1 p
  have hn := G.2.2.2.2.2.1 p
  have hl := K.2.2.2.2.2.1 x
  have hl1 := K.2.2.2.2.2.2.2 x hx
  have a1 := D.choose_spec.1
  have uv := fun F => c_usableV (F := F) c1 hk (show 4 ≤ pa p by omega) c2 (by omega)
  by_cases w1 : pn p - pk p < ln x
  · have q1 : ¬ nI (ln x) ≤ nI (pn p - pk p) := nI_ge w1 (by omega)
    simp only [uX11_isWrong_0, uX11_isWrong_0N, uX11_isWrong_1, uX11_isWrong_4, uX11_isWrong_5, uX11_isWrong_6, uX11_isWrong_6N, uX11_isWrong_7, uX11_isWrong_10, uX11_isWrong_13, uX11_isWrong_14, uX11_isWrong_15, uX11_isWrong_16, uX11_isWrong_19, uX11_isWrong_22, uX11_isWrong_24, uX11_isWrong_26, uX11_isWrong_28, uX11_isWrong_31, uX11_isWrong_31N, uX11_isWrong_32, uX11_isWrong_32N, uX11_isWrong_33, uX11_isWrong_34, uX11_isWrong_37, uX11_isWrong_39, uX11_isWrong_42, uX11_isWrong_43, uX11_isWrong_44, uX11_isWrong_45, uX11_isWrong_48, uX11_isWrong_51, uX11_isWrong_54, uX11_isWrong_55, uX11_isWrong_56, uX11_isWrong_57, uX11_isWrong_59, uX11_isWrong_60, uX11_isWrong_64, uX11_isWrong_65, uX11_isWrong_66, uX11_isWrong_67, uX11_isWrong_70, uX11_isWrong_72, uX11_isWrong_72N, uX11_isWrong_73, uX11_isWrong_73N, uX11_isWrong_74, uX11_isWrong_76, uX11_isWrong_79, uX11_isWrong_81, uX11_isWrong_84, uX11_isWrong_85, uX11_isWrong_87, uX11_isWrong_90, uX11_isWrong_93, uX11_isWrong_93N, uX11_isWrong_94, uX11_isWrong_94N, uX11_isWrong_95, uX11_isWrong_96, uX11_isWrong_97, uX11_isWrong_98, uX11_isWrong_101, uX11_isWrong_103, uX11_isWrong_105, uX11_isWrong_106, uX11_isWrong_109, uX11_isWrong_110, uX11_isWrong_113, uX11_isWrong_114, vX b1, r1, uv, q1, Option.bind_some, Option.toList_some, Option.toList_none, List.cons_append, List.nil_append, if_true, if_false, and_self, and_true, true_and, or_self, or_true, true_or, false_or, or_false, i10, i00, i01, i11, Nat.reduceAdd, st1_0, st1_c, st1_1i, st1_1r, st1_1n, st1_1u, st1_1J, st2_0, st2_c, st2_1i, st2_1r, st2_1n, st2_1u, st2_1J]
  · have q1 : nI (ln x) ≤ nI (pn p - pk p) := nI_le (by omega) (by omega)
    have hW2 := hW.resolve_left w1
    have un := fun j (hj : j < ln x) => c_uncovered K G hx hp hj (show j < pn p by omega)
    have r2 := c_beginning D
    have u0 := un 0 (by omega)
    rw [show nI 0 = 0 from rfl] at u0
    by_cases w2 : ∃ g, t 0 = some g ∧ subm (lg x 0) (gr p 0) ≠ g
    · obtain ⟨g, hg, hne⟩ := w2
      have hgb := ht.1 g hg
      rw [hg, oN_some] at r2
      have q2 : ¬ nI (subm (lg x 0) (gr p 0)) = nI g := nI_ne hne (by have := subm_lt (lg x 0) (gr p 0); omega) (by omega)
      simp only [uX11_isWrong_0, uX11_isWrong_0N, uX11_isWrong_1, uX11_isWrong_4, uX11_isWrong_5, uX11_isWrong_6, uX11_isWrong_6N, uX11_isWrong_7, uX11_isWrong_10, uX11_isWrong_13, uX11_isWrong_14, uX11_isWrong_15, uX11_isWrong_16, uX11_isWrong_19, uX11_isWrong_22, uX11_isWrong_24, uX11_isWrong_26, uX11_isWrong_28, uX11_isWrong_31, uX11_isWrong_31N, uX11_isWrong_32, uX11_isWrong_32N, uX11_isWrong_33, uX11_isWrong_34, uX11_isWrong_37, uX11_isWrong_39, uX11_isWrong_42, uX11_isWrong_43, uX11_isWrong_44, uX11_isWrong_45, uX11_isWrong_48, uX11_isWrong_51, uX11_isWrong_54, uX11_isWrong_55, uX11_isWrong_56, uX11_isWrong_57, uX11_isWrong_59, uX11_isWrong_60, uX11_isWrong_64, uX11_isWrong_65, uX11_isWrong_66, uX11_isWrong_67, uX11_isWrong_70, uX11_isWrong_72, uX11_isWrong_72N, uX11_isWrong_73, uX11_isWrong_73N, uX11_isWrong_74, uX11_isWrong_76, uX11_isWrong_79, uX11_isWrong_81, uX11_isWrong_84, uX11_isWrong_85, uX11_isWrong_87, uX11_isWrong_90, uX11_isWrong_93, uX11_isWrong_93N, uX11_isWrong_94, uX11_isWrong_94N, uX11_isWrong_95, uX11_isWrong_96, uX11_isWrong_97, uX11_isWrong_98, uX11_isWrong_101, uX11_isWrong_103, uX11_isWrong_105, uX11_isWrong_106, uX11_isWrong_109, uX11_isWrong_110, uX11_isWrong_113, uX11_isWrong_114, vX b1, r1, uv, q1, gX6 hX, vX a1, r2, ne9 (show g < 2 ^ 31 by omega), vPg c1 hk, u0, q2, Option.bind_some, Option.toList_some, Option.toList_none, List.cons_append, List.nil_append, if_true, if_false, and_self, and_true, true_and, or_self, or_true, true_or, false_or, or_false, i10, i00, i01, i11, Nat.reduceAdd, st1_0, st1_c, st1_1i, st1_1r, st1_1n, st1_1u, st1_1J, st2_0, st2_c, st2_1i, st2_1r, st2_1n, st2_1u, st2_1J]
    · obtain ⟨ck, hne⟩ := hW2.resolve_left w2
      have r3 := c_hasCheck D ht
      rw [ck, show bI true = 1 from rfl] at r3
      have hto : run 144 (0, [some (.ref 4), some (.ref (la x)), some (.ref (pa p)), none, none, none, none], [], h) = run 144 (62, [some (.ref 4), some (.ref (la x)), some (.ref (pa p)), some (.int (nI (ln x))), some (.int (oN (t 0))), some (.int (nI 0)), some (.int (nI 0))], [], h) := by
        cases hb : t 0 with
        | none =>
          rw [hb, oN_none] at r2
          simp only [uX11_isWrong_0, uX11_isWrong_0N, uX11_isWrong_1, uX11_isWrong_4, uX11_isWrong_5, uX11_isWrong_6, uX11_isWrong_6N, uX11_isWrong_7, uX11_isWrong_10, uX11_isWrong_13, uX11_isWrong_14, uX11_isWrong_15, uX11_isWrong_16, uX11_isWrong_19, uX11_isWrong_22, uX11_isWrong_24, uX11_isWrong_26, uX11_isWrong_28, uX11_isWrong_31, uX11_isWrong_31N, uX11_isWrong_32, uX11_isWrong_32N, uX11_isWrong_33, uX11_isWrong_34, uX11_isWrong_37, uX11_isWrong_39, uX11_isWrong_42, uX11_isWrong_43, uX11_isWrong_44, uX11_isWrong_45, uX11_isWrong_48, uX11_isWrong_51, uX11_isWrong_54, uX11_isWrong_55, uX11_isWrong_56, uX11_isWrong_57, uX11_isWrong_59, uX11_isWrong_60, uX11_isWrong_64, uX11_isWrong_65, uX11_isWrong_66, uX11_isWrong_67, uX11_isWrong_70, uX11_isWrong_72, uX11_isWrong_72N, uX11_isWrong_73, uX11_isWrong_73N, uX11_isWrong_74, uX11_isWrong_76, uX11_isWrong_79, uX11_isWrong_81, uX11_isWrong_84, uX11_isWrong_85, uX11_isWrong_87, uX11_isWrong_90, uX11_isWrong_93, uX11_isWrong_93N, uX11_isWrong_94, uX11_isWrong_94N, uX11_isWrong_95, uX11_isWrong_96, uX11_isWrong_97, uX11_isWrong_98, uX11_isWrong_101, uX11_isWrong_103, uX11_isWrong_105, uX11_isWrong_106, uX11_isWrong_109, uX11_isWrong_110, uX11_isWrong_113, uX11_isWrong_114, vX b1, r1, uv, q1, gX6 hX, vX a1, r2, r3, Option.bind_some, Option.toList_some, Option.toList_none, List.cons_append, List.nil_append, if_true, if_false, and_self, and_true, true_and, or_self, or_true, true_or, false_or, or_false, i10, i00, i01, i11, Nat.reduceAdd, st1_0, st1_c, st1_1i, st1_1r, st1_1n, st1_1u, st1_1J, st2_0, st2_c, st2_1i, st2_1r, st2_1n, st2_1u, st2_1J]
          rfl
        | some g =>
          have hgb := ht.1 g hb
          have he : subm (lg x 0) (gr p 0) = g := Decidable.byContradiction (fun z => w2 ⟨g, hb, z⟩)
          rw [hb, oN_some] at r2
          rw [he] at u0
          simp only [uX11_isWrong_0, uX11_isWrong_0N, uX11_isWrong_1, uX11_isWrong_4, uX11_isWrong_5, uX11_isWrong_6, uX11_isWrong_6N, uX11_isWrong_7, uX11_isWrong_10, uX11_isWrong_13, uX11_isWrong_14, uX11_isWrong_15, uX11_isWrong_16, uX11_isWrong_19, uX11_isWrong_22, uX11_isWrong_24, uX11_isWrong_26, uX11_isWrong_28, uX11_isWrong_31, uX11_isWrong_31N, uX11_isWrong_32, uX11_isWrong_32N, uX11_isWrong_33, uX11_isWrong_34, uX11_isWrong_37, uX11_isWrong_39, uX11_isWrong_42, uX11_isWrong_43, uX11_isWrong_44, uX11_isWrong_45, uX11_isWrong_48, uX11_isWrong_51, uX11_isWrong_54, uX11_isWrong_55, uX11_isWrong_56, uX11_isWrong_57, uX11_isWrong_59, uX11_isWrong_60, uX11_isWrong_64, uX11_isWrong_65, uX11_isWrong_66, uX11_isWrong_67, uX11_isWrong_70, uX11_isWrong_72, uX11_isWrong_72N, uX11_isWrong_73, uX11_isWrong_73N, uX11_isWrong_74, uX11_isWrong_76, uX11_isWrong_79, uX11_isWrong_81, uX11_isWrong_84, uX11_isWrong_85, uX11_isWrong_87, uX11_isWrong_90, uX11_isWrong_93, uX11_isWrong_93N, uX11_isWrong_94, uX11_isWrong_94N, uX11_isWrong_95, uX11_isWrong_96, uX11_isWrong_97, uX11_isWrong_98, uX11_isWrong_101, uX11_isWrong_103, uX11_isWrong_105, uX11_isWrong_106, uX11_isWrong_109, uX11_isWrong_110, uX11_isWrong_113, uX11_isWrong_114, vX b1, r1, uv, q1, gX6 hX, vX a1, r2, ne9 (show g < 2 ^ 31 by omega), vPg c1 hk, u0, r3, Option.bind_some, Option.toList_some, Option.toList_none, List.cons_append, List.nil_append, if_true, if_false, and_self, and_true, true_and, or_self, or_true, true_or, false_or, or_false, i10, i00, i01, i11, Nat.reduceAdd, st1_0, st1_c, st1_1i, st1_1r, st1_1n, st1_1u, st1_1J, st2_0, st2_c, st2_1i, st2_1r, st2_1n, st2_1u, st2_1J]
          rfl
      have em : nI (ln x) - 1 = nI (ln x - 1) := by
        rw [show ln x = ln x - 1 + 1 by omega, nI_s1]
        rfl
      have lp1 := loopN (F := fun j => run 144 (62, [some (.ref 4), some (.ref (la x)), some (.ref (pa p)), some (.int (nI (ln x))), some (.int (oN (t 0))), some (.int (nI (chS (fun j => subm (lg x j) (gr p j)) j))), some (.int (nI j))], [], h)) (ln x - 1) (fun j hj => by
        have q3 : ¬ nI (ln x - 1) ≤ nI j := nI_ge hj (by omega)
        have e1 : nI (chS (fun j => subm (lg x j) (gr p j)) j) + nI (subm (lg x j) (gr p j) * (j + 2)) = nI (chS (fun j => subm (lg x j) (gr p j)) (j + 1)) := by
          rw [nI_add]
          rfl
        show run 144 (62, _) = run 144 (62, _)
        rw [uX11_isWrong_62]
        simp only [uX11_isWrong_0, uX11_isWrong_0N, uX11_isWrong_1, uX11_isWrong_4, uX11_isWrong_5, uX11_isWrong_6, uX11_isWrong_6N, uX11_isWrong_7, uX11_isWrong_10, uX11_isWrong_13, uX11_isWrong_14, uX11_isWrong_15, uX11_isWrong_16, uX11_isWrong_19, uX11_isWrong_22, uX11_isWrong_24, uX11_isWrong_26, uX11_isWrong_28, uX11_isWrong_31, uX11_isWrong_31N, uX11_isWrong_32, uX11_isWrong_32N, uX11_isWrong_33, uX11_isWrong_34, uX11_isWrong_37, uX11_isWrong_39, uX11_isWrong_42, uX11_isWrong_43, uX11_isWrong_44, uX11_isWrong_45, uX11_isWrong_48, uX11_isWrong_51, uX11_isWrong_54, uX11_isWrong_55, uX11_isWrong_56, uX11_isWrong_57, uX11_isWrong_59, uX11_isWrong_60, uX11_isWrong_64, uX11_isWrong_65, uX11_isWrong_66, uX11_isWrong_67, uX11_isWrong_70, uX11_isWrong_72, uX11_isWrong_72N, uX11_isWrong_73, uX11_isWrong_73N, uX11_isWrong_74, uX11_isWrong_76, uX11_isWrong_79, uX11_isWrong_81, uX11_isWrong_84, uX11_isWrong_85, uX11_isWrong_87, uX11_isWrong_90, uX11_isWrong_93, uX11_isWrong_93N, uX11_isWrong_94, uX11_isWrong_94N, uX11_isWrong_95, uX11_isWrong_96, uX11_isWrong_97, uX11_isWrong_98, uX11_isWrong_101, uX11_isWrong_103, uX11_isWrong_105, uX11_isWrong_106, uX11_isWrong_109, uX11_isWrong_110, uX11_isWrong_113, uX11_isWrong_114, em, q3, vPg c1 hk, un j (by omega), c_inCheck, e1, nI_1, Option.bind_some, Option.toList_some, Option.toList_none, List.cons_append, List.nil_append, if_true, if_false, and_self, and_true, true_and, or_self, or_true, true_or, false_or, or_false, i10, i00, i01, i11, Nat.reduceAdd, st1_0, st1_c, st1_1i, st1_1r, st1_1n, st1_1u, st1_1J, st2_0, st2_c, st2_1i, st2_1r, st2_1n, st2_1u, st2_1J])
      have q4 : nI (ln x - 1) ≤ nI (ln x - 1) := nI_le (Nat.le_refl _) (by omega)
      have hs := chS_le (W := fun j => subm (lg x j) (gr p j)) (fun j => subm_lt _ _) (ln x - 1) (by omega)
      have er := pk_rem100 (n := chS (fun j => subm (lg x j) (gr p j)) (ln x - 1)) (by omega)
      have z : ¬ (100 : Int32) = 0 := by decide
      have q5 : ¬ nI (subm (lg x (ln x - 1)) (gr p (ln x - 1))) = nI (chS (fun j => subm (lg x j) (gr p j)) (ln x - 1) % 100) := nI_ne hne (by have := subm_lt (lg x (ln x - 1)) (gr p (ln x - 1)); omega) (by omega)
      rw [hto]
      refine Eq.trans lp1 ?_
      show run 144 (62, _) = _
      rw [uX11_isWrong_62]
      simp only [uX11_isWrong_0, uX11_isWrong_0N, uX11_isWrong_1, uX11_isWrong_4, uX11_isWrong_5, uX11_isWrong_6, uX11_isWrong_6N, uX11_isWrong_7, uX11_isWrong_10, uX11_isWrong_13, uX11_isWrong_14, uX11_isWrong_15, uX11_isWrong_16, uX11_isWrong_19, uX11_isWrong_22, uX11_isWrong_24, uX11_isWrong_26, uX11_isWrong_28, uX11_isWrong_31, uX11_isWrong_31N, uX11_isWrong_32, uX11_isWrong_32N, uX11_isWrong_33, uX11_isWrong_34, uX11_isWrong_37, uX11_isWrong_39, uX11_isWrong_42, uX11_isWrong_43, uX11_isWrong_44, uX11_isWrong_45, uX11_isWrong_48, uX11_isWrong_51, uX11_isWrong_54, uX11_isWrong_55, uX11_isWrong_56, uX11_isWrong_57, uX11_isWrong_59, uX11_isWrong_60, uX11_isWrong_64, uX11_isWrong_65, uX11_isWrong_66, uX11_isWrong_67, uX11_isWrong_70, uX11_isWrong_72, uX11_isWrong_72N, uX11_isWrong_73, uX11_isWrong_73N, uX11_isWrong_74, uX11_isWrong_76, uX11_isWrong_79, uX11_isWrong_81, uX11_isWrong_84, uX11_isWrong_85, uX11_isWrong_87, uX11_isWrong_90, uX11_isWrong_93, uX11_isWrong_93N, uX11_isWrong_94, uX11_isWrong_94N, uX11_isWrong_95, uX11_isWrong_96, uX11_isWrong_97, uX11_isWrong_98, uX11_isWrong_101, uX11_isWrong_103, uX11_isWrong_105, uX11_isWrong_106, uX11_isWrong_109, uX11_isWrong_110, uX11_isWrong_113, uX11_isWrong_114, em, q4, vPg c1 hk, un (ln x - 1) (by omega), z, er, q5, Option.bind_some, Option.toList_some, Option.toList_none, List.cons_append, List.nil_append, if_true, if_false, and_self, and_true, true_and, or_self, or_true, true_or, false_or, or_false, i10, i00, i01, i11, Nat.reduceAdd, st1_0, st1_c, st1_1i, st1_1r, st1_1n, st1_1u, st1_1J, st2_0, st2_c, st2_1i, st2_1r, st2_1n, st2_1u, st2_1J]
theorem c_isWrong_n (hX : rO h 4 = some (10, xF dr xp xl xf)) (K : LettersC h L lp ld ln lg la ma) (G : PagesC h P pk pp pn pl gr pa qa) (D : DrF h dr da t) (ht : tdOK t) (hx : x < L) (hp : p < P) (hW : ¬ (pn p - pk p < ln x ∨ wrF (t 0) (t 2).isSome (fun j => subm (lg x j) (gr p j)) (ln x))) : run 144 (0, [some (.ref 4), some (.ref (la x)), some (.ref (pa p)), none, none, none, none], [], h) = some (some (.int 0), h) := by
  have r1 := c_lsize K hx
  obtain ⟨b1, _, b3, _⟩ := K.2.1 x hx
  obtain ⟨c1, ⟨f, c2, ce⟩, c3, _⟩ := G.2.1 p hp
  have hk := G.2.2.2.1 p
  have hn := G.2.2.2.2.2.1 p
  have hl := K.2.2.2.2.2.1 x
  have hl1 := K.2.2.2.2.2.2.2 x hx
  have a1 := D.choose_spec.1
  have uv := fun F => c_usableV (F := F) c1 hk (show 4 ≤ pa p by omega) c2 (by omega)
  have w1 : ¬ pn p - pk p < ln x := fun z => hW (Or.inl z)
  have q1 : nI (ln x) ≤ nI (pn p - pk p) := nI_le (by omega) (by omega)
  have un := fun j (hj : j < ln x) => c_uncovered K G hx hp hj (show j < pn p by omega)
  have r2 := c_beginning D
  have u0 := un 0 (by omega)
  rw [show nI 0 = 0 from rfl] at u0
  have w2 : ¬ ∃ g, t 0 = some g ∧ subm (lg x 0) (gr p 0) ≠ g := fun z => hW (Or.inr (Or.inl z))
  have r3 := c_hasCheck D ht
  rcases bcase (t 2).isSome with ck | ck
  · rw [ck, show bI true = 1 from rfl] at r3
    have hto : run 144 (0, [some (.ref 4), some (.ref (la x)), some (.ref (pa p)), none, none, none, none], [], h) = run 144 (62, [some (.ref 4), some (.ref (la x)), some (.ref (pa p)), some (.int (nI (ln x))), some (.int (oN (t 0))), some (.int (nI 0)), some (.int (nI 0))], [], h) := by
      cases hb : t 0 with
      | none =>
        rw [hb, oN_none] at r2
        simp only [uX11_isWrong_0, uX11_isWrong_0N, uX11_isWrong_1, uX11_isWrong_4, uX11_isWrong_5, uX11_isWrong_6, uX11_isWrong_6N, uX11_isWrong_7, uX11_isWrong_10, uX11_isWrong_13, uX11_isWrong_14, uX11_isWrong_15, uX11_isWrong_16, uX11_isWrong_19, uX11_isWrong_22, uX11_isWrong_24, uX11_isWrong_26, uX11_isWrong_28, uX11_isWrong_31, uX11_isWrong_31N, uX11_isWrong_32, uX11_isWrong_32N, uX11_isWrong_33, uX11_isWrong_34, uX11_isWrong_37, uX11_isWrong_39, uX11_isWrong_42, uX11_isWrong_43, uX11_isWrong_44, uX11_isWrong_45, uX11_isWrong_48, uX11_isWrong_51, uX11_isWrong_54, uX11_isWrong_55, uX11_isWrong_56, uX11_isWrong_57, uX11_isWrong_59, uX11_isWrong_60, uX11_isWrong_64, uX11_isWrong_65, uX11_isWrong_66, uX11_isWrong_67, uX11_isWrong_70, uX11_isWrong_72, uX11_isWrong_72N, uX11_isWrong_73, uX11_isWrong_73N, uX11_isWrong_74, uX11_isWrong_76, uX11_isWrong_79, uX11_isWrong_81, uX11_isWrong_84, uX11_isWrong_85, uX11_isWrong_87, uX11_isWrong_90, uX11_isWrong_93, uX11_isWrong_93N, uX11_isWrong_94, uX11_isWrong_94N, uX11_isWrong_95, uX11_isWrong_96, uX11_isWrong_97, uX11_isWrong_98, uX11_isWrong_101, uX11_isWrong_103, uX11_isWrong_105, uX11_isWrong_106, uX11_isWrong_109, uX11_isWrong_110, uX11_isWrong_113, uX11_isWrong_114, vX b1, r1, uv, q1, gX6 hX, vX a1, r2, r3, Option.bind_some, Option.toList_some, Option.toList_none, List.cons_append, List.nil_append, if_true, if_false, and_self, and_true, true_and, or_self, or_true, true_or, false_or, or_false, i10, i00, i01, i11, Nat.reduceAdd, st1_0, st1_c, st1_1i, st1_1r, st1_1n, st1_1u, st1_1J, st2_0, st2_c, st2_1i, st2_1r, st2_1n, st2_1u, st2_1J]
        rfl
      | some g =>
        have hgb := ht.1 g hb
        have he : subm (lg x 0) (gr p 0) = g := Decidable.byContradiction (fun z => w2 ⟨g, hb, z⟩)
        rw [hb, oN_some] at r2
        rw [he] at u0
        simp only [uX11_isWrong_0, uX11_isWrong_0N, uX11_isWrong_1, uX11_isWrong_4, uX11_isWrong_5, uX11_isWrong_6, uX11_isWrong_6N, uX11_isWrong_7, uX11_isWrong_10, uX11_isWrong_13, uX11_isWrong_14, uX11_isWrong_15, uX11_isWrong_16, uX11_isWrong_19, uX11_isWrong_22, uX11_isWrong_24, uX11_isWrong_26, uX11_isWrong_28, uX11_isWrong_31, uX11_isWrong_31N, uX11_isWrong_32, uX11_isWrong_32N, uX11_isWrong_33, uX11_isWrong_34, uX11_isWrong_37, uX11_isWrong_39, uX11_isWrong_42, uX11_isWrong_43, uX11_isWrong_44, uX11_isWrong_45, uX11_isWrong_48, uX11_isWrong_51, uX11_isWrong_54, uX11_isWrong_55, uX11_isWrong_56, uX11_isWrong_57, uX11_isWrong_59, uX11_isWrong_60, uX11_isWrong_64, uX11_isWrong_65, uX11_isWrong_66, uX11_isWrong_67, uX11_isWrong_70, uX11_isWrong_72, uX11_isWrong_72N, uX11_isWrong_73, uX11_isWrong_73N, uX11_isWrong_74, uX11_isWrong_76, uX11_isWrong_79, uX11_isWrong_81, uX11_isWrong_84, uX11_isWrong_85, uX11_isWrong_87, uX11_isWrong_90, uX11_isWrong_93, uX11_isWrong_93N, uX11_isWrong_94, uX11_isWrong_94N, uX11_isWrong_95, uX11_isWrong_96, uX11_isWrong_97, uX11_isWrong_98, uX11_isWrong_101, uX11_isWrong_103, uX11_isWrong_105, uX11_isWrong_106, uX11_isWrong_109, uX11_isWrong_110, uX11_isWrong_113, uX11_isWrong_114, vX b1, r1, uv, q1, gX6 hX, vX a1, r2, ne9 (show g < 2 ^ 31 by omega), vPg c1 hk, u0, r3, Option.bind_some, Option.toList_some, Option.toList_none, List.cons_append, List.nil_append, if_true, if_false, and_self, and_true, true_and, or_self, or_true, true_or, false_or, or_false, i10, i00, i01, i11, Nat.reduceAdd, st1_0, st1_c, st1_1i, st1_1r, st1_1n, st1_1u, st1_1J, st2_0, st2_c, st2_1i, st2_1r, st2_1n, st2_1u, st2_1J]
        rfl
    have em : nI (ln x) - 1 = nI (ln x - 1) := by
      rw [show ln x = ln x - 1 + 1 by omega, nI_s1]
      rfl
    have lp1 := loopN (F := fun j => run 144 (62, [some (.ref 4), some (.ref (la x)), some (.ref (pa p)), some (.int (nI (ln x))), some (.int (oN (t 0))), some (.int (nI (chS (fun j => subm (lg x j) (gr p j)) j))), some (.int (nI j))], [], h)) (ln x - 1) (fun j hj => by
      have q3 : ¬ nI (ln x - 1) ≤ nI j := nI_ge hj (by omega)
      have e1 : nI (chS (fun j => subm (lg x j) (gr p j)) j) + nI (subm (lg x j) (gr p j) * (j + 2)) = nI (chS (fun j => subm (lg x j) (gr p j)) (j + 1)) := by
        rw [nI_add]
        rfl
      show run 144 (62, _) = run 144 (62, _)
      rw [uX11_isWrong_62]
      simp only [uX11_isWrong_0, uX11_isWrong_0N, uX11_isWrong_1, uX11_isWrong_4, uX11_isWrong_5, uX11_isWrong_6, uX11_isWrong_6N, uX11_isWrong_7, uX11_isWrong_10, uX11_isWrong_13, uX11_isWrong_14, uX11_isWrong_15, uX11_isWrong_16, uX11_isWrong_19, uX11_isWrong_22, uX11_isWrong_24, uX11_isWrong_26, uX11_isWrong_28, uX11_isWrong_31, uX11_isWrong_31N, uX11_isWrong_32, uX11_isWrong_32N, uX11_isWrong_33, uX11_isWrong_34, uX11_isWrong_37, uX11_isWrong_39, uX11_isWrong_42, uX11_isWrong_43, uX11_isWrong_44, uX11_isWrong_45, uX11_isWrong_48, uX11_isWrong_51, uX11_isWrong_54, uX11_isWrong_55, uX11_isWrong_56, uX11_isWrong_57, uX11_isWrong_59, uX11_isWrong_60, uX11_isWrong_64, uX11_isWrong_65, uX11_isWrong_66, uX11_isWrong_67, uX11_isWrong_70, uX11_isWrong_72, uX11_isWrong_72N, uX11_isWrong_73, uX11_isWrong_73N, uX11_isWrong_74, uX11_isWrong_76, uX11_isWrong_79, uX11_isWrong_81, uX11_isWrong_84, uX11_isWrong_85, uX11_isWrong_87, uX11_isWrong_90, uX11_isWrong_93, uX11_isWrong_93N, uX11_isWrong_94, uX11_isWrong_94N, uX11_isWrong_95, uX11_isWrong_96, uX11_isWrong_97, uX11_isWrong_98, uX11_isWrong_101, uX11_isWrong_103, uX11_isWrong_105, uX11_isWrong_106, uX11_isWrong_109, uX11_isWrong_110, uX11_isWrong_113, uX11_isWrong_114, em, q3, vPg c1 hk, un j (by omega), c_inCheck, e1, nI_1, Option.bind_some, Option.toList_some, Option.toList_none, List.cons_append, List.nil_append, if_true, if_false, and_self, and_true, true_and, or_self, or_true, true_or, false_or, or_false, i10, i00, i01, i11, Nat.reduceAdd, st1_0, st1_c, st1_1i, st1_1r, st1_1n, st1_1u, st1_1J, st2_0, st2_c, st2_1i, st2_1r, st2_1n, st2_1u, st2_1J])
    have q4 : nI (ln x - 1) ≤ nI (ln x - 1) := nI_le (Nat.le_refl _) (by omega)
    have hs := chS_le (W := fun j => subm (lg x j) (gr p j)) (fun j => subm_lt _ _) (ln x - 1) (by omega)
    have er := pk_rem100 (n := chS (fun j => subm (lg x j) (gr p j)) (ln x - 1)) (by omega)
    have z : ¬ (100 : Int32) = 0 := by decide
    have q5 : subm (lg x (ln x - 1)) (gr p (ln x - 1)) = chS (fun j => subm (lg x j) (gr p j)) (ln x - 1) % 100 := Decidable.byContradiction (fun z => hW (Or.inr (Or.inr ⟨ck, z⟩)))
    have u9 := un (ln x - 1) (by omega)
    rw [q5] at u9
    rw [hto]
    refine Eq.trans lp1 ?_
    show run 144 (62, _) = _
    rw [uX11_isWrong_62]
    simp only [uX11_isWrong_0, uX11_isWrong_0N, uX11_isWrong_1, uX11_isWrong_4, uX11_isWrong_5, uX11_isWrong_6, uX11_isWrong_6N, uX11_isWrong_7, uX11_isWrong_10, uX11_isWrong_13, uX11_isWrong_14, uX11_isWrong_15, uX11_isWrong_16, uX11_isWrong_19, uX11_isWrong_22, uX11_isWrong_24, uX11_isWrong_26, uX11_isWrong_28, uX11_isWrong_31, uX11_isWrong_31N, uX11_isWrong_32, uX11_isWrong_32N, uX11_isWrong_33, uX11_isWrong_34, uX11_isWrong_37, uX11_isWrong_39, uX11_isWrong_42, uX11_isWrong_43, uX11_isWrong_44, uX11_isWrong_45, uX11_isWrong_48, uX11_isWrong_51, uX11_isWrong_54, uX11_isWrong_55, uX11_isWrong_56, uX11_isWrong_57, uX11_isWrong_59, uX11_isWrong_60, uX11_isWrong_64, uX11_isWrong_65, uX11_isWrong_66, uX11_isWrong_67, uX11_isWrong_70, uX11_isWrong_72, uX11_isWrong_72N, uX11_isWrong_73, uX11_isWrong_73N, uX11_isWrong_74, uX11_isWrong_76, uX11_isWrong_79, uX11_isWrong_81, uX11_isWrong_84, uX11_isWrong_85, uX11_isWrong_87, uX11_isWrong_90, uX11_isWrong_93, uX11_isWrong_93N, uX11_isWrong_94, uX11_isWrong_94N, uX11_isWrong_95, uX11_isWrong_96, uX11_isWrong_97, uX11_isWrong_98, uX11_isWrong_101, uX11_isWrong_103, uX11_isWrong_105, uX11_isWrong_106, uX11_isWrong_109, uX11_isWrong_110, uX11_isWrong_113, uX11_isWrong_114, em, q4, vPg c1 hk, u9, z, er, Option.bind_some, Option.toList_some, Option.toList_none, List.cons_append, List.nil_append, if_true, if_false, and_self, and_true, true_and, or_self, or_true, true_or, false_or, or_false, i10, i00, i01, i11, Nat.reduceAdd, st1_0, st1_c, st1_1i, st1_1r, st1_1n, st1_1u, st1_1J, st2_0, st2_c, st2_1i, st2_1r, st2_1n, st2_1u, st2_1J]
  · rw [ck, show bI false = 0 from rfl] at r3
    cases hb : t 0 with
    | none =>
      rw [hb, oN_none] at r2
      simp only [uX11_isWrong_0, uX11_isWrong_0N, uX11_isWrong_1, uX11_isWrong_4, uX11_isWrong_5, uX11_isWrong_6, uX11_isWrong_6N, uX11_isWrong_7, uX11_isWrong_10, uX11_isWrong_13, uX11_isWrong_14, uX11_isWrong_15, uX11_isWrong_16, uX11_isWrong_19, uX11_isWrong_22, uX11_isWrong_24, uX11_isWrong_26, uX11_isWrong_28, uX11_isWrong_31, uX11_isWrong_31N, uX11_isWrong_32, uX11_isWrong_32N, uX11_isWrong_33, uX11_isWrong_34, uX11_isWrong_37, uX11_isWrong_39, uX11_isWrong_42, uX11_isWrong_43, uX11_isWrong_44, uX11_isWrong_45, uX11_isWrong_48, uX11_isWrong_51, uX11_isWrong_54, uX11_isWrong_55, uX11_isWrong_56, uX11_isWrong_57, uX11_isWrong_59, uX11_isWrong_60, uX11_isWrong_64, uX11_isWrong_65, uX11_isWrong_66, uX11_isWrong_67, uX11_isWrong_70, uX11_isWrong_72, uX11_isWrong_72N, uX11_isWrong_73, uX11_isWrong_73N, uX11_isWrong_74, uX11_isWrong_76, uX11_isWrong_79, uX11_isWrong_81, uX11_isWrong_84, uX11_isWrong_85, uX11_isWrong_87, uX11_isWrong_90, uX11_isWrong_93, uX11_isWrong_93N, uX11_isWrong_94, uX11_isWrong_94N, uX11_isWrong_95, uX11_isWrong_96, uX11_isWrong_97, uX11_isWrong_98, uX11_isWrong_101, uX11_isWrong_103, uX11_isWrong_105, uX11_isWrong_106, uX11_isWrong_109, uX11_isWrong_110, uX11_isWrong_113, uX11_isWrong_114, vX b1, r1, uv, q1, gX6 hX, vX a1, r2, r3, Option.bind_some, Option.toList_some, Option.toList_none, List.cons_append, List.nil_append, if_true, if_false, and_self, and_true, true_and, or_self, or_true, true_or, false_or, or_false, i10, i00, i01, i11, Nat.reduceAdd, st1_0, st1_c, st1_1i, st1_1r, st1_1n, st1_1u, st1_1J, st2_0, st2_c, st2_1i, st2_1r, st2_1n, st2_1u, st2_1J]
    | some g =>
      have hgb := ht.1 g hb
      have he : subm (lg x 0) (gr p 0) = g := Decidable.byContradiction (fun z => w2 ⟨g, hb, z⟩)
      rw [hb, oN_some] at r2
      rw [he] at u0
      simp only [uX11_isWrong_0, uX11_isWrong_0N, uX11_isWrong_1, uX11_isWrong_4, uX11_isWrong_5, uX11_isWrong_6, uX11_isWrong_6N, uX11_isWrong_7, uX11_isWrong_10, uX11_isWrong_13, uX11_isWrong_14, uX11_isWrong_15, uX11_isWrong_16, uX11_isWrong_19, uX11_isWrong_22, uX11_isWrong_24, uX11_isWrong_26, uX11_isWrong_28, uX11_isWrong_31, uX11_isWrong_31N, uX11_isWrong_32, uX11_isWrong_32N, uX11_isWrong_33, uX11_isWrong_34, uX11_isWrong_37, uX11_isWrong_39, uX11_isWrong_42, uX11_isWrong_43, uX11_isWrong_44, uX11_isWrong_45, uX11_isWrong_48, uX11_isWrong_51, uX11_isWrong_54, uX11_isWrong_55, uX11_isWrong_56, uX11_isWrong_57, uX11_isWrong_59, uX11_isWrong_60, uX11_isWrong_64, uX11_isWrong_65, uX11_isWrong_66, uX11_isWrong_67, uX11_isWrong_70, uX11_isWrong_72, uX11_isWrong_72N, uX11_isWrong_73, uX11_isWrong_73N, uX11_isWrong_74, uX11_isWrong_76, uX11_isWrong_79, uX11_isWrong_81, uX11_isWrong_84, uX11_isWrong_85, uX11_isWrong_87, uX11_isWrong_90, uX11_isWrong_93, uX11_isWrong_93N, uX11_isWrong_94, uX11_isWrong_94N, uX11_isWrong_95, uX11_isWrong_96, uX11_isWrong_97, uX11_isWrong_98, uX11_isWrong_101, uX11_isWrong_103, uX11_isWrong_105, uX11_isWrong_106, uX11_isWrong_109, uX11_isWrong_110, uX11_isWrong_113, uX11_isWrong_114, vX b1, r1, uv, q1, gX6 hX, vX a1, r2, ne9 (show g < 2 ^ 31 by omega), vPg c1 hk, u0, r3, Option.bind_some, Option.toList_some, Option.toList_none, List.cons_append, List.nil_append, if_true, if_false, and_self, and_true, true_and, or_self, or_true, true_or, false_or, or_false, i10, i00, i01, i11, Nat.reduceAdd, st1_0, st1_c, st1_1i, st1_1r, st1_1n, st1_1u, st1_1J, st2_0, st2_c, st2_1i, st2_1r, st2_1n, st2_1u, st2_1J]
theorem cnt_mono {q : Nat → Bool} {a : Nat} : ∀ b, a ≤ b → cnt q a ≤ cnt q b
  | 0, h => by rw [show a = 0 by omega]; exact Nat.le_refl _
  | b + 1, h => by
    by_cases e : a = b + 1
    · rw [e]; exact Nat.le_refl _
    · have := cnt_mono (q := q) (a := a) b (by omega)
      rw [cnt_s]
      omega
theorem rdV_hit {w : Nat → Option Nat} {U : Nat → Nat} {o s v : Nat} (hv : w (U (o + s)) = some v) : ∀ E, s < E → E < 1000 → rdV w U o (nI (cnt (fun j => (w (U (o + j))).isSome) s)) E = nI v
  | 0, h, _ => by omega
  | E + 1, h, hE => by
    by_cases e : E = s
    · subst e
      show (match w (U (o + E)) with
        | some v => if nI (cnt (fun j => (w (U (o + j))).isSome) E) = nI (cnt (fun j => (w (U (o + j))).isSome) E) then nI v else rdV w U o (nI (cnt (fun j => (w (U (o + j))).isSome) E)) E
        | none => rdV w U o (nI (cnt (fun j => (w (U (o + j))).isSome) E)) E) = nI v
      rw [hv]
      simp only [if_true]
    · have ih := rdV_hit hv E (by omega) (by omega)
      have hs : cnt (fun j => (w (U (o + j))).isSome) (s + 1) = cnt (fun j => (w (U (o + j))).isSome) s + 1 := by
        rw [cnt_s, hv]
        rfl
      have hm := cnt_mono (q := fun j => (w (U (o + j))).isSome) (a := s + 1) E (by omega)
      have hl := cnt_le (fun j => (w (U (o + j))).isSome) E
      show (match w (U (o + E)) with
        | some v => if nI (cnt (fun j => (w (U (o + j))).isSome) E) = nI (cnt (fun j => (w (U (o + j))).isSome) s) then nI v else rdV w U o (nI (cnt (fun j => (w (U (o + j))).isSome) s)) E
        | none => rdV w U o (nI (cnt (fun j => (w (U (o + j))).isSome) s)) E) = nI v
      cases hw : w (U (o + E)) with
      | none => exact ih
      | some v2 =>
        simp only
        rw [if_neg (nI_ne (by omega) (by omega) (by omega))]
        exact ih
theorem rdV_miss {w : Nat → Option Nat} {U : Nat → Nat} {o : Nat} {k : Int32} : ∀ E, (∀ s, s < E → (w (U (o + s))).isSome = true → ¬ nI (cnt (fun j => (w (U (o + j))).isSome) s) = k) → rdV w U o k E = -9
  | 0, _ => rfl
  | E + 1, h => by
    have ih := rdV_miss (w := w) (U := U) (o := o) (k := k) E (fun s hs => h s (by omega))
    show (match w (U (o + E)) with
      | some v => if nI (cnt (fun j => (w (U (o + j))).isSome) E) = k then nI v else rdV w U o k E
      | none => rdV w U o k E) = -9
    cases hw : w (U (o + E)) with
    | none => exact ih
    | some v2 =>
      simp only
      rw [if_neg (h E (by omega) (by rw [hw]; rfl))]
      exact ih
variable {c w : Nat → Option Nat} {wt : Nat → Nat}
theorem c_read_u {z y k : Int32} (hX : rO h 4 = some (10, xF dr xp xl xf)) (K : LettersC h L lp ld ln lg la ma) (G : PagesC h P pk pp pn pl gr pa qa) (hx : ¬ (0 ≤ z.toInt ∧ z.toInt ≤ (L : Int) - 1) ∨ ¬ (0 ≤ y.toInt ∧ y.toInt ≤ (P : Int) - 1) ∨ ¬ (-1 ≤ k.toInt ∧ k.toInt ≤ 11)) : run 110 (0, [some (.ref 4), some (.int z), some (.int y), some (.int k), none, none, none, none, none, none, none], [], h) = some (some (.int (-1)), h) := by
  have hP := G.2.2.1
  have hL := K.2.2.1
  by_cases h1 : 0 ≤ z.toInt ∧ z.toInt ≤ (L : Int) - 1
  · obtain ⟨x, q1, q2, q3⟩ := inR h1
    subst q3
    have r1 := c_letterAt hX K (show x < L by omega)
    by_cases h2 : 0 ≤ y.toInt ∧ y.toInt ≤ (P : Int) - 1
    · obtain ⟨p, w1, w2, w3⟩ := inR h2
      subst w3
      have r2 := c_pageAt hX G (show p < P by omega)
      have h3 : ¬ (-1 ≤ k.toInt ∧ k.toInt ≤ 11) := (hx.resolve_left (fun q => q h1)).resolve_left (fun q => q h2)
      by_cases h4 : k.toInt < -1
      · simp only [uX11_read_0, uX11_read_1, uX11_read_2, uX11_read_5, uX11_read_5N, uX11_read_7, uX11_read_8, uX11_read_9, uX11_read_12, uX11_read_12N, uX11_read_14, uX11_read_14N, uX11_read_16, uX11_read_16N, uX11_read_19, uX11_read_19N, uX11_read_21, uX11_read_21N, uX11_read_24, uX11_read_25, uX11_read_26, uX11_read_29, uX11_read_30, uX11_read_32, uX11_read_35, uX11_read_36, uX11_read_37, uX11_read_38, uX11_read_38N, uX11_read_40, uX11_read_40N, uX11_read_42, uX11_read_45, uX11_read_48, uX11_read_50, uX11_read_51, uX11_read_52, uX11_read_55, uX11_read_58, uX11_read_60, uX11_read_63, uX11_read_64, uX11_read_67, uX11_read_68, uX11_read_70, uX11_read_71, uX11_read_74, uX11_read_77, uX11_read_80, uX11_read_80N, uX11_read_82, uX11_read_85, uX11_read_86, uX11_read_87, uX11_read_90, uX11_read_90N, uX11_read_92, uX11_read_95, uX11_read_97, uX11_read_98, uX11_read_100, uX11_read_102, uX11_read_106, uX11_read_108, uX11_read_111, uX11_read_112, uX11_read_115, uX11_read_115N, uX11_read_117, uX11_read_117N, uX11_read_119, uX11_read_121, uX11_read_124, uX11_read_127, uX11_read_129, uX11_read_131, uX11_read_133, uX11_read_136, uX11_read_138, uX11_read_139, uX11_read_142, uX11_read_144, uX11_read_145, uX11_read_148, uX11_read_151, uX11_read_154, uX11_read_155, uX11_read_156, uX11_read_159, uX11_read_161, uX11_read_164, uX11_read_166, vX hX, r1, r2, ltI (x := k) (b := -1) (n := -1) (by decide), h4, Option.bind_some, Option.toList_some, Option.toList_none, List.cons_append, List.nil_append, if_true, if_false, and_self, and_true, true_and, or_self, or_true, true_or, false_or, or_false, i10, i00, i01, i11, Nat.reduceAdd, st1_0, st1_c, st1_1i, st1_1r, st1_1n, st1_1u, st1_1J, st2_0, st2_c, st2_1i, st2_1r, st2_1n, st2_1u, st2_1J]
      · have h5 : ¬ k.toInt < 12 := by omega
        simp only [uX11_read_0, uX11_read_1, uX11_read_2, uX11_read_5, uX11_read_5N, uX11_read_7, uX11_read_8, uX11_read_9, uX11_read_12, uX11_read_12N, uX11_read_14, uX11_read_14N, uX11_read_16, uX11_read_16N, uX11_read_19, uX11_read_19N, uX11_read_21, uX11_read_21N, uX11_read_24, uX11_read_25, uX11_read_26, uX11_read_29, uX11_read_30, uX11_read_32, uX11_read_35, uX11_read_36, uX11_read_37, uX11_read_38, uX11_read_38N, uX11_read_40, uX11_read_40N, uX11_read_42, uX11_read_45, uX11_read_48, uX11_read_50, uX11_read_51, uX11_read_52, uX11_read_55, uX11_read_58, uX11_read_60, uX11_read_63, uX11_read_64, uX11_read_67, uX11_read_68, uX11_read_70, uX11_read_71, uX11_read_74, uX11_read_77, uX11_read_80, uX11_read_80N, uX11_read_82, uX11_read_85, uX11_read_86, uX11_read_87, uX11_read_90, uX11_read_90N, uX11_read_92, uX11_read_95, uX11_read_97, uX11_read_98, uX11_read_100, uX11_read_102, uX11_read_106, uX11_read_108, uX11_read_111, uX11_read_112, uX11_read_115, uX11_read_115N, uX11_read_117, uX11_read_117N, uX11_read_119, uX11_read_121, uX11_read_124, uX11_read_127, uX11_read_129, uX11_read_131, uX11_read_133, uX11_read_136, uX11_read_138, uX11_read_139, uX11_read_142, uX11_read_144, uX11_read_145, uX11_read_148, uX11_read_151, uX11_read_154, uX11_read_155, uX11_read_156, uX11_read_159, uX11_read_161, uX11_read_164, uX11_read_166, vX hX, r1, r2, ltI (x := k) (b := -1) (n := -1) (by decide), ltI (x := k) (b := 12) (n := 12) (by decide), h4, h5, Option.bind_some, Option.toList_some, Option.toList_none, List.cons_append, List.nil_append, if_true, if_false, and_self, and_true, true_and, or_self, or_true, true_or, false_or, or_false, i10, i00, i01, i11, Nat.reduceAdd, st1_0, st1_c, st1_1i, st1_1r, st1_1n, st1_1u, st1_1J, st2_0, st2_c, st2_1i, st2_1r, st2_1n, st2_1u, st2_1J]
    · simp only [uX11_read_0, uX11_read_1, uX11_read_2, uX11_read_5, uX11_read_5N, uX11_read_7, uX11_read_8, uX11_read_9, uX11_read_12, uX11_read_12N, uX11_read_14, uX11_read_14N, uX11_read_16, uX11_read_16N, uX11_read_19, uX11_read_19N, uX11_read_21, uX11_read_21N, uX11_read_24, uX11_read_25, uX11_read_26, uX11_read_29, uX11_read_30, uX11_read_32, uX11_read_35, uX11_read_36, uX11_read_37, uX11_read_38, uX11_read_38N, uX11_read_40, uX11_read_40N, uX11_read_42, uX11_read_45, uX11_read_48, uX11_read_50, uX11_read_51, uX11_read_52, uX11_read_55, uX11_read_58, uX11_read_60, uX11_read_63, uX11_read_64, uX11_read_67, uX11_read_68, uX11_read_70, uX11_read_71, uX11_read_74, uX11_read_77, uX11_read_80, uX11_read_80N, uX11_read_82, uX11_read_85, uX11_read_86, uX11_read_87, uX11_read_90, uX11_read_90N, uX11_read_92, uX11_read_95, uX11_read_97, uX11_read_98, uX11_read_100, uX11_read_102, uX11_read_106, uX11_read_108, uX11_read_111, uX11_read_112, uX11_read_115, uX11_read_115N, uX11_read_117, uX11_read_117N, uX11_read_119, uX11_read_121, uX11_read_124, uX11_read_127, uX11_read_129, uX11_read_131, uX11_read_133, uX11_read_136, uX11_read_138, uX11_read_139, uX11_read_142, uX11_read_144, uX11_read_145, uX11_read_148, uX11_read_151, uX11_read_154, uX11_read_155, uX11_read_156, uX11_read_159, uX11_read_161, uX11_read_164, uX11_read_166, vX hX, r1, c_pageAt_n hX G h2, Option.bind_some, Option.toList_some, Option.toList_none, List.cons_append, List.nil_append, if_true, if_false, and_self, and_true, true_and, or_self, or_true, true_or, false_or, or_false, i10, i00, i01, i11, Nat.reduceAdd, st1_0, st1_c, st1_1i, st1_1r, st1_1n, st1_1u, st1_1J, st2_0, st2_c, st2_1i, st2_1r, st2_1n, st2_1u, st2_1J]
  · by_cases h2 : 0 ≤ y.toInt ∧ y.toInt ≤ (P : Int) - 1
    · obtain ⟨p, w1, w2, w3⟩ := inR h2
      subst w3
      have r2 := c_pageAt hX G (show p < P by omega)
      simp only [uX11_read_0, uX11_read_1, uX11_read_2, uX11_read_5, uX11_read_5N, uX11_read_7, uX11_read_8, uX11_read_9, uX11_read_12, uX11_read_12N, uX11_read_14, uX11_read_14N, uX11_read_16, uX11_read_16N, uX11_read_19, uX11_read_19N, uX11_read_21, uX11_read_21N, uX11_read_24, uX11_read_25, uX11_read_26, uX11_read_29, uX11_read_30, uX11_read_32, uX11_read_35, uX11_read_36, uX11_read_37, uX11_read_38, uX11_read_38N, uX11_read_40, uX11_read_40N, uX11_read_42, uX11_read_45, uX11_read_48, uX11_read_50, uX11_read_51, uX11_read_52, uX11_read_55, uX11_read_58, uX11_read_60, uX11_read_63, uX11_read_64, uX11_read_67, uX11_read_68, uX11_read_70, uX11_read_71, uX11_read_74, uX11_read_77, uX11_read_80, uX11_read_80N, uX11_read_82, uX11_read_85, uX11_read_86, uX11_read_87, uX11_read_90, uX11_read_90N, uX11_read_92, uX11_read_95, uX11_read_97, uX11_read_98, uX11_read_100, uX11_read_102, uX11_read_106, uX11_read_108, uX11_read_111, uX11_read_112, uX11_read_115, uX11_read_115N, uX11_read_117, uX11_read_117N, uX11_read_119, uX11_read_121, uX11_read_124, uX11_read_127, uX11_read_129, uX11_read_131, uX11_read_133, uX11_read_136, uX11_read_138, uX11_read_139, uX11_read_142, uX11_read_144, uX11_read_145, uX11_read_148, uX11_read_151, uX11_read_154, uX11_read_155, uX11_read_156, uX11_read_159, uX11_read_161, uX11_read_164, uX11_read_166, vX hX, c_letterAt_n hX K h1, r2, Option.bind_some, Option.toList_some, Option.toList_none, List.cons_append, List.nil_append, if_true, if_false, and_self, and_true, true_and, or_self, or_true, true_or, false_or, or_false, i10, i00, i01, i11, Nat.reduceAdd, st1_0, st1_c, st1_1i, st1_1r, st1_1n, st1_1u, st1_1J, st2_0, st2_c, st2_1i, st2_1r, st2_1n, st2_1u, st2_1J]
    · simp only [uX11_read_0, uX11_read_1, uX11_read_2, uX11_read_5, uX11_read_5N, uX11_read_7, uX11_read_8, uX11_read_9, uX11_read_12, uX11_read_12N, uX11_read_14, uX11_read_14N, uX11_read_16, uX11_read_16N, uX11_read_19, uX11_read_19N, uX11_read_21, uX11_read_21N, uX11_read_24, uX11_read_25, uX11_read_26, uX11_read_29, uX11_read_30, uX11_read_32, uX11_read_35, uX11_read_36, uX11_read_37, uX11_read_38, uX11_read_38N, uX11_read_40, uX11_read_40N, uX11_read_42, uX11_read_45, uX11_read_48, uX11_read_50, uX11_read_51, uX11_read_52, uX11_read_55, uX11_read_58, uX11_read_60, uX11_read_63, uX11_read_64, uX11_read_67, uX11_read_68, uX11_read_70, uX11_read_71, uX11_read_74, uX11_read_77, uX11_read_80, uX11_read_80N, uX11_read_82, uX11_read_85, uX11_read_86, uX11_read_87, uX11_read_90, uX11_read_90N, uX11_read_92, uX11_read_95, uX11_read_97, uX11_read_98, uX11_read_100, uX11_read_102, uX11_read_106, uX11_read_108, uX11_read_111, uX11_read_112, uX11_read_115, uX11_read_115N, uX11_read_117, uX11_read_117N, uX11_read_119, uX11_read_121, uX11_read_124, uX11_read_127, uX11_read_129, uX11_read_131, uX11_read_133, uX11_read_136, uX11_read_138, uX11_read_139, uX11_read_142, uX11_read_144, uX11_read_145, uX11_read_148, uX11_read_151, uX11_read_154, uX11_read_155, uX11_read_156, uX11_read_159, uX11_read_161, uX11_read_164, uX11_read_166, vX hX, c_letterAt_n hX K h1, c_pageAt_n hX G h2, Option.bind_some, Option.toList_some, Option.toList_none, List.cons_append, List.nil_append, if_true, if_false, and_self, and_true, true_and, or_self, or_true, true_or, false_or, or_false, i10, i00, i01, i11, Nat.reduceAdd, st1_0, st1_c, st1_1i, st1_1r, st1_1n, st1_1u, st1_1J, st2_0, st2_c, st2_1i, st2_1r, st2_1n, st2_1u, st2_1J]
theorem c_read_w {k : Int32} (hX : rO h 4 = some (10, xF dr xp xl xf)) (K : LettersC h L lp ld ln lg la ma) (G : PagesC h P pk pp pn pl gr pa qa) (D : DrF h dr da t) (ht : tdOK t) (hx : x < L) (hp : p < P) (hk : -1 ≤ k.toInt ∧ k.toInt ≤ 11) (hW : pn p - pk p < ln x ∨ wrF (t 0) (t 2).isSome (fun j => subm (lg x j) (gr p j)) (ln x)) : run 110 (0, [some (.ref 4), some (.int (nI x)), some (.int (nI p)), some (.int k), none, none, none, none, none, none, none], [], h) = some (some (.int (-3)), h) := by
  have r1 := c_letterAt hX K hx
  have r2 := c_pageAt hX G hp
  have r3 := (c_isWrong_y hX K G D ht hx hp hW).1
  have h4 : ¬ k.toInt < -1 := by omega
  have h5 : k.toInt < 12 := by omega
  simp only [uX11_read_0, uX11_read_1, uX11_read_2, uX11_read_5, uX11_read_5N, uX11_read_7, uX11_read_8, uX11_read_9, uX11_read_12, uX11_read_12N, uX11_read_14, uX11_read_14N, uX11_read_16, uX11_read_16N, uX11_read_19, uX11_read_19N, uX11_read_21, uX11_read_21N, uX11_read_24, uX11_read_25, uX11_read_26, uX11_read_29, uX11_read_30, uX11_read_32, uX11_read_35, uX11_read_36, uX11_read_37, uX11_read_38, uX11_read_38N, uX11_read_40, uX11_read_40N, uX11_read_42, uX11_read_45, uX11_read_48, uX11_read_50, uX11_read_51, uX11_read_52, uX11_read_55, uX11_read_58, uX11_read_60, uX11_read_63, uX11_read_64, uX11_read_67, uX11_read_68, uX11_read_70, uX11_read_71, uX11_read_74, uX11_read_77, uX11_read_80, uX11_read_80N, uX11_read_82, uX11_read_85, uX11_read_86, uX11_read_87, uX11_read_90, uX11_read_90N, uX11_read_92, uX11_read_95, uX11_read_97, uX11_read_98, uX11_read_100, uX11_read_102, uX11_read_106, uX11_read_108, uX11_read_111, uX11_read_112, uX11_read_115, uX11_read_115N, uX11_read_117, uX11_read_117N, uX11_read_119, uX11_read_121, uX11_read_124, uX11_read_127, uX11_read_129, uX11_read_131, uX11_read_133, uX11_read_136, uX11_read_138, uX11_read_139, uX11_read_142, uX11_read_144, uX11_read_145, uX11_read_148, uX11_read_151, uX11_read_154, uX11_read_155, uX11_read_156, uX11_read_159, uX11_read_161, uX11_read_164, uX11_read_166, vX hX, r1, r2, ltI (x := k) (b := -1) (n := -1) (by decide), ltI (x := k) (b := 12) (n := 12) (by decide), h4, h5, r3, Option.bind_some, Option.toList_some, Option.toList_none, List.cons_append, List.nil_append, if_true, if_false, and_self, and_true, true_and, or_self, or_true, true_or, false_or, or_false, i10, i00, i01, i11, Nat.reduceAdd, st1_0, st1_c, st1_1i, st1_1r, st1_1n, st1_1u, st1_1J, st2_0, st2_c, st2_1i, st2_1r, st2_1n, st2_1u, st2_1J]
theorem c_read_loop {k : Int32} {o E : Nat} (hX : rO h 4 = some (10, xF dr xp xl xf)) (B : BookC h c w wt) (K : LettersC h L lp ld ln lg la ma) (G : PagesC h P pk pp pn pl gr pa qa) (hx : x < L) (hp : p < P) (hk : -1 ≤ k.toInt ∧ k.toInt ≤ 11) (hE : o + E ≤ ln x) (hEp : ln x ≤ pn p) : ∀ e s (l10 : Option Value), s + e = E → (∀ j, j < s → (w (subm (lg x (o + j)) (gr p (o + j)))).isSome = true → ¬ nI (cnt (fun j => (w (subm (lg x (o + j)) (gr p (o + j)))).isSome) j) = k) → run 110 (104, [some (.ref 4), some (.int (nI x)), some (.int (nI p)), some (.int k), some (.ref (la x)), some (.ref (pa p)), some (.int (nI o)), some (.int (nI (o + E))), some (.int (nI (cnt (fun j => (w (subm (lg x (o + j)) (gr p (o + j)))).isSome) s))), some (.int (nI (o + s))), l10], [], h) = some (some (.int (if k < 0 then nI (cnt (fun j => (w (subm (lg x (o + j)) (gr p (o + j)))).isSome) E) else rdV w (fun j => subm (lg x j) (gr p j)) o k E)), h) := by
  have hl := K.2.2.2.2.2.1 x
  obtain ⟨c1, _⟩ := G.2.1 p hp
  have hkd := G.2.2.2.1 p
  intro e
  induction e with
  | zero =>
    intro s l10 hs H
    have hs : s = E := by omega
    subst hs
    have q1 : nI (o + s) ≤ nI (o + s) := nI_le (Nat.le_refl _) (by omega)
    by_cases w1 : k = -1
    · subst w1
      have w2 : (-1 : Int32) < 0 := by decide
      rw [if_pos w2, uX11_read_104]
      simp only [uX11_read_0, uX11_read_1, uX11_read_2, uX11_read_5, uX11_read_5N, uX11_read_7, uX11_read_8, uX11_read_9, uX11_read_12, uX11_read_12N, uX11_read_14, uX11_read_14N, uX11_read_16, uX11_read_16N, uX11_read_19, uX11_read_19N, uX11_read_21, uX11_read_21N, uX11_read_24, uX11_read_25, uX11_read_26, uX11_read_29, uX11_read_30, uX11_read_32, uX11_read_35, uX11_read_36, uX11_read_37, uX11_read_38, uX11_read_38N, uX11_read_40, uX11_read_40N, uX11_read_42, uX11_read_45, uX11_read_48, uX11_read_50, uX11_read_51, uX11_read_52, uX11_read_55, uX11_read_58, uX11_read_60, uX11_read_63, uX11_read_64, uX11_read_67, uX11_read_68, uX11_read_70, uX11_read_71, uX11_read_74, uX11_read_77, uX11_read_80, uX11_read_80N, uX11_read_82, uX11_read_85, uX11_read_86, uX11_read_87, uX11_read_90, uX11_read_90N, uX11_read_92, uX11_read_95, uX11_read_97, uX11_read_98, uX11_read_100, uX11_read_102, uX11_read_106, uX11_read_108, uX11_read_111, uX11_read_112, uX11_read_115, uX11_read_115N, uX11_read_117, uX11_read_117N, uX11_read_119, uX11_read_121, uX11_read_124, uX11_read_127, uX11_read_129, uX11_read_131, uX11_read_133, uX11_read_136, uX11_read_138, uX11_read_139, uX11_read_142, uX11_read_144, uX11_read_145, uX11_read_148, uX11_read_151, uX11_read_154, uX11_read_155, uX11_read_156, uX11_read_159, uX11_read_161, uX11_read_164, uX11_read_166, q1, Option.bind_some, Option.toList_some, Option.toList_none, List.cons_append, List.nil_append, if_true, if_false, and_self, and_true, true_and, or_self, or_true, true_or, false_or, or_false, i10, i00, i01, i11, Nat.reduceAdd, st1_0, st1_c, st1_1i, st1_1r, st1_1n, st1_1u, st1_1J, st2_0, st2_c, st2_1i, st2_1r, st2_1n, st2_1u, st2_1J]
    · have w2 : ¬ k < 0 := by
        rw [lt0I]
        intro z
        have : k.toInt = (-1 : Int32).toInt := by rw [show (-1 : Int32).toInt = -1 by decide]; omega
        exact w1 (Int32.toInt_inj.mp this)
      have rm := rdV_miss (w := w) (U := fun j => subm (lg x j) (gr p j)) (o := o) (k := k) s H
      rw [if_neg w2, rm, uX11_read_104]
      simp only [uX11_read_0, uX11_read_1, uX11_read_2, uX11_read_5, uX11_read_5N, uX11_read_7, uX11_read_8, uX11_read_9, uX11_read_12, uX11_read_12N, uX11_read_14, uX11_read_14N, uX11_read_16, uX11_read_16N, uX11_read_19, uX11_read_19N, uX11_read_21, uX11_read_21N, uX11_read_24, uX11_read_25, uX11_read_26, uX11_read_29, uX11_read_30, uX11_read_32, uX11_read_35, uX11_read_36, uX11_read_37, uX11_read_38, uX11_read_38N, uX11_read_40, uX11_read_40N, uX11_read_42, uX11_read_45, uX11_read_48, uX11_read_50, uX11_read_51, uX11_read_52, uX11_read_55, uX11_read_58, uX11_read_60, uX11_read_63, uX11_read_64, uX11_read_67, uX11_read_68, uX11_read_70, uX11_read_71, uX11_read_74, uX11_read_77, uX11_read_80, uX11_read_80N, uX11_read_82, uX11_read_85, uX11_read_86, uX11_read_87, uX11_read_90, uX11_read_90N, uX11_read_92, uX11_read_95, uX11_read_97, uX11_read_98, uX11_read_100, uX11_read_102, uX11_read_106, uX11_read_108, uX11_read_111, uX11_read_112, uX11_read_115, uX11_read_115N, uX11_read_117, uX11_read_117N, uX11_read_119, uX11_read_121, uX11_read_124, uX11_read_127, uX11_read_129, uX11_read_131, uX11_read_133, uX11_read_136, uX11_read_138, uX11_read_139, uX11_read_142, uX11_read_144, uX11_read_145, uX11_read_148, uX11_read_151, uX11_read_154, uX11_read_155, uX11_read_156, uX11_read_159, uX11_read_161, uX11_read_164, uX11_read_166, q1, w1, Option.bind_some, Option.toList_some, Option.toList_none, List.cons_append, List.nil_append, if_true, if_false, and_self, and_true, true_and, or_self, or_true, true_or, false_or, or_false, i10, i00, i01, i11, Nat.reduceAdd, st1_0, st1_c, st1_1i, st1_1r, st1_1n, st1_1u, st1_1J, st2_0, st2_c, st2_1i, st2_1r, st2_1n, st2_1u, st2_1J]
  | succ e ih =>
    intro s l10 hs H
    have q1 : ¬ nI (o + E) ≤ nI (o + s) := nI_ge (by omega) (by omega)
    have r1 := c_uncovered (j := o + s) K G hx hp (by omega) (by omega)
    have r2 := c_wordOf (subm_lt (lg x (o + s)) (gr p (o + s))) B.1 B.2.2.2.1
    have hc := cnt_le (fun j => (w (subm (lg x (o + j)) (gr p (o + j)))).isSome) s
    rw [uX11_read_104]
    cases hw : w (subm (lg x (o + s)) (gr p (o + s))) with
    | none =>
      rw [hw, oN_none] at r2
      have ec : cnt (fun j => (w (subm (lg x (o + j)) (gr p (o + j)))).isSome) (s + 1) = cnt (fun j => (w (subm (lg x (o + j)) (gr p (o + j)))).isSome) s := by
        rw [cnt_s, hw]
        rfl
      have ih1 := ih (s + 1) (some (.int (-9))) (by omega) (fun j hj hsj => by
        by_cases z : j = s
        · subst z
          rw [hw] at hsj
          cases hsj
        · exact H j (by omega) hsj)
      rw [ec] at ih1
      simp only [uX11_read_0, uX11_read_1, uX11_read_2, uX11_read_5, uX11_read_5N, uX11_read_7, uX11_read_8, uX11_read_9, uX11_read_12, uX11_read_12N, uX11_read_14, uX11_read_14N, uX11_read_16, uX11_read_16N, uX11_read_19, uX11_read_19N, uX11_read_21, uX11_read_21N, uX11_read_24, uX11_read_25, uX11_read_26, uX11_read_29, uX11_read_30, uX11_read_32, uX11_read_35, uX11_read_36, uX11_read_37, uX11_read_38, uX11_read_38N, uX11_read_40, uX11_read_40N, uX11_read_42, uX11_read_45, uX11_read_48, uX11_read_50, uX11_read_51, uX11_read_52, uX11_read_55, uX11_read_58, uX11_read_60, uX11_read_63, uX11_read_64, uX11_read_67, uX11_read_68, uX11_read_70, uX11_read_71, uX11_read_74, uX11_read_77, uX11_read_80, uX11_read_80N, uX11_read_82, uX11_read_85, uX11_read_86, uX11_read_87, uX11_read_90, uX11_read_90N, uX11_read_92, uX11_read_95, uX11_read_97, uX11_read_98, uX11_read_100, uX11_read_102, uX11_read_106, uX11_read_108, uX11_read_111, uX11_read_112, uX11_read_115, uX11_read_115N, uX11_read_117, uX11_read_117N, uX11_read_119, uX11_read_121, uX11_read_124, uX11_read_127, uX11_read_129, uX11_read_131, uX11_read_133, uX11_read_136, uX11_read_138, uX11_read_139, uX11_read_142, uX11_read_144, uX11_read_145, uX11_read_148, uX11_read_151, uX11_read_154, uX11_read_155, uX11_read_156, uX11_read_159, uX11_read_161, uX11_read_164, uX11_read_166, q1, gX0 hX, vPg c1 hkd, r1, vX B.1, r2, nI_1, Option.bind_some, Option.toList_some, Option.toList_none, List.cons_append, List.nil_append, if_true, if_false, and_self, and_true, true_and, or_self, or_true, true_or, false_or, or_false, i10, i00, i01, i11, Nat.reduceAdd, st1_0, st1_c, st1_1i, st1_1r, st1_1n, st1_1u, st1_1J, st2_0, st2_c, st2_1i, st2_1r, st2_1n, st2_1u, st2_1J]
      exact ih1
    | some v =>
      have hv := B.2.2.2.2.2.1.2 _ _ hw
      rw [hw, oN_some] at r2
      by_cases w1 : nI (cnt (fun j => (w (subm (lg x (o + j)) (gr p (o + j)))).isSome) s) = k
      · have w2 : ¬ k < 0 := by rw [← w1]; exact nI_pos (by omega)
        have rh := rdV_hit (w := w) (U := fun j => subm (lg x j) (gr p j)) (o := o) (s := s) hw E (by omega) (by omega)
        have rh2 : rdV w (fun j => subm (lg x j) (gr p j)) o k E = nI v := by rw [← w1]; exact rh
        rw [if_neg w2, rh2]
        simp only [uX11_read_0, uX11_read_1, uX11_read_2, uX11_read_5, uX11_read_5N, uX11_read_7, uX11_read_8, uX11_read_9, uX11_read_12, uX11_read_12N, uX11_read_14, uX11_read_14N, uX11_read_16, uX11_read_16N, uX11_read_19, uX11_read_19N, uX11_read_21, uX11_read_21N, uX11_read_24, uX11_read_25, uX11_read_26, uX11_read_29, uX11_read_30, uX11_read_32, uX11_read_35, uX11_read_36, uX11_read_37, uX11_read_38, uX11_read_38N, uX11_read_40, uX11_read_40N, uX11_read_42, uX11_read_45, uX11_read_48, uX11_read_50, uX11_read_51, uX11_read_52, uX11_read_55, uX11_read_58, uX11_read_60, uX11_read_63, uX11_read_64, uX11_read_67, uX11_read_68, uX11_read_70, uX11_read_71, uX11_read_74, uX11_read_77, uX11_read_80, uX11_read_80N, uX11_read_82, uX11_read_85, uX11_read_86, uX11_read_87, uX11_read_90, uX11_read_90N, uX11_read_92, uX11_read_95, uX11_read_97, uX11_read_98, uX11_read_100, uX11_read_102, uX11_read_106, uX11_read_108, uX11_read_111, uX11_read_112, uX11_read_115, uX11_read_115N, uX11_read_117, uX11_read_117N, uX11_read_119, uX11_read_121, uX11_read_124, uX11_read_127, uX11_read_129, uX11_read_131, uX11_read_133, uX11_read_136, uX11_read_138, uX11_read_139, uX11_read_142, uX11_read_144, uX11_read_145, uX11_read_148, uX11_read_151, uX11_read_154, uX11_read_155, uX11_read_156, uX11_read_159, uX11_read_161, uX11_read_164, uX11_read_166, q1, gX0 hX, vPg c1 hkd, r1, vX B.1, r2, ne9 (show v < 2 ^ 31 by omega), w1, Option.bind_some, Option.toList_some, Option.toList_none, List.cons_append, List.nil_append, if_true, if_false, and_self, and_true, true_and, or_self, or_true, true_or, false_or, or_false, i10, i00, i01, i11, Nat.reduceAdd, st1_0, st1_c, st1_1i, st1_1r, st1_1n, st1_1u, st1_1J, st2_0, st2_c, st2_1i, st2_1r, st2_1n, st2_1u, st2_1J]
      · have ec : cnt (fun j => (w (subm (lg x (o + j)) (gr p (o + j)))).isSome) (s + 1) = cnt (fun j => (w (subm (lg x (o + j)) (gr p (o + j)))).isSome) s + 1 := by
          rw [cnt_s, hw]
          rfl
        have ih1 := ih (s + 1) (some (.int (nI v))) (by omega) (fun j hj hsj => by
          by_cases z : j = s
          · subst z
            exact w1
          · exact H j (by omega) hsj)
        rw [ec] at ih1
        simp only [uX11_read_0, uX11_read_1, uX11_read_2, uX11_read_5, uX11_read_5N, uX11_read_7, uX11_read_8, uX11_read_9, uX11_read_12, uX11_read_12N, uX11_read_14, uX11_read_14N, uX11_read_16, uX11_read_16N, uX11_read_19, uX11_read_19N, uX11_read_21, uX11_read_21N, uX11_read_24, uX11_read_25, uX11_read_26, uX11_read_29, uX11_read_30, uX11_read_32, uX11_read_35, uX11_read_36, uX11_read_37, uX11_read_38, uX11_read_38N, uX11_read_40, uX11_read_40N, uX11_read_42, uX11_read_45, uX11_read_48, uX11_read_50, uX11_read_51, uX11_read_52, uX11_read_55, uX11_read_58, uX11_read_60, uX11_read_63, uX11_read_64, uX11_read_67, uX11_read_68, uX11_read_70, uX11_read_71, uX11_read_74, uX11_read_77, uX11_read_80, uX11_read_80N, uX11_read_82, uX11_read_85, uX11_read_86, uX11_read_87, uX11_read_90, uX11_read_90N, uX11_read_92, uX11_read_95, uX11_read_97, uX11_read_98, uX11_read_100, uX11_read_102, uX11_read_106, uX11_read_108, uX11_read_111, uX11_read_112, uX11_read_115, uX11_read_115N, uX11_read_117, uX11_read_117N, uX11_read_119, uX11_read_121, uX11_read_124, uX11_read_127, uX11_read_129, uX11_read_131, uX11_read_133, uX11_read_136, uX11_read_138, uX11_read_139, uX11_read_142, uX11_read_144, uX11_read_145, uX11_read_148, uX11_read_151, uX11_read_154, uX11_read_155, uX11_read_156, uX11_read_159, uX11_read_161, uX11_read_164, uX11_read_166, q1, gX0 hX, vPg c1 hkd, r1, vX B.1, r2, ne9 (show v < 2 ^ 31 by omega), w1, nI_1, Option.bind_some, Option.toList_some, Option.toList_none, List.cons_append, List.nil_append, if_true, if_false, and_self, and_true, true_and, or_self, or_true, true_or, false_or, or_false, i10, i00, i01, i11, Nat.reduceAdd, st1_0, st1_c, st1_1i, st1_1r, st1_1n, st1_1u, st1_1J, st2_0, st2_c, st2_1i, st2_1r, st2_1n, st2_1u, st2_1J]
        exact ih1
theorem c_read {k : Int32} (hX : rO h 4 = some (10, xF dr xp xl xf)) (B : BookC h c w wt) (K : LettersC h L lp ld ln lg la ma) (G : PagesC h P pk pp pn pl gr pa qa) (D : DrF h dr da t) (ht : tdOK t) (hx : x < L) (hp : p < P) (hk : -1 ≤ k.toInt ∧ k.toInt ≤ 11) (hW : ¬ (pn p - pk p < ln x ∨ wrF (t 0) (t 2).isSome (fun j => subm (lg x j) (gr p j)) (ln x))) : run 110 (0, [some (.ref 4), some (.int (nI x)), some (.int (nI p)), some (.int k), none, none, none, none, none, none, none], [], h) = some (some (.int (if k < 0 then nI (cnt (fun j => (w (subm (lg x (offB (t 0) + j)) (gr p (offB (t 0) + j)))).isSome) (ln x - (if (t 2).isSome then 1 else 0) - offB (t 0))) else rdV w (fun j => subm (lg x j) (gr p j)) (offB (t 0)) k (ln x - (if (t 2).isSome then 1 else 0) - offB (t 0)))), h) := by
  have r1 := c_letterAt hX K hx
  have r2 := c_pageAt hX G hp
  have r3 := c_isWrong_n hX K G D ht hx hp hW
  have h4 : ¬ k.toInt < -1 := by omega
  have h5 : k.toInt < 12 := by omega
  have a1 := D.choose_spec.1
  have r4 := c_beginning D
  have r5 := c_hasCheck D ht
  have r6 := c_lsize K hx
  obtain ⟨b1, _⟩ := K.2.1 x hx
  have hl := K.2.2.2.2.2.1 x
  have hl1 := K.2.2.2.2.2.2.2 x hx
  have hu : ln x ≤ pn p := by
    have : ¬ pn p - pk p < ln x := fun z => hW (Or.inl z)
    omega
  have em : nI (ln x) - 1 = nI (ln x - 1) := by
    rw [show ln x = ln x - 1 + 1 by omega, nI_s1]
    rfl
  have hto : ∃ E, E = ln x - (if (t 2).isSome then 1 else 0) ∧ run 110 (0, [some (.ref 4), some (.int (nI x)), some (.int (nI p)), some (.int k), none, none, none, none, none, none, none], [], h) = run 110 (104, [some (.ref 4), some (.int (nI x)), some (.int (nI p)), some (.int k), some (.ref (la x)), some (.ref (pa p)), some (.int (nI (offB (t 0)))), some (.int (nI E)), some (.int (nI 0)), some (.int (nI (offB (t 0)))), none], [], h) := by
    rcases bcase (t 2).isSome with ck | ck
    · rw [ck, show bI true = 1 from rfl] at r5
      refine ⟨ln x - 1, by rw [ck]; rfl, ?_⟩
      cases hb : t 0 with
      | none =>
        rw [hb, oN_none] at r4
        simp only [uX11_read_0, uX11_read_1, uX11_read_2, uX11_read_5, uX11_read_5N, uX11_read_7, uX11_read_8, uX11_read_9, uX11_read_12, uX11_read_12N, uX11_read_14, uX11_read_14N, uX11_read_16, uX11_read_16N, uX11_read_19, uX11_read_19N, uX11_read_21, uX11_read_21N, uX11_read_24, uX11_read_25, uX11_read_26, uX11_read_29, uX11_read_30, uX11_read_32, uX11_read_35, uX11_read_36, uX11_read_37, uX11_read_38, uX11_read_38N, uX11_read_40, uX11_read_40N, uX11_read_42, uX11_read_45, uX11_read_48, uX11_read_50, uX11_read_51, uX11_read_52, uX11_read_55, uX11_read_58, uX11_read_60, uX11_read_63, uX11_read_64, uX11_read_67, uX11_read_68, uX11_read_70, uX11_read_71, uX11_read_74, uX11_read_77, uX11_read_80, uX11_read_80N, uX11_read_82, uX11_read_85, uX11_read_86, uX11_read_87, uX11_read_90, uX11_read_90N, uX11_read_92, uX11_read_95, uX11_read_97, uX11_read_98, uX11_read_100, uX11_read_102, uX11_read_106, uX11_read_108, uX11_read_111, uX11_read_112, uX11_read_115, uX11_read_115N, uX11_read_117, uX11_read_117N, uX11_read_119, uX11_read_121, uX11_read_124, uX11_read_127, uX11_read_129, uX11_read_131, uX11_read_133, uX11_read_136, uX11_read_138, uX11_read_139, uX11_read_142, uX11_read_144, uX11_read_145, uX11_read_148, uX11_read_151, uX11_read_154, uX11_read_155, uX11_read_156, uX11_read_159, uX11_read_161, uX11_read_164, uX11_read_166, vX hX, r1, r2, ltI (x := k) (b := -1) (n := -1) (by decide), ltI (x := k) (b := 12) (n := 12) (by decide), h4, h5, r3, gX6 hX, vX a1, r4, r5, vX b1, r6, em, Option.bind_some, Option.toList_some, Option.toList_none, List.cons_append, List.nil_append, if_true, if_false, and_self, and_true, true_and, or_self, or_true, true_or, false_or, or_false, i10, i00, i01, i11, Nat.reduceAdd, st1_0, st1_c, st1_1i, st1_1r, st1_1n, st1_1u, st1_1J, st2_0, st2_c, st2_1i, st2_1r, st2_1n, st2_1u, st2_1J]
        rfl
      | some g =>
        have hgb := ht.1 g hb
        rw [hb, oN_some] at r4
        simp only [uX11_read_0, uX11_read_1, uX11_read_2, uX11_read_5, uX11_read_5N, uX11_read_7, uX11_read_8, uX11_read_9, uX11_read_12, uX11_read_12N, uX11_read_14, uX11_read_14N, uX11_read_16, uX11_read_16N, uX11_read_19, uX11_read_19N, uX11_read_21, uX11_read_21N, uX11_read_24, uX11_read_25, uX11_read_26, uX11_read_29, uX11_read_30, uX11_read_32, uX11_read_35, uX11_read_36, uX11_read_37, uX11_read_38, uX11_read_38N, uX11_read_40, uX11_read_40N, uX11_read_42, uX11_read_45, uX11_read_48, uX11_read_50, uX11_read_51, uX11_read_52, uX11_read_55, uX11_read_58, uX11_read_60, uX11_read_63, uX11_read_64, uX11_read_67, uX11_read_68, uX11_read_70, uX11_read_71, uX11_read_74, uX11_read_77, uX11_read_80, uX11_read_80N, uX11_read_82, uX11_read_85, uX11_read_86, uX11_read_87, uX11_read_90, uX11_read_90N, uX11_read_92, uX11_read_95, uX11_read_97, uX11_read_98, uX11_read_100, uX11_read_102, uX11_read_106, uX11_read_108, uX11_read_111, uX11_read_112, uX11_read_115, uX11_read_115N, uX11_read_117, uX11_read_117N, uX11_read_119, uX11_read_121, uX11_read_124, uX11_read_127, uX11_read_129, uX11_read_131, uX11_read_133, uX11_read_136, uX11_read_138, uX11_read_139, uX11_read_142, uX11_read_144, uX11_read_145, uX11_read_148, uX11_read_151, uX11_read_154, uX11_read_155, uX11_read_156, uX11_read_159, uX11_read_161, uX11_read_164, uX11_read_166, vX hX, r1, r2, ltI (x := k) (b := -1) (n := -1) (by decide), ltI (x := k) (b := 12) (n := 12) (by decide), h4, h5, r3, gX6 hX, vX a1, r4, ne9 (show g < 2 ^ 31 by omega), r5, vX b1, r6, em, Option.bind_some, Option.toList_some, Option.toList_none, List.cons_append, List.nil_append, if_true, if_false, and_self, and_true, true_and, or_self, or_true, true_or, false_or, or_false, i10, i00, i01, i11, Nat.reduceAdd, st1_0, st1_c, st1_1i, st1_1r, st1_1n, st1_1u, st1_1J, st2_0, st2_c, st2_1i, st2_1r, st2_1n, st2_1u, st2_1J]
        rfl
    · rw [ck, show bI false = 0 from rfl] at r5
      refine ⟨ln x, by rw [ck]; rfl, ?_⟩
      cases hb : t 0 with
      | none =>
        rw [hb, oN_none] at r4
        simp only [uX11_read_0, uX11_read_1, uX11_read_2, uX11_read_5, uX11_read_5N, uX11_read_7, uX11_read_8, uX11_read_9, uX11_read_12, uX11_read_12N, uX11_read_14, uX11_read_14N, uX11_read_16, uX11_read_16N, uX11_read_19, uX11_read_19N, uX11_read_21, uX11_read_21N, uX11_read_24, uX11_read_25, uX11_read_26, uX11_read_29, uX11_read_30, uX11_read_32, uX11_read_35, uX11_read_36, uX11_read_37, uX11_read_38, uX11_read_38N, uX11_read_40, uX11_read_40N, uX11_read_42, uX11_read_45, uX11_read_48, uX11_read_50, uX11_read_51, uX11_read_52, uX11_read_55, uX11_read_58, uX11_read_60, uX11_read_63, uX11_read_64, uX11_read_67, uX11_read_68, uX11_read_70, uX11_read_71, uX11_read_74, uX11_read_77, uX11_read_80, uX11_read_80N, uX11_read_82, uX11_read_85, uX11_read_86, uX11_read_87, uX11_read_90, uX11_read_90N, uX11_read_92, uX11_read_95, uX11_read_97, uX11_read_98, uX11_read_100, uX11_read_102, uX11_read_106, uX11_read_108, uX11_read_111, uX11_read_112, uX11_read_115, uX11_read_115N, uX11_read_117, uX11_read_117N, uX11_read_119, uX11_read_121, uX11_read_124, uX11_read_127, uX11_read_129, uX11_read_131, uX11_read_133, uX11_read_136, uX11_read_138, uX11_read_139, uX11_read_142, uX11_read_144, uX11_read_145, uX11_read_148, uX11_read_151, uX11_read_154, uX11_read_155, uX11_read_156, uX11_read_159, uX11_read_161, uX11_read_164, uX11_read_166, vX hX, r1, r2, ltI (x := k) (b := -1) (n := -1) (by decide), ltI (x := k) (b := 12) (n := 12) (by decide), h4, h5, r3, gX6 hX, vX a1, r4, r5, vX b1, r6, Option.bind_some, Option.toList_some, Option.toList_none, List.cons_append, List.nil_append, if_true, if_false, and_self, and_true, true_and, or_self, or_true, true_or, false_or, or_false, i10, i00, i01, i11, Nat.reduceAdd, st1_0, st1_c, st1_1i, st1_1r, st1_1n, st1_1u, st1_1J, st2_0, st2_c, st2_1i, st2_1r, st2_1n, st2_1u, st2_1J]
        rfl
      | some g =>
        have hgb := ht.1 g hb
        rw [hb, oN_some] at r4
        simp only [uX11_read_0, uX11_read_1, uX11_read_2, uX11_read_5, uX11_read_5N, uX11_read_7, uX11_read_8, uX11_read_9, uX11_read_12, uX11_read_12N, uX11_read_14, uX11_read_14N, uX11_read_16, uX11_read_16N, uX11_read_19, uX11_read_19N, uX11_read_21, uX11_read_21N, uX11_read_24, uX11_read_25, uX11_read_26, uX11_read_29, uX11_read_30, uX11_read_32, uX11_read_35, uX11_read_36, uX11_read_37, uX11_read_38, uX11_read_38N, uX11_read_40, uX11_read_40N, uX11_read_42, uX11_read_45, uX11_read_48, uX11_read_50, uX11_read_51, uX11_read_52, uX11_read_55, uX11_read_58, uX11_read_60, uX11_read_63, uX11_read_64, uX11_read_67, uX11_read_68, uX11_read_70, uX11_read_71, uX11_read_74, uX11_read_77, uX11_read_80, uX11_read_80N, uX11_read_82, uX11_read_85, uX11_read_86, uX11_read_87, uX11_read_90, uX11_read_90N, uX11_read_92, uX11_read_95, uX11_read_97, uX11_read_98, uX11_read_100, uX11_read_102, uX11_read_106, uX11_read_108, uX11_read_111, uX11_read_112, uX11_read_115, uX11_read_115N, uX11_read_117, uX11_read_117N, uX11_read_119, uX11_read_121, uX11_read_124, uX11_read_127, uX11_read_129, uX11_read_131, uX11_read_133, uX11_read_136, uX11_read_138, uX11_read_139, uX11_read_142, uX11_read_144, uX11_read_145, uX11_read_148, uX11_read_151, uX11_read_154, uX11_read_155, uX11_read_156, uX11_read_159, uX11_read_161, uX11_read_164, uX11_read_166, vX hX, r1, r2, ltI (x := k) (b := -1) (n := -1) (by decide), ltI (x := k) (b := 12) (n := 12) (by decide), h4, h5, r3, gX6 hX, vX a1, r4, ne9 (show g < 2 ^ 31 by omega), r5, vX b1, r6, Option.bind_some, Option.toList_some, Option.toList_none, List.cons_append, List.nil_append, if_true, if_false, and_self, and_true, true_and, or_self, or_true, true_or, false_or, or_false, i10, i00, i01, i11, Nat.reduceAdd, st1_0, st1_c, st1_1i, st1_1r, st1_1n, st1_1u, st1_1J, st2_0, st2_c, st2_1i, st2_1r, st2_1n, st2_1u, st2_1J]
        rfl
  obtain ⟨E, hE, hto⟩ := hto
  rw [← hE]
  have hob : offB (t 0) ≤ 1 := by unfold offB; split <;> omega
  by_cases w1 : offB (t 0) ≤ E
  · have lp1 := c_read_loop (k := k) (o := offB (t 0)) (E := E - offB (t 0)) hX B K G hx hp hk (by omega) hu (E - offB (t 0)) 0 none (by omega) (fun j hj => by omega)
    rw [show offB (t 0) + (E - offB (t 0)) = E by omega] at lp1
    rw [hto]
    exact lp1
  · have e0 : E - offB (t 0) = 0 := by omega
    have q1 : nI E ≤ nI (offB (t 0)) := nI_le (by omega) (by omega)
    rw [e0, hto]
    show _ = some (some (Value.int (if k < 0 then nI 0 else -9)), h)
    rw [uX11_read_104]
    by_cases w2 : k = -1
    · subst w2
      have w3 : (-1 : Int32) < 0 := by decide
      rw [if_pos w3]
      simp only [uX11_read_0, uX11_read_1, uX11_read_2, uX11_read_5, uX11_read_5N, uX11_read_7, uX11_read_8, uX11_read_9, uX11_read_12, uX11_read_12N, uX11_read_14, uX11_read_14N, uX11_read_16, uX11_read_16N, uX11_read_19, uX11_read_19N, uX11_read_21, uX11_read_21N, uX11_read_24, uX11_read_25, uX11_read_26, uX11_read_29, uX11_read_30, uX11_read_32, uX11_read_35, uX11_read_36, uX11_read_37, uX11_read_38, uX11_read_38N, uX11_read_40, uX11_read_40N, uX11_read_42, uX11_read_45, uX11_read_48, uX11_read_50, uX11_read_51, uX11_read_52, uX11_read_55, uX11_read_58, uX11_read_60, uX11_read_63, uX11_read_64, uX11_read_67, uX11_read_68, uX11_read_70, uX11_read_71, uX11_read_74, uX11_read_77, uX11_read_80, uX11_read_80N, uX11_read_82, uX11_read_85, uX11_read_86, uX11_read_87, uX11_read_90, uX11_read_90N, uX11_read_92, uX11_read_95, uX11_read_97, uX11_read_98, uX11_read_100, uX11_read_102, uX11_read_106, uX11_read_108, uX11_read_111, uX11_read_112, uX11_read_115, uX11_read_115N, uX11_read_117, uX11_read_117N, uX11_read_119, uX11_read_121, uX11_read_124, uX11_read_127, uX11_read_129, uX11_read_131, uX11_read_133, uX11_read_136, uX11_read_138, uX11_read_139, uX11_read_142, uX11_read_144, uX11_read_145, uX11_read_148, uX11_read_151, uX11_read_154, uX11_read_155, uX11_read_156, uX11_read_159, uX11_read_161, uX11_read_164, uX11_read_166, q1, Option.bind_some, Option.toList_some, Option.toList_none, List.cons_append, List.nil_append, if_true, if_false, and_self, and_true, true_and, or_self, or_true, true_or, false_or, or_false, i10, i00, i01, i11, Nat.reduceAdd, st1_0, st1_c, st1_1i, st1_1r, st1_1n, st1_1u, st1_1J, st2_0, st2_c, st2_1i, st2_1r, st2_1n, st2_1u, st2_1J]
    · have w3 : ¬ k < 0 := by
        rw [lt0I]
        intro z
        have : k.toInt = (-1 : Int32).toInt := by rw [show (-1 : Int32).toInt = -1 by decide]; omega
        exact w2 (Int32.toInt_inj.mp this)
      rw [if_neg w3]
      simp only [uX11_read_0, uX11_read_1, uX11_read_2, uX11_read_5, uX11_read_5N, uX11_read_7, uX11_read_8, uX11_read_9, uX11_read_12, uX11_read_12N, uX11_read_14, uX11_read_14N, uX11_read_16, uX11_read_16N, uX11_read_19, uX11_read_19N, uX11_read_21, uX11_read_21N, uX11_read_24, uX11_read_25, uX11_read_26, uX11_read_29, uX11_read_30, uX11_read_32, uX11_read_35, uX11_read_36, uX11_read_37, uX11_read_38, uX11_read_38N, uX11_read_40, uX11_read_40N, uX11_read_42, uX11_read_45, uX11_read_48, uX11_read_50, uX11_read_51, uX11_read_52, uX11_read_55, uX11_read_58, uX11_read_60, uX11_read_63, uX11_read_64, uX11_read_67, uX11_read_68, uX11_read_70, uX11_read_71, uX11_read_74, uX11_read_77, uX11_read_80, uX11_read_80N, uX11_read_82, uX11_read_85, uX11_read_86, uX11_read_87, uX11_read_90, uX11_read_90N, uX11_read_92, uX11_read_95, uX11_read_97, uX11_read_98, uX11_read_100, uX11_read_102, uX11_read_106, uX11_read_108, uX11_read_111, uX11_read_112, uX11_read_115, uX11_read_115N, uX11_read_117, uX11_read_117N, uX11_read_119, uX11_read_121, uX11_read_124, uX11_read_127, uX11_read_129, uX11_read_131, uX11_read_133, uX11_read_136, uX11_read_138, uX11_read_139, uX11_read_142, uX11_read_144, uX11_read_145, uX11_read_148, uX11_read_151, uX11_read_154, uX11_read_155, uX11_read_156, uX11_read_159, uX11_read_161, uX11_read_164, uX11_read_166, q1, w2, Option.bind_some, Option.toList_some, Option.toList_none, List.cons_append, List.nil_append, if_true, if_false, and_self, and_true, true_and, or_self, or_true, true_or, false_or, or_false, i10, i00, i01, i11, Nat.reduceAdd, st1_0, st1_c, st1_1i, st1_1r, st1_1n, st1_1u, st1_1J, st2_0, st2_c, st2_1i, st2_1r, st2_1n, st2_1u, st2_1J]
end LC2
