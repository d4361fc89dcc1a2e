theorem cpy_ok {i : MI} {pc : Nat} {L : AL} {h : AH} {a0 a1 n0 n1 sp dp n : Nat} {f g : Nat → Int32} (r0 : rI h a0 = some (n0, f)) (r1 : rI h a1 = some (n1, g)) (h0 : 4 ≤ a0) (h1 : 4 ≤ a1) (hs : sp + n ≤ n0) (hd : dp + n ≤ n1) (b0 : n0 < 2 ^ 31) (b1 : n1 < 2 ^ 31) (hi : 1 ≤ i.2.2.2.2.2.1 ∧ 20 ≤ i.2.2.2.2.2.2.1) : copyA i pc L [.int (nI n), .int (nI dp), .ref a1, .int (nI sp), .ref a0] h = mk (pc + 3) L [] (wr h a1 (aI n1 (va_cpy f g sp dp n))) := by
  unfold copyA
  simp only [r0, r1]
  rw [nI_clamp (show n < 2 ^ 31 by omega), nI_clamp (show sp < 2 ^ 31 by omega), nI_clamp (show dp < 2 ^ 31 by omega)]
  exact if_pos ⟨nI_pos (by omega), nI_pos (by omega), nI_pos (by omega), hs, hd, h1, h0, rfl, hi⟩
section SCX
variable {h : AH} {dr : Nat} {xp xl xf : Int32} {sz : Nat → Option Nat} {sl : Nat → Nat} {cm : Nat → Int32} {k : Nat}
theorem c_faultOfCell {lane i : Int32} (S : SheetC h sz sl cm) (hk : k < 4) : run 83 (0, [some (.ref (28 + 2 * k)), some (.int lane), some (.int i), none], [], h) = some (some (.int (cellF (sz k) (sl k) lane i)), h) := by
  obtain ⟨a1, a2, a3, a4⟩ := S
  obtain ⟨hS, f, hf, hc⟩ := a2 k hk
  have h4 : 4 ≤ 28 + 2 * k := by omega
  have hlt := a4 k
  have e2 : ¬ (2 : Int32) = 0 := by decide
  unfold cellF
  cases hs : sz k with
  | none =>
    rw [hs] at hS
    have hS : rO h (28 + 2 * k) = some (6, [.ref (29 + 2 * k), .int (-1), .int 0]) := hS
    have r1 := c_isNothing hS h4
    rw [if_pos rfl] at r1
    simp only [uX7_faultOfCell_0, uX7_faultOfCell_1, uX7_faultOfCell_2, uX7_faultOfCell_5, uX7_faultOfCell_6, uX7_faultOfCell_7, uX7_faultOfCell_10, uX7_faultOfCell_11, uX7_faultOfCell_12, uX7_faultOfCell_13, uX7_faultOfCell_14, uX7_faultOfCell_17, uX7_faultOfCell_20, uX7_faultOfCell_21, uX7_faultOfCell_24, uX7_faultOfCell_25, uX7_faultOfLane_0, uX7_faultOfLane_1, uX7_faultOfLane_4, uX7_faultOfLane_7, uX7_faultOfLane_8, uX7_faultOfLane_9, uX7_faultOfLane_10, uX7_faultOfLane_13, uX7_faultOfLane_14, uX7_faultOfLane_17, uX7_faultOfLane_18, uX7_faultOfLane_21, uX7_faultOfLane_22, vX hS, r1, Option.bind_some, Option.toList_some, Option.toList_none, List.cons_append, List.nil_append, if_true, if_false, and_self, and_true, true_and, or_self, or_true, true_or, false_or, or_false, i10, i00, i01, i11, Nat.reduceAdd, st1_0, st1_c, st1_1i, st1_1r, st1_1n, st1_1u, st1_1J, st2_0, st2_c, st2_1i, st2_1r, st2_1n, st2_1u, st2_1J]
  | some m =>
    have hm := a3 k m hs
    rw [hs] at hS
    have hS : rO h (28 + 2 * k) = some (6, [.ref (29 + 2 * k), .int (nI (sl k)), .int (nI m)]) := hS
    have r1 := c_isNothing hS h4
    rw [if_neg (ne1 (show sl k < 2 ^ 31 by omega))] at r1
    have r2 := c_hasCell (x := i) hS h4
    rw [nI_toInt (show m < 2 ^ 31 by omega)] at r2
    simp only
    by_cases q : nI (sl k) = lane
    · rw [if_pos q]
      by_cases q2 : 0 ≤ i.toInt ∧ i.toInt ≤ (m : Int) - 1
      · rw [if_pos q2]
        rw [if_pos (by omega)] at r2
        simp only [uX7_faultOfCell_0, uX7_faultOfCell_1, uX7_faultOfCell_2, uX7_faultOfCell_5, uX7_faultOfCell_6, uX7_faultOfCell_7, uX7_faultOfCell_10, uX7_faultOfCell_11, uX7_faultOfCell_12, uX7_faultOfCell_13, uX7_faultOfCell_14, uX7_faultOfCell_17, uX7_faultOfCell_20, uX7_faultOfCell_21, uX7_faultOfCell_24, uX7_faultOfCell_25, uX7_faultOfLane_0, uX7_faultOfLane_1, uX7_faultOfLane_4, uX7_faultOfLane_7, uX7_faultOfLane_8, uX7_faultOfLane_9, uX7_faultOfLane_10, uX7_faultOfLane_13, uX7_faultOfLane_14, uX7_faultOfLane_17, uX7_faultOfLane_18, uX7_faultOfLane_21, uX7_faultOfLane_22, vX hS, r1, gS1 hS h4, q, r2, Option.bind_some, Option.toList_some, Option.toList_none, List.cons_append, List.nil_append, if_true, if_false, and_self, and_true, true_and, or_self, or_true, true_or, false_or, or_false, i10, i00, i01, i11, Nat.reduceAdd, st1_0, st1_c, st1_1i, st1_1r, st1_1n, st1_1u, st1_1J, st2_0, st2_c, st2_1i, st2_1r, st2_1n, st2_1u, st2_1J]
      · rw [if_neg q2]
        rw [if_neg (by omega)] at r2
        simp only [uX7_faultOfCell_0, uX7_faultOfCell_1, uX7_faultOfCell_2, uX7_faultOfCell_5, uX7_faultOfCell_6, uX7_faultOfCell_7, uX7_faultOfCell_10, uX7_faultOfCell_11, uX7_faultOfCell_12, uX7_faultOfCell_13, uX7_faultOfCell_14, uX7_faultOfCell_17, uX7_faultOfCell_20, uX7_faultOfCell_21, uX7_faultOfCell_24, uX7_faultOfCell_25, uX7_faultOfLane_0, uX7_faultOfLane_1, uX7_faultOfLane_4, uX7_faultOfLane_7, uX7_faultOfLane_8, uX7_faultOfLane_9, uX7_faultOfLane_10, uX7_faultOfLane_13, uX7_faultOfLane_14, uX7_faultOfLane_17, uX7_faultOfLane_18, uX7_faultOfLane_21, uX7_faultOfLane_22, vX hS, r1, gS1 hS h4, q, r2, Option.bind_some, Option.toList_some, Option.toList_none, List.cons_append, List.nil_append, if_true, if_false, and_self, and_true, true_and, or_self, or_true, true_or, false_or, or_false, i10, i00, i01, i11, Nat.reduceAdd, st1_0, st1_c, st1_1i, st1_1r, st1_1n, st1_1u, st1_1J, st2_0, st2_c, st2_1i, st2_1r, st2_1n, st2_1u, st2_1J]
    · rw [if_neg q]
      simp only [uX7_faultOfCell_0, uX7_faultOfCell_1, uX7_faultOfCell_2, uX7_faultOfCell_5, uX7_faultOfCell_6, uX7_faultOfCell_7, uX7_faultOfCell_10, uX7_faultOfCell_11, uX7_faultOfCell_12, uX7_faultOfCell_13, uX7_faultOfCell_14, uX7_faultOfCell_17, uX7_faultOfCell_20, uX7_faultOfCell_21, uX7_faultOfCell_24, uX7_faultOfCell_25, uX7_faultOfLane_0, uX7_faultOfLane_1, uX7_faultOfLane_4, uX7_faultOfLane_7, uX7_faultOfLane_8, uX7_faultOfLane_9, uX7_faultOfLane_10, uX7_faultOfLane_13, uX7_faultOfLane_14, uX7_faultOfLane_17, uX7_faultOfLane_18, uX7_faultOfLane_21, uX7_faultOfLane_22, vX hS, r1, gS1 hS h4, q, e2, Option.bind_some, Option.toList_some, Option.toList_none, List.cons_append, List.nil_append, if_true, if_false, and_self, and_true, true_and, or_self, or_true, true_or, false_or, or_false, i10, i00, i01, i11, Nat.reduceAdd, st1_0, st1_c, st1_1i, st1_1r, st1_1n, st1_1u, st1_1J, st2_0, st2_c, st2_1i, st2_1r, st2_1n, st2_1u, st2_1J]
theorem c_cell_u {x i lane : Int32} (hX : rO h 4 = some (10, xF dr xp xl xf)) (S : SheetC h sz sl cm) (hx : ¬ (0 ≤ x.toInt ∧ x.toInt ≤ 3) ∨ ¬ (0 ≤ lane.toInt ∧ lane.toInt ≤ 2)) : run 129 (0, [some (.ref 4), some (.int x), some (.int i), some (.int lane), none, none], [], h) = some (some (.long (-9223372036854775808)), sf h 4 9 (.int 0)) := by
  have hX2 := sX9 (x := 0) hX
  by_cases h1 : 0 ≤ x.toInt ∧ x.toInt ≤ 3
  · have h2 := hx.resolve_left (fun q => q h1)
    obtain ⟨k, q1, q2, q3⟩ := inR h1
    subst q3
    simp only [uX11_cell_0, uX11_cell_1, uX11_cell_2, uX11_cell_5, uX11_cell_6, uX11_cell_7, uX11_cell_10, uX11_cell_10N, uX11_cell_12, uX11_cell_12N, uX11_cell_14, uX11_cell_14N, uX11_cell_17, uX11_cell_18, uX11_cell_19, uX11_cell_22, uX11_cell_25, uX11_cell_28, uX11_cell_29, uX11_cell_29N, uX11_cell_31, uX11_cell_32, uX11_cell_33, uX11_cell_36, uX11_cell_38, uX11_cell_40, uX11_cell_43, uX11_cell_44, uX11_cell_46, uX11_cell_49, uX11_cell_52, uX11_cell_53, uX11_cell_53N, uX11_cell_55, uX11_cell_56, uX11_cell_59, uX11_cell_60, pX9 hX, vX hX2, c_sheetAt hX2 S.f4 (show k < 4 by omega), c_bl3, if_neg h2, Option.bind_some, Option.toList_some, Option.toList_none, List.cons_append, List.nil_append, if_true, if_false, and_self, and_true, true_and, or_self, or_true, true_or, false_or, or_false, i10, i00, i01, i11, Nat.reduceAdd, st1_0, st1_c, st1_1i, st1_1r, st1_1n, st1_1u, st1_1J, st2_0, st2_c, st2_1i, st2_1r, st2_1n, st2_1u, st2_1J]
  · simp only [uX11_cell_0, uX11_cell_1, uX11_cell_2, uX11_cell_5, uX11_cell_6, uX11_cell_7, uX11_cell_10, uX11_cell_10N, uX11_cell_12, uX11_cell_12N, uX11_cell_14, uX11_cell_14N, uX11_cell_17, uX11_cell_18, uX11_cell_19, uX11_cell_22, uX11_cell_25, uX11_cell_28, uX11_cell_29, uX11_cell_29N, uX11_cell_31, uX11_cell_32, uX11_cell_33, uX11_cell_36, uX11_cell_38, uX11_cell_40, uX11_cell_43, uX11_cell_44, uX11_cell_46, uX11_cell_49, uX11_cell_52, uX11_cell_53, uX11_cell_53N, uX11_cell_55, uX11_cell_56, uX11_cell_59, uX11_cell_60, pX9 hX, vX hX2, c_sheetAt_n h1, Option.bind_some, Option.toList_some, Option.toList_none, List.cons_append, List.nil_append, if_true, if_false, and_self, and_true, true_and, or_self, or_true, true_or, false_or, or_false, i10, i00, i01, i11, Nat.reduceAdd, st1_0, st1_c, st1_1i, st1_1r, st1_1n, st1_1u, st1_1J, st2_0, st2_c, st2_1i, st2_1r, st2_1n, st2_1u, st2_1J]
theorem c_cell {i lane : Int32} (hX : rO h 4 = some (10, xF dr xp xl xf)) (S : SheetC h sz sl cm) (hk : k < 4) (hl : 0 ≤ lane.toInt ∧ lane.toInt ≤ 2) : run 129 (0, [some (.ref 4), some (.int (nI k)), some (.int i), some (.int lane), none, none], [], h) = if cellF (sz k) (sl k) lane i = 0 then some (some (.long (cm (60 * k + i.toInt.toNat)).toInt64), sf h 4 9 (.int 0)) else some (some (.long (-9223372036854775808)), sf (sf h 4 9 (.int 0)) 4 9 (.int (cellF (sz k) (sl k) lane i))) := by
  have hX2 := sX9 (x := 0) hX
  have S2 : SheetC (sf h 4 9 (.int 0)) sz sl cm := S.f4
  obtain ⟨hS, f, hf, hc⟩ := S2.2.1 k hk
  have r1 := c_faultOfCell (lane := lane) (i := i) S2 hk
  by_cases q : cellF (sz k) (sl k) lane i = 0
  · rw [if_pos q]
    rw [q] at r1
    have q2 : ∃ m i0, sz k = some m ∧ i = nI i0 ∧ i0 < m := by
      unfold cellF at q
      cases hs : sz k with
      | none =>
        rw [hs] at q
        have q : (1 : Int32) = 0 := q
        exact absurd q (by decide)
      | some m =>
        rw [hs] at q
        simp only at q
        split at q
        · split at q
          · rename_i w
            obtain ⟨i0, w1, w2, w3⟩ := inR w
            exact ⟨m, i0, rfl, w3, by omega⟩
          · exact absurd q (by decide)
        · exact absurd q (by decide)
    obtain ⟨m, i0, hs, e, hi⟩ := q2
    have hm := S.2.2.1 k m hs
    subst e
    have r2 := c_atS S2 hk hs hi
    rw [nI_toInt (by omega)]
    simp only [uX11_cell_0, uX11_cell_1, uX11_cell_2, uX11_cell_5, uX11_cell_6, uX11_cell_7, uX11_cell_10, uX11_cell_10N, uX11_cell_12, uX11_cell_12N, uX11_cell_14, uX11_cell_14N, uX11_cell_17, uX11_cell_18, uX11_cell_19, uX11_cell_22, uX11_cell_25, uX11_cell_28, uX11_cell_29, uX11_cell_29N, uX11_cell_31, uX11_cell_32, uX11_cell_33, uX11_cell_36, uX11_cell_38, uX11_cell_40, uX11_cell_43, uX11_cell_44, uX11_cell_46, uX11_cell_49, uX11_cell_52, uX11_cell_53, uX11_cell_53N, uX11_cell_55, uX11_cell_56, uX11_cell_59, uX11_cell_60, pX9 hX, vX hX2, c_sheetAt hX2 S2 hk, c_bl3, hl, vX hS, r1, r2, Option.bind_some, Option.toList_some, Option.toList_none, List.cons_append, List.nil_append, if_true, if_false, and_self, and_true, true_and, or_self, or_true, true_or, false_or, or_false, i10, i00, i01, i11, Nat.reduceAdd, st1_0, st1_c, st1_1i, st1_1r, st1_1n, st1_1u, st1_1J, st2_0, st2_c, st2_1i, st2_1r, st2_1n, st2_1u, st2_1J]
    rfl
  · rw [if_neg q]
    simp only [uX11_cell_0, uX11_cell_1, uX11_cell_2, uX11_cell_5, uX11_cell_6, uX11_cell_7, uX11_cell_10, uX11_cell_10N, uX11_cell_12, uX11_cell_12N, uX11_cell_14, uX11_cell_14N, uX11_cell_17, uX11_cell_18, uX11_cell_19, uX11_cell_22, uX11_cell_25, uX11_cell_28, uX11_cell_29, uX11_cell_29N, uX11_cell_31, uX11_cell_32, uX11_cell_33, uX11_cell_36, uX11_cell_38, uX11_cell_40, uX11_cell_43, uX11_cell_44, uX11_cell_46, uX11_cell_49, uX11_cell_52, uX11_cell_53, uX11_cell_53N, uX11_cell_55, uX11_cell_56, uX11_cell_59, uX11_cell_60, pX9 hX, vX hX2, c_sheetAt hX2 S2 hk, c_bl3, hl, vX hS, r1, q, pX9 hX2, Option.bind_some, Option.toList_some, Option.toList_none, List.cons_append, List.nil_append, if_true, if_false, and_self, and_true, true_and, or_self, or_true, true_or, false_or, or_false, i10, i00, i01, i11, Nat.reduceAdd, st1_0, st1_c, st1_1i, st1_1r, st1_1n, st1_1u, st1_1J, st2_0, st2_c, st2_1i, st2_1r, st2_1n, st2_1u, st2_1J]
theorem c_copy_u {x i o j n : Int32} (hX : rO h 4 = some (10, xF dr xp xl xf)) (S : SheetC h sz sl cm) (hx : ¬ (0 ≤ x.toInt ∧ x.toInt ≤ 3) ∨ ¬ (0 ≤ o.toInt ∧ o.toInt ≤ 3)) : run 130 (0, [some (.ref 4), some (.int x), some (.int i), some (.int o), some (.int j), some (.int n), none, none], [], h) = some (some (.int (-1)), sf h 4 9 (.int 0)) := by
  have hX2 := sX9 (x := 0) hX
  by_cases h1 : 0 ≤ x.toInt ∧ x.toInt ≤ 3
  · have h2 := hx.resolve_left (fun q => q h1)
    obtain ⟨k, q1, q2, q3⟩ := inR h1
    subst q3
    simp only [uX11_copy_0, uX11_copy_1, uX11_copy_2, uX11_copy_5, uX11_copy_6, uX11_copy_7, uX11_copy_10, uX11_copy_10N, uX11_copy_12, uX11_copy_13, uX11_copy_14, uX11_copy_17, uX11_copy_17N, uX11_copy_19, uX11_copy_19N, uX11_copy_21, uX11_copy_21N, uX11_copy_24, uX11_copy_24N, uX11_copy_26, uX11_copy_26N, uX11_copy_29, uX11_copy_30, uX11_copy_31, uX11_copy_31N, uX11_copy_33, uX11_copy_36, uX11_copy_39, uX11_copy_39N, uX11_copy_41, uX11_copy_44, uX11_copy_47, uX11_copy_48, uX11_copy_49, uX11_copy_52, uX11_copy_53, uX11_copy_53N, uX11_copy_55, uX11_copy_55N, uX11_copy_57, uX11_copy_60, uX11_copy_63, uX11_copy_64, uX11_copy_65, uX11_copy_68, uX11_copy_69, uX11_copy_69N, uX11_copy_71, uX11_copy_72, uX11_copy_74, uX11_copy_77, uX11_copy_80, uX11_copy_80N, uX11_copy_82, uX11_copy_84, uX11_copy_86, uX11_copy_89, uX11_copy_92, uX11_copy_93, uX11_copy_94, uX11_copy_97, uX11_copy_98, uX11_copy_98N, uX11_copy_100, uX11_copy_102, uX11_copy_102N, uX11_copy_104, uX11_copy_105, uX11_copy_107, uX11_copy_110, uX11_copy_112, pX9 hX, vX hX2, c_sheetAt hX2 S.f4 (show k < 4 by omega), c_sheetAt_n h2, Option.bind_some, Option.toList_some, Option.toList_none, List.cons_append, List.nil_append, if_true, if_false, and_self, and_true, true_and, or_self, or_true, true_or, false_or, or_false, i10, i00, i01, i11, Nat.reduceAdd, st1_0, st1_c, st1_1i, st1_1r, st1_1n, st1_1u, st1_1J, st2_0, st2_c, st2_1i, st2_1r, st2_1n, st2_1u, st2_1J]
  · by_cases h2 : 0 ≤ o.toInt ∧ o.toInt ≤ 3
    · obtain ⟨k, q1, q2, q3⟩ := inR h2
      subst q3
      simp only [uX11_copy_0, uX11_copy_1, uX11_copy_2, uX11_copy_5, uX11_copy_6, uX11_copy_7, uX11_copy_10, uX11_copy_10N, uX11_copy_12, uX11_copy_13, uX11_copy_14, uX11_copy_17, uX11_copy_17N, uX11_copy_19, uX11_copy_19N, uX11_copy_21, uX11_copy_21N, uX11_copy_24, uX11_copy_24N, uX11_copy_26, uX11_copy_26N, uX11_copy_29, uX11_copy_30, uX11_copy_31, uX11_copy_31N, uX11_copy_33, uX11_copy_36, uX11_copy_39, uX11_copy_39N, uX11_copy_41, uX11_copy_44, uX11_copy_47, uX11_copy_48, uX11_copy_49, uX11_copy_52, uX11_copy_53, uX11_copy_53N, uX11_copy_55, uX11_copy_55N, uX11_copy_57, uX11_copy_60, uX11_copy_63, uX11_copy_64, uX11_copy_65, uX11_copy_68, uX11_copy_69, uX11_copy_69N, uX11_copy_71, uX11_copy_72, uX11_copy_74, uX11_copy_77, uX11_copy_80, uX11_copy_80N, uX11_copy_82, uX11_copy_84, uX11_copy_86, uX11_copy_89, uX11_copy_92, uX11_copy_93, uX11_copy_94, uX11_copy_97, uX11_copy_98, uX11_copy_98N, uX11_copy_100, uX11_copy_102, uX11_copy_102N, uX11_copy_104, uX11_copy_105, uX11_copy_107, uX11_copy_110, uX11_copy_112, pX9 hX, vX hX2, c_sheetAt hX2 S.f4 (show k < 4 by omega), c_sheetAt_n h1, Option.bind_some, Option.toList_some, Option.toList_none, List.cons_append, List.nil_append, if_true, if_false, and_self, and_true, true_and, or_self, or_true, true_or, false_or, or_false, i10, i00, i01, i11, Nat.reduceAdd, st1_0, st1_c, st1_1i, st1_1r, st1_1n, st1_1u, st1_1J, st2_0, st2_c, st2_1i, st2_1r, st2_1n, st2_1u, st2_1J]
    · simp only [uX11_copy_0, uX11_copy_1, uX11_copy_2, uX11_copy_5, uX11_copy_6, uX11_copy_7, uX11_copy_10, uX11_copy_10N, uX11_copy_12, uX11_copy_13, uX11_copy_14, uX11_copy_17, uX11_copy_17N, uX11_copy_19, uX11_copy_19N, uX11_copy_21, uX11_copy_21N, uX11_copy_24, uX11_copy_24N, uX11_copy_26, uX11_copy_26N, uX11_copy_29, uX11_copy_30, uX11_copy_31, uX11_copy_31N, uX11_copy_33, uX11_copy_36, uX11_copy_39, uX11_copy_39N, uX11_copy_41, uX11_copy_44, uX11_copy_47, uX11_copy_48, uX11_copy_49, uX11_copy_52, uX11_copy_53, uX11_copy_53N, uX11_copy_55, uX11_copy_55N, uX11_copy_57, uX11_copy_60, uX11_copy_63, uX11_copy_64, uX11_copy_65, uX11_copy_68, uX11_copy_69, uX11_copy_69N, uX11_copy_71, uX11_copy_72, uX11_copy_74, uX11_copy_77, uX11_copy_80, uX11_copy_80N, uX11_copy_82, uX11_copy_84, uX11_copy_86, uX11_copy_89, uX11_copy_92, uX11_copy_93, uX11_copy_94, uX11_copy_97, uX11_copy_98, uX11_copy_98N, uX11_copy_100, uX11_copy_102, uX11_copy_102N, uX11_copy_104, uX11_copy_105, uX11_copy_107, uX11_copy_110, uX11_copy_112, pX9 hX, vX hX2, c_sheetAt_n h2, c_sheetAt_n h1, Option.bind_some, Option.toList_some, Option.toList_none, List.cons_append, List.nil_append, if_true, if_false, and_self, and_true, true_and, or_self, or_true, true_or, false_or, or_false, i10, i00, i01, i11, Nat.reduceAdd, st1_0, st1_c, st1_1i, st1_1r, st1_1n, st1_1u, st1_1J, st2_0, st2_c, st2_1i, st2_1r, st2_1n, st2_1u, st2_1J]
theorem c_copy_f {i j n : Int32} {o : Nat} (hX : rO h 4 = some (10, xF dr xp xl xf)) (S : SheetC h sz sl cm) (hk : k < 4) (ho : o < 4) (hf : ¬ copF (sz k) (sz o) (sl k) (sl o) i j n = 0) : run 130 (0, [some (.ref 4), some (.int (nI k)), some (.int i), some (.int (nI o)), some (.int j), some (.int n), none, none], [], h) = some (some (.int (-10 - copF (sz k) (sz o) (sl k) (sl o) i j n)), sf (sf h 4 9 (.int 0)) 4 9 (.int (copF (sz k) (sz o) (sl k) (sl o) i j n))) := by
  have hX2 := sX9 (x := 0) hX
  have S2 : SheetC (sf h 4 9 (.int 0)) sz sl cm := S.f4
  have r1 := c_sheetAt hX2 S2 hk
  have r2 := c_sheetAt hX2 S2 ho
  obtain ⟨hS, f, hff, hc⟩ := S2.2.1 k hk
  obtain ⟨hT, g, hg, hcg⟩ := S2.2.1 o ho
  have hl1 := S.2.2.2 k
  have hl2 := S.2.2.2 o
  have n1 := c_isNothing hS (by omega)
  have n2 := c_isNothing hT (by omega)
  have lo := c_isOfLane hS (by omega) hT (by omega)
  cases hs : sz k with
  | none =>
    rw [hs] at n1 hS
    have e : slC none (sl k) = -1 := rfl
    rw [e, if_pos rfl] at n1
    have ec : copF none (sz o) (sl k) (sl o) i j n = 1 := by unfold copF; cases sz o <;> rfl
    rw [ec]
    simp only [uX11_copy_0, uX11_copy_1, uX11_copy_2, uX11_copy_5, uX11_copy_6, uX11_copy_7, uX11_copy_10, uX11_copy_10N, uX11_copy_12, uX11_copy_13, uX11_copy_14, uX11_copy_17, uX11_copy_17N, uX11_copy_19, uX11_copy_19N, uX11_copy_21, uX11_copy_21N, uX11_copy_24, uX11_copy_24N, uX11_copy_26, uX11_copy_26N, uX11_copy_29, uX11_copy_30, uX11_copy_31, uX11_copy_31N, uX11_copy_33, uX11_copy_36, uX11_copy_39, uX11_copy_39N, uX11_copy_41, uX11_copy_44, uX11_copy_47, uX11_copy_48, uX11_copy_49, uX11_copy_52, uX11_copy_53, uX11_copy_53N, uX11_copy_55, uX11_copy_55N, uX11_copy_57, uX11_copy_60, uX11_copy_63, uX11_copy_64, uX11_copy_65, uX11_copy_68, uX11_copy_69, uX11_copy_69N, uX11_copy_71, uX11_copy_72, uX11_copy_74, uX11_copy_77, uX11_copy_80, uX11_copy_80N, uX11_copy_82, uX11_copy_84, uX11_copy_86, uX11_copy_89, uX11_copy_92, uX11_copy_93, uX11_copy_94, uX11_copy_97, uX11_copy_98, uX11_copy_98N, uX11_copy_100, uX11_copy_102, uX11_copy_102N, uX11_copy_104, uX11_copy_105, uX11_copy_107, uX11_copy_110, uX11_copy_112, pX9 hX, vX hX2, r1, r2, vX hS, n1, c_comeTo hX2, Option.bind_some, Option.toList_some, Option.toList_none, List.cons_append, List.nil_append, if_true, if_false, and_self, and_true, true_and, or_self, or_true, true_or, false_or, or_false, i10, i00, i01, i11, Nat.reduceAdd, st1_0, st1_c, st1_1i, st1_1r, st1_1n, st1_1u, st1_1J, st2_0, st2_c, st2_1i, st2_1r, st2_1n, st2_1u, st2_1J]
  | some m =>
    have hm := S.2.2.1 k m hs
    rw [hs] at n1 hS hf
    have e : ¬ slC (some m) (sl k) = -1 := ne1 (by omega)
    rw [if_neg e] at n1
    cases ht : sz o with
    | none =>
      rw [ht] at n2 hT
      have e : slC none (sl o) = -1 := rfl
      rw [e, if_pos rfl] at n2
      have ec : copF (some m) none (sl k) (sl o) i j n = 1 := rfl
      rw [ec]
      simp only [uX11_copy_0, uX11_copy_1, uX11_copy_2, uX11_copy_5, uX11_copy_6, uX11_copy_7, uX11_copy_10, uX11_copy_10N, uX11_copy_12, uX11_copy_13, uX11_copy_14, uX11_copy_17, uX11_copy_17N, uX11_copy_19, uX11_copy_19N, uX11_copy_21, uX11_copy_21N, uX11_copy_24, uX11_copy_24N, uX11_copy_26, uX11_copy_26N, uX11_copy_29, uX11_copy_30, uX11_copy_31, uX11_copy_31N, uX11_copy_33, uX11_copy_36, uX11_copy_39, uX11_copy_39N, uX11_copy_41, uX11_copy_44, uX11_copy_47, uX11_copy_48, uX11_copy_49, uX11_copy_52, uX11_copy_53, uX11_copy_53N, uX11_copy_55, uX11_copy_55N, uX11_copy_57, uX11_copy_60, uX11_copy_63, uX11_copy_64, uX11_copy_65, uX11_copy_68, uX11_copy_69, uX11_copy_69N, uX11_copy_71, uX11_copy_72, uX11_copy_74, uX11_copy_77, uX11_copy_80, uX11_copy_80N, uX11_copy_82, uX11_copy_84, uX11_copy_86, uX11_copy_89, uX11_copy_92, uX11_copy_93, uX11_copy_94, uX11_copy_97, uX11_copy_98, uX11_copy_98N, uX11_copy_100, uX11_copy_102, uX11_copy_102N, uX11_copy_104, uX11_copy_105, uX11_copy_107, uX11_copy_110, uX11_copy_112, pX9 hX, vX hX2, r1, r2, vX hS, vX hT, n1, n2, c_comeTo hX2, Option.bind_some, Option.toList_some, Option.toList_none, List.cons_append, List.nil_append, if_true, if_false, and_self, and_true, true_and, or_self, or_true, true_or, false_or, or_false, i10, i00, i01, i11, Nat.reduceAdd, st1_0, st1_c, st1_1i, st1_1r, st1_1n, st1_1u, st1_1J, st2_0, st2_c, st2_1i, st2_1r, st2_1n, st2_1u, st2_1J]
    | some q =>
      have hq := S.2.2.1 o q ht
      rw [ht] at n2 hT hf
      have e : ¬ slC (some q) (sl o) = -1 := ne1 (by omega)
      rw [if_neg e] at n2
      rw [hs, ht] at lo
      have lo : run 78 (0, [some (.ref (28 + 2 * k)), some (.ref (28 + 2 * o))], [], sf h 4 9 (.int 0)) = some (some (.int (if nI (sl k) = nI (sl o) then 1 else 0)), sf h 4 9 (.int 0)) := lo
      have hS' : rO (sf h 4 9 (.int 0)) (28 + 2 * k) = some (6, [.ref (29 + 2 * k), .int (nI (sl k)), .int (nI m)]) := hS
      have hT' : rO (sf h 4 9 (.int 0)) (28 + 2 * o) = some (6, [.ref (29 + 2 * o), .int (nI (sl o)), .int (nI q)]) := hT
      have c1 := c_hasCells (i := i) (n := n) hS' (by omega) hm
      have c2 := c_hasCells (i := j) (n := n) hT' (by omega) hq
      unfold copF at hf ⊢
      simp only at hf ⊢
      by_cases w : nI (sl k) = nI (sl o)
      · rw [if_pos w] at hf lo ⊢
        by_cases w2 : i.toInt < 0 ∨ n.toInt < 0 ∨ (m : Int) < i.toInt + n.toInt ∨ j.toInt < 0 ∨ (q : Int) < j.toInt + n.toInt
        · rw [if_pos w2]
          by_cases w3 : 0 ≤ n.toInt ∧ 0 ≤ i.toInt ∧ i.toInt + n.toInt ≤ m
          · rw [if_pos w3] at c1
            rw [if_neg (by omega)] at c2
            simp only [uX11_copy_0, uX11_copy_1, uX11_copy_2, uX11_copy_5, uX11_copy_6, uX11_copy_7, uX11_copy_10, uX11_copy_10N, uX11_copy_12, uX11_copy_13, uX11_copy_14, uX11_copy_17, uX11_copy_17N, uX11_copy_19, uX11_copy_19N, uX11_copy_21, uX11_copy_21N, uX11_copy_24, uX11_copy_24N, uX11_copy_26, uX11_copy_26N, uX11_copy_29, uX11_copy_30, uX11_copy_31, uX11_copy_31N, uX11_copy_33, uX11_copy_36, uX11_copy_39, uX11_copy_39N, uX11_copy_41, uX11_copy_44, uX11_copy_47, uX11_copy_48, uX11_copy_49, uX11_copy_52, uX11_copy_53, uX11_copy_53N, uX11_copy_55, uX11_copy_55N, uX11_copy_57, uX11_copy_60, uX11_copy_63, uX11_copy_64, uX11_copy_65, uX11_copy_68, uX11_copy_69, uX11_copy_69N, uX11_copy_71, uX11_copy_72, uX11_copy_74, uX11_copy_77, uX11_copy_80, uX11_copy_80N, uX11_copy_82, uX11_copy_84, uX11_copy_86, uX11_copy_89, uX11_copy_92, uX11_copy_93, uX11_copy_94, uX11_copy_97, uX11_copy_98, uX11_copy_98N, uX11_copy_100, uX11_copy_102, uX11_copy_102N, uX11_copy_104, uX11_copy_105, uX11_copy_107, uX11_copy_110, uX11_copy_112, pX9 hX, vX hX2, r1, r2, vX hS, vX hT, n1, n2, lo, c1, c2, c_comeTo hX2, Option.bind_some, Option.toList_some, Option.toList_none, List.cons_append, List.nil_append, if_true, if_false, and_self, and_true, true_and, or_self, or_true, true_or, false_or, or_false, i10, i00, i01, i11, Nat.reduceAdd, st1_0, st1_c, st1_1i, st1_1r, st1_1n, st1_1u, st1_1J, st2_0, st2_c, st2_1i, st2_1r, st2_1n, st2_1u, st2_1J]
          · rw [if_neg w3] at c1
            simp only [uX11_copy_0, uX11_copy_1, uX11_copy_2, uX11_copy_5, uX11_copy_6, uX11_copy_7, uX11_copy_10, uX11_copy_10N, uX11_copy_12, uX11_copy_13, uX11_copy_14, uX11_copy_17, uX11_copy_17N, uX11_copy_19, uX11_copy_19N, uX11_copy_21, uX11_copy_21N, uX11_copy_24, uX11_copy_24N, uX11_copy_26, uX11_copy_26N, uX11_copy_29, uX11_copy_30, uX11_copy_31, uX11_copy_31N, uX11_copy_33, uX11_copy_36, uX11_copy_39, uX11_copy_39N, uX11_copy_41, uX11_copy_44, uX11_copy_47, uX11_copy_48, uX11_copy_49, uX11_copy_52, uX11_copy_53, uX11_copy_53N, uX11_copy_55, uX11_copy_55N, uX11_copy_57, uX11_copy_60, uX11_copy_63, uX11_copy_64, uX11_copy_65, uX11_copy_68, uX11_copy_69, uX11_copy_69N, uX11_copy_71, uX11_copy_72, uX11_copy_74, uX11_copy_77, uX11_copy_80, uX11_copy_80N, uX11_copy_82, uX11_copy_84, uX11_copy_86, uX11_copy_89, uX11_copy_92, uX11_copy_93, uX11_copy_94, uX11_copy_97, uX11_copy_98, uX11_copy_98N, uX11_copy_100, uX11_copy_102, uX11_copy_102N, uX11_copy_104, uX11_copy_105, uX11_copy_107, uX11_copy_110, uX11_copy_112, pX9 hX, vX hX2, r1, r2, vX hS, vX hT, n1, n2, lo, c1, c_comeTo hX2, Option.bind_some, Option.toList_some, Option.toList_none, List.cons_append, List.nil_append, if_true, if_false, and_self, and_true, true_and, or_self, or_true, true_or, false_or, or_false, i10, i00, i01, i11, Nat.reduceAdd, st1_0, st1_c, st1_1i, st1_1r, st1_1n, st1_1u, st1_1J, st2_0, st2_c, st2_1i, st2_1r, st2_1n, st2_1u, st2_1J]
        · rw [if_neg w2] at hf
          exact absurd rfl hf
      · rw [if_neg w] at lo ⊢
        simp only [uX11_copy_0, uX11_copy_1, uX11_copy_2, uX11_copy_5, uX11_copy_6, uX11_copy_7, uX11_copy_10, uX11_copy_10N, uX11_copy_12, uX11_copy_13, uX11_copy_14, uX11_copy_17, uX11_copy_17N, uX11_copy_19, uX11_copy_19N, uX11_copy_21, uX11_copy_21N, uX11_copy_24, uX11_copy_24N, uX11_copy_26, uX11_copy_26N, uX11_copy_29, uX11_copy_30, uX11_copy_31, uX11_copy_31N, uX11_copy_33, uX11_copy_36, uX11_copy_39, uX11_copy_39N, uX11_copy_41, uX11_copy_44, uX11_copy_47, uX11_copy_48, uX11_copy_49, uX11_copy_52, uX11_copy_53, uX11_copy_53N, uX11_copy_55, uX11_copy_55N, uX11_copy_57, uX11_copy_60, uX11_copy_63, uX11_copy_64, uX11_copy_65, uX11_copy_68, uX11_copy_69, uX11_copy_69N, uX11_copy_71, uX11_copy_72, uX11_copy_74, uX11_copy_77, uX11_copy_80, uX11_copy_80N, uX11_copy_82, uX11_copy_84, uX11_copy_86, uX11_copy_89, uX11_copy_92, uX11_copy_93, uX11_copy_94, uX11_copy_97, uX11_copy_98, uX11_copy_98N, uX11_copy_100, uX11_copy_102, uX11_copy_102N, uX11_copy_104, uX11_copy_105, uX11_copy_107, uX11_copy_110, uX11_copy_112, pX9 hX, vX hX2, r1, r2, vX hS, vX hT, n1, n2, lo, c_comeTo hX2, Option.bind_some, Option.toList_some, Option.toList_none, List.cons_append, List.nil_append, if_true, if_false, and_self, and_true, true_and, or_self, or_true, true_or, false_or, or_false, i10, i00, i01, i11, Nat.reduceAdd, st1_0, st1_c, st1_1i, st1_1r, st1_1n, st1_1u, st1_1J, st2_0, st2_c, st2_1i, st2_1r, st2_1n, st2_1u, st2_1J]
theorem c_copy {o i0 j0 n0 m q : Nat} (hX : rO h 4 = some (10, xF dr xp xl xf)) (S : SheetC h sz sl cm) (hk : k < 4) (ho : o < 4) (hs : sz k = some m) (ht : sz o = some q) (he : nI (sl k) = nI (sl o)) (hi : i0 + n0 ≤ m) (hj : j0 + n0 ≤ q) : ∃ h1, run 130 (0, [some (.ref 4), some (.int (nI k)), some (.int (nI i0)), some (.int (nI o)), some (.int (nI j0)), some (.int (nI n0)), none, none], [], h) = some (some (.int (nI n0)), h1) ∧ Dif [4, 29 + 2 * o] h h1 ∧ rO h1 4 = some (10, xF dr xp xl 0) ∧ SheetC h1 sz sl (cmZ cm (60 * o + j0) n0 (fun x => cm (60 * k + i0 + x))) := by
  have hX2 := sX9 (x := 0) hX
  have S2 : SheetC (sf h 4 9 (.int 0)) sz sl cm := S.f4
  have r1 := c_sheetAt hX2 S2 hk
  have r2 := c_sheetAt hX2 S2 ho
  obtain ⟨hS, f, hff, hc⟩ := S2.2.1 k hk
  obtain ⟨hT, g, hg, hcg⟩ := S2.2.1 o ho
  have hl1 := S.2.2.2 k
  have hl2 := S.2.2.2 o
  have hm := S.2.2.1 k m hs
  have hq := S.2.2.1 o q ht
  have n1 := c_isNothing hS (by omega)
  have n2 := c_isNothing hT (by omega)
  have lo := c_isOfLane hS (by omega) hT (by omega)
  rw [hs] at n1 hS
  rw [ht] at n2 hT
  rw [if_neg (show ¬ slC (some m) (sl k) = -1 from ne1 (by omega))] at n1
  rw [if_neg (show ¬ slC (some q) (sl o) = -1 from ne1 (by omega))] at n2
  rw [hs, ht, if_pos (show slC (some m) (sl k) = slC (some q) (sl o) from he)] at lo
  have hS' : rO (sf h 4 9 (.int 0)) (28 + 2 * k) = some (6, [.ref (29 + 2 * k), .int (nI (sl k)), .int (nI m)]) := hS
  have hT' : rO (sf h 4 9 (.int 0)) (28 + 2 * o) = some (6, [.ref (29 + 2 * o), .int (nI (sl o)), .int (nI q)]) := hT
  have c1 := c_hasCells (i := nI i0) (n := nI n0) hS' (by omega) hm
  have c2 := c_hasCells (i := nI j0) (n := nI n0) hT' (by omega) hq
  rw [if_pos (by rw [nI_toInt (by omega), nI_toInt (by omega)]; omega)] at c1
  rw [if_pos (by rw [nI_toInt (by omega), nI_toInt (by omega)]; omega)] at c2
  have pp := pX9 (x := 0) hX
  generalize hh0 : sf h 4 9 (.int 0) = h0 at *
  have cp := cpy_ok (i := iX7_take) (pc := 32) (L := [some (.ref (28 + 2 * o)), some (.int (nI j0)), some (.ref (28 + 2 * k)), some (.int (nI i0)), some (.int (nI n0))]) (sp := i0) (dp := j0) (n := n0) hff hg (by omega) (by omega) (by omega) (by omega) (by decide) (by decide) (by decide)
  have tk : run 87 (0, [some (.ref (28 + 2 * o)), some (.int (nI j0)), some (.ref (28 + 2 * k)), some (.int (nI i0)), some (.int (nI n0))], [], h0) = some (none, wr h0 (29 + 2 * o) (aI 60 (va_cpy f g i0 j0 n0))) := by
    simp only [uX7_take_0, uX7_take_1, uX7_take_2, uX7_take_4, uX7_take_7, uX7_take_10, uX7_take_10N, uX7_take_11, uX7_take_12, uX7_take_14, uX7_take_17, uX7_take_20, uX7_take_20N, uX7_take_21, uX7_take_24, uX7_take_25, uX7_take_26, uX7_take_29, uX7_take_30, uX7_take_32, uX7_take_35, vX hT', vX hS', c1, c2, gS0 hT' (show 4 ≤ 28 + 2 * o by omega), gS0 hS' (show 4 ≤ 28 + 2 * k by omega), cp, Option.bind_some, Option.toList_some, Option.toList_none, List.cons_append, List.nil_append, if_true, if_false, and_self, and_true, true_and, or_self, or_true, true_or, false_or, or_false, i10, i00, i01, i11, Nat.reduceAdd, st1_0, st1_c, st1_1i, st1_1r, st1_1n, st1_1u, st1_1J, st2_0, st2_c, st2_1i, st2_1r, st2_1n, st2_1u, st2_1J]
    show run 87 (35, _) = _
    rw [uX7_take_35]
  have D0 : Dif [4, 29 + 2 * o] h h0 := by rw [← hh0]; exact difSf (by simp)
  generalize hh : wr h0 (29 + 2 * o) (aI 60 (va_cpy f g i0 j0 n0)) = h1 at tk
  have D1 : Dif [29 + 2 * o] h0 h1 := by
    rw [← hh]
    exact ⟨fun b hb => rd_wr_ne (fun w => hb (by rw [w]; simp)), rfl, rfl⟩
  refine ⟨h1, ?_, difT D0 ⟨fun b hb => D1.1 b (fun w => hb (by simp only [List.mem_cons, List.not_mem_nil, or_false] at w ⊢; omega)), D1.2⟩, ?_, ?_, fun p hp => ?_, S2.2.2⟩
  · simp only [uX11_copy_0, uX11_copy_1, uX11_copy_2, uX11_copy_5, uX11_copy_6, uX11_copy_7, uX11_copy_10, uX11_copy_10N, uX11_copy_12, uX11_copy_13, uX11_copy_14, uX11_copy_17, uX11_copy_17N, uX11_copy_19, uX11_copy_19N, uX11_copy_21, uX11_copy_21N, uX11_copy_24, uX11_copy_24N, uX11_copy_26, uX11_copy_26N, uX11_copy_29, uX11_copy_30, uX11_copy_31, uX11_copy_31N, uX11_copy_33, uX11_copy_36, uX11_copy_39, uX11_copy_39N, uX11_copy_41, uX11_copy_44, uX11_copy_47, uX11_copy_48, uX11_copy_49, uX11_copy_52, uX11_copy_53, uX11_copy_53N, uX11_copy_55, uX11_copy_55N, uX11_copy_57, uX11_copy_60, uX11_copy_63, uX11_copy_64, uX11_copy_65, uX11_copy_68, uX11_copy_69, uX11_copy_69N, uX11_copy_71, uX11_copy_72, uX11_copy_74, uX11_copy_77, uX11_copy_80, uX11_copy_80N, uX11_copy_82, uX11_copy_84, uX11_copy_86, uX11_copy_89, uX11_copy_92, uX11_copy_93, uX11_copy_94, uX11_copy_97, uX11_copy_98, uX11_copy_98N, uX11_copy_100, uX11_copy_102, uX11_copy_102N, uX11_copy_104, uX11_copy_105, uX11_copy_107, uX11_copy_110, uX11_copy_112, pp, vX hX2, r1, r2, vX hS, vX hT, n1, n2, lo, c1, c2, tk, Option.bind_some, Option.toList_some, Option.toList_none, List.cons_append, List.nil_append, if_true, if_false, and_self, and_true, true_and, or_self, or_true, true_or, false_or, or_false, i10, i00, i01, i11, Nat.reduceAdd, st1_0, st1_c, st1_1i, st1_1r, st1_1n, st1_1u, st1_1J, st2_0, st2_c, st2_1i, st2_1r, st2_1n, st2_1u, st2_1J]
  · rw [difO D1 (by simp only [List.mem_cons, List.not_mem_nil, or_false]; omega), hX2]
  · rw [difRR D1 (by simp only [List.mem_cons, List.not_mem_nil, or_false]; omega), S2.1]
  · obtain ⟨hSq, fq, hfq, hcq⟩ := S2.2.1 p hp
    rw [difO D1 (by simp only [List.mem_cons, List.not_mem_nil, or_false]; omega)]
    refine ⟨hSq, ?_⟩
    by_cases e : p = o
    · subst e
      refine ⟨_, by rw [← hh, rI_wr, if_pos rfl], fun m2 hm2 i hi2 => ?_⟩
      rw [ht] at hm2
      cases hm2
      unfold cmZ va_cpy
      by_cases w : j0 ≤ i ∧ i < j0 + n0
      · rw [if_pos w, if_pos (by omega), hc m hs _ (by omega)]
        congr 1
        omega
      · rw [if_neg w, if_neg (by omega), hcg q ht i hi2]
    · rw [difI D1 (by simp only [List.mem_cons, List.not_mem_nil, or_false]; omega)]
      refine ⟨fq, hfq, fun m2 hm2 i hi2 => ?_⟩
      have := S2.2.2.1 p m2 hm2
      unfold cmZ
      rw [hcq m2 hm2 i hi2, if_neg (by omega)]
end SCX
