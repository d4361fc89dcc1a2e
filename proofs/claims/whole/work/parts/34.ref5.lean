theorem vM {h : AH} {fs : List Value} (hM : rO h 36 = some (11, fs)) (l : Nat) : vc h [(11, l)] 36 = some l := vc_at hM (by simp [List.lookup])
section RP
variable {h : AH} {c : Nat → Option Nat}
theorem r_many_loop {x : Int32} (hok : ∀ u g, c u = some g → g < 100) (g1 : gf h [(11, 1)] 36 = some (.ref 37)) (a1 : rI h 37 = some (30, fun k => oN (c k))) : ∀ d u, u + d = 30 → run 222 (4, [some (.ref 36), some (.int x), some (.int (nI (cnt (fun u => (c u).isSome) u))), some (.int (nI u))], [], h) = run 222 (33, [some (.ref 36), some (.int x), some (.int (nI (cnt (fun u => (c u).isSome) 30))), some (.int (nI 30))], [], h) := by
  intro d
  induction d with
  | zero =>
    intro u hu
    have hu : u = 30 := by omega
    subst hu
    have c1 : (30 : Int32) ≤ nI 30 := by decide
    rw [uX12_many_4]
    simp only [uX12_many_5, uX12_many_7, c1, if_true, if_false, and_self, and_true, true_and, or_self, or_true, true_or, false_or, or_false, i10, i00, i01, i11]
  | succ d ih =>
    intro u hu
    have c1 : ¬ (30 : Int32) ≤ nI u := nI_ge (a := u) (b := 30) (by omega) (by decide)
    have ih1 := ih (u + 1) (by omega)
    have hg1 : gi h 37 (nI u) = some (oN (c u)) := gi_nI a1 (by omega) (by decide)
    rw [uX12_many_4]
    cases hc : c u with
    | none =>
      have e0 : nI (cnt (fun u => (c u).isSome) u) + 0 = nI (cnt (fun u => (c u).isSome) (u + 1)) := by
        show _ = nI (cnt _ u + if (c u).isSome then 1 else 0)
        rw [hc]
        exact nI_add _ 0
      have c2 : oN none < 0 := by decide
      rw [hc] at hg1
      simp only [uX12_many_0, uX12_many_1, uX12_many_2, uX12_many_3, uX12_many_5, uX12_many_7, uX12_many_10, uX12_many_11, uX12_many_12, uX12_many_15, uX12_many_16, uX12_many_17, uX12_many_20, uX12_many_21, uX12_many_24, uX12_many_25, uX12_many_26, uX12_many_27, uX12_many_30, uX12_many_37, uX12_many_38, uX12_many_41, uX12_many_42, uX12_many_43, uX12_many_46, uX12_many_47, uX12_many_50, uX12_many_53, uX12_many_54, uX12_many_55, uX12_many_58, uX12_many_59, uX12_many_62, uX12_many_65, uX12_many_66, uX12_many_67, uX12_many_70, uX12_many_71, uX12_many_74, uX12_many_77, uX12_many_79, g1, hg1, c1, c2, e0, nI_1, Option.bind_some, Option.toList_some, Option.toList_none, List.cons_append, List.nil_append, if_true, if_false, and_self, and_true, true_and, or_self, or_true, true_or, false_or, or_false, i10, i00, i01, i11, Nat.reduceAdd, st1_0, st1_c, st1_1i, st1_1r, st1_1n, st1_1u, st1_1J, st2_0, st2_c, st2_1i, st2_1r, st2_1n, st2_1u, st2_1J]
      exact ih1
    | some g =>
      have hg := hok u g hc
      have e0 : nI (cnt (fun u => (c u).isSome) u) + 1 = nI (cnt (fun u => (c u).isSome) (u + 1)) := by
        rw [nI_1]
        show _ = nI (cnt _ u + if (c u).isSome then 1 else 0)
        rw [hc]
        rfl
      have c2 : ¬ oN (some g) < 0 := nI_pos (by omega)
      rw [hc] at hg1
      simp only [uX12_many_0, uX12_many_1, uX12_many_2, uX12_many_3, uX12_many_5, uX12_many_7, uX12_many_10, uX12_many_11, uX12_many_12, uX12_many_15, uX12_many_16, uX12_many_17, uX12_many_20, uX12_many_21, uX12_many_24, uX12_many_25, uX12_many_26, uX12_many_27, uX12_many_30, uX12_many_37, uX12_many_38, uX12_many_41, uX12_many_42, uX12_many_43, uX12_many_46, uX12_many_47, uX12_many_50, uX12_many_53, uX12_many_54, uX12_many_55, uX12_many_58, uX12_many_59, uX12_many_62, uX12_many_65, uX12_many_66, uX12_many_67, uX12_many_70, uX12_many_71, uX12_many_74, uX12_many_77, uX12_many_79, g1, hg1, c1, c2, e0, nI_1, Option.bind_some, Option.toList_some, Option.toList_none, List.cons_append, List.nil_append, if_true, if_false, and_self, and_true, true_and, or_self, or_true, true_or, false_or, or_false, i10, i00, i01, i11, Nat.reduceAdd, st1_0, st1_c, st1_1i, st1_1r, st1_1n, st1_1u, st1_1J, st2_0, st2_c, st2_1i, st2_1r, st2_1n, st2_1u, st2_1J]
      exact ih1
theorem r_many {x : Int32} {pg lt bg : Nat} (hok : ∀ u g, c u = some g → g < 100) (g1 : gf h [(11, 1)] 36 = some (.ref 37)) (a1 : rI h 37 = some (30, fun k => oN (c k))) (g10 : gf h [(11, 10)] 36 = some (.int (nI pg))) (g16 : gf h [(11, 16)] 36 = some (.int (nI lt))) (g24 : gf h [(11, 24)] 36 = some (.int (nI bg))) : run 222 (0, [some (.ref 36), some (.int x), none, none], [], h) = some (some (.int (if x = 0 then nI (cnt (fun u => (c u).isSome) 30) else if x = 1 then nI pg else if x = 2 then nI lt else if x = 3 then nI bg else -2)), h) := by
  have hl := r_many_loop (x := x) hok g1 a1 30 0 rfl
  simp only [uX12_many_0, uX12_many_1, uX12_many_2, uX12_many_3, Nat.reduceAdd, st1_0, st1_c, st1_1i, st1_1r, st1_1n, st1_1u, st1_1J, st2_0, st2_c, st2_1i, st2_1r, st2_1n, st2_1u, st2_1J]
  refine hl.trans ?_
  by_cases h0 : x = 0
  · simp only [uX12_many_0, uX12_many_1, uX12_many_2, uX12_many_3, uX12_many_5, uX12_many_7, uX12_many_10, uX12_many_11, uX12_many_12, uX12_many_15, uX12_many_16, uX12_many_17, uX12_many_20, uX12_many_21, uX12_many_24, uX12_many_25, uX12_many_26, uX12_many_27, uX12_many_30, uX12_many_33, uX12_many_34, uX12_many_37, uX12_many_38, uX12_many_41, uX12_many_42, uX12_many_43, uX12_many_46, uX12_many_47, uX12_many_50, uX12_many_53, uX12_many_54, uX12_many_55, uX12_many_58, uX12_many_59, uX12_many_62, uX12_many_65, uX12_many_66, uX12_many_67, uX12_many_70, uX12_many_71, uX12_many_74, uX12_many_77, uX12_many_79, h0, if_true, if_false, and_self, and_true, true_and, or_self, or_true, true_or, false_or, or_false, i10, i00, i01, i11]
  · by_cases h1 : x = 1
    · simp only [uX12_many_0, uX12_many_1, uX12_many_2, uX12_many_3, uX12_many_5, uX12_many_7, uX12_many_10, uX12_many_11, uX12_many_12, uX12_many_15, uX12_many_16, uX12_many_17, uX12_many_20, uX12_many_21, uX12_many_24, uX12_many_25, uX12_many_26, uX12_many_27, uX12_many_30, uX12_many_33, uX12_many_34, uX12_many_37, uX12_many_38, uX12_many_41, uX12_many_42, uX12_many_43, uX12_many_46, uX12_many_47, uX12_many_50, uX12_many_53, uX12_many_54, uX12_many_55, uX12_many_58, uX12_many_59, uX12_many_62, uX12_many_65, uX12_many_66, uX12_many_67, uX12_many_70, uX12_many_71, uX12_many_74, uX12_many_77, uX12_many_79, h0, h1, g10, Option.bind_some, Option.toList_some, Option.toList_none, List.cons_append, List.nil_append, if_true, if_false, and_self, and_true, true_and, or_self, or_true, true_or, false_or, or_false, i10, i00, i01, i11]
    · by_cases h2 : x = 2
      · have e1 : ¬ (2 : Int32) = 0 := by decide
        have e2 : ¬ (2 : Int32) = 1 := by decide
        simp only [uX12_many_0, uX12_many_1, uX12_many_2, uX12_many_3, uX12_many_5, uX12_many_7, uX12_many_10, uX12_many_11, uX12_many_12, uX12_many_15, uX12_many_16, uX12_many_17, uX12_many_20, uX12_many_21, uX12_many_24, uX12_many_25, uX12_many_26, uX12_many_27, uX12_many_30, uX12_many_33, uX12_many_34, uX12_many_37, uX12_many_38, uX12_many_41, uX12_many_42, uX12_many_43, uX12_many_46, uX12_many_47, uX12_many_50, uX12_many_53, uX12_many_54, uX12_many_55, uX12_many_58, uX12_many_59, uX12_many_62, uX12_many_65, uX12_many_66, uX12_many_67, uX12_many_70, uX12_many_71, uX12_many_74, uX12_many_77, uX12_many_79, h2, e1, e2, g16, Option.bind_some, Option.toList_some, Option.toList_none, List.cons_append, List.nil_append, if_true, if_false, and_self, and_true, true_and, or_self, or_true, true_or, false_or, or_false, i10, i00, i01, i11]
      · by_cases h3 : x = 3
        · have e1 : ¬ (3 : Int32) = 0 := by decide
          have e2 : ¬ (3 : Int32) = 1 := by decide
          have e3 : ¬ (3 : Int32) = 2 := by decide
          simp only [uX12_many_0, uX12_many_1, uX12_many_2, uX12_many_3, uX12_many_5, uX12_many_7, uX12_many_10, uX12_many_11, uX12_many_12, uX12_many_15, uX12_many_16, uX12_many_17, uX12_many_20, uX12_many_21, uX12_many_24, uX12_many_25, uX12_many_26, uX12_many_27, uX12_many_30, uX12_many_33, uX12_many_34, uX12_many_37, uX12_many_38, uX12_many_41, uX12_many_42, uX12_many_43, uX12_many_46, uX12_many_47, uX12_many_50, uX12_many_53, uX12_many_54, uX12_many_55, uX12_many_58, uX12_many_59, uX12_many_62, uX12_many_65, uX12_many_66, uX12_many_67, uX12_many_70, uX12_many_71, uX12_many_74, uX12_many_77, uX12_many_79, h3, e1, e2, e3, g24, Option.bind_some, Option.toList_some, Option.toList_none, List.cons_append, List.nil_append, if_true, if_false, and_self, and_true, true_and, or_self, or_true, true_or, false_or, or_false, i10, i00, i01, i11]
        · simp only [uX12_many_0, uX12_many_1, uX12_many_2, uX12_many_3, uX12_many_5, uX12_many_7, uX12_many_10, uX12_many_11, uX12_many_12, uX12_many_15, uX12_many_16, uX12_many_17, uX12_many_20, uX12_many_21, uX12_many_24, uX12_many_25, uX12_many_26, uX12_many_27, uX12_many_30, uX12_many_33, uX12_many_34, uX12_many_37, uX12_many_38, uX12_many_41, uX12_many_42, uX12_many_43, uX12_many_46, uX12_many_47, uX12_many_50, uX12_many_53, uX12_many_54, uX12_many_55, uX12_many_58, uX12_many_59, uX12_many_62, uX12_many_65, uX12_many_66, uX12_many_67, uX12_many_70, uX12_many_71, uX12_many_74, uX12_many_77, uX12_many_79, h0, h1, h2, h3, Option.bind_some, Option.toList_some, Option.toList_none, List.cons_append, List.nil_append, if_true, if_false, and_self, and_true, true_and, or_self, or_true, true_or, false_or, or_false, i10, i00, i01, i11]
theorem r_bag_u {w d n : Int32} (hw : ¬ (0 ≤ w.toInt ∧ w.toInt ≤ 5)) : run 181 (0, [some (.ref 36), some (.int w), some (.int d), some (.int n)], [], h) = some (some (.int (-1)), h) := by
  simp only [uX12_bag_0, uX12_bag_1, uX12_bag_4, uX12_bag_7, uX12_bag_8, uX12_bag_9, uX12_bag_10, uX12_bag_11, uX12_bag_14, uX12_bag_17, uX12_bag_18, uX12_bag_19, uX12_bag_20, uX12_bag_23, uX12_bag_26, uX12_bag_29, uX12_bag_31, uX12_bag_32, uX12_bag_33, uX12_bag_36, uX12_bag_38, uX12_bag_41, uX12_bag_43, uX12_bag_44, uX12_bag_45, uX12_bag_48, uX12_bag_49, uX12_bag_52, uX12_bag_53, uX12_bag_54, uX12_bag_55, uX12_bag_58, uX12_bag_59, uX12_bag_62, uX12_bag_63, uX12_bag_64, uX12_bag_65, uX12_bag_68, uX12_bag_69, uX12_bag_72, uX12_bag_73, uX12_bag_74, uX12_bag_75, uX12_bag_76, uX12_bag_79, uX12_bag_80, uX12_bag_81, uX12_bag_84, uX12_bag_85, uX12_bag_88, r_noPost, hw, Option.bind_some, Option.toList_some, Option.toList_none, List.cons_append, List.nil_append, if_true, if_false, and_self, and_true, true_and, or_self, or_true, true_or, false_or, or_false, i10, i00, i01, i11]
theorem r_bag_o {k : Nat} {d n : Int32} (hk : k < 6) (hM : ∀ l, vc h [(11, l)] 36 = some l) (hd : ¬ (0 ≤ d.toInt ∧ d.toInt ≤ 99) ∨ ¬ (1 ≤ n.toInt ∧ n.toInt ≤ 99)) : run 181 (0, [some (.ref 36), some (.int (nI k)), some (.int d), some (.int n)], [], h) = some (some (.int (-2)), h) := by
  have h1 : 0 ≤ (nI k).toInt ∧ (nI k).toInt ≤ 5 := nI_rng (by omega) (by omega)
  by_cases hd1 : 0 ≤ d.toInt ∧ d.toInt ≤ 99
  · have hn : ¬ (1 ≤ n.toInt ∧ n.toInt ≤ 99) := hd.resolve_left (fun q => q hd1)
    simp only [uX12_bag_0, uX12_bag_1, uX12_bag_4, uX12_bag_7, uX12_bag_8, uX12_bag_9, uX12_bag_10, uX12_bag_11, uX12_bag_14, uX12_bag_17, uX12_bag_18, uX12_bag_19, uX12_bag_20, uX12_bag_23, uX12_bag_26, uX12_bag_29, uX12_bag_31, uX12_bag_32, uX12_bag_33, uX12_bag_36, uX12_bag_38, uX12_bag_41, uX12_bag_43, uX12_bag_44, uX12_bag_45, uX12_bag_48, uX12_bag_49, uX12_bag_52, uX12_bag_53, uX12_bag_54, uX12_bag_55, uX12_bag_58, uX12_bag_59, uX12_bag_62, uX12_bag_63, uX12_bag_64, uX12_bag_65, uX12_bag_68, uX12_bag_69, uX12_bag_72, uX12_bag_73, uX12_bag_74, uX12_bag_75, uX12_bag_76, uX12_bag_79, uX12_bag_80, uX12_bag_81, uX12_bag_84, uX12_bag_85, uX12_bag_88, r_noPost, h1, hM, r_isDay, hd1, r_in_1_99, hn, Option.bind_some, Option.toList_some, Option.toList_none, List.cons_append, List.nil_append, if_true, if_false, and_self, and_true, true_and, or_self, or_true, true_or, false_or, or_false, i10, i00, i01, i11]
  · simp only [uX12_bag_0, uX12_bag_1, uX12_bag_4, uX12_bag_7, uX12_bag_8, uX12_bag_9, uX12_bag_10, uX12_bag_11, uX12_bag_14, uX12_bag_17, uX12_bag_18, uX12_bag_19, uX12_bag_20, uX12_bag_23, uX12_bag_26, uX12_bag_29, uX12_bag_31, uX12_bag_32, uX12_bag_33, uX12_bag_36, uX12_bag_38, uX12_bag_41, uX12_bag_43, uX12_bag_44, uX12_bag_45, uX12_bag_48, uX12_bag_49, uX12_bag_52, uX12_bag_53, uX12_bag_54, uX12_bag_55, uX12_bag_58, uX12_bag_59, uX12_bag_62, uX12_bag_63, uX12_bag_64, uX12_bag_65, uX12_bag_68, uX12_bag_69, uX12_bag_72, uX12_bag_73, uX12_bag_74, uX12_bag_75, uX12_bag_76, uX12_bag_79, uX12_bag_80, uX12_bag_81, uX12_bag_84, uX12_bag_85, uX12_bag_88, r_noPost, h1, hM, r_isDay, hd1, Option.bind_some, Option.toList_some, Option.toList_none, List.cons_append, List.nil_append, if_true, if_false, and_self, and_true, true_and, or_self, or_true, true_or, false_or, or_false, i10, i00, i01, i11]
theorem r_bag_f {k dd nn : Nat} (hk : k < 6) (hd : dd < 100) (hn : 1 ≤ nn ∧ nn < 100) (hM : ∀ l, vc h [(11, l)] 36 = some l) (g24 : gf h [(11, 24)] 36 = some (.int (nI 20))) : run 181 (0, [some (.ref 36), some (.int (nI k)), some (.int (nI dd)), some (.int (nI nn))], [], h) = some (some (.int (-4)), h) := by
  have h1 : 0 ≤ (nI k).toInt ∧ (nI k).toInt ≤ 5 := nI_rng (by omega) (by omega)
  have h2 : 0 ≤ (nI dd).toInt ∧ (nI dd).toInt ≤ 99 := nI_rng (by omega) (by omega)
  have h3 : 1 ≤ (nI nn).toInt ∧ (nI nn).toInt ≤ 99 := nI_rng1 (by omega) (by omega) (by omega)
  have h4 : nI 20 = 20 := by decide
  simp only [uX12_bag_0, uX12_bag_1, uX12_bag_4, uX12_bag_7, uX12_bag_8, uX12_bag_9, uX12_bag_10, uX12_bag_11, uX12_bag_14, uX12_bag_17, uX12_bag_18, uX12_bag_19, uX12_bag_20, uX12_bag_23, uX12_bag_26, uX12_bag_29, uX12_bag_31, uX12_bag_32, uX12_bag_33, uX12_bag_36, uX12_bag_38, uX12_bag_41, uX12_bag_43, uX12_bag_44, uX12_bag_45, uX12_bag_48, uX12_bag_49, uX12_bag_52, uX12_bag_53, uX12_bag_54, uX12_bag_55, uX12_bag_58, uX12_bag_59, uX12_bag_62, uX12_bag_63, uX12_bag_64, uX12_bag_65, uX12_bag_68, uX12_bag_69, uX12_bag_72, uX12_bag_73, uX12_bag_74, uX12_bag_75, uX12_bag_76, uX12_bag_79, uX12_bag_80, uX12_bag_81, uX12_bag_84, uX12_bag_85, uX12_bag_88, r_noPost, h1, hM, r_isDay, h2, r_in_1_99, h3, g24, h4, Option.bind_some, Option.toList_some, Option.toList_none, List.cons_append, List.nil_append, if_true, if_false, and_self, and_true, true_and, or_self, or_true, true_or, false_or, or_false, i10, i00, i01, i11]
theorem gf_sf24 {fa dB dL dC dR rd pg lt lm bg tr x : Int32} (hM : rO h 36 = some (11, mF fa dB dL dC dR rd pg lt lm bg tr)) : gf (sf h 36 24 (.int x)) [(11, 24)] 36 = some (.int x) := gM24 (sM24 hM)
theorem r_bag {k dd nn nb : Nat} {bp bd bm : Nat → Int32} {fa dB dL dC dR rd pg lt lm tr : Int32} (hk : k < 6) (hd : dd < 100) (hn : 1 ≤ nn ∧ nn < 100) (hb : nb < 20) (hM : rO h 36 = some (11, mF fa dB dL dC dR rd pg lt lm (nI nb) tr)) (a1 : rI h 52 = some (20, bp)) (a2 : rI h 53 = some (20, bd)) (a3 : rI h 54 = some (20, bm)) : run 181 (0, [some (.ref 36), some (.int (nI k)), some (.int (nI dd)), some (.int (nI nn))], [], h) = some (some (.int (nI (nb + 1))), sf (si (si (si h 52 nb (nI k)) 53 nb (nI dd)) 54 nb (nI nn)) 36 24 (.int (nI (nb + 1)))) := by
  have h1 : 0 ≤ (nI k).toInt ∧ (nI k).toInt ≤ 5 := nI_rng (by omega) (by omega)
  have h2 : 0 ≤ (nI dd).toInt ∧ (nI dd).toInt ≤ 99 := nI_rng (by omega) (by omega)
  have h3 : 1 ≤ (nI nn).toInt ∧ (nI nn).toInt ≤ 99 := nI_rng1 (by omega) (by omega) (by omega)
  have h4 : ¬ nI nb = 20 := fun q => by
    have := (nI_eq (a := nb) (b := 20) (by omega) (by decide)).mp q
    omega
  have p1 : pi h 52 (nI nb) (nI k) = _ := pi_si (by decide) a1 hb (by decide)
  have b2 : rI (si h 52 nb (nI k)) 53 = some (20, bd) := by rw [rI_si, if_neg (by decide), a2]
  have p2 : pi (si h 52 nb (nI k)) 53 (nI nb) (nI dd) = _ := pi_si (by decide) b2 hb (by decide)
  have b3 : rI (si (si h 52 nb (nI k)) 53 nb (nI dd)) 54 = some (20, bm) := by rw [rI_si, if_neg (by decide), rI_si, if_neg (by decide), a3]
  have p3 : pi (si (si h 52 nb (nI k)) 53 nb (nI dd)) 54 (nI nb) (nI nn) = _ := pi_si (by decide) b3 hb (by decide)
  have hM2 : rO (si (si (si h 52 nb (nI k)) 53 nb (nI dd)) 54 nb (nI nn)) 36 = some (11, mF fa dB dL dC dR rd pg lt lm (nI nb) tr) := by rw [rO_si, rO_si, rO_si, hM]
  simp only [uX12_bag_0, uX12_bag_1, uX12_bag_4, uX12_bag_7, uX12_bag_8, uX12_bag_9, uX12_bag_10, uX12_bag_11, uX12_bag_14, uX12_bag_17, uX12_bag_18, uX12_bag_19, uX12_bag_20, uX12_bag_23, uX12_bag_26, uX12_bag_29, uX12_bag_31, uX12_bag_32, uX12_bag_33, uX12_bag_36, uX12_bag_38, uX12_bag_41, uX12_bag_43, uX12_bag_44, uX12_bag_45, uX12_bag_48, uX12_bag_49, uX12_bag_52, uX12_bag_53, uX12_bag_54, uX12_bag_55, uX12_bag_58, uX12_bag_59, uX12_bag_62, uX12_bag_63, uX12_bag_64, uX12_bag_65, uX12_bag_68, uX12_bag_69, uX12_bag_72, uX12_bag_73, uX12_bag_74, uX12_bag_75, uX12_bag_76, uX12_bag_79, uX12_bag_80, uX12_bag_81, uX12_bag_84, uX12_bag_85, uX12_bag_88, r_noPost, h1, vM hM, r_isDay, h2, r_in_1_99, h3, gM24 hM, gM25 hM, gM26 hM, gM27 hM, gf_si, h4, p1, p2, p3, pM24 hM2, gf_sf24 hM2, nI_1, Option.bind_some, Option.toList_some, Option.toList_none, List.cons_append, List.nil_append, if_true, if_false, and_self, and_true, true_and, or_self, or_true, true_or, false_or, or_false, i10, i00, i01, i11]
def comF (bp bd bm : Nat → Nat) (post day : Nat) : Nat → Nat
  | 0 => 0
  | b + 1 => comF bp bd bm post day b + if bp b = post ∧ bd b = day then bm b else 0
theorem comF_le {bp bd bm : Nat → Nat} {post day : Nat} (hm : ∀ b, bm b < 100) : ∀ n, comF bp bd bm post day n ≤ 100 * n
  | 0 => Nat.le_refl _
  | n + 1 => by
    have h1 := comF_le (bp := bp) (bd := bd) (post := post) (day := day) hm n
    have h2 := hm n
    unfold comF
    split <;> omega
theorem r_comesOn_loop {bp bd bm : Nat → Nat} {post day nb : Nat} (hnb : nb ≤ 20) (hp : post < 6) (hd : day < 100) (hbp : ∀ b, bp b < 100) (hbd : ∀ b, bd b < 100) (g24 : gf h [(11, 24)] 36 = some (.int (nI nb))) (g25 : gf h [(11, 25)] 36 = some (.ref 52)) (g26 : gf h [(11, 26)] 36 = some (.ref 53)) (g27 : gf h [(11, 27)] 36 = some (.ref 54)) (a1 : rI h 52 = some (20, fun k => nI (bp k))) (a2 : rI h 53 = some (20, fun k => nI (bd k))) (a3 : rI h 54 = some (20, fun k => nI (bm k))) : ∀ d b, b + d = nb → run 182 (5, [some (.ref 36), some (.int (nI post)), some (.int (nI day)), some (.int (nI (comF bp bd bm post day b))), some (.int (nI b))], [], h) = some (some (.int (nI (comF bp bd bm post day nb))), h) := by
  intro d
  induction d with
  | zero =>
    intro b hb
    have hb : b = nb := by omega
    subst hb
    have c1 : nI b ≤ nI b := nI_le (Nat.le_refl _) (by omega)
    simp only [uX12_comesOn_0, uX12_comesOn_1, uX12_comesOn_2, uX12_comesOn_3, uX12_comesOn_5, uX12_comesOn_7, uX12_comesOn_8, uX12_comesOn_11, uX12_comesOn_14, uX12_comesOn_15, uX12_comesOn_16, uX12_comesOn_19, uX12_comesOn_21, uX12_comesOn_22, uX12_comesOn_23, uX12_comesOn_26, uX12_comesOn_27, uX12_comesOn_30, uX12_comesOn_32, uX12_comesOn_33, uX12_comesOn_34, uX12_comesOn_37, uX12_comesOn_38, uX12_comesOn_41, uX12_comesOn_43, uX12_comesOn_44, uX12_comesOn_47, uX12_comesOn_48, uX12_comesOn_49, uX12_comesOn_50, uX12_comesOn_53, uX12_comesOn_56, uX12_comesOn_57, g24, c1, Option.bind_some, Option.toList_some, Option.toList_none, List.cons_append, List.nil_append, if_true, if_false, and_self, and_true, true_and, or_self, or_true, true_or, false_or, or_false, i10, i00, i01, i11]
  | succ d ih =>
    intro b hb
    have c1 : ¬ nI nb ≤ nI b := nI_ge (by omega) (by omega)
    have ih1 := ih (b + 1) (by omega)
    have q1 : gi h 52 (nI b) = some (nI (bp b)) := gi_nI a1 (by omega) (by decide)
    have q2 : gi h 53 (nI b) = some (nI (bd b)) := gi_nI a2 (by omega) (by decide)
    have q3 : gi h 54 (nI b) = some (nI (bm b)) := gi_nI a3 (by omega) (by decide)
    have i1 : (nI (bp b) = nI post) = (bp b = post) := propext (nI_eq (by have := hbp b; omega) (by omega))
    have i2 : (nI (bd b) = nI day) = (bd b = day) := propext (nI_eq (by have := hbd b; omega) (by omega))
    rw [uX12_comesOn_5]
    by_cases e1 : bp b = post
    · by_cases e2 : bd b = day
      · have e0 : nI (comF bp bd bm post day b) + nI (bm b) = nI (comF bp bd bm post day (b + 1)) := by
          rw [nI_add]
          show _ = nI (comF bp bd bm post day b + if bp b = post ∧ bd b = day then bm b else 0)
          rw [if_pos ⟨e1, e2⟩]
        simp only [uX12_comesOn_0, uX12_comesOn_1, uX12_comesOn_2, uX12_comesOn_3, uX12_comesOn_7, uX12_comesOn_8, uX12_comesOn_11, uX12_comesOn_14, uX12_comesOn_15, uX12_comesOn_16, uX12_comesOn_19, uX12_comesOn_21, uX12_comesOn_22, uX12_comesOn_23, uX12_comesOn_26, uX12_comesOn_27, uX12_comesOn_30, uX12_comesOn_32, uX12_comesOn_33, uX12_comesOn_34, uX12_comesOn_37, uX12_comesOn_38, uX12_comesOn_41, uX12_comesOn_43, uX12_comesOn_44, uX12_comesOn_47, uX12_comesOn_48, uX12_comesOn_49, uX12_comesOn_50, uX12_comesOn_53, uX12_comesOn_56, uX12_comesOn_57, g24, g25, g26, g27, q1, q2, q3, i1, i2, e1, e2, c1, e0, nI_1, Option.bind_some, Option.toList_some, Option.toList_none, List.cons_append, List.nil_append, if_true, if_false, and_self, and_true, true_and, or_self, or_true, true_or, false_or, or_false, i10, i00, i01, i11, Nat.reduceAdd, st1_0, st1_c, st1_1i, st1_1r, st1_1n, st1_1u, st1_1J, st2_0, st2_c, st2_1i, st2_1r, st2_1n, st2_1u, st2_1J]
        exact ih1
      · have e0 : nI (comF bp bd bm post day b) + 0 = nI (comF bp bd bm post day (b + 1)) := by
          show _ = nI (comF bp bd bm post day b + if bp b = post ∧ bd b = day then bm b else 0)
          rw [if_neg (fun q => e2 q.2)]
          exact nI_add _ 0
        simp only [uX12_comesOn_0, uX12_comesOn_1, uX12_comesOn_2, uX12_comesOn_3, uX12_comesOn_7, uX12_comesOn_8, uX12_comesOn_11, uX12_comesOn_14, uX12_comesOn_15, uX12_comesOn_16, uX12_comesOn_19, uX12_comesOn_21, uX12_comesOn_22, uX12_comesOn_23, uX12_comesOn_26, uX12_comesOn_27, uX12_comesOn_30, uX12_comesOn_32, uX12_comesOn_33, uX12_comesOn_34, uX12_comesOn_37, uX12_comesOn_38, uX12_comesOn_41, uX12_comesOn_43, uX12_comesOn_44, uX12_comesOn_47, uX12_comesOn_48, uX12_comesOn_49, uX12_comesOn_50, uX12_comesOn_53, uX12_comesOn_56, uX12_comesOn_57, g24, g25, g26, g27, q1, q2, q3, i1, i2, e1, e2, c1, e0, nI_1, Option.bind_some, Option.toList_some, Option.toList_none, List.cons_append, List.nil_append, if_true, if_false, and_self, and_true, true_and, or_self, or_true, true_or, false_or, or_false, i10, i00, i01, i11, Nat.reduceAdd, st1_0, st1_c, st1_1i, st1_1r, st1_1n, st1_1u, st1_1J, st2_0, st2_c, st2_1i, st2_1r, st2_1n, st2_1u, st2_1J]
        exact ih1
    · have e0 : nI (comF bp bd bm post day b) + 0 = nI (comF bp bd bm post day (b + 1)) := by
        show _ = nI (comF bp bd bm post day b + if bp b = post ∧ bd b = day then bm b else 0)
        rw [if_neg (fun q => e1 q.1)]
        exact nI_add _ 0
      simp only [uX12_comesOn_0, uX12_comesOn_1, uX12_comesOn_2, uX12_comesOn_3, uX12_comesOn_7, uX12_comesOn_8, uX12_comesOn_11, uX12_comesOn_14, uX12_comesOn_15, uX12_comesOn_16, uX12_comesOn_19, uX12_comesOn_21, uX12_comesOn_22, uX12_comesOn_23, uX12_comesOn_26, uX12_comesOn_27, uX12_comesOn_30, uX12_comesOn_32, uX12_comesOn_33, uX12_comesOn_34, uX12_comesOn_37, uX12_comesOn_38, uX12_comesOn_41, uX12_comesOn_43, uX12_comesOn_44, uX12_comesOn_47, uX12_comesOn_48, uX12_comesOn_49, uX12_comesOn_50, uX12_comesOn_53, uX12_comesOn_56, uX12_comesOn_57, g24, g25, g26, g27, q1, q2, q3, i1, i2, e1, c1, e0, nI_1, Option.bind_some, Option.toList_some, Option.toList_none, List.cons_append, List.nil_append, if_true, if_false, and_self, and_true, true_and, or_self, or_true, true_or, false_or, or_false, i10, i00, i01, i11, Nat.reduceAdd, st1_0, st1_c, st1_1i, st1_1r, st1_1n, st1_1u, st1_1J, st2_0, st2_c, st2_1i, st2_1r, st2_1n, st2_1u, st2_1J]
      exact ih1
def PostsM (h : AH) (bp bd bm nd : Nat → Nat) (nb : Nat) : Prop := nb ≤ 20 ∧ (∀ b, bp b < 100) ∧ (∀ b, bd b < 100) ∧ (∀ b, bm b < 100) ∧ (∀ p, nd p < 10) ∧ gf h [(11, 24)] 36 = some (.int (nI nb)) ∧ gf h [(11, 25)] 36 = some (.ref 52) ∧ gf h [(11, 26)] 36 = some (.ref 53) ∧ gf h [(11, 27)] 36 = some (.ref 54) ∧ gf h [(11, 23)] 36 = some (.ref 51) ∧ rI h 52 = some (20, fun k => nI (bp k)) ∧ rI h 53 = some (20, fun k => nI (bd k)) ∧ rI h 54 = some (20, fun k => nI (bm k)) ∧ rI h 51 = some (6, fun k => nI (nd k)) ∧ ∀ l, vc h [(11, l)] 36 = some l
theorem r_comesOn {bp bd bm nd : Nat → Nat} {post day nb : Nat} (PM : PostsM h bp bd bm nd nb) (hp : post < 6) (hd : day < 100) : run 182 (0, [some (.ref 36), some (.int (nI post)), some (.int (nI day)), none, none], [], h) = some (some (.int (nI (comF bp bd bm post day nb))), h) := by
  obtain ⟨p1, p2, p3, p4, p5, p6, p7, p8, p9, p10, p11, p12, p13, p14, p15⟩ := PM
  simp only [uX12_comesOn_0, uX12_comesOn_1, uX12_comesOn_2, uX12_comesOn_3, uX12_comesOn_7, uX12_comesOn_8, uX12_comesOn_11, uX12_comesOn_14, uX12_comesOn_15, uX12_comesOn_16, uX12_comesOn_19, uX12_comesOn_21, uX12_comesOn_22, uX12_comesOn_23, uX12_comesOn_26, uX12_comesOn_27, uX12_comesOn_30, uX12_comesOn_32, uX12_comesOn_33, uX12_comesOn_34, uX12_comesOn_37, uX12_comesOn_38, uX12_comesOn_41, uX12_comesOn_43, uX12_comesOn_44, uX12_comesOn_47, uX12_comesOn_48, uX12_comesOn_49, uX12_comesOn_50, uX12_comesOn_53, uX12_comesOn_56, uX12_comesOn_57, Option.bind_some, Option.toList_some, Option.toList_none, List.cons_append, List.nil_append, Nat.reduceAdd, st1_0, st1_c, st1_1i, st1_1r, st1_1n, st1_1u, st1_1J, st2_0, st2_c, st2_1i, st2_1r, st2_1n, st2_1u, st2_1J]
  exact r_comesOn_loop p1 hp hd p2 p3 p6 p7 p8 p9 p11 p12 p13 nb 0 (by omega)
def outF (cm : Nat → Nat) (nd : Nat) : Nat → Nat → Nat → Nat
  | 0, day, _ => day
  | k + 1, day, has => if has + cm day < nd then day else outF cm nd k (day + 1) (has + cm day - nd)
theorem outF_le (cm : Nat → Nat) (nd : Nat) : ∀ k day has, outF cm nd k day has ≤ day + k
  | 0, _, _ => Nat.le_refl _
  | k + 1, day, has => by
    unfold outF
    split
    · omega
    · have := outF_le cm nd k (day + 1) (has + cm day - nd)
      omega
theorem r_outDay_loop {bp bd bm nd : Nat → Nat} {post nb : Nat} {n0 : Int32} (PM : PostsM h bp bd bm nd nb) (hp : post < 6) : ∀ k day has, day + k = 100 → has ≤ 20000 + 2000 * day → run 183 (5, [some (.ref 36), some (.int (nI post)), some (.int n0), some (.int (nI has)), some (.int (nI day))], [], h) = some (some (.int (nI (outF (fun d => comF bp bd bm post d nb) (nd post) k day has))), h) := by
  obtain ⟨p1, p2, p3, p4, p5, p6, p7, p8, p9, p10, p11, p12, p13, p14, p15⟩ := id PM
  intro k
  induction k with
  | zero =>
    intro day has hday hh
    have hb : day = 100 := by omega
    subst hb
    have c1 : (100 : Int32) ≤ nI 100 := by decide
    have e1 : (100 : Int32) = nI 100 := by decide
    simp only [uX12_outDay_0, uX12_outDay_1, uX12_outDay_2, uX12_outDay_3, uX12_outDay_5, uX12_outDay_7, uX12_outDay_9, uX12_outDay_12, uX12_outDay_13, uX12_outDay_14, uX12_outDay_15, uX12_outDay_17, uX12_outDay_20, uX12_outDay_21, uX12_outDay_22, uX12_outDay_23, uX12_outDay_24, uX12_outDay_27, uX12_outDay_28, uX12_outDay_29, uX12_outDay_32, uX12_outDay_34, uX12_outDay_35, uX12_outDay_36, uX12_outDay_37, uX12_outDay_40, uX12_outDay_41, uX12_outDay_42, uX12_outDay_43, uX12_outDay_44, uX12_outDay_47, uX12_outDay_50, uX12_outDay_52, c1, Option.bind_some, Option.toList_some, Option.toList_none, List.cons_append, List.nil_append, if_true, if_false, and_self, and_true, true_and, or_self, or_true, true_or, false_or, or_false, i10, i00, i01, i11]
    rw [e1]
    rfl
  | succ k ih =>
    intro day has hday hh
    have c1 : ¬ (100 : Int32) ≤ nI day := nI_ge (a := day) (b := 100) (by omega) (by decide)
    have hc := r_comesOn PM hp (show day < 100 by omega)
    have hcl := comF_le (bp := bp) (bd := bd) (post := post) (day := day) p4 nb
    have hnd := p5 post
    have q1 : gi h 51 (nI post) = some (nI (nd post)) := gi_nI p14 hp (by decide)
    rw [uX12_outDay_5]
    unfold outF
    by_cases hz : has + comF bp bd bm post day nb < nd post
    · have c2 : ¬ nI (nd post) ≤ nI (has + comF bp bd bm post day nb) := nI_ge hz (by omega)
      simp only [uX12_outDay_0, uX12_outDay_1, uX12_outDay_2, uX12_outDay_3, uX12_outDay_7, uX12_outDay_9, uX12_outDay_12, uX12_outDay_13, uX12_outDay_14, uX12_outDay_15, uX12_outDay_17, uX12_outDay_20, uX12_outDay_21, uX12_outDay_22, uX12_outDay_23, uX12_outDay_24, uX12_outDay_27, uX12_outDay_28, uX12_outDay_29, uX12_outDay_32, uX12_outDay_34, uX12_outDay_35, uX12_outDay_36, uX12_outDay_37, uX12_outDay_40, uX12_outDay_41, uX12_outDay_42, uX12_outDay_43, uX12_outDay_44, uX12_outDay_47, uX12_outDay_50, uX12_outDay_52, p15, hc, p10, q1, c1, nI_add, c2, hz, Option.bind_some, Option.toList_some, Option.toList_none, List.cons_append, List.nil_append, if_true, if_false, and_self, and_true, true_and, or_self, or_true, true_or, false_or, or_false, i10, i00, i01, i11, Nat.reduceAdd, st1_0, st1_c, st1_1i, st1_1r, st1_1n, st1_1u, st1_1J, st2_0, st2_c, st2_1i, st2_1r, st2_1n, st2_1u, st2_1J]
    · have c2 : nI (nd post) ≤ nI (has + comF bp bd bm post day nb) := nI_le (by omega) (by omega)
      have ih1 := ih (day + 1) (has + comF bp bd bm post day nb - nd post) (by omega) (by omega)
      simp only [uX12_outDay_0, uX12_outDay_1, uX12_outDay_2, uX12_outDay_3, uX12_outDay_7, uX12_outDay_9, uX12_outDay_12, uX12_outDay_13, uX12_outDay_14, uX12_outDay_15, uX12_outDay_17, uX12_outDay_20, uX12_outDay_21, uX12_outDay_22, uX12_outDay_23, uX12_outDay_24, uX12_outDay_27, uX12_outDay_28, uX12_outDay_29, uX12_outDay_32, uX12_outDay_34, uX12_outDay_35, uX12_outDay_36, uX12_outDay_37, uX12_outDay_40, uX12_outDay_41, uX12_outDay_42, uX12_outDay_43, uX12_outDay_44, uX12_outDay_47, uX12_outDay_50, uX12_outDay_52, p15, hc, p10, q1, c1, nI_add, c2, hz, pk_sub (show nd post ≤ has + comF bp bd bm post day nb by omega), nI_1, Option.bind_some, Option.toList_some, Option.toList_none, List.cons_append, List.nil_append, if_true, if_false, and_self, and_true, true_and, or_self, or_true, true_or, false_or, or_false, i10, i00, i01, i11, Nat.reduceAdd, st1_0, st1_c, st1_1i, st1_1r, st1_1n, st1_1u, st1_1J, st2_0, st2_c, st2_1i, st2_1r, st2_1n, st2_1u, st2_1J]
      exact ih1
theorem r_out_u {w n : Int32} (hw : ¬ (0 ≤ w.toInt ∧ w.toInt ≤ 5)) : run 184 (0, [some (.ref 36), some (.int w), some (.int n), none], [], h) = some (some (.int (-1)), h) := by
  simp only [uX12_out_0, uX12_out_1, uX12_out_4, uX12_out_7, uX12_out_8, uX12_out_9, uX12_out_10, uX12_out_11, uX12_out_12, uX12_out_15, uX12_out_18, uX12_out_21, uX12_out_23, uX12_out_24, uX12_out_25, uX12_out_26, uX12_out_27, uX12_out_30, uX12_out_31, uX12_out_32, uX12_out_34, uX12_out_37, uX12_out_39, uX12_out_42, uX12_out_43, r_noPost, hw, Option.bind_some, Option.toList_some, Option.toList_none, List.cons_append, List.nil_append, if_true, if_false, and_self, and_true, true_and, or_self, or_true, true_or, false_or, or_false, i10, i00, i01, i11]
theorem r_out_o {n : Int32} {k : Nat} (hk : k < 6) (hn : ¬ (0 ≤ n.toInt ∧ n.toInt ≤ 9999)) : run 184 (0, [some (.ref 36), some (.int (nI k)), some (.int n), none], [], h) = some (some (.int (-2)), h) := by
  have h1 : 0 ≤ (nI k).toInt ∧ (nI k).toInt ≤ 5 := nI_rng (by omega) (by omega)
  simp only [uX12_out_0, uX12_out_1, uX12_out_4, uX12_out_7, uX12_out_8, uX12_out_9, uX12_out_10, uX12_out_11, uX12_out_12, uX12_out_15, uX12_out_18, uX12_out_21, uX12_out_23, uX12_out_24, uX12_out_25, uX12_out_26, uX12_out_27, uX12_out_30, uX12_out_31, uX12_out_32, uX12_out_34, uX12_out_37, uX12_out_39, uX12_out_42, uX12_out_43, r_noPost, h1, r_in_0_9999, hn, Option.bind_some, Option.toList_some, Option.toList_none, List.cons_append, List.nil_append, if_true, if_false, and_self, and_true, true_and, or_self, or_true, true_or, false_or, or_false, i10, i00, i01, i11]
def outR (k : Nat) : Int32 := if k = 100 then -9 else nI k
theorem r_out {bp bd bm nd : Nat → Nat} {k n nb : Nat} (PM : PostsM h bp bd bm nd nb) (hk : k < 6) (hn : n < 10000) : run 184 (0, [some (.ref 36), some (.int (nI k)), some (.int (nI n)), none], [], h) = some (some (.int (outR (outF (fun d => comF bp bd bm k d nb) (nd k) 100 0 n))), h) := by
  have h1 : 0 ≤ (nI k).toInt ∧ (nI k).toInt ≤ 5 := nI_rng (by omega) (by omega)
  have h2 : 0 ≤ (nI n).toInt ∧ (nI n).toInt ≤ 9999 := nI_rng (by omega) (by omega)
  have hl := r_outDay_loop (n0 := nI n) PM hk 100 0 n rfl (by omega)
  have hd : run 183 (0, [some (.ref 36), some (.int (nI k)), some (.int (nI n)), none, none], [], h) = some (some (.int (nI (outF (fun d => comF bp bd bm k d nb) (nd k) 100 0 n))), h) := by
    simp only [uX12_outDay_0, uX12_outDay_1, uX12_outDay_2, uX12_outDay_3, uX12_outDay_7, uX12_outDay_9, uX12_outDay_12, uX12_outDay_13, uX12_outDay_14, uX12_outDay_15, uX12_outDay_17, uX12_outDay_20, uX12_outDay_21, uX12_outDay_22, uX12_outDay_23, uX12_outDay_24, uX12_outDay_27, uX12_outDay_28, uX12_outDay_29, uX12_outDay_32, uX12_outDay_34, uX12_outDay_35, uX12_outDay_36, uX12_outDay_37, uX12_outDay_40, uX12_outDay_41, uX12_outDay_42, uX12_outDay_43, uX12_outDay_44, uX12_outDay_47, uX12_outDay_50, uX12_outDay_52, Option.bind_some, Option.toList_some, Option.toList_none, List.cons_append, List.nil_append, Nat.reduceAdd, st1_0, st1_c, st1_1i, st1_1r, st1_1n, st1_1u, st1_1J, st2_0, st2_c, st2_1i, st2_1r, st2_1n, st2_1u, st2_1J]
    exact hl
  have hle := outF_le (fun d => comF bp bd bm k d nb) (nd k) 100 0 n
  have e1 : (nI (outF (fun d => comF bp bd bm k d nb) (nd k) 100 0 n) = 100) = (outF (fun d => comF bp bd bm k d nb) (nd k) 100 0 n = 100) := propext (nI_eq (b := 100) (by omega) (by decide))
  unfold outR
  by_cases hz : outF (fun d => comF bp bd bm k d nb) (nd k) 100 0 n = 100
  · have e2 : (nI 100 = 100) = True := eq_true (by decide)
    simp only [uX12_out_0, uX12_out_1, uX12_out_4, uX12_out_7, uX12_out_8, uX12_out_9, uX12_out_10, uX12_out_11, uX12_out_12, uX12_out_15, uX12_out_18, uX12_out_21, uX12_out_23, uX12_out_24, uX12_out_25, uX12_out_26, uX12_out_27, uX12_out_30, uX12_out_31, uX12_out_32, uX12_out_34, uX12_out_37, uX12_out_39, uX12_out_42, uX12_out_43, r_noPost, h1, r_in_0_9999, h2, PM.2.2.2.2.2.2.2.2.2.2.2.2.2.2, hd, e2, hz, Option.bind_some, Option.toList_some, Option.toList_none, List.cons_append, List.nil_append, if_true, if_false, and_self, and_true, true_and, or_self, or_true, true_or, false_or, or_false, i10, i00, i01, i11, Nat.reduceAdd, st1_0, st1_c, st1_1i, st1_1r, st1_1n, st1_1u, st1_1J, st2_0, st2_c, st2_1i, st2_1r, st2_1n, st2_1u, st2_1J]
  · simp only [uX12_out_0, uX12_out_1, uX12_out_4, uX12_out_7, uX12_out_8, uX12_out_9, uX12_out_10, uX12_out_11, uX12_out_12, uX12_out_15, uX12_out_18, uX12_out_21, uX12_out_23, uX12_out_24, uX12_out_25, uX12_out_26, uX12_out_27, uX12_out_30, uX12_out_31, uX12_out_32, uX12_out_34, uX12_out_37, uX12_out_39, uX12_out_42, uX12_out_43, r_noPost, h1, r_in_0_9999, h2, PM.2.2.2.2.2.2.2.2.2.2.2.2.2.2, hd, e1, hz, Option.bind_some, Option.toList_some, Option.toList_none, List.cons_append, List.nil_append, if_true, if_false, and_self, and_true, true_and, or_self, or_true, true_or, false_or, or_false, i10, i00, i01, i11, Nat.reduceAdd, st1_0, st1_c, st1_1i, st1_1r, st1_1n, st1_1u, st1_1J, st2_0, st2_c, st2_1i, st2_1r, st2_1n, st2_1u, st2_1J]
end RP
