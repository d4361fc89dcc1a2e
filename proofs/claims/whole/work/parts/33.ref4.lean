theorem r_code_u {w n : Int32} {h : AH} (hw : ¬ (0 ≤ w.toInt ∧ w.toInt ≤ 29)) : run 158 (0, [some (.ref 36), some (.int w), some (.int n), none], [], h) = some (some (.int (-1)), h) := by
  simp only [uX12_code_0, uX12_code_1, uX12_code_4, uX12_code_7, uX12_code_8, uX12_code_9, uX12_code_10, uX12_code_11, uX12_code_14, uX12_code_17, uX12_code_20, uX12_code_23, uX12_code_25, uX12_code_26, uX12_code_27, uX12_code_30, uX12_code_31, uX12_code_34, uX12_code_35, uX12_code_36, uX12_code_39, uX12_code_40, uX12_code_43, uX12_code_44, uX12_code_45, uX12_code_46, uX12_code_49, uX12_code_51, uX12_code_52, uX12_code_53, uX12_code_56, uX12_code_57, uX12_code_58, uX12_code_59, uX12_code_60, uX12_code_63, uX12_code_64, uX12_code_67, uX12_code_68, uX12_code_70, uX12_code_71, uX12_code_72, uX12_code_75, uX12_code_76, uX12_code_77, uX12_code_80, uX12_code_82, uX12_code_85, uX12_code_86, uX12_code_87, uX12_code_88, uX12_code_91, uX12_code_92, uX12_code_95, uX12_code_96, uX12_code_97, uX12_code_98, uX12_code_99, r_noWord, hw, Option.bind_some, Option.toList_some, Option.toList_none, List.cons_append, List.nil_append, if_true, if_false, and_self, and_true, true_and, or_self, or_true, true_or, false_or, or_false, i10, i00, i01, i11]
theorem r_code_o {n : Int32} {k : Nat} {h : AH} (hk : k < 30) (hn : ¬ (-1 ≤ n.toInt ∧ n.toInt ≤ 99)) : run 158 (0, [some (.ref 36), some (.int (nI k)), some (.int n), none], [], h) = some (some (.int (-2)), h) := by
  have h1 : 0 ≤ (nI k).toInt ∧ (nI k).toInt ≤ 29 := nI_rng (by omega) (by omega)
  simp only [uX12_code_0, uX12_code_1, uX12_code_4, uX12_code_7, uX12_code_8, uX12_code_9, uX12_code_10, uX12_code_11, uX12_code_14, uX12_code_17, uX12_code_20, uX12_code_23, uX12_code_25, uX12_code_26, uX12_code_27, uX12_code_30, uX12_code_31, uX12_code_34, uX12_code_35, uX12_code_36, uX12_code_39, uX12_code_40, uX12_code_43, uX12_code_44, uX12_code_45, uX12_code_46, uX12_code_49, uX12_code_51, uX12_code_52, uX12_code_53, uX12_code_56, uX12_code_57, uX12_code_58, uX12_code_59, uX12_code_60, uX12_code_63, uX12_code_64, uX12_code_67, uX12_code_68, uX12_code_70, uX12_code_71, uX12_code_72, uX12_code_75, uX12_code_76, uX12_code_77, uX12_code_80, uX12_code_82, uX12_code_85, uX12_code_86, uX12_code_87, uX12_code_88, uX12_code_91, uX12_code_92, uX12_code_95, uX12_code_96, uX12_code_97, uX12_code_98, uX12_code_99, r_noWord, h1, r_in_m1_99, hn, Option.bind_some, Option.toList_some, Option.toList_none, List.cons_append, List.nil_append, if_true, if_false, and_self, and_true, true_and, or_self, or_true, true_or, false_or, or_false, i10, i00, i01, i11]
section RC
variable {h : AH} {c w : Nat → Option Nat} {k g : Nat}
theorem r_code_s {k2 : Nat} (hok : bookOK c w) (hk : k < 30) (hg : g < 100) (hw : w g = some k2) (hne : k2 ≠ k) (g3 : gf h [(11, 3)] 36 = some (.ref 39)) (a3 : rI h 39 = some (100, fun k => oN (w k))) : run 158 (0, [some (.ref 36), some (.int (nI k)), some (.int (nI g)), none], [], h) = some (some (.int (-3)), h) := by
  have h1 : 0 ≤ (nI k).toInt ∧ (nI k).toInt ≤ 29 := nI_rng (by omega) (by omega)
  have h2 : -1 ≤ (nI g).toInt ∧ (nI g).toInt ≤ 99 := nI_rng1 (by omega) (by omega) (by omega)
  have h3 : ¬ nI g < 0 := nI_pos (by omega)
  have h4 : gi h 39 (nI g) = some (nI k2) := by rw [gi_nI a3 hg (by decide), hw]; rfl
  have hk2 := hok.2 _ _ hw
  have h5 : ¬ nI k2 < 0 := nI_pos (by omega)
  have h6 : ¬ nI k2 = nI k := fun q => hne ((nI_eq (by omega) (by omega)).mp q)
  simp only [uX12_code_0, uX12_code_1, uX12_code_4, uX12_code_7, uX12_code_8, uX12_code_9, uX12_code_10, uX12_code_11, uX12_code_14, uX12_code_17, uX12_code_20, uX12_code_23, uX12_code_25, uX12_code_26, uX12_code_27, uX12_code_30, uX12_code_31, uX12_code_34, uX12_code_35, uX12_code_36, uX12_code_39, uX12_code_40, uX12_code_43, uX12_code_44, uX12_code_45, uX12_code_46, uX12_code_49, uX12_code_51, uX12_code_52, uX12_code_53, uX12_code_56, uX12_code_57, uX12_code_58, uX12_code_59, uX12_code_60, uX12_code_63, uX12_code_64, uX12_code_67, uX12_code_68, uX12_code_70, uX12_code_71, uX12_code_72, uX12_code_75, uX12_code_76, uX12_code_77, uX12_code_80, uX12_code_82, uX12_code_85, uX12_code_86, uX12_code_87, uX12_code_88, uX12_code_91, uX12_code_92, uX12_code_95, uX12_code_96, uX12_code_97, uX12_code_98, uX12_code_99, r_noWord, h1, r_in_m1_99, h2, g3, h3, h4, h5, h6, Option.bind_some, Option.toList_some, Option.toList_none, List.cons_append, List.nil_append, if_true, if_false, and_self, and_true, true_and, or_self, or_true, true_or, false_or, or_false, i10, i00, i01, i11, Nat.reduceAdd, st1_0, st1_c, st1_1i, st1_1r, st1_1n, st1_1u, st1_1J, st2_0, st2_c, st2_1i, st2_1r, st2_1n, st2_1u, st2_1J]
theorem r_code_free (hok : bookOK c w) (hg : g < 100) (hw : ∀ k2, w g = some k2 → k2 = k) (hk : k < 30) (a3 : rI h 39 = some (100, fun k => oN (w k))) : gi h 39 (nI g) = some (oN (w g)) ∧ (¬ oN (w g) < 0 → oN (w g) = nI k) := by
  refine ⟨gi_nI a3 hg (by decide), fun q => ?_⟩
  cases e : w g with
  | none => rw [e] at q; exact absurd (by decide) q
  | some k2 => rw [hw k2 e]; rfl
theorem r_code_rn (hk : k < 30) (hc : c k = none) (g1 : gf h [(11, 1)] 36 = some (.ref 37)) (a1 : rI h 37 = some (30, fun k => oN (c k))) : run 158 (0, [some (.ref 36), some (.int (nI k)), some (.int (-1)), none], [], h) = some (some (.int (-9)), si h 37 k (-9)) := by
  have h1 : 0 ≤ (nI k).toInt ∧ (nI k).toInt ≤ 29 := nI_rng (by omega) (by omega)
  have h2 : -1 ≤ (-1 : Int32).toInt ∧ (-1 : Int32).toInt ≤ 99 := by decide
  have h3 : (-1 : Int32) < 0 := by decide
  have h30 : ¬ (0 : Int32) ≤ -1 := by decide
  have h4 : gi h 37 (nI k) = some (-9) := by rw [gi_nI a1 hk (by decide), hc]; rfl
  have h5 : (-9 : Int32) < 0 := by decide
  have h6 : pi h 37 (nI k) (-9) = _ := pi_si (by decide) a1 hk (by decide)
  simp only [uX12_code_0, uX12_code_1, uX12_code_4, uX12_code_7, uX12_code_8, uX12_code_9, uX12_code_10, uX12_code_11, uX12_code_14, uX12_code_17, uX12_code_20, uX12_code_23, uX12_code_25, uX12_code_26, uX12_code_27, uX12_code_30, uX12_code_31, uX12_code_34, uX12_code_35, uX12_code_36, uX12_code_39, uX12_code_40, uX12_code_43, uX12_code_44, uX12_code_45, uX12_code_46, uX12_code_49, uX12_code_51, uX12_code_52, uX12_code_53, uX12_code_56, uX12_code_57, uX12_code_58, uX12_code_59, uX12_code_60, uX12_code_63, uX12_code_64, uX12_code_67, uX12_code_68, uX12_code_70, uX12_code_71, uX12_code_72, uX12_code_75, uX12_code_76, uX12_code_77, uX12_code_80, uX12_code_82, uX12_code_85, uX12_code_86, uX12_code_87, uX12_code_88, uX12_code_91, uX12_code_92, uX12_code_95, uX12_code_96, uX12_code_97, uX12_code_98, uX12_code_99, r_noWord, h1, r_in_m1_99, h2, g1, h3, h30, h4, h5, h6, Option.bind_some, Option.toList_some, Option.toList_none, List.cons_append, List.nil_append, if_true, if_false, and_self, and_true, true_and, or_self, or_true, true_or, false_or, or_false, i10, i00, i01, i11, Nat.reduceAdd, st1_0, st1_c, st1_1i, st1_1r, st1_1n, st1_1u, st1_1J, st2_0, st2_c, st2_1i, st2_1r, st2_1n, st2_1u, st2_1J]
theorem r_code_rs {g0 : Nat} (hok : bookOK c w) (hk : k < 30) (hc : c k = some g0) (g1 : gf h [(11, 1)] 36 = some (.ref 37)) (g3 : gf h [(11, 3)] 36 = some (.ref 39)) (g1b : gf (si h 39 g0 (-9)) [(11, 1)] 36 = some (.ref 37)) (a1 : rI h 37 = some (30, fun k => oN (c k))) (a3 : rI h 39 = some (100, fun k => oN (w k))) : run 158 (0, [some (.ref 36), some (.int (nI k)), some (.int (-1)), none], [], h) = some (some (.int (nI g0)), si (si h 39 g0 (-9)) 37 k (-9)) := by
  have h1 : 0 ≤ (nI k).toInt ∧ (nI k).toInt ≤ 29 := nI_rng (by omega) (by omega)
  have h2 : -1 ≤ (-1 : Int32).toInt ∧ (-1 : Int32).toInt ≤ 99 := by decide
  have h3 : (-1 : Int32) < 0 := by decide
  have h30 : ¬ (0 : Int32) ≤ -1 := by decide
  have hg0 := hok.1 _ _ hc
  have h4 : gi h 37 (nI k) = some (nI g0) := by rw [gi_nI a1 hk (by decide), hc]; rfl
  have h5 : ¬ nI g0 < 0 := nI_pos (by omega)
  have h6 : pi h 39 (nI g0) (-9) = _ := pi_si (by decide) a3 hg0 (by decide)
  have a1b : rI (si h 39 g0 (-9)) 37 = some (30, fun k => oN (c k)) := by rw [rI_si, if_neg (by decide), a1]
  have h7 : pi (si h 39 g0 (-9)) 37 (nI k) (-9) = _ := pi_si (by decide) a1b hk (by decide)
  simp only [uX12_code_0, uX12_code_1, uX12_code_4, uX12_code_7, uX12_code_8, uX12_code_9, uX12_code_10, uX12_code_11, uX12_code_14, uX12_code_17, uX12_code_20, uX12_code_23, uX12_code_25, uX12_code_26, uX12_code_27, uX12_code_30, uX12_code_31, uX12_code_34, uX12_code_35, uX12_code_36, uX12_code_39, uX12_code_40, uX12_code_43, uX12_code_44, uX12_code_45, uX12_code_46, uX12_code_49, uX12_code_51, uX12_code_52, uX12_code_53, uX12_code_56, uX12_code_57, uX12_code_58, uX12_code_59, uX12_code_60, uX12_code_63, uX12_code_64, uX12_code_67, uX12_code_68, uX12_code_70, uX12_code_71, uX12_code_72, uX12_code_75, uX12_code_76, uX12_code_77, uX12_code_80, uX12_code_82, uX12_code_85, uX12_code_86, uX12_code_87, uX12_code_88, uX12_code_91, uX12_code_92, uX12_code_95, uX12_code_96, uX12_code_97, uX12_code_98, uX12_code_99, r_noWord, h1, r_in_m1_99, h2, g1, g3, g1b, h3, h30, h4, h5, h6, h7, Option.bind_some, Option.toList_some, Option.toList_none, List.cons_append, List.nil_append, if_true, if_false, and_self, and_true, true_and, or_self, or_true, true_or, false_or, or_false, i10, i00, i01, i11, Nat.reduceAdd, st1_0, st1_c, st1_1i, st1_1r, st1_1n, st1_1u, st1_1J, st2_0, st2_c, st2_1i, st2_1r, st2_1n, st2_1u, st2_1J]
theorem gf_si {l : List (Nat × Nat)} {a b k : Nat} {x : Int32} : gf (si h a k x) l b = gf h l b := by
  unfold gf
  rw [rO_si]
theorem r_code_sn (hok : bookOK c w) (hk : k < 30) (hg : g < 100) (hc : c k = none) (hw : ∀ k2, w g = some k2 → k2 = k) (g1 : gf h [(11, 1)] 36 = some (.ref 37)) (g3 : gf h [(11, 3)] 36 = some (.ref 39)) (a1 : rI h 37 = some (30, fun k => oN (c k))) (a3 : rI h 39 = some (100, fun k => oN (w k))) : run 158 (0, [some (.ref 36), some (.int (nI k)), some (.int (nI g)), none], [], h) = some (some (.int (-9)), si (si h 37 k (nI g)) 39 g (nI k)) := by
  have h1 : 0 ≤ (nI k).toInt ∧ (nI k).toInt ≤ 29 := nI_rng (by omega) (by omega)
  have h2 : -1 ≤ (nI g).toInt ∧ (nI g).toInt ≤ 99 := nI_rng1 (by omega) (by omega) (by omega)
  have h3 : ¬ nI g < 0 := nI_pos (by omega)
  have h30 : (0 : Int32) ≤ nI g := nI_pos' (by omega)
  obtain ⟨h4, h5⟩ := r_code_free hok hg hw hk a3
  have h6 : gi h 37 (nI k) = some (-9) := by rw [gi_nI a1 hk (by decide), hc]; rfl
  have h7 : (-9 : Int32) < 0 := by decide
  have h8 : pi h 37 (nI k) (nI g) = _ := pi_si (by decide) a1 hk (by decide)
  have a3b : rI (si h 37 k (nI g)) 39 = some (100, fun k => oN (w k)) := by rw [rI_si, if_neg (by decide), a3]
  have h9 : pi (si h 37 k (nI g)) 39 (nI g) (nI k) = _ := pi_si (by decide) a3b hg (by decide)
  by_cases hz : oN (w g) < 0
  · simp only [uX12_code_0, uX12_code_1, uX12_code_4, uX12_code_7, uX12_code_8, uX12_code_9, uX12_code_10, uX12_code_11, uX12_code_14, uX12_code_17, uX12_code_20, uX12_code_23, uX12_code_25, uX12_code_26, uX12_code_27, uX12_code_30, uX12_code_31, uX12_code_34, uX12_code_35, uX12_code_36, uX12_code_39, uX12_code_40, uX12_code_43, uX12_code_44, uX12_code_45, uX12_code_46, uX12_code_49, uX12_code_51, uX12_code_52, uX12_code_53, uX12_code_56, uX12_code_57, uX12_code_58, uX12_code_59, uX12_code_60, uX12_code_63, uX12_code_64, uX12_code_67, uX12_code_68, uX12_code_70, uX12_code_71, uX12_code_72, uX12_code_75, uX12_code_76, uX12_code_77, uX12_code_80, uX12_code_82, uX12_code_85, uX12_code_86, uX12_code_87, uX12_code_88, uX12_code_91, uX12_code_92, uX12_code_95, uX12_code_96, uX12_code_97, uX12_code_98, uX12_code_99, r_noWord, h1, r_in_m1_99, h2, g1, g3, gf_si, h3, h30, h4, hz, h6, h7, h8, h9, Option.bind_some, Option.toList_some, Option.toList_none, List.cons_append, List.nil_append, if_true, if_false, and_self, and_true, true_and, or_self, or_true, true_or, false_or, or_false, i10, i00, i01, i11, Nat.reduceAdd, st1_0, st1_c, st1_1i, st1_1r, st1_1n, st1_1u, st1_1J, st2_0, st2_c, st2_1i, st2_1r, st2_1n, st2_1u, st2_1J]
  · simp only [uX12_code_0, uX12_code_1, uX12_code_4, uX12_code_7, uX12_code_8, uX12_code_9, uX12_code_10, uX12_code_11, uX12_code_14, uX12_code_17, uX12_code_20, uX12_code_23, uX12_code_25, uX12_code_26, uX12_code_27, uX12_code_30, uX12_code_31, uX12_code_34, uX12_code_35, uX12_code_36, uX12_code_39, uX12_code_40, uX12_code_43, uX12_code_44, uX12_code_45, uX12_code_46, uX12_code_49, uX12_code_51, uX12_code_52, uX12_code_53, uX12_code_56, uX12_code_57, uX12_code_58, uX12_code_59, uX12_code_60, uX12_code_63, uX12_code_64, uX12_code_67, uX12_code_68, uX12_code_70, uX12_code_71, uX12_code_72, uX12_code_75, uX12_code_76, uX12_code_77, uX12_code_80, uX12_code_82, uX12_code_85, uX12_code_86, uX12_code_87, uX12_code_88, uX12_code_91, uX12_code_92, uX12_code_95, uX12_code_96, uX12_code_97, uX12_code_98, uX12_code_99, r_noWord, h1, r_in_m1_99, h2, g1, g3, gf_si, h3, h30, h4, h5 hz, nI_pos (show k < 2 ^ 31 by omega), h6, h7, h8, h9, Option.bind_some, Option.toList_some, Option.toList_none, List.cons_append, List.nil_append, if_true, if_false, and_self, and_true, true_and, or_self, or_true, true_or, false_or, or_false, i10, i00, i01, i11, Nat.reduceAdd, st1_0, st1_c, st1_1i, st1_1r, st1_1n, st1_1u, st1_1J, st2_0, st2_c, st2_1i, st2_1r, st2_1n, st2_1u, st2_1J]
theorem r_code_ss {g0 : Nat} (hok : bookOK c w) (hk : k < 30) (hg : g < 100) (hc : c k = some g0) (hw : ∀ k2, w g = some k2 → k2 = k) (g1 : gf h [(11, 1)] 36 = some (.ref 37)) (g3 : gf h [(11, 3)] 36 = some (.ref 39)) (a1 : rI h 37 = some (30, fun k => oN (c k))) (a3 : rI h 39 = some (100, fun k => oN (w k))) : run 158 (0, [some (.ref 36), some (.int (nI k)), some (.int (nI g)), none], [], h) = some (some (.int (nI g0)), si (si (si h 39 g0 (-9)) 37 k (nI g)) 39 g (nI k)) := by
  have h1 : 0 ≤ (nI k).toInt ∧ (nI k).toInt ≤ 29 := nI_rng (by omega) (by omega)
  have h2 : -1 ≤ (nI g).toInt ∧ (nI g).toInt ≤ 99 := nI_rng1 (by omega) (by omega) (by omega)
  have h3 : ¬ nI g < 0 := nI_pos (by omega)
  have h30 : (0 : Int32) ≤ nI g := nI_pos' (by omega)
  have hg0 := hok.1 _ _ hc
  obtain ⟨h4, h5⟩ := r_code_free hok hg hw hk a3
  have h6 : gi h 37 (nI k) = some (nI g0) := by rw [gi_nI a1 hk (by decide), hc]; rfl
  have h7 : ¬ nI g0 < 0 := nI_pos (by omega)
  have h8 : pi h 39 (nI g0) (-9) = _ := pi_si (by decide) a3 hg0 (by decide)
  have a1b : rI (si h 39 g0 (-9)) 37 = some (30, fun k => oN (c k)) := by rw [rI_si, if_neg (by decide), a1]
  have h9 : pi (si h 39 g0 (-9)) 37 (nI k) (nI g) = _ := pi_si (by decide) a1b hk (by decide)
  have a3b : rI (si (si h 39 g0 (-9)) 37 k (nI g)) 39 = some (100, upd (fun k => oN (w k)) g0 (-9)) := by rw [rI_si, if_neg (by decide), rI_si, if_pos rfl, a3]; rfl
  have h10 : pi (si (si h 39 g0 (-9)) 37 k (nI g)) 39 (nI g) (nI k) = _ := pi_si (by decide) a3b hg (by decide)
  by_cases hz : oN (w g) < 0
  · simp only [uX12_code_0, uX12_code_1, uX12_code_4, uX12_code_7, uX12_code_8, uX12_code_9, uX12_code_10, uX12_code_11, uX12_code_14, uX12_code_17, uX12_code_20, uX12_code_23, uX12_code_25, uX12_code_26, uX12_code_27, uX12_code_30, uX12_code_31, uX12_code_34, uX12_code_35, uX12_code_36, uX12_code_39, uX12_code_40, uX12_code_43, uX12_code_44, uX12_code_45, uX12_code_46, uX12_code_49, uX12_code_51, uX12_code_52, uX12_code_53, uX12_code_56, uX12_code_57, uX12_code_58, uX12_code_59, uX12_code_60, uX12_code_63, uX12_code_64, uX12_code_67, uX12_code_68, uX12_code_70, uX12_code_71, uX12_code_72, uX12_code_75, uX12_code_76, uX12_code_77, uX12_code_80, uX12_code_82, uX12_code_85, uX12_code_86, uX12_code_87, uX12_code_88, uX12_code_91, uX12_code_92, uX12_code_95, uX12_code_96, uX12_code_97, uX12_code_98, uX12_code_99, r_noWord, h1, r_in_m1_99, h2, g1, g3, gf_si, h3, h30, h4, hz, h6, h7, h8, h9, h10, Option.bind_some, Option.toList_some, Option.toList_none, List.cons_append, List.nil_append, if_true, if_false, and_self, and_true, true_and, or_self, or_true, true_or, false_or, or_false, i10, i00, i01, i11, Nat.reduceAdd, st1_0, st1_c, st1_1i, st1_1r, st1_1n, st1_1u, st1_1J, st2_0, st2_c, st2_1i, st2_1r, st2_1n, st2_1u, st2_1J]
  · simp only [uX12_code_0, uX12_code_1, uX12_code_4, uX12_code_7, uX12_code_8, uX12_code_9, uX12_code_10, uX12_code_11, uX12_code_14, uX12_code_17, uX12_code_20, uX12_code_23, uX12_code_25, uX12_code_26, uX12_code_27, uX12_code_30, uX12_code_31, uX12_code_34, uX12_code_35, uX12_code_36, uX12_code_39, uX12_code_40, uX12_code_43, uX12_code_44, uX12_code_45, uX12_code_46, uX12_code_49, uX12_code_51, uX12_code_52, uX12_code_53, uX12_code_56, uX12_code_57, uX12_code_58, uX12_code_59, uX12_code_60, uX12_code_63, uX12_code_64, uX12_code_67, uX12_code_68, uX12_code_70, uX12_code_71, uX12_code_72, uX12_code_75, uX12_code_76, uX12_code_77, uX12_code_80, uX12_code_82, uX12_code_85, uX12_code_86, uX12_code_87, uX12_code_88, uX12_code_91, uX12_code_92, uX12_code_95, uX12_code_96, uX12_code_97, uX12_code_98, uX12_code_99, r_noWord, h1, r_in_m1_99, h2, g1, g3, gf_si, h3, h30, h4, h5 hz, nI_pos (show k < 2 ^ 31 by omega), h6, h7, h8, h9, h10, Option.bind_some, Option.toList_some, Option.toList_none, List.cons_append, List.nil_append, if_true, if_false, and_self, and_true, true_and, or_self, or_true, true_or, false_or, or_false, i10, i00, i01, i11, Nat.reduceAdd, st1_0, st1_c, st1_1i, st1_1r, st1_1n, st1_1u, st1_1J, st2_0, st2_c, st2_1i, st2_1r, st2_1n, st2_1u, st2_1J]
theorem r_spreadOf_loop (hok : bookOK c w) (g1 : gf h [(11, 1)] 36 = some (.ref 37)) (g3 : gf h [(11, 3)] 36 = some (.ref 39)) (a1 : rI h 37 = some (30, fun k => oN (c k))) (a3 : rI h 39 = some (100, fun k => oN (w k))) (hM : ∀ l, vc h [(11, l)] 36 = some l) : ∀ d b, b + d = 100 → run 192 (4, [some (.ref 36), some (.int (nI (cnt (fun b => decide (0 < cnt (fitP c w b) 30)) b))), some (.int (nI b))], [], h) = some (some (.int (nI (cnt (fun b => decide (0 < cnt (fitP c w b) 30)) 100))), h) := by
  intro d
  induction d with
  | zero =>
    intro b hb
    have hb : b = 100 := by omega
    subst hb
    have c1 : (100 : Int32) ≤ nI 100 := by decide
    simp only [uX12_spreadOf_0, uX12_spreadOf_1, uX12_spreadOf_2, uX12_spreadOf_3, uX12_spreadOf_4, uX12_spreadOf_5, uX12_spreadOf_7, uX12_spreadOf_10, uX12_spreadOf_11, uX12_spreadOf_12, uX12_spreadOf_13, uX12_spreadOf_16, uX12_spreadOf_19, uX12_spreadOf_20, uX12_spreadOf_23, uX12_spreadOf_24, uX12_spreadOf_25, uX12_spreadOf_26, uX12_spreadOf_29, uX12_spreadOf_32, uX12_spreadOf_33, c1, if_true, if_false, and_self, and_true, true_and, or_self, or_true, true_or, false_or, or_false, i10, i00, i01, i11]
  | succ d ih =>
    intro b hb
    have c1 : ¬ (100 : Int32) ≤ nI b := nI_ge (a := b) (b := 100) (by omega) (by decide)
    have ih1 := ih (b + 1) (by omega)
    have hp := r_pairsBy hok (show b < 100 by omega) g1 g3 a1 a3
    have hcl := cnt_le (fitP c w b) 30
    rw [uX12_spreadOf_4]
    by_cases hz : 0 < cnt (fitP c w b) 30
    · have e0 : nI (cnt (fun b => decide (0 < cnt (fitP c w b) 30)) b) + 1 = nI (cnt (fun b => decide (0 < cnt (fitP c w b) 30)) (b + 1)) := by
        rw [nI_1]
        show _ = nI (cnt _ b + if decide (0 < cnt (fitP c w b) 30) then 1 else 0)
        rw [if_pos (decide_eq_true hz)]
      have c2 : ¬ nI (cnt (fitP c w b) 30) ≤ 0 := nI_nle hz (by omega)
      simp only [uX12_spreadOf_0, uX12_spreadOf_1, uX12_spreadOf_2, uX12_spreadOf_3, uX12_spreadOf_5, uX12_spreadOf_7, uX12_spreadOf_10, uX12_spreadOf_11, uX12_spreadOf_12, uX12_spreadOf_13, uX12_spreadOf_16, uX12_spreadOf_19, uX12_spreadOf_20, uX12_spreadOf_23, uX12_spreadOf_24, uX12_spreadOf_25, uX12_spreadOf_26, uX12_spreadOf_29, uX12_spreadOf_32, uX12_spreadOf_33, hM, hp, c1, c2, e0, nI_1, Option.bind_some, Option.toList_some, Option.toList_none, List.cons_append, List.nil_append, if_true, if_false, and_self, and_true, true_and, or_self, or_true, true_or, false_or, or_false, i10, i00, i01, i11, Nat.reduceAdd, st1_0, st1_c, st1_1i, st1_1r, st1_1n, st1_1u, st1_1J, st2_0, st2_c, st2_1i, st2_1r, st2_1n, st2_1u, st2_1J]
      exact ih1
    · have e0 : nI (cnt (fun b => decide (0 < cnt (fitP c w b) 30)) b) + 0 = nI (cnt (fun b => decide (0 < cnt (fitP c w b) 30)) (b + 1)) := by
        show _ = nI (cnt _ b + if decide (0 < cnt (fitP c w b) 30) then 1 else 0)
        rw [if_neg (by simpa using hz)]
        exact nI_add _ 0
      have c2 : nI (cnt (fitP c w b) 30) ≤ 0 := by
        rw [show cnt (fitP c w b) 30 = 0 by omega]
        decide
      simp only [uX12_spreadOf_0, uX12_spreadOf_1, uX12_spreadOf_2, uX12_spreadOf_3, uX12_spreadOf_5, uX12_spreadOf_7, uX12_spreadOf_10, uX12_spreadOf_11, uX12_spreadOf_12, uX12_spreadOf_13, uX12_spreadOf_16, uX12_spreadOf_19, uX12_spreadOf_20, uX12_spreadOf_23, uX12_spreadOf_24, uX12_spreadOf_25, uX12_spreadOf_26, uX12_spreadOf_29, uX12_spreadOf_32, uX12_spreadOf_33, hM, hp, c1, c2, e0, nI_1, Option.bind_some, Option.toList_some, Option.toList_none, List.cons_append, List.nil_append, if_true, if_false, and_self, and_true, true_and, or_self, or_true, true_or, false_or, or_false, i10, i00, i01, i11, Nat.reduceAdd, st1_0, st1_c, st1_1i, st1_1r, st1_1n, st1_1u, st1_1J, st2_0, st2_c, st2_1i, st2_1r, st2_1n, st2_1u, st2_1J]
      exact ih1
theorem r_spreadOf (hok : bookOK c w) (g1 : gf h [(11, 1)] 36 = some (.ref 37)) (g3 : gf h [(11, 3)] 36 = some (.ref 39)) (a1 : rI h 37 = some (30, fun k => oN (c k))) (a3 : rI h 39 = some (100, fun k => oN (w k))) (hM : ∀ l, vc h [(11, l)] 36 = some l) : run 192 (0, [some (.ref 36), none, none], [], h) = some (some (.int (nI (cnt (fun b => decide (0 < cnt (fitP c w b) 30)) 100))), h) := by
  simp only [uX12_spreadOf_0, uX12_spreadOf_1, uX12_spreadOf_2, uX12_spreadOf_3, uX12_spreadOf_5, uX12_spreadOf_7, uX12_spreadOf_10, uX12_spreadOf_11, uX12_spreadOf_12, uX12_spreadOf_13, uX12_spreadOf_16, uX12_spreadOf_19, uX12_spreadOf_20, uX12_spreadOf_23, uX12_spreadOf_24, uX12_spreadOf_25, uX12_spreadOf_26, uX12_spreadOf_29, uX12_spreadOf_32, uX12_spreadOf_33, Option.bind_some, Option.toList_some, Option.toList_none, List.cons_append, List.nil_append, Nat.reduceAdd, st1_0, st1_c, st1_1i, st1_1r, st1_1n, st1_1u, st1_1J, st2_0, st2_c, st2_1i, st2_1r, st2_1n, st2_1u, st2_1J]
  exact r_spreadOf_loop hok g1 g3 a1 a3 hM 100 0 rfl
theorem r_spread (hok : bookOK c w) (g1 : gf h [(11, 1)] 36 = some (.ref 37)) (g3 : gf h [(11, 3)] 36 = some (.ref 39)) (a1 : rI h 37 = some (30, fun k => oN (c k))) (a3 : rI h 39 = some (100, fun k => oN (w k))) (hM : ∀ l, vc h [(11, l)] 36 = some l) : run 193 (0, [some (.ref 36)], [], h) = some (some (.int (nI (cnt (fun b => decide (0 < cnt (fitP c w b) 30)) 100))), h) := by
  simp only [uX12_spread_0, uX12_spread_1, uX12_spread_4, hM, r_spreadOf hok g1 g3 a1 a3 hM, Option.bind_some, Option.toList_some, Option.toList_none, List.cons_append, List.nil_append]
end RC
