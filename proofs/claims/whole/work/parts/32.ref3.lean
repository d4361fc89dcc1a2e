theorem i10 : ((1 : Int32) = 0) = False := eq_false (by decide)
theorem i00 : ((0 : Int32) = 0) = True := eq_true rfl
theorem i01 : ((0 : Int32) = 1) = False := eq_false (by decide)
theorem i11 : ((1 : Int32) = 1) = True := eq_true rfl
theorem nI_rng {k : Nat} {b : Int} (hb : (k : Int) ≤ b) (hk : k < 2 ^ 31) : 0 ≤ (nI k).toInt ∧ (nI k).toInt ≤ b := by
  rw [nI_toInt hk]
  omega
theorem nI_rng1 {k : Nat} {a b : Int} (ha : a ≤ k) (hb : (k : Int) ≤ b) (hk : k < 2 ^ 31) : a ≤ (nI k).toInt ∧ (nI k).toInt ≤ b := by
  rw [nI_toInt hk]
  omega
theorem inR {x : Int32} {b : Int} (h : 0 ≤ x.toInt ∧ x.toInt ≤ b) : ∃ k : Nat, (k : Int) ≤ b ∧ k < 2 ^ 31 ∧ x = nI k := by
  have h2 := (i64r x).2
  refine ⟨x.toInt.toNat, by omega, by omega, ?_⟩
  rw [← Int32.toInt_inj, nI_toInt (by omega)]
  omega
theorem r_inI {x : Int32} {lo hi : Int64} {a b : Int} {h : AH} (ha : lo.toInt = a) (hb : hi.toInt = b) : run 147 (0, [some (.long x.toInt64), none, some (.long lo), none, some (.long hi), none], [], h) = some (some (.int (if a ≤ x.toInt ∧ x.toInt ≤ b then 1 else 0)), h) := by
  rw [r_in]
  simp only [Int64.le_iff_toInt_le, i64, ha, hb]
theorem r_in_0_29 {x : Int32} {h : AH} : run 147 (0, [some (.long x.toInt64), none, some (.long 0), none, some (.long 29), none], [], h) = some (some (.int (if 0 ≤ x.toInt ∧ x.toInt ≤ 29 then 1 else 0)), h) := r_inI (by decide) (by decide)
theorem r_in_m1_99 {x : Int32} {h : AH} : run 147 (0, [some (.long x.toInt64), none, some (.long (-1)), none, some (.long 99), none], [], h) = some (some (.int (if (-1) ≤ x.toInt ∧ x.toInt ≤ 99 then 1 else 0)), h) := r_inI (by decide) (by decide)
theorem r_in_0_99 {x : Int32} {h : AH} : run 147 (0, [some (.long x.toInt64), none, some (.long 0), none, some (.long 99), none], [], h) = some (some (.int (if 0 ≤ x.toInt ∧ x.toInt ≤ 99 then 1 else 0)), h) := r_inI (by decide) (by decide)
theorem r_in_0_2 {x : Int32} {h : AH} : run 147 (0, [some (.long x.toInt64), none, some (.long 0), none, some (.long 2), none], [], h) = some (some (.int (if 0 ≤ x.toInt ∧ x.toInt ≤ 2 then 1 else 0)), h) := r_inI (by decide) (by decide)
theorem r_in_48_57 {x : Int32} {h : AH} : run 147 (0, [some (.long x.toInt64), none, some (.long 48), none, some (.long 57), none], [], h) = some (some (.int (if 48 ≤ x.toInt ∧ x.toInt ≤ 57 then 1 else 0)), h) := r_inI (by decide) (by decide)
theorem r_in_1_6 {x : Int32} {h : AH} : run 147 (0, [some (.long x.toInt64), none, some (.long 1), none, some (.long 6), none], [], h) = some (some (.int (if 1 ≤ x.toInt ∧ x.toInt ≤ 6 then 1 else 0)), h) := r_inI (by decide) (by decide)
theorem r_in_0_5 {x : Int32} {h : AH} : run 147 (0, [some (.long x.toInt64), none, some (.long 0), none, some (.long 5), none], [], h) = some (some (.int (if 0 ≤ x.toInt ∧ x.toInt ≤ 5 then 1 else 0)), h) := r_inI (by decide) (by decide)
theorem r_in_1_12 {x : Int32} {h : AH} : run 147 (0, [some (.long x.toInt64), none, some (.long 1), none, some (.long 12), none], [], h) = some (some (.int (if 1 ≤ x.toInt ∧ x.toInt ≤ 12 then 1 else 0)), h) := r_inI (by decide) (by decide)
theorem r_in_m1_11 {x : Int32} {h : AH} : run 147 (0, [some (.long x.toInt64), none, some (.long (-1)), none, some (.long 11), none], [], h) = some (some (.int (if (-1) ≤ x.toInt ∧ x.toInt ≤ 11 then 1 else 0)), h) := r_inI (by decide) (by decide)
theorem r_in_0_9 {x : Int32} {h : AH} : run 147 (0, [some (.long x.toInt64), none, some (.long 0), none, some (.long 9), none], [], h) = some (some (.int (if 0 ≤ x.toInt ∧ x.toInt ≤ 9 then 1 else 0)), h) := r_inI (by decide) (by decide)
theorem r_in_1_99 {x : Int32} {h : AH} : run 147 (0, [some (.long x.toInt64), none, some (.long 1), none, some (.long 99), none], [], h) = some (some (.int (if 1 ≤ x.toInt ∧ x.toInt ≤ 99 then 1 else 0)), h) := r_inI (by decide) (by decide)
theorem r_in_0_9999 {x : Int32} {h : AH} : run 147 (0, [some (.long x.toInt64), none, some (.long 0), none, some (.long 9999), none], [], h) = some (some (.int (if 0 ≤ x.toInt ∧ x.toInt ≤ 9999 then 1 else 0)), h) := r_inI (by decide) (by decide)
theorem r_in_0_3 {x : Int32} {h : AH} : run 147 (0, [some (.long x.toInt64), none, some (.long 0), none, some (.long 3), none], [], h) = some (some (.int (if 0 ≤ x.toInt ∧ x.toInt ≤ 3 then 1 else 0)), h) := r_inI (by decide) (by decide)
theorem r_in_0_1 {x : Int32} {h : AH} : run 147 (0, [some (.long x.toInt64), none, some (.long 0), none, some (.long 1), none], [], h) = some (some (.int (if 0 ≤ x.toInt ∧ x.toInt ≤ 1 then 1 else 0)), h) := r_inI (by decide) (by decide)
theorem r_noPost {x : Int32} {h : AH} : run 166 (0, [some (.int x)], [], h) = some (some (.int (if 0 ≤ x.toInt ∧ x.toInt ≤ 5 then 0 else 1)), h) := by
  simp only [uX12_noPost_0, uX12_noPost_1, uX12_noPost_2, uX12_noPost_3, uX12_noPost_6, uX12_noPost_9, uX12_noPost_12, uX12_noPost_13, uX12_noPost_16, uX12_noPost_17, r_in_0_5, Option.bind_some, Option.toList_some, Option.toList_none, List.cons_append, List.nil_append]
  by_cases hc : 0 ≤ x.toInt ∧ x.toInt ≤ 5
  · simp only [hc, if_true, if_false, and_self, and_true, true_and, or_self, or_true, true_or, false_or, or_false, i10, i00, i01, i11]
  · simp only [hc, if_true, if_false, and_self, and_true, true_and, or_self, or_true, true_or, false_or, or_false, i10, i00, i01, i11]
theorem r_noSheet {x : Int32} {h : AH} : run 208 (0, [some (.int x)], [], h) = some (some (.int (if 0 ≤ x.toInt ∧ x.toInt ≤ 3 then 0 else 1)), h) := by
  simp only [uX12_noSheet_0, uX12_noSheet_1, uX12_noSheet_2, uX12_noSheet_3, uX12_noSheet_6, uX12_noSheet_9, uX12_noSheet_12, uX12_noSheet_13, uX12_noSheet_16, uX12_noSheet_17, r_in_0_3, Option.bind_some, Option.toList_some, Option.toList_none, List.cons_append, List.nil_append]
  by_cases hc : 0 ≤ x.toInt ∧ x.toInt ≤ 3
  · simp only [hc, if_true, if_false, and_self, and_true, true_and, or_self, or_true, true_or, false_or, or_false, i10, i00, i01, i11]
  · simp only [hc, if_true, if_false, and_self, and_true, true_and, or_self, or_true, true_or, false_or, or_false, i10, i00, i01, i11]
theorem r_isGroup {x : Int32} {h : AH} : run 157 (0, [some (.int x)], [], h) = some (some (.int (if 0 ≤ x.toInt ∧ x.toInt ≤ 99 then 1 else 0)), h) := by
  simp only [uX12_isGroup_0, uX12_isGroup_1, uX12_isGroup_2, uX12_isGroup_3, uX12_isGroup_6, uX12_isGroup_9, r_in_0_99, Option.bind_some, Option.toList_some, Option.toList_none, List.cons_append, List.nil_append]
  by_cases hc : 0 ≤ x.toInt ∧ x.toInt ≤ 99
  · simp only [hc, if_true, if_false, and_self, and_true, true_and, or_self, or_true, true_or, false_or, or_false, i10, i00, i01, i11]
  · simp only [hc, if_true, if_false, and_self, and_true, true_and, or_self, or_true, true_or, false_or, or_false, i10, i00, i01, i11]
theorem r_isDay {x : Int32} {h : AH} {a : Nat} : run 172 (0, [some (.ref a), some (.int x)], [], h) = some (some (.int (if 0 ≤ x.toInt ∧ x.toInt ≤ 99 then 1 else 0)), h) := by
  simp only [uX12_isDay_0, uX12_isDay_1, uX12_isDay_2, uX12_isDay_3, uX12_isDay_6, uX12_isDay_9, r_in_0_99, Option.bind_some, Option.toList_some, Option.toList_none, List.cons_append, List.nil_append]
  by_cases hc : 0 ≤ x.toInt ∧ x.toInt ≤ 99
  · simp only [hc, if_true, if_false, and_self, and_true, true_and, or_self, or_true, true_or, false_or, or_false, i10, i00, i01, i11]
  · simp only [hc, if_true, if_false, and_self, and_true, true_and, or_self, or_true, true_or, false_or, or_false, i10, i00, i01, i11]
theorem l1sub {n : Nat} (hn : n < 2 ^ 31) : ((nI n).toInt64 - 1).toInt = (n : Int) - 1 := by
  have e : (nI n).toInt64 = Int64.ofInt (n : Int) := by rw [← Int64.ofInt_int32ToInt, nI_toInt hn]
  have e1 : (1 : Int64) = Int64.ofInt 1 := by decide
  rw [e, e1, ← Int64.ofInt_sub, Int64.toInt_ofInt_of_le (by omega) (by omega)]
theorem r_noPage {x : Int32} {h : AH} {n : Nat} (hn : n < 2 ^ 31) (g : gf h [(11, 10)] 36 = some (.int (nI n))) : run 165 (0, [some (.ref 36), some (.int x)], [], h) = some (some (.int (if 0 ≤ x.toInt ∧ x.toInt ≤ (n : Int) - 1 then 0 else 1)), h) := by
  simp only [uX12_noPage_0, uX12_noPage_1, uX12_noPage_2, uX12_noPage_3, uX12_noPage_4, uX12_noPage_7, uX12_noPage_8, uX12_noPage_9, uX12_noPage_10, uX12_noPage_13, uX12_noPage_16, uX12_noPage_17, uX12_noPage_20, uX12_noPage_21, g, r_inI (show (0 : Int64).toInt = 0 by decide) (l1sub hn), Option.bind_some, Option.toList_some, Option.toList_none, List.cons_append, List.nil_append]
  by_cases hc : 0 ≤ x.toInt ∧ x.toInt ≤ (n : Int) - 1
  · simp only [hc, if_true, if_false, and_self, and_true, true_and, or_self, or_true, true_or, false_or, or_false, i10, i00, i01, i11]
  · simp only [hc, if_true, if_false, and_self, and_true, true_and, or_self, or_true, true_or, false_or, or_false, i10, i00, i01, i11]
theorem r_noLetter {x : Int32} {h : AH} {n : Nat} (hn : n < 2 ^ 31) (g : gf h [(11, 16)] 36 = some (.int (nI n))) : run 171 (0, [some (.ref 36), some (.int x)], [], h) = some (some (.int (if 0 ≤ x.toInt ∧ x.toInt ≤ (n : Int) - 1 then 0 else 1)), h) := by
  simp only [uX12_noLetter_0, uX12_noLetter_1, uX12_noLetter_2, uX12_noLetter_3, uX12_noLetter_4, uX12_noLetter_7, uX12_noLetter_8, uX12_noLetter_9, uX12_noLetter_10, uX12_noLetter_13, uX12_noLetter_16, uX12_noLetter_17, uX12_noLetter_20, uX12_noLetter_21, g, r_inI (show (0 : Int64).toInt = 0 by decide) (l1sub hn), Option.bind_some, Option.toList_some, Option.toList_none, List.cons_append, List.nil_append]
  by_cases hc : 0 ≤ x.toInt ∧ x.toInt ≤ (n : Int) - 1
  · simp only [hc, if_true, if_false, and_self, and_true, true_and, or_self, or_true, true_or, false_or, or_false, i10, i00, i01, i11]
  · simp only [hc, if_true, if_false, and_self, and_true, true_and, or_self, or_true, true_or, false_or, or_false, i10, i00, i01, i11]
theorem r_refused {x : Int32} {h : AH} (p : pf h [(11, 0)] 36 (.int 0) = some (sf h 36 0 (.int 0))) : run 152 (0, [some (.ref 36), some (.int x)], [], h) = some (some (.int x), sf h 36 0 (.int 0)) := by
  simp only [uX12_refused_0, uX12_refused_1, uX12_refused_2, uX12_refused_5, uX12_refused_6, p, Option.bind_some, Option.toList_some, Option.toList_none, List.cons_append, List.nil_append]
theorem r_failed {x : Int32} {h : AH} (p : pf h [(11, 0)] 36 (.int x) = some (sf h 36 0 (.int x))) : run 153 (0, [some (.ref 36), some (.int x)], [], h) = some (some (.int (-10 - x)), sf h 36 0 (.int x)) := by
  simp only [uX12_failed_0, uX12_failed_1, uX12_failed_2, uX12_failed_5, uX12_failed_7, uX12_failed_8, uX12_failed_9, p, Option.bind_some, Option.toList_some, Option.toList_none, List.cons_append, List.nil_append]
theorem r_failedLong {x : Int32} {h : AH} (p : pf h [(11, 0)] 36 (.int x) = some (sf h 36 0 (.int x))) : run 154 (0, [some (.ref 36), some (.int x)], [], h) = some (some (.long (-9223372036854775808)), sf h 36 0 (.int x)) := by
  simp only [uX12_failedLong_0, uX12_failedLong_1, uX12_failedLong_2, uX12_failedLong_5, uX12_failedLong_8, p, r_lost, Option.bind_some, Option.toList_some, Option.toList_none, List.cons_append, List.nil_append]
theorem r_weight_u {w n : Int32} {h : AH} (hw : ¬ (0 ≤ w.toInt ∧ w.toInt ≤ 29)) : run 159 (0, [some (.ref 36), some (.int w), some (.int n), none], [], h) = some (some (.int (-1)), h) := by
  simp only [uX12_weight_0, uX12_weight_1, uX12_weight_4, uX12_weight_7, uX12_weight_8, uX12_weight_9, uX12_weight_10, uX12_weight_11, uX12_weight_12, uX12_weight_15, uX12_weight_18, uX12_weight_21, uX12_weight_23, uX12_weight_24, uX12_weight_25, uX12_weight_28, uX12_weight_29, uX12_weight_30, uX12_weight_31, uX12_weight_32, uX12_weight_35, uX12_weight_36, uX12_weight_37, uX12_weight_38, uX12_weight_39, r_noWord, hw, Option.bind_some, Option.toList_some, Option.toList_none, List.cons_append, List.nil_append, if_true, if_false, and_self, and_true, true_and, or_self, or_true, true_or, false_or, or_false, i10, i00, i01, i11]
theorem r_weight_o {n : Int32} {k : Nat} {h : AH} (hk : k < 30) (hn : ¬ (0 ≤ n.toInt ∧ n.toInt ≤ 99)) : run 159 (0, [some (.ref 36), some (.int (nI k)), some (.int n), none], [], h) = some (some (.int (-2)), h) := by
  have h1 : 0 ≤ (nI k).toInt ∧ (nI k).toInt ≤ 29 := nI_rng (by omega) (by omega)
  simp only [uX12_weight_0, uX12_weight_1, uX12_weight_4, uX12_weight_7, uX12_weight_8, uX12_weight_9, uX12_weight_10, uX12_weight_11, uX12_weight_12, uX12_weight_15, uX12_weight_18, uX12_weight_21, uX12_weight_23, uX12_weight_24, uX12_weight_25, uX12_weight_28, uX12_weight_29, uX12_weight_30, uX12_weight_31, uX12_weight_32, uX12_weight_35, uX12_weight_36, uX12_weight_37, uX12_weight_38, uX12_weight_39, r_noWord, h1, r_in_0_99, hn, Option.bind_some, Option.toList_some, Option.toList_none, List.cons_append, List.nil_append, if_true, if_false, and_self, and_true, true_and, or_self, or_true, true_or, false_or, or_false, i10, i00, i01, i11]
theorem r_weight {k j : Nat} {h : AH} {wt : Nat → Nat} (hk : k < 30) (hj : j < 100) (g2 : gf h [(11, 2)] 36 = some (.ref 38)) (a2 : rI h 38 = some (30, fun k => nI (wt k))) : run 159 (0, [some (.ref 36), some (.int (nI k)), some (.int (nI j)), none], [], h) = some (some (.int (nI (wt k))), si h 38 k (nI j)) := by
  have h1 : 0 ≤ (nI k).toInt ∧ (nI k).toInt ≤ 29 := nI_rng (by omega) (by omega)
  have h2 : 0 ≤ (nI j).toInt ∧ (nI j).toInt ≤ 99 := nI_rng (by omega) (by omega)
  have h3 := gi_nI a2 hk (by decide)
  have h4 : pi h 38 (nI k) (nI j) = _ := pi_si (by decide) a2 hk (by decide)
  simp only [uX12_weight_0, uX12_weight_1, uX12_weight_4, uX12_weight_7, uX12_weight_8, uX12_weight_9, uX12_weight_10, uX12_weight_11, uX12_weight_12, uX12_weight_15, uX12_weight_18, uX12_weight_21, uX12_weight_23, uX12_weight_24, uX12_weight_25, uX12_weight_28, uX12_weight_29, uX12_weight_30, uX12_weight_31, uX12_weight_32, uX12_weight_35, uX12_weight_36, uX12_weight_37, uX12_weight_38, uX12_weight_39, r_noWord, h1, r_in_0_99, h2, g2, h3, h4, Option.bind_some, Option.toList_some, Option.toList_none, List.cons_append, List.nil_append, if_true, if_false, and_self, and_true, true_and, or_self, or_true, true_or, false_or, or_false, i10, i00, i01, i11, Nat.reduceAdd, st1_0, st1_c, st1_1i, st1_1r, st1_1n, st1_1u, st1_1J, st2_0, st2_c, st2_1i, st2_1r, st2_1n, st2_1u, st2_1J]
theorem r_need_u {w n : Int32} {h : AH} (hw : ¬ (0 ≤ w.toInt ∧ w.toInt ≤ 5)) : run 180 (0, [some (.ref 36), some (.int w), some (.int n), none], [], h) = some (some (.int (-1)), h) := by
  simp only [uX12_need_0, uX12_need_1, uX12_need_4, uX12_need_7, uX12_need_8, uX12_need_9, uX12_need_10, uX12_need_11, uX12_need_12, uX12_need_15, uX12_need_18, uX12_need_21, uX12_need_23, uX12_need_24, uX12_need_25, uX12_need_28, uX12_need_29, uX12_need_30, uX12_need_31, uX12_need_32, uX12_need_35, uX12_need_36, uX12_need_37, uX12_need_38, uX12_need_39, r_noPost, hw, Option.bind_some, Option.toList_some, Option.toList_none, List.cons_append, List.nil_append, if_true, if_false, and_self, and_true, true_and, or_self, or_true, true_or, false_or, or_false, i10, i00, i01, i11]
theorem r_need_o {n : Int32} {k : Nat} {h : AH} (hk : k < 6) (hn : ¬ (0 ≤ n.toInt ∧ n.toInt ≤ 9)) : run 180 (0, [some (.ref 36), some (.int (nI k)), some (.int n), none], [], h) = some (some (.int (-2)), h) := by
  have h1 : 0 ≤ (nI k).toInt ∧ (nI k).toInt ≤ 5 := nI_rng (by omega) (by omega)
  simp only [uX12_need_0, uX12_need_1, uX12_need_4, uX12_need_7, uX12_need_8, uX12_need_9, uX12_need_10, uX12_need_11, uX12_need_12, uX12_need_15, uX12_need_18, uX12_need_21, uX12_need_23, uX12_need_24, uX12_need_25, uX12_need_28, uX12_need_29, uX12_need_30, uX12_need_31, uX12_need_32, uX12_need_35, uX12_need_36, uX12_need_37, uX12_need_38, uX12_need_39, r_noPost, h1, r_in_0_9, hn, Option.bind_some, Option.toList_some, Option.toList_none, List.cons_append, List.nil_append, if_true, if_false, and_self, and_true, true_and, or_self, or_true, true_or, false_or, or_false, i10, i00, i01, i11]
theorem r_need {k j : Nat} {h : AH} {nd : Nat → Nat} (hk : k < 6) (hj : j < 10) (g : gf h [(11, 23)] 36 = some (.ref 51)) (a : rI h 51 = some (6, fun k => nI (nd k))) : run 180 (0, [some (.ref 36), some (.int (nI k)), some (.int (nI j)), none], [], h) = some (some (.int (nI (nd k))), si h 51 k (nI j)) := by
  have h1 : 0 ≤ (nI k).toInt ∧ (nI k).toInt ≤ 5 := nI_rng (by omega) (by omega)
  have h2 : 0 ≤ (nI j).toInt ∧ (nI j).toInt ≤ 9 := nI_rng (by omega) (by omega)
  have h3 := gi_nI a hk (by decide)
  have h4 : pi h 51 (nI k) (nI j) = _ := pi_si (by decide) a hk (by decide)
  simp only [uX12_need_0, uX12_need_1, uX12_need_4, uX12_need_7, uX12_need_8, uX12_need_9, uX12_need_10, uX12_need_11, uX12_need_12, uX12_need_15, uX12_need_18, uX12_need_21, uX12_need_23, uX12_need_24, uX12_need_25, uX12_need_28, uX12_need_29, uX12_need_30, uX12_need_31, uX12_need_32, uX12_need_35, uX12_need_36, uX12_need_37, uX12_need_38, uX12_need_39, r_noPost, h1, r_in_0_9, h2, g, h3, h4, Option.bind_some, Option.toList_some, Option.toList_none, List.cons_append, List.nil_append, if_true, if_false, and_self, and_true, true_and, or_self, or_true, true_or, false_or, or_false, i10, i00, i01, i11, Nat.reduceAdd, st1_0, st1_c, st1_1i, st1_1r, st1_1n, st1_1u, st1_1J, st2_0, st2_c, st2_1i, st2_1r, st2_1n, st2_1u, st2_1J]
theorem r_trace {h : AH} {x : Int32} (g : gf h [(11, 32)] 36 = some (.int x)) : run 220 (0, [some (.ref 36)], [], h) = some (some (.int x), h) := by
  simp only [uX12_trace_0, uX12_trace_1, uX12_trace_4, g, Option.bind_some, Option.toList_some, Option.toList_none, List.cons_append, List.nil_append]
theorem r_fault {h : AH} {x : Int32} (g : gf h [(11, 0)] 36 = some (.int x)) : run 221 (0, [some (.ref 36)], [], h) = some (some (.int x), h) := by
  simp only [uX12_fault_0, uX12_fault_1, uX12_fault_4, g, Option.bind_some, Option.toList_some, Option.toList_none, List.cons_append, List.nil_append]
theorem r_traced {h : AH} {x y : Int32} (g : gf h [(11, 32)] 36 = some (.int x)) (p : ∀ z, pf h [(11, 32)] 36 (.int z) = some (sf h 36 32 (.int z))) : run 216 (0, [some (.ref 36), some (.int y)], [], h) = some (none, sf h 36 32 (.int (31 * x + y))) := by
  simp only [uX12_traced_0, uX12_traced_1, uX12_traced_3, uX12_traced_4, uX12_traced_7, uX12_traced_8, uX12_traced_9, uX12_traced_10, uX12_traced_13, g, p, Option.bind_some, Option.toList_some, Option.toList_none, List.cons_append, List.nil_append]
theorem r_ofDrill_d {h : AH} {x : Int32} (hx : x.toInt < 0 ∨ 3 < x.toInt) : run 164 (0, [some (.ref 36), some (.int x)], [], h) = some (some (.int (-2)), h) := by
  rw [uX12_ofDrill_0, uX12_ofDrill_1_d hx]
  simp only [uX12_ofDrill_0, uX12_ofDrill_32, uX12_ofDrill_33, uX12_ofDrill_36, uX12_ofDrill_37, uX12_ofDrill_38, uX12_ofDrill_41, uX12_ofDrill_42, uX12_ofDrill_43, uX12_ofDrill_46, uX12_ofDrill_47, uX12_ofDrill_48, uX12_ofDrill_51, uX12_ofDrill_52, uX12_ofDrill_54]
theorem r_ofDrill_0 {h : AH} {v : Int32} (g : gf h [(11, 4)] 36 = some (.int v)) : run 164 (0, [some (.ref 36), some (.int 0)], [], h) = some (some (.int v), h) := by
  rw [uX12_ofDrill_0, uX12_ofDrill_1_0]
  simp only [uX12_ofDrill_0, uX12_ofDrill_32, uX12_ofDrill_33, uX12_ofDrill_36, uX12_ofDrill_37, uX12_ofDrill_38, uX12_ofDrill_41, uX12_ofDrill_42, uX12_ofDrill_43, uX12_ofDrill_46, uX12_ofDrill_47, uX12_ofDrill_48, uX12_ofDrill_51, uX12_ofDrill_52, uX12_ofDrill_54, g, Option.bind_some, Option.toList_some, Option.toList_none, List.cons_append, List.nil_append]
theorem r_ofDrill_1 {h : AH} {v : Int32} (g : gf h [(11, 5)] 36 = some (.int v)) : run 164 (0, [some (.ref 36), some (.int 1)], [], h) = some (some (.int v), h) := by
  rw [uX12_ofDrill_0, uX12_ofDrill_1_1]
  simp only [uX12_ofDrill_0, uX12_ofDrill_32, uX12_ofDrill_33, uX12_ofDrill_36, uX12_ofDrill_37, uX12_ofDrill_38, uX12_ofDrill_41, uX12_ofDrill_42, uX12_ofDrill_43, uX12_ofDrill_46, uX12_ofDrill_47, uX12_ofDrill_48, uX12_ofDrill_51, uX12_ofDrill_52, uX12_ofDrill_54, g, Option.bind_some, Option.toList_some, Option.toList_none, List.cons_append, List.nil_append]
theorem r_ofDrill_2 {h : AH} {v : Int32} (g : gf h [(11, 6)] 36 = some (.int v)) : run 164 (0, [some (.ref 36), some (.int 2)], [], h) = some (some (.int v), h) := by
  rw [uX12_ofDrill_0, uX12_ofDrill_1_2]
  simp only [uX12_ofDrill_0, uX12_ofDrill_32, uX12_ofDrill_33, uX12_ofDrill_36, uX12_ofDrill_37, uX12_ofDrill_38, uX12_ofDrill_41, uX12_ofDrill_42, uX12_ofDrill_43, uX12_ofDrill_46, uX12_ofDrill_47, uX12_ofDrill_48, uX12_ofDrill_51, uX12_ofDrill_52, uX12_ofDrill_54, g, Option.bind_some, Option.toList_some, Option.toList_none, List.cons_append, List.nil_append]
theorem r_ofDrill_3 {h : AH} {v : Int32} (g : gf h [(11, 7)] 36 = some (.int v)) : run 164 (0, [some (.ref 36), some (.int 3)], [], h) = some (some (.int v), h) := by
  rw [uX12_ofDrill_0, uX12_ofDrill_1_3]
  simp only [uX12_ofDrill_0, uX12_ofDrill_32, uX12_ofDrill_33, uX12_ofDrill_36, uX12_ofDrill_37, uX12_ofDrill_38, uX12_ofDrill_41, uX12_ofDrill_42, uX12_ofDrill_43, uX12_ofDrill_46, uX12_ofDrill_47, uX12_ofDrill_48, uX12_ofDrill_51, uX12_ofDrill_52, uX12_ofDrill_54, g, Option.bind_some, Option.toList_some, Option.toList_none, List.cons_append, List.nil_append]
