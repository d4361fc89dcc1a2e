theorem r_in {v lo hi : Int64} {h : AH} : run 147 (0, [some (.long v), none, some (.long lo), none, some (.long hi), none], [], h) = some (some (.int (if lo ≤ v ∧ v ≤ hi then 1 else 0)), h) := by
  simp only [uX12_in_0, uX12_in_1, uX12_in_2, uX12_in_3, uX12_in_6, uX12_in_7, uX12_in_9, uX12_in_10, uX12_in_13, uX12_in_14, uX12_in_17, uX12_in_18, lg_cmp_lt, lg_cmp_gt]
  by_cases h1 : v < lo
  · have h2 : ¬ (lo ≤ v ∧ v ≤ hi) := fun q => Int64.not_le.mpr h1 q.1
    simp [h1, h2]
  · have h3 := Int64.not_lt.mp h1
    by_cases h4 : hi < v
    · have h2 : ¬ (lo ≤ v ∧ v ≤ hi) := fun q => Int64.not_le.mpr h4 q.2
      simp [h1, h4, h2]
    · have h5 := Int64.not_lt.mp h4
      simp [h1, h4, h3, h5]
theorem r_lost {h : AH} : run 148 (0, [], [], h) = some (some (.long (-9223372036854775808)), h) := by
  simp only [uX12_lost_0, uX12_lost_3]
theorem r_lesser {a b : Int32} {h : AH} : run 149 (0, [some (.int a), some (.int b)], [], h) = some (some (.int (if b ≤ a then b else a)), h) := by
  simp only [uX12_lesser_0, uX12_lesser_1, uX12_lesser_2, uX12_lesser_5, uX12_lesser_6, uX12_lesser_9, uX12_lesser_10]
  split <;> rfl
theorem r_rest {a : Int32} {h : AH} : run 150 (0, [some (.int a)], [], h) = some (some (.int (a - a / 100 * 100 + 100 - (a - a / 100 * 100 + 100) / 100 * 100)), h) := by
  have e : ¬ (100 : Int32) = 0 := by decide
  simp only [uX12_rest_0, uX12_rest_1, uX12_rest_3, uX12_rest_4, uX12_rest_6, uX12_rest_7, uX12_rest_9, uX12_rest_10, e, if_false]
theorem r_noWord {w : Int32} {h : AH} : run 156 (0, [some (.int w)], [], h) = some (some (.int (if 0 ≤ w.toInt ∧ w.toInt ≤ 29 then 0 else 1)), h) := by
  simp only [uX12_noWord_0, uX12_noWord_1, uX12_noWord_2, uX12_noWord_3, uX12_noWord_6, uX12_noWord_9, uX12_noWord_12, uX12_noWord_13, uX12_noWord_16, uX12_noWord_17, r_in, Option.bind_some, Option.toList_some, Option.toList_none, List.cons_append, List.nil_append, Int64.le_iff_toInt_le, i64]
  by_cases hc : (0 : Int64).toInt ≤ w.toInt ∧ w.toInt ≤ (29 : Int64).toInt
  · have hc2 : 0 ≤ w.toInt ∧ w.toInt ≤ 29 := hc
    simp [hc2]
  · have hc2 : ¬ (0 ≤ w.toInt ∧ w.toInt ≤ 29) := hc
    simp [hc2]
