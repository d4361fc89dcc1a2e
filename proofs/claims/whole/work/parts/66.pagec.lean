theorem gl_nI {h : AH} {a n : Nat} {f : Nat → Int32} (hr : rI h a = some (n, f)) : gl h a = some (nI n) := by
  unfold gl
  rw [hr]
  rfl
def kc (k : Nat) : Nat := if k = 0 then 4 else if k = 1 then 7 else 8
def pgF (u o q l : Nat) : List Value := [.int (nI u), .int (nI o), .ref q, .int (nI l)]
section PGG
variable {h : AH} {a k u o q l n : Nat}
theorem k3 {k : Nat} (hk : k < 3) : k = 0 ∨ k = 1 ∨ k = 2 := by omega
theorem lk3 {k i : Nat} (hk : k < 3) : List.lookup (kc k) [(4, i), (7, i), (8, i)] = some i := by
  rcases k3 hk with e | e | e <;> subst e <;> rfl
theorem gPg {i : Nat} {v : Value} {fs : List Value} (hP : rO h a = some (kc k, fs)) (hk : k < 3) (h4 : 4 ≤ a) (hv : fs[i]? = some v) : gf h [(4, i), (7, i), (8, i)] a = some v := gf_at (by omega) hP (lk3 hk) hv
theorem vPg {m : Nat} {fs : List Value} (hP : rO h a = some (kc k, fs)) (hk : k < 3) : vc h [(4, m), (7, m), (8, m)] a = some m := vc_at hP (lk3 hk)
theorem gPg0 (hP : rO h a = some (kc k, pgF u o q l)) (hk : k < 3) (h4 : 4 ≤ a) : gf h [(4, 0), (7, 0), (8, 0)] a = some (.int (nI u)) := gPg hP hk h4 rfl
theorem gPg1 (hP : rO h a = some (kc k, pgF u o q l)) (hk : k < 3) (h4 : 4 ≤ a) : gf h [(4, 1), (7, 1), (8, 1)] a = some (.int (nI o)) := gPg hP hk h4 rfl
theorem gPg2 (hP : rO h a = some (kc k, pgF u o q l)) (hk : k < 3) (h4 : 4 ≤ a) : gf h [(4, 2), (7, 2), (8, 2)] a = some (.ref q) := gPg hP hk h4 rfl
theorem gPg3 (hP : rO h a = some (kc k, pgF u o q l)) (hk : k < 3) (h4 : 4 ≤ a) : gf h [(4, 3), (7, 3), (8, 3)] a = some (.int (nI l)) := gPg hP hk h4 rfl
theorem c_psize {f : Nat → Int32} (hP : rO h a = some (kc k, pgF u o q l)) (hk : k < 3) (h4 : 4 ≤ a) (hf : rI h q = some (n, f)) : run 55 (0, [some (.ref a)], [], h) = some (some (.int (nI n)), h) := by
  simp only [uX5_size_0, uX5_size_1, uX5_size_4, uX5_size_5, gPg2 hP hk h4, gl_nI hf, Option.bind_some, Option.toList_some, Option.toList_none, List.cons_append, List.nil_append, if_true, if_false, and_self, and_true, true_and, or_self, or_true, true_or, false_or, or_false, i10, i00, i01, i11, Nat.reduceAdd, st1_0, st1_c, st1_1i, st1_1r, st1_1n, st1_1u, st1_1J, st2_0, st2_c, st2_1i, st2_1r, st2_1n, st2_1u, st2_1J]
theorem c_kindV {F : Rs → Option Rs} (hP : rO h a = some (kc k, pgF u o q l)) (hk : k < 3) : ((vc h [(4, 50), (7, 91), (8, 95)] a).bind fun c => (run c (ent c [.ref a] h)).bind F) = F (some (.int (nI k)), h) := by
  rcases k3 hk with e | e | e
  · subst e
    rw [vc_at (d := 50) hP rfl, Option.bind_some, show ent 50 [.ref a] h = (0, [some (.ref a)], [], h) from rfl]
    have r : run 50 (0, [some (.ref a)], [], h) = some (some (.int (nI 0)), h) := by
      simp only [uX5_kind_0, uX5_kind_1]
      rfl
    rw [r, Option.bind_some]
  · subst e
    rw [vc_at (d := 91) hP rfl, Option.bind_some, show ent 91 [.ref a] h = (0, [some (.ref a)], [], h) from rfl]
    have r : run 91 (0, [some (.ref a)], [], h) = some (some (.int (nI 1)), h) := by
      simp only [uX8_kind_0, uX8_kind_1]
      rfl
    rw [r, Option.bind_some]
  · subst e
    rw [vc_at (d := 95) hP rfl, Option.bind_some, show ent 95 [.ref a] h = (0, [some (.ref a)], [], h) from rfl]
    have r : run 95 (0, [some (.ref a)], [], h) = some (some (.int (nI 2)), h) := by
      simp only [uX9_kind_0, uX9_kind_1]
      rfl
    rw [r, Option.bind_some]
theorem max0 {n k : Nat} (hn : n < 2 ^ 30) (hk : k < 3) : (if (0 : Int32) < nI n - nI k then nI n - nI k else 0) = nI (n - k) := by
  have es : (nI n - nI k).toInt = (n : Int) - k := nI_subI hn (by omega)
  have c : ((0 : Int32) < nI n - nI k) = (0 < (n : Int) - k) := by rw [Int32.lt_iff_toInt_lt, es]; rfl
  by_cases q : 0 < (n : Int) - k
  · rw [if_pos (by rw [c]; exact q), ← Int32.toInt_inj, es, nI_toInt (by omega)]
    omega
  · rw [if_neg (by rw [c]; exact q), show n - k = 0 by omega]
    rfl
theorem c_usableV {F : Rs → Option Rs} {f : Nat → Int32} (hP : rO h a = some (kc k, pgF u o q l)) (hk : k < 3) (h4 : 4 ≤ a) (hf : rI h q = some (n, f)) (hn : n < 2 ^ 30) : ((vc h [(4, 51), (7, 92), (8, 96)] a).bind fun c => (run c (ent c [.ref a] h)).bind F) = F (some (.int (nI (n - k))), h) := by
  have sz := c_psize hP hk h4 hf
  have g2 := gPg2 hP hk h4
  have m0 := max0 hn hk
  rcases k3 hk with e | e | e
  · subst e
    rw [vc_at (d := 51) hP rfl, Option.bind_some, show ent 51 [.ref a] h = (0, [some (.ref a)], [], h) from rfl]
    have r : run 51 (0, [some (.ref a)], [], h) = some (some (.int (nI (n - 0))), h) := by
      rw [Nat.sub_zero]
      simp only [uX5_usable_0, uX5_usable_1, uX5_usable_4, uX5_usable_5, g2, gl_nI hf, Option.bind_some, Option.toList_some, Option.toList_none, List.cons_append, List.nil_append, if_true, if_false, and_self, and_true, true_and, or_self, or_true, true_or, false_or, or_false, i10, i00, i01, i11, Nat.reduceAdd, st1_0, st1_c, st1_1i, st1_1r, st1_1n, st1_1u, st1_1J, st2_0, st2_c, st2_1i, st2_1r, st2_1n, st2_1u, st2_1J]
    rw [r, Option.bind_some]
  · subst e
    rw [vc_at (d := 92) hP rfl, Option.bind_some, show ent 92 [.ref a] h = (0, [some (.ref a)], [], h) from rfl]
    have r : run 92 (0, [some (.ref a)], [], h) = some (some (.int (nI (n - 1))), h) := by
      have v1 : vc h [(7, 55), (8, 55)] a = some 55 := vc_at hP rfl
      rw [show nI 1 = 1 from rfl] at m0
      simp only [uX8_usable_0, uX8_usable_1, uX8_usable_2, uX8_usable_5, uX8_usable_6, uX8_usable_7, uX8_usable_10, v1, sz, j_max, m0, Option.bind_some, Option.toList_some, Option.toList_none, List.cons_append, List.nil_append, if_true, if_false, and_self, and_true, true_and, or_self, or_true, true_or, false_or, or_false, i10, i00, i01, i11, Nat.reduceAdd, st1_0, st1_c, st1_1i, st1_1r, st1_1n, st1_1u, st1_1J, st2_0, st2_c, st2_1i, st2_1r, st2_1n, st2_1u, st2_1J]
    rw [r, Option.bind_some]
  · subst e
    rw [vc_at (d := 96) hP rfl, Option.bind_some, show ent 96 [.ref a] h = (0, [some (.ref a)], [], h) from rfl]
    have r : run 96 (0, [some (.ref a)], [], h) = some (some (.int (nI (n - 2))), h) := by
      have v1 : vc h [(8, 55)] a = some 55 := vc_at hP rfl
      rw [show nI 2 = 2 from rfl] at m0
      simp only [uX9_usable_0, uX9_usable_1, uX9_usable_2, uX9_usable_5, uX9_usable_6, uX9_usable_7, uX9_usable_10, v1, sz, j_max, m0, Option.bind_some, Option.toList_some, Option.toList_none, List.cons_append, List.nil_append, if_true, if_false, and_self, and_true, true_and, or_self, or_true, true_or, false_or, or_false, i10, i00, i01, i11, Nat.reduceAdd, st1_0, st1_c, st1_1i, st1_1r, st1_1n, st1_1u, st1_1J, st2_0, st2_c, st2_1i, st2_1r, st2_1n, st2_1u, st2_1J]
    rw [r, Option.bind_some]
theorem c_isBurnt (hP : rO h a = some (kc k, pgF u o q l)) (hk : k < 3) (h4 : 4 ≤ a) (hl : l < 2 ^ 31) : run 57 (0, [some (.ref a)], [], h) = some (some (.int (if 0 < l then 1 else 0)), h) := by
  by_cases w : 0 < l
  · have c : ¬ nI l ≤ 0 := nI_nle w (by omega)
    simp only [uX5_isBurnt_0, uX5_isBurnt_1, uX5_isBurnt_4, uX5_isBurnt_7, uX5_isBurnt_8, uX5_isBurnt_11, uX5_isBurnt_12, gPg3 hP hk h4, c, w, Option.bind_some, Option.toList_some, Option.toList_none, List.cons_append, List.nil_append, if_true, if_false, and_self, and_true, true_and, or_self, or_true, true_or, false_or, or_false, i10, i00, i01, i11, Nat.reduceAdd, st1_0, st1_c, st1_1i, st1_1r, st1_1n, st1_1u, st1_1J, st2_0, st2_c, st2_1i, st2_1r, st2_1n, st2_1u, st2_1J]
  · have c : nI l ≤ 0 := by rw [show l = 0 by omega]; decide
    simp only [uX5_isBurnt_0, uX5_isBurnt_1, uX5_isBurnt_4, uX5_isBurnt_7, uX5_isBurnt_8, uX5_isBurnt_11, uX5_isBurnt_12, gPg3 hP hk h4, c, w, Option.bind_some, Option.toList_some, Option.toList_none, List.cons_append, List.nil_append, if_true, if_false, and_self, and_true, true_and, or_self, or_true, true_or, false_or, or_false, i10, i00, i01, i11, Nat.reduceAdd, st1_0, st1_c, st1_1i, st1_1r, st1_1n, st1_1u, st1_1J, st2_0, st2_c, st2_1i, st2_1r, st2_1n, st2_1u, st2_1J]
theorem c_pgroupAt {f : Nat → Int32} {j : Nat} (hP : rO h a = some (kc k, pgF u o q l)) (hk : k < 3) (h4 : 4 ≤ a) (hf : rI h q = some (n, f)) (hn : n < 2 ^ 31) (hj : j < n) : run 56 (0, [some (.ref a), some (.int (nI j))], [], h) = some (some (.int (f j)), h) := by
  have e1 : 0 ≤ (nI j).toInt ∧ (nI j).toInt < (nI n).toInt := by rw [nI_toInt (by omega), nI_toInt (by omega)]; omega
  simp only [uX5_groupAt_0, uX5_groupAt_1, uX5_groupAt_2, uX5_groupAt_5, uX5_groupAt_6, uX5_groupAt_9, uX5_groupAt_12, uX5_groupAt_13, uX5_groupAt_16, uX5_groupAt_17, uX5_groupAt_18, uX5_groupAt_21, uX5_groupAt_22, gPg2 hP hk h4, gl_nI hf, c_isBelow, if_pos e1, gi_nI hf hj hn, Option.bind_some, Option.toList_some, Option.toList_none, List.cons_append, List.nil_append, if_true, if_false, and_self, and_true, true_and, or_self, or_true, true_or, false_or, or_false, i10, i00, i01, i11, Nat.reduceAdd, st1_0, st1_c, st1_1i, st1_1r, st1_1n, st1_1u, st1_1J, st2_0, st2_c, st2_1i, st2_1r, st2_1n, st2_1u, st2_1J]
theorem c_telOf {f : Nat → Int32} {tr : Int32} (hP : rO h a = some (kc k, pgF u o q l)) (hk : k < 3) (h4 : 59 ≤ a) (h5 : 59 ≤ q) (hf : rI h q = some (n, f)) (hn : n < 2 ^ 30) (hT : rO h 22 = some (9, [.int tr])) : run 53 (0, [some (.ref a), some (.ref 22)], [], h) = some (some (.int (nI (n - k))), sf h 22 0 (.int (31 * tr + 1))) := by
  have r1 := c_leave (x := 1) hT
  have hP2 : rO (sf h 22 0 (.int (31 * tr + 1))) a = some (kc k, pgF u o q l) := by rw [rO_of (cell_sf (by omega)), hP]
  have hf2 : rI (sf h 22 0 (.int (31 * tr + 1))) q = some (n, f) := by rw [rI_sf, hf]
  have uv := fun F => c_usableV (F := F) hP2 hk (by omega) hf2 hn
  simp only [uX5_tellingOfPage_0, uX5_tellingOfPage_0N, uX5_tellingOfPage_1, uX5_tellingOfPage_2, uX5_tellingOfPage_5, uX5_tellingOfPage_6, uX5_tellingOfPage_9, vX hT, r1, uv, Option.bind_some, Option.toList_some, Option.toList_none, List.cons_append, List.nil_append, if_true, if_false, and_self, and_true, true_and, or_self, or_true, true_or, false_or, or_false, i10, i00, i01, i11, Nat.reduceAdd, st1_0, st1_c, st1_1i, st1_1r, st1_1n, st1_1u, st1_1J, st2_0, st2_c, st2_1i, st2_1r, st2_1n, st2_1u, st2_1J]
theorem sT {x tr : Int32} (hT : rO h 22 = some (9, [.int tr])) : rO (sf h 22 0 (.int x)) 22 = some (9, [.int x]) := by rw [rO_sf, if_pos rfl, hT]; rfl
theorem c_tell0 {f : Nat → Int32} {tr : Int32} (hP : rO h a = some (kc k, pgF u o q l)) (hk : k < 3) (h4 : 59 ≤ a) (h5 : 59 ≤ q) (hf : rI h q = some (n, f)) (hn : n < 2 ^ 30) (hT : rO h 22 = some (9, [.int tr])) : run 52 (0, [some (.ref a), some (.ref 22)], [], h) = some (some (.int (nI (n - k))), sf h 22 0 (.int (31 * tr + 1))) := by
  simp only [uX5_telling_0, uX5_telling_1, uX5_telling_1N, uX5_telling_2, uX5_telling_5, vPg hP hk, c_telOf hP hk h4 h5 hf hn hT, Option.bind_some, Option.toList_some, Option.toList_none, List.cons_append, List.nil_append, if_true, if_false, and_self, and_true, true_and, or_self, or_true, true_or, false_or, or_false, i10, i00, i01, i11, Nat.reduceAdd, st1_0, st1_c, st1_1i, st1_1r, st1_1n, st1_1u, st1_1J, st2_0, st2_c, st2_1i, st2_1r, st2_1n, st2_1u, st2_1J]
theorem c_tell1 {f : Nat → Int32} {tr : Int32} (hP : rO h a = some (kc k, pgF u o q l)) (hk : k < 3) (h4 : 59 ≤ a) (h5 : 59 ≤ q) (hf : rI h q = some (n, f)) (hn : n < 2 ^ 30) (hT : rO h 22 = some (9, [.int tr])) : run 93 (0, [some (.ref a), some (.ref 22)], [], h) = some (some (.int (nI (n - k) + 100)), sf (sf h 22 0 (.int (31 * tr + 2))) 22 0 (.int (31 * (31 * tr + 2) + 1))) := by
  have r1 := c_leave (x := 2) hT
  have hT2 := sT (x := 31 * tr + 2) hT
  have hP2 : rO (sf h 22 0 (.int (31 * tr + 2))) a = some (kc k, pgF u o q l) := by rw [rO_of (cell_sf (by omega)), hP]
  have hf2 : rI (sf h 22 0 (.int (31 * tr + 2))) q = some (n, f) := by rw [rI_sf, hf]
  simp only [uX8_telling_0, uX8_telling_0N, uX8_telling_1, uX8_telling_2, uX8_telling_5, uX8_telling_6, uX8_telling_6N, uX8_telling_7, uX8_telling_10, uX8_telling_12, uX8_telling_13, vX hT, r1, vPg hP2 hk, c_tell0 hP2 hk h4 h5 hf2 hn hT2, Option.bind_some, Option.toList_some, Option.toList_none, List.cons_append, List.nil_append, if_true, if_false, and_self, and_true, true_and, or_self, or_true, true_or, false_or, or_false, i10, i00, i01, i11, Nat.reduceAdd, st1_0, st1_c, st1_1i, st1_1r, st1_1n, st1_1u, st1_1J, st2_0, st2_c, st2_1i, st2_1r, st2_1n, st2_1u, st2_1J]
theorem c_tell2 {f : Nat → Int32} {tr : Int32} (hP : rO h a = some (kc 2, pgF u o q l)) (h4 : 59 ≤ a) (h5 : 59 ≤ q) (hf : rI h q = some (n, f)) (hn : n < 2 ^ 30) (hT : rO h 22 = some (9, [.int tr])) : ∃ h1, run 97 (0, [some (.ref a), some (.ref 22), none], [], h) = some (some (.int (nI (n - 2) + 100 + nI (n - 2))), h1) ∧ Dif [22] h h1 ∧ rO h1 22 = some (9, [.int (trT 2 tr)]) := by
  have r1 := c_leave (x := 3) hT
  have hT2 := sT (x := 31 * tr + 3) hT
  have hP2 : rO (sf h 22 0 (.int (31 * tr + 3))) a = some (kc 2, pgF u o q l) := by rw [rO_of (cell_sf (by omega)), hP]
  have hf2 : rI (sf h 22 0 (.int (31 * tr + 3))) q = some (n, f) := by rw [rI_sf, hf]
  have D1 : Dif [22] h (sf h 22 0 (.int (31 * tr + 3))) := difSf (by simp)
  generalize hh1 : sf h 22 0 (.int (31 * tr + 3)) = h1 at *
  have r2 := c_tell1 hP2 (by decide) h4 h5 hf2 hn hT2
  have hT3 := sT (x := 31 * (31 * (31 * tr + 3) + 2) + 1) (sT (x := 31 * (31 * tr + 3) + 2) hT2)
  have D2 : Dif [22] h (sf (sf h1 22 0 (.int (31 * (31 * tr + 3) + 2))) 22 0 (.int (31 * (31 * (31 * tr + 3) + 2) + 1))) := difT D1 (difT (difSf (by simp)) (difSf (by simp)))
  generalize hh2 : sf (sf h1 22 0 (.int (31 * (31 * tr + 3) + 2))) 22 0 (.int (31 * (31 * (31 * tr + 3) + 2) + 1)) = h2 at *
  have hP3 : rO h2 a = some (kc 2, pgF u o q l) := by rw [difO D2 (by simp only [List.mem_cons, List.not_mem_nil, or_false]; omega), hP]
  have hf3 : rI h2 q = some (n, f) := by rw [difI D2 (by simp only [List.mem_cons, List.not_mem_nil, or_false]; omega), hf]
  have r3 := c_telOf hP3 (by decide) h4 h5 hf3 hn hT3
  have v1 : vc h1 [(7, 0), (8, 0)] a = some 0 := vc_at hP2 rfl
  have v2 : vc h2 [(8, 53)] a = some 53 := vc_at hP3 rfl
  refine ⟨_, ?_, difT D2 (difSf (a := 22) (k := 0) (x := .int (31 * (31 * (31 * (31 * tr + 3) + 2) + 1) + 1)) (by simp)), ?_⟩
  · simp only [uX9_telling_0, uX9_telling_0N, uX9_telling_1, uX9_telling_2, uX9_telling_5, uX9_telling_6, uX9_telling_6N, uX9_telling_7, uX9_telling_10, uX9_telling_11, uX9_telling_12, uX9_telling_13, uX9_telling_13N, uX9_telling_14, uX9_telling_17, uX9_telling_18, vX hT, r1, v1, r2, v2, r3, Option.bind_some, Option.toList_some, Option.toList_none, List.cons_append, List.nil_append, if_true, if_false, and_self, and_true, true_and, or_self, or_true, true_or, false_or, or_false, i10, i00, i01, i11, Nat.reduceAdd, st1_0, st1_c, st1_1i, st1_1r, st1_1n, st1_1u, st1_1J, st2_0, st2_c, st2_1i, st2_1r, st2_1n, st2_1u, st2_1J]
  · rw [sT hT3]
    rfl
theorem c_tellV {F : Rs → Option Rs} {f : Nat → Int32} {tr : Int32} (hP : rO h a = some (kc k, pgF u o q l)) (hk : k < 3) (h4 : 59 ≤ a) (h5 : 59 ≤ q) (hf : rI h q = some (n, f)) (hn : n < 2 ^ 30) (hT : rO h 22 = some (9, [.int tr])) : ∃ h1, ((vc h [(4, 52), (7, 93), (8, 97)] a).bind fun c => (run c (ent c [.ref a, .ref 22] h)).bind F) = F (some (.int (tlV k (n - k))), h1) ∧ Dif [22] h h1 ∧ rO h1 22 = some (9, [.int (trT k tr)]) := by
  rcases k3 hk with e | e | e
  · subst e
    refine ⟨_, ?_, difSf (a := 22) (k := 0) (x := .int (31 * tr + 1)) (by simp), ?_⟩
    · rw [vc_at (d := 52) hP rfl, Option.bind_some, show ent 52 [.ref a, .ref 22] h = (0, [some (.ref a), some (.ref 22)], [], h) from rfl, c_tell0 hP hk h4 h5 hf hn hT, Option.bind_some]
      rfl
    · rw [sT hT]; rfl
  · subst e
    refine ⟨_, ?_, difT (difSf (a := 22) (k := 0) (x := .int (31 * tr + 2)) (by simp)) (difSf (a := 22) (k := 0) (x := .int (31 * (31 * tr + 2) + 1)) (by simp)), ?_⟩
    · rw [vc_at (d := 93) hP rfl, Option.bind_some, show ent 93 [.ref a, .ref 22] h = (0, [some (.ref a), some (.ref 22)], [], h) from rfl, c_tell1 hP hk h4 h5 hf hn hT, Option.bind_some]
      rfl
    · rw [sT (sT hT)]; rfl
  · subst e
    obtain ⟨h1, r1, D1, o1⟩ := c_tell2 hP h4 h5 hf hn hT
    refine ⟨h1, ?_, D1, o1⟩
    have e2 : nI (n - 2) + 100 + nI (n - 2) = tlV 2 (n - 2) := by
      show _ = 2 * nI (n - 2) + 100
      rw [show (100 : Int32) = nI 100 from rfl, show (2 : Int32) = nI 2 from rfl, nI_add, nI_add, pk_mul, nI_add]
      congr 1
      omega
    rw [vc_at (d := 97) hP rfl, Option.bind_some, show ent 97 [.ref a, .ref 22] h = (0, [some (.ref a), some (.ref 22), none], [], h) from rfl, r1, Option.bind_some, e2]
theorem c_mark0 {tr : Int32} (hP : rO h a = some (kc k, pgF u o q l)) (hk : k < 3) (h4 : 59 ≤ a) (hT : rO h 22 = some (9, [.int tr])) : run 54 (0, [some (.ref a), some (.ref 22)], [], h) = some (some (.int (nI u)), sf h 22 0 (.int (31 * tr + 4))) := by
  have r1 := c_leave (x := 4) hT
  have hP2 : rO (sf h 22 0 (.int (31 * tr + 4))) a = some (kc k, pgF u o q l) := by rw [rO_of (cell_sf (by omega)), hP]
  simp only [uX5_marking_0, uX5_marking_0N, uX5_marking_1, uX5_marking_2, uX5_marking_5, uX5_marking_6, uX5_marking_9, vX hT, r1, gPg0 hP2 hk (show 4 ≤ a by omega), Option.bind_some, Option.toList_some, Option.toList_none, List.cons_append, List.nil_append, if_true, if_false, and_self, and_true, true_and, or_self, or_true, true_or, false_or, or_false, i10, i00, i01, i11, Nat.reduceAdd, st1_0, st1_c, st1_1i, st1_1r, st1_1n, st1_1u, st1_1J, st2_0, st2_c, st2_1i, st2_1r, st2_1n, st2_1u, st2_1J]
theorem c_markV {F : Rs → Option Rs} {tr : Int32} (hP : rO h a = some (kc k, pgF u o q l)) (hk : k < 3) (h4 : 59 ≤ a) (hT : rO h 22 = some (9, [.int tr])) : ((vc h [(4, 54), (7, 54), (8, 98)] a).bind fun c => (run c (ent c [.ref a, .ref 22] h)).bind F) = F (some (.int (if k = 2 then 88 else nI u)), sf h 22 0 (.int (31 * tr + if k = 2 then 5 else 4))) := by
  by_cases e : k = 2
  · subst e
    have r1 := c_leave (x := 5) hT
    have r2 : run 98 (0, [some (.ref a), some (.ref 22)], [], h) = some (some (.int 88), sf h 22 0 (.int (31 * tr + 5))) := by
      simp only [uX9_marking_0, uX9_marking_0N, uX9_marking_1, uX9_marking_2, uX9_marking_5, uX9_marking_7, vX hT, r1, Option.bind_some, Option.toList_some, Option.toList_none, List.cons_append, List.nil_append, if_true, if_false, and_self, and_true, true_and, or_self, or_true, true_or, false_or, or_false, i10, i00, i01, i11, Nat.reduceAdd, st1_0, st1_c, st1_1i, st1_1r, st1_1n, st1_1u, st1_1J, st2_0, st2_c, st2_1i, st2_1r, st2_1n, st2_1u, st2_1J]
    rw [vc_at (d := 98) hP rfl, Option.bind_some, show ent 98 [.ref a, .ref 22] h = (0, [some (.ref a), some (.ref 22)], [], h) from rfl, r2, Option.bind_some, if_pos rfl, if_pos rfl]
  · have vv : vc h [(4, 54), (7, 54), (8, 98)] a = some 54 := by
      have : k = 0 ∨ k = 1 := by omega
      rcases this with w | w <;> subst w <;> exact vc_at hP rfl
    rw [vv, Option.bind_some, show ent 54 [.ref a, .ref 22] h = (0, [some (.ref a), some (.ref 22)], [], h) from rfl, c_mark0 hP hk h4 hT, Option.bind_some, if_neg e, if_neg e]
end PGG
def PagesC (h : AH) (P : Nat) (pk pp pn pl : Nat → Nat) (gr : Nat → Nat → Nat) (pa qa : Nat → Nat) : Prop := rR h 23 = some (1, 24, fun p => if p < P then some (pa p) else none) ∧ (∀ p, p < P → rO h (pa p) = some (kc (pk p), pgF p (pp p) (qa p) (pl p)) ∧ (∃ f, rI h (qa p) = some (pn p, f) ∧ ∀ j, j < pn p → f j = nI (gr p j)) ∧ 59 ≤ pa p ∧ 59 ≤ qa p ∧ pa p < h.1 ∧ qa p < h.1) ∧ P ≤ 24 ∧ (∀ p, pk p < 3) ∧ (∀ p, pp p < 6) ∧ (∀ p, pn p ≤ 12) ∧ (∀ p, pl p ≤ 20) ∧ (∀ p j, gr p j < 100) ∧ ∀ p, p < P → 1 ≤ pn p
section PGX
variable {h : AH} {dr : Nat} {xp xl xf : Int32} {P : Nat} {pk pp pn pl : Nat → Nat} {gr : Nat → Nat → Nat} {pa qa : Nat → Nat} {p : Nat}
theorem pagesC_eq {h1 : AH} (G : PagesC h P pk pp pn pl gr pa qa) (hn : h.1 ≤ h1.1) (he : ∀ b, b = 23 ∨ (59 ≤ b ∧ b < h.1) → h1.2.2 b = h.2.2 b) : PagesC h1 P pk pp pn pl gr pa qa := by
  obtain ⟨a1, a2, a3⟩ := G
  refine ⟨by rw [rR_of (he 23 (by omega)), a1], fun p hp => ?_, a3⟩
  obtain ⟨b1, b2, b3, b4, b5, b6⟩ := a2 p hp
  rw [rO_of (he (pa p) (by omega)), rI_of (he (qa p) (by omega))]
  exact ⟨b1, b2, b3, b4, by omega, by omega⟩
theorem c_pageAt_n {x : Int32} (hX : rO h 4 = some (10, xF dr xp xl xf)) (G : PagesC h P pk pp pn pl gr pa qa) (hx : ¬ (0 ≤ x.toInt ∧ x.toInt ≤ (P : Int) - 1)) : run 141 (0, [some (.ref 4), some (.int x)], [], h) = some (some .null, h) := by
  by_cases h1 : 0 ≤ x.toInt ∧ x.toInt ≤ 23
  · obtain ⟨p, q1, q2, q3⟩ := inR h1
    subst q3
    have hp : ¬ p < P := fun w => hx (nI_rng (by omega) (by omega))
    have g1 : ga h 23 (nI p) = some .null := by
      rw [ga_nI (by decide) G.1 (by omega) (by decide), if_neg hp]
      rfl
    simp only [uX11_pageAt_0, uX11_pageAt_1, uX11_pageAt_3, uX11_pageAt_6, uX11_pageAt_9, uX11_pageAt_10, uX11_pageAt_13, uX11_pageAt_14, uX11_pageAt_15, uX11_pageAt_18, uX11_pageAt_19, uX11_pageAt_19N, c_bl24, h1, gX3 hX, g1, Option.bind_some, Option.toList_some, Option.toList_none, List.cons_append, List.nil_append, if_true, if_false, and_self, and_true, true_and, or_self, or_true, true_or, false_or, or_false, i10, i00, i01, i11, Nat.reduceAdd, st1_0, st1_c, st1_1i, st1_1r, st1_1n, st1_1u, st1_1J, st2_0, st2_c, st2_1i, st2_1r, st2_1n, st2_1u, st2_1J]
  · simp only [uX11_pageAt_0, uX11_pageAt_1, uX11_pageAt_3, uX11_pageAt_6, uX11_pageAt_9, uX11_pageAt_10, uX11_pageAt_13, uX11_pageAt_14, uX11_pageAt_15, uX11_pageAt_18, uX11_pageAt_19, uX11_pageAt_19N, c_bl24, if_neg h1, Option.bind_some, Option.toList_some, Option.toList_none, List.cons_append, List.nil_append, if_true, if_false, and_self, and_true, true_and, or_self, or_true, true_or, false_or, or_false, i10, i00, i01, i11, Nat.reduceAdd, st1_0, st1_c, st1_1i, st1_1r, st1_1n, st1_1u, st1_1J, st2_0, st2_c, st2_1i, st2_1r, st2_1n, st2_1u, st2_1J]
theorem c_pageAt (hX : rO h 4 = some (10, xF dr xp xl xf)) (G : PagesC h P pk pp pn pl gr pa qa) (hp : p < P) : run 141 (0, [some (.ref 4), some (.int (nI p))], [], h) = some (some (.ref (pa p)), h) := by
  have hP := G.2.2.1
  have h1 : 0 ≤ (nI p).toInt ∧ (nI p).toInt ≤ 23 := nI_rng (by omega) (by omega)
  have g1 : ga h 23 (nI p) = some (.ref (pa p)) := by
    rw [ga_nI (by decide) G.1 (by omega) (by decide), if_pos hp]
    rfl
  simp only [uX11_pageAt_0, uX11_pageAt_1, uX11_pageAt_3, uX11_pageAt_6, uX11_pageAt_9, uX11_pageAt_10, uX11_pageAt_13, uX11_pageAt_14, uX11_pageAt_15, uX11_pageAt_18, uX11_pageAt_19, uX11_pageAt_19N, c_bl24, h1, gX3 hX, g1, Option.bind_some, Option.toList_some, Option.toList_none, List.cons_append, List.nil_append, if_true, if_false, and_self, and_true, true_and, or_self, or_true, true_or, false_or, or_false, i10, i00, i01, i11, Nat.reduceAdd, st1_0, st1_c, st1_1i, st1_1r, st1_1n, st1_1u, st1_1J, st2_0, st2_c, st2_1i, st2_1r, st2_1n, st2_1u, st2_1J]
theorem c_ofPage_u {x y : Int32} (hX : rO h 4 = some (10, xF dr xp xl xf)) (G : PagesC h P pk pp pn pl gr pa qa) (hx : ¬ (0 ≤ x.toInt ∧ x.toInt ≤ (P : Int) - 1)) : run 107 (0, [some (.ref 4), some (.int x), some (.int y), none], [], h) = some (some (.int (-1)), h) := by
  simp only [uX11_ofPage_0, uX11_ofPage_1, uX11_ofPage_2, uX11_ofPage_5, uX11_ofPage_5N, uX11_ofPage_6, uX11_ofPage_6N, uX11_ofPage_7, uX11_ofPage_7N, uX11_ofPage_10, uX11_ofPage_11, uX11_ofPage_12, uX11_ofPage_13_0, uX11_ofPage_13_1, uX11_ofPage_13_2, uX11_ofPage_13_3, uX11_ofPage_13_4, uX11_ofPage_13_5, uX11_ofPage_13_d, uX11_ofPage_52, uX11_ofPage_52N, uX11_ofPage_53, uX11_ofPage_56, uX11_ofPage_57, uX11_ofPage_57N, uX11_ofPage_58, uX11_ofPage_61, uX11_ofPage_62, uX11_ofPage_62N, uX11_ofPage_63, uX11_ofPage_66, uX11_ofPage_67, uX11_ofPage_67N, uX11_ofPage_68, uX11_ofPage_71, uX11_ofPage_72, uX11_ofPage_72N, uX11_ofPage_73, uX11_ofPage_76, uX11_ofPage_79, uX11_ofPage_80, uX11_ofPage_80N, uX11_ofPage_81, uX11_ofPage_84, uX11_ofPage_85, uX11_ofPage_86, uX11_ofPage_88, uX11_ofPage_89, uX11_ofPage_89N, uX11_ofPage_90, uX11_ofPage_93, uX11_ofPage_96, uX11_ofPage_99, uX11_ofPage_99N, uX11_ofPage_100, uX11_ofPage_101, uX11_ofPage_103, uX11_ofPage_104, uX11_ofPage_107, uX11_ofPage_110, uX11_ofPage_112, vX hX, c_pageAt_n hX G hx, Option.bind_some, Option.toList_some, Option.toList_none, List.cons_append, List.nil_append, if_true, if_false, and_self, and_true, true_and, or_self, or_true, true_or, false_or, or_false, i10, i00, i01, i11, Nat.reduceAdd, st1_0, st1_c, st1_1i, st1_1r, st1_1n, st1_1u, st1_1J, st2_0, st2_c, st2_1i, st2_1r, st2_1n, st2_1u, st2_1J]
theorem sub10 {y : Int32} {n : Nat} (hn : n ≤ 12) (hy : y.toInt < 0 ∨ 2 < y.toInt) : (0 ≤ (y - 10).toInt ∧ (y - 10).toInt < (nI n).toInt) = (10 ≤ y.toInt ∧ y.toInt ≤ 9 + (n : Int)) ∧ (10 ≤ y.toInt ∧ y.toInt ≤ 9 + (n : Int) → y - 10 = nI (y.toInt - 10).toNat) := by
  have hr := i64r y
  have e10 : (10 : Int32) = Int32.ofInt 10 := by decide
  have ey : y = Int32.ofInt y.toInt := (Int32.ofInt_toInt y).symm
  rw [nI_toInt (by omega)]
  have hs : -2147483648 ≤ y.toInt - 10 → (y - 10).toInt = y.toInt - 10 := by
    intro hq
    conv => lhs; rw [ey, e10]
    rw [← Int32.ofInt_sub, Int32.toInt_ofInt_of_le (by show -2147483648 ≤ _; omega) (by show _ < 2147483648; omega)]
  by_cases hq : -2147483648 ≤ y.toInt - 10
  · rw [hs hq]
    refine ⟨propext ⟨fun w => by omega, fun w => by omega⟩, fun w => ?_⟩
    rw [← Int32.toInt_inj, hs hq, nI_toInt (by omega)]
    omega
  · have hw : (y - 10).toInt = y.toInt - 10 + 4294967296 := by
      conv => lhs; rw [ey, e10]
      rw [← Int32.ofInt_sub, show y.toInt - 10 = (y.toInt - 10 + 4294967296) - 4294967296 by omega]
      rw [show Int32.ofInt ((y.toInt - 10 + 4294967296) - 4294967296) = Int32.ofInt (y.toInt - 10 + 4294967296) by
        rw [Int32.ofInt_sub, show Int32.ofInt 4294967296 = 0 by decide, Int32.sub_zero]]
      rw [Int32.toInt_ofInt_of_le (by show -2147483648 ≤ _; omega) (by show _ < 2147483648; omega)]
      omega
    rw [hw]
    exact ⟨propext ⟨fun w => by omega, fun w => by omega⟩, fun w => by omega⟩
theorem c_ofPage {y : Int32} (hX : rO h 4 = some (10, xF dr xp xl xf)) (G : PagesC h P pk pp pn pl gr pa qa) (hp : p < P) : run 107 (0, [some (.ref 4), some (.int (nI p)), some (.int y), none], [], h) = some (some (.int (ofP (pk p) (pp p) (pn p) (pn p - pk p) (pl p) (gr p) y)), h) := by
  have r0 := c_pageAt hX G hp
  obtain ⟨a1, a2, hP, b1, b2, b3, b4, b5, b6⟩ := G
  obtain ⟨hO, ⟨f, hf, hfe⟩, c1, c2, c3, c4⟩ := a2 p hp
  have hk := b1 p
  have hn := b3 p
  have hl := b4 p
  have h4 : 4 ≤ pa p := by omega
  have kv := fun F => c_kindV (F := F) hO hk
  have uv := fun F => c_usableV (F := F) hO hk h4 hf (by omega)
  have sz := c_psize hO hk h4 hf
  have bt := c_isBurnt hO hk h4 (by omega)
  rcases sw6 y with e | e | e | e | e | e | e
  · subst e
    simp only [uX11_ofPage_0, uX11_ofPage_1, uX11_ofPage_2, uX11_ofPage_5, uX11_ofPage_5N, uX11_ofPage_6, uX11_ofPage_6N, uX11_ofPage_7, uX11_ofPage_7N, uX11_ofPage_10, uX11_ofPage_11, uX11_ofPage_12, uX11_ofPage_13_0, uX11_ofPage_13_1, uX11_ofPage_13_2, uX11_ofPage_13_3, uX11_ofPage_13_4, uX11_ofPage_13_5, uX11_ofPage_13_d, uX11_ofPage_52, uX11_ofPage_52N, uX11_ofPage_53, uX11_ofPage_56, uX11_ofPage_57, uX11_ofPage_57N, uX11_ofPage_58, uX11_ofPage_61, uX11_ofPage_62, uX11_ofPage_62N, uX11_ofPage_63, uX11_ofPage_66, uX11_ofPage_67, uX11_ofPage_67N, uX11_ofPage_68, uX11_ofPage_71, uX11_ofPage_72, uX11_ofPage_72N, uX11_ofPage_73, uX11_ofPage_76, uX11_ofPage_79, uX11_ofPage_80, uX11_ofPage_80N, uX11_ofPage_81, uX11_ofPage_84, uX11_ofPage_85, uX11_ofPage_86, uX11_ofPage_88, uX11_ofPage_89, uX11_ofPage_89N, uX11_ofPage_90, uX11_ofPage_93, uX11_ofPage_96, uX11_ofPage_99, uX11_ofPage_99N, uX11_ofPage_100, uX11_ofPage_101, uX11_ofPage_103, uX11_ofPage_104, uX11_ofPage_107, uX11_ofPage_110, uX11_ofPage_112, vX hX, r0, kv, ofP, Option.bind_some, Option.toList_some, Option.toList_none, List.cons_append, List.nil_append, if_true, if_false, and_self, and_true, true_and, or_self, or_true, true_or, false_or, or_false, i10, i00, i01, i11, Nat.reduceAdd, st1_0, st1_c, st1_1i, st1_1r, st1_1n, st1_1u, st1_1J, st2_0, st2_c, st2_1i, st2_1r, st2_1n, st2_1u, st2_1J]
  · subst e
    simp only [uX11_ofPage_0, uX11_ofPage_1, uX11_ofPage_2, uX11_ofPage_5, uX11_ofPage_5N, uX11_ofPage_6, uX11_ofPage_6N, uX11_ofPage_7, uX11_ofPage_7N, uX11_ofPage_10, uX11_ofPage_11, uX11_ofPage_12, uX11_ofPage_13_0, uX11_ofPage_13_1, uX11_ofPage_13_2, uX11_ofPage_13_3, uX11_ofPage_13_4, uX11_ofPage_13_5, uX11_ofPage_13_d, uX11_ofPage_52, uX11_ofPage_52N, uX11_ofPage_53, uX11_ofPage_56, uX11_ofPage_57, uX11_ofPage_57N, uX11_ofPage_58, uX11_ofPage_61, uX11_ofPage_62, uX11_ofPage_62N, uX11_ofPage_63, uX11_ofPage_66, uX11_ofPage_67, uX11_ofPage_67N, uX11_ofPage_68, uX11_ofPage_71, uX11_ofPage_72, uX11_ofPage_72N, uX11_ofPage_73, uX11_ofPage_76, uX11_ofPage_79, uX11_ofPage_80, uX11_ofPage_80N, uX11_ofPage_81, uX11_ofPage_84, uX11_ofPage_85, uX11_ofPage_86, uX11_ofPage_88, uX11_ofPage_89, uX11_ofPage_89N, uX11_ofPage_90, uX11_ofPage_93, uX11_ofPage_96, uX11_ofPage_99, uX11_ofPage_99N, uX11_ofPage_100, uX11_ofPage_101, uX11_ofPage_103, uX11_ofPage_104, uX11_ofPage_107, uX11_ofPage_110, uX11_ofPage_112, vX hX, r0, gPg1 hO hk h4, ofP, i10, Option.bind_some, Option.toList_some, Option.toList_none, List.cons_append, List.nil_append, if_true, if_false, and_self, and_true, true_and, or_self, or_true, true_or, false_or, or_false, i10, i00, i01, i11, Nat.reduceAdd, st1_0, st1_c, st1_1i, st1_1r, st1_1n, st1_1u, st1_1J, st2_0, st2_c, st2_1i, st2_1r, st2_1n, st2_1u, st2_1J]
  · subst e
    have d0 : ¬ (2 : Int32) = 0 := by decide
    have d1 : ¬ (2 : Int32) = 1 := by decide
    simp only [uX11_ofPage_0, uX11_ofPage_1, uX11_ofPage_2, uX11_ofPage_5, uX11_ofPage_5N, uX11_ofPage_6, uX11_ofPage_6N, uX11_ofPage_7, uX11_ofPage_7N, uX11_ofPage_10, uX11_ofPage_11, uX11_ofPage_12, uX11_ofPage_13_0, uX11_ofPage_13_1, uX11_ofPage_13_2, uX11_ofPage_13_3, uX11_ofPage_13_4, uX11_ofPage_13_5, uX11_ofPage_13_d, uX11_ofPage_52, uX11_ofPage_52N, uX11_ofPage_53, uX11_ofPage_56, uX11_ofPage_57, uX11_ofPage_57N, uX11_ofPage_58, uX11_ofPage_61, uX11_ofPage_62, uX11_ofPage_62N, uX11_ofPage_63, uX11_ofPage_66, uX11_ofPage_67, uX11_ofPage_67N, uX11_ofPage_68, uX11_ofPage_71, uX11_ofPage_72, uX11_ofPage_72N, uX11_ofPage_73, uX11_ofPage_76, uX11_ofPage_79, uX11_ofPage_80, uX11_ofPage_80N, uX11_ofPage_81, uX11_ofPage_84, uX11_ofPage_85, uX11_ofPage_86, uX11_ofPage_88, uX11_ofPage_89, uX11_ofPage_89N, uX11_ofPage_90, uX11_ofPage_93, uX11_ofPage_96, uX11_ofPage_99, uX11_ofPage_99N, uX11_ofPage_100, uX11_ofPage_101, uX11_ofPage_103, uX11_ofPage_104, uX11_ofPage_107, uX11_ofPage_110, uX11_ofPage_112, vX hX, r0, vPg hO hk, sz, ofP, d0, d1, Option.bind_some, Option.toList_some, Option.toList_none, List.cons_append, List.nil_append, if_true, if_false, and_self, and_true, true_and, or_self, or_true, true_or, false_or, or_false, i10, i00, i01, i11, Nat.reduceAdd, st1_0, st1_c, st1_1i, st1_1r, st1_1n, st1_1u, st1_1J, st2_0, st2_c, st2_1i, st2_1r, st2_1n, st2_1u, st2_1J]
  · subst e
    have d0 : ¬ (3 : Int32) = 0 := by decide
    have d1 : ¬ (3 : Int32) = 1 := by decide
    have d2 : ¬ (3 : Int32) = 2 := by decide
    simp only [uX11_ofPage_0, uX11_ofPage_1, uX11_ofPage_2, uX11_ofPage_5, uX11_ofPage_5N, uX11_ofPage_6, uX11_ofPage_6N, uX11_ofPage_7, uX11_ofPage_7N, uX11_ofPage_10, uX11_ofPage_11, uX11_ofPage_12, uX11_ofPage_13_0, uX11_ofPage_13_1, uX11_ofPage_13_2, uX11_ofPage_13_3, uX11_ofPage_13_4, uX11_ofPage_13_5, uX11_ofPage_13_d, uX11_ofPage_52, uX11_ofPage_52N, uX11_ofPage_53, uX11_ofPage_56, uX11_ofPage_57, uX11_ofPage_57N, uX11_ofPage_58, uX11_ofPage_61, uX11_ofPage_62, uX11_ofPage_62N, uX11_ofPage_63, uX11_ofPage_66, uX11_ofPage_67, uX11_ofPage_67N, uX11_ofPage_68, uX11_ofPage_71, uX11_ofPage_72, uX11_ofPage_72N, uX11_ofPage_73, uX11_ofPage_76, uX11_ofPage_79, uX11_ofPage_80, uX11_ofPage_80N, uX11_ofPage_81, uX11_ofPage_84, uX11_ofPage_85, uX11_ofPage_86, uX11_ofPage_88, uX11_ofPage_89, uX11_ofPage_89N, uX11_ofPage_90, uX11_ofPage_93, uX11_ofPage_96, uX11_ofPage_99, uX11_ofPage_99N, uX11_ofPage_100, uX11_ofPage_101, uX11_ofPage_103, uX11_ofPage_104, uX11_ofPage_107, uX11_ofPage_110, uX11_ofPage_112, vX hX, r0, uv, ofP, d0, d1, d2, Option.bind_some, Option.toList_some, Option.toList_none, List.cons_append, List.nil_append, if_true, if_false, and_self, and_true, true_and, or_self, or_true, true_or, false_or, or_false, i10, i00, i01, i11, Nat.reduceAdd, st1_0, st1_c, st1_1i, st1_1r, st1_1n, st1_1u, st1_1J, st2_0, st2_c, st2_1i, st2_1r, st2_1n, st2_1u, st2_1J]
  · subst e
    have d0 : ¬ (4 : Int32) = 0 := by decide
    have d1 : ¬ (4 : Int32) = 1 := by decide
    have d2 : ¬ (4 : Int32) = 2 := by decide
    have d3 : ¬ (4 : Int32) = 3 := by decide
    have ea : ∀ z : Int32, z = 0 ∨ z = 1 → (if z = 0 then (0 : Int32) else 1) = z := by rintro z (w | w) <;> subst w <;> decide
    by_cases w : 0 < pl p
    · rw [if_pos w] at bt
      simp only [uX11_ofPage_0, uX11_ofPage_1, uX11_ofPage_2, uX11_ofPage_5, uX11_ofPage_5N, uX11_ofPage_6, uX11_ofPage_6N, uX11_ofPage_7, uX11_ofPage_7N, uX11_ofPage_10, uX11_ofPage_11, uX11_ofPage_12, uX11_ofPage_13_0, uX11_ofPage_13_1, uX11_ofPage_13_2, uX11_ofPage_13_3, uX11_ofPage_13_4, uX11_ofPage_13_5, uX11_ofPage_13_d, uX11_ofPage_52, uX11_ofPage_52N, uX11_ofPage_53, uX11_ofPage_56, uX11_ofPage_57, uX11_ofPage_57N, uX11_ofPage_58, uX11_ofPage_61, uX11_ofPage_62, uX11_ofPage_62N, uX11_ofPage_63, uX11_ofPage_66, uX11_ofPage_67, uX11_ofPage_67N, uX11_ofPage_68, uX11_ofPage_71, uX11_ofPage_72, uX11_ofPage_72N, uX11_ofPage_73, uX11_ofPage_76, uX11_ofPage_79, uX11_ofPage_80, uX11_ofPage_80N, uX11_ofPage_81, uX11_ofPage_84, uX11_ofPage_85, uX11_ofPage_86, uX11_ofPage_88, uX11_ofPage_89, uX11_ofPage_89N, uX11_ofPage_90, uX11_ofPage_93, uX11_ofPage_96, uX11_ofPage_99, uX11_ofPage_99N, uX11_ofPage_100, uX11_ofPage_101, uX11_ofPage_103, uX11_ofPage_104, uX11_ofPage_107, uX11_ofPage_110, uX11_ofPage_112, vX hX, r0, vPg hO hk, bt, c_asNumber, ofP, d0, d1, d2, d3, w, Option.bind_some, Option.toList_some, Option.toList_none, List.cons_append, List.nil_append, if_true, if_false, and_self, and_true, true_and, or_self, or_true, true_or, false_or, or_false, i10, i00, i01, i11, Nat.reduceAdd, st1_0, st1_c, st1_1i, st1_1r, st1_1n, st1_1u, st1_1J, st2_0, st2_c, st2_1i, st2_1r, st2_1n, st2_1u, st2_1J]
    · rw [if_neg w] at bt
      simp only [uX11_ofPage_0, uX11_ofPage_1, uX11_ofPage_2, uX11_ofPage_5, uX11_ofPage_5N, uX11_ofPage_6, uX11_ofPage_6N, uX11_ofPage_7, uX11_ofPage_7N, uX11_ofPage_10, uX11_ofPage_11, uX11_ofPage_12, uX11_ofPage_13_0, uX11_ofPage_13_1, uX11_ofPage_13_2, uX11_ofPage_13_3, uX11_ofPage_13_4, uX11_ofPage_13_5, uX11_ofPage_13_d, uX11_ofPage_52, uX11_ofPage_52N, uX11_ofPage_53, uX11_ofPage_56, uX11_ofPage_57, uX11_ofPage_57N, uX11_ofPage_58, uX11_ofPage_61, uX11_ofPage_62, uX11_ofPage_62N, uX11_ofPage_63, uX11_ofPage_66, uX11_ofPage_67, uX11_ofPage_67N, uX11_ofPage_68, uX11_ofPage_71, uX11_ofPage_72, uX11_ofPage_72N, uX11_ofPage_73, uX11_ofPage_76, uX11_ofPage_79, uX11_ofPage_80, uX11_ofPage_80N, uX11_ofPage_81, uX11_ofPage_84, uX11_ofPage_85, uX11_ofPage_86, uX11_ofPage_88, uX11_ofPage_89, uX11_ofPage_89N, uX11_ofPage_90, uX11_ofPage_93, uX11_ofPage_96, uX11_ofPage_99, uX11_ofPage_99N, uX11_ofPage_100, uX11_ofPage_101, uX11_ofPage_103, uX11_ofPage_104, uX11_ofPage_107, uX11_ofPage_110, uX11_ofPage_112, vX hX, r0, vPg hO hk, bt, c_asNumber, ofP, d0, d1, d2, d3, w, Option.bind_some, Option.toList_some, Option.toList_none, List.cons_append, List.nil_append, if_true, if_false, and_self, and_true, true_and, or_self, or_true, true_or, false_or, or_false, i10, i00, i01, i11, Nat.reduceAdd, st1_0, st1_c, st1_1i, st1_1r, st1_1n, st1_1u, st1_1J, st2_0, st2_c, st2_1i, st2_1r, st2_1n, st2_1u, st2_1J]
  · subst e
    have d0 : ¬ (5 : Int32) = 0 := by decide
    have d1 : ¬ (5 : Int32) = 1 := by decide
    have d2 : ¬ (5 : Int32) = 2 := by decide
    have d3 : ¬ (5 : Int32) = 3 := by decide
    have d4 : ¬ (5 : Int32) = 4 := by decide
    simp only [uX11_ofPage_0, uX11_ofPage_1, uX11_ofPage_2, uX11_ofPage_5, uX11_ofPage_5N, uX11_ofPage_6, uX11_ofPage_6N, uX11_ofPage_7, uX11_ofPage_7N, uX11_ofPage_10, uX11_ofPage_11, uX11_ofPage_12, uX11_ofPage_13_0, uX11_ofPage_13_1, uX11_ofPage_13_2, uX11_ofPage_13_3, uX11_ofPage_13_4, uX11_ofPage_13_5, uX11_ofPage_13_d, uX11_ofPage_52, uX11_ofPage_52N, uX11_ofPage_53, uX11_ofPage_56, uX11_ofPage_57, uX11_ofPage_57N, uX11_ofPage_58, uX11_ofPage_61, uX11_ofPage_62, uX11_ofPage_62N, uX11_ofPage_63, uX11_ofPage_66, uX11_ofPage_67, uX11_ofPage_67N, uX11_ofPage_68, uX11_ofPage_71, uX11_ofPage_72, uX11_ofPage_72N, uX11_ofPage_73, uX11_ofPage_76, uX11_ofPage_79, uX11_ofPage_80, uX11_ofPage_80N, uX11_ofPage_81, uX11_ofPage_84, uX11_ofPage_85, uX11_ofPage_86, uX11_ofPage_88, uX11_ofPage_89, uX11_ofPage_89N, uX11_ofPage_90, uX11_ofPage_93, uX11_ofPage_96, uX11_ofPage_99, uX11_ofPage_99N, uX11_ofPage_100, uX11_ofPage_101, uX11_ofPage_103, uX11_ofPage_104, uX11_ofPage_107, uX11_ofPage_110, uX11_ofPage_112, vX hX, r0, gPg3 hO hk h4, ofP, d0, d1, d2, d3, d4, Option.bind_some, Option.toList_some, Option.toList_none, List.cons_append, List.nil_append, if_true, if_false, and_self, and_true, true_and, or_self, or_true, true_or, false_or, or_false, i10, i00, i01, i11, Nat.reduceAdd, st1_0, st1_c, st1_1i, st1_1r, st1_1n, st1_1u, st1_1J, st2_0, st2_c, st2_1i, st2_1r, st2_1n, st2_1u, st2_1J]
  · rw [ofP_d e]
    obtain ⟨s1, s2⟩ := sub10 (y := y) hn (by omega)
    by_cases w : 10 ≤ y.toInt ∧ y.toInt ≤ 9 + (pn p : Int)
    · have s3 := s2 w
      have bl : run 137 (0, [some (.int (nI (y.toInt - 10).toNat)), some (.int (nI (pn p)))], [], h) = some (some (.int 1), h) := by
        rw [← s3, c_isBelow, if_pos (by rw [s1]; exact w)]
      have r2 := c_pgroupAt (j := (y.toInt - 10).toNat) hO hk h4 hf (by omega) (by omega)
      rw [hfe _ (by omega)] at r2
      rw [if_pos w]
      simp only [uX11_ofPage_0, uX11_ofPage_1, uX11_ofPage_2, uX11_ofPage_5, uX11_ofPage_6, uX11_ofPage_7, uX11_ofPage_12, uX11_ofPage_13_d e, uX11_ofPage_10, uX11_ofPage_11, uX11_ofPage_52, uX11_ofPage_52N, uX11_ofPage_53, uX11_ofPage_56, uX11_ofPage_57, uX11_ofPage_57N, uX11_ofPage_58, uX11_ofPage_61, uX11_ofPage_62, uX11_ofPage_62N, uX11_ofPage_63, uX11_ofPage_66, uX11_ofPage_67, uX11_ofPage_67N, uX11_ofPage_68, uX11_ofPage_71, uX11_ofPage_72, uX11_ofPage_72N, uX11_ofPage_73, uX11_ofPage_76, uX11_ofPage_79, uX11_ofPage_80, uX11_ofPage_80N, uX11_ofPage_81, uX11_ofPage_84, uX11_ofPage_85, uX11_ofPage_86, uX11_ofPage_88, uX11_ofPage_89, uX11_ofPage_89N, uX11_ofPage_90, uX11_ofPage_93, uX11_ofPage_96, uX11_ofPage_99, uX11_ofPage_99N, uX11_ofPage_100, uX11_ofPage_101, uX11_ofPage_103, uX11_ofPage_104, uX11_ofPage_107, uX11_ofPage_110, uX11_ofPage_112, vX hX, r0, vPg hO hk, sz, s3, bl, r2, Option.bind_some, Option.toList_some, Option.toList_none, List.cons_append, List.nil_append, if_true, if_false, and_self, and_true, true_and, or_self, or_true, true_or, false_or, or_false, i10, i00, i01, i11, Nat.reduceAdd, st1_0, st1_c, st1_1i, st1_1r, st1_1n, st1_1u, st1_1J, st2_0, st2_c, st2_1i, st2_1r, st2_1n, st2_1u, st2_1J]
    · have bl : run 137 (0, [some (.int (y - 10)), some (.int (nI (pn p)))], [], h) = some (some (.int 0), h) := by
        rw [c_isBelow, if_neg (by rw [s1]; exact w)]
      rw [if_neg w]
      simp only [uX11_ofPage_0, uX11_ofPage_1, uX11_ofPage_2, uX11_ofPage_5, uX11_ofPage_6, uX11_ofPage_7, uX11_ofPage_12, uX11_ofPage_13_d e, uX11_ofPage_10, uX11_ofPage_11, uX11_ofPage_52, uX11_ofPage_52N, uX11_ofPage_53, uX11_ofPage_56, uX11_ofPage_57, uX11_ofPage_57N, uX11_ofPage_58, uX11_ofPage_61, uX11_ofPage_62, uX11_ofPage_62N, uX11_ofPage_63, uX11_ofPage_66, uX11_ofPage_67, uX11_ofPage_67N, uX11_ofPage_68, uX11_ofPage_71, uX11_ofPage_72, uX11_ofPage_72N, uX11_ofPage_73, uX11_ofPage_76, uX11_ofPage_79, uX11_ofPage_80, uX11_ofPage_80N, uX11_ofPage_81, uX11_ofPage_84, uX11_ofPage_85, uX11_ofPage_86, uX11_ofPage_88, uX11_ofPage_89, uX11_ofPage_89N, uX11_ofPage_90, uX11_ofPage_93, uX11_ofPage_96, uX11_ofPage_99, uX11_ofPage_99N, uX11_ofPage_100, uX11_ofPage_101, uX11_ofPage_103, uX11_ofPage_104, uX11_ofPage_107, uX11_ofPage_110, uX11_ofPage_112, vX hX, r0, vPg hO hk, sz, bl, Option.bind_some, Option.toList_some, Option.toList_none, List.cons_append, List.nil_append, if_true, if_false, and_self, and_true, true_and, or_self, or_true, true_or, false_or, or_false, i10, i00, i01, i11, Nat.reduceAdd, st1_0, st1_c, st1_1i, st1_1r, st1_1n, st1_1u, st1_1J, st2_0, st2_c, st2_1i, st2_1r, st2_1n, st2_1u, st2_1J]
theorem c_tell_u {x : Int32} (hX : rO h 4 = some (10, xF dr xp xl xf)) (G : PagesC h P pk pp pn pl gr pa qa) (hx : ¬ (0 ≤ x.toInt ∧ x.toInt ≤ (P : Int) - 1)) : run 131 (0, [some (.ref 4), some (.int x), none], [], h) = some (some (.int (-1)), h) := by
  simp only [uX11_tell_0, uX11_tell_1, uX11_tell_2, uX11_tell_5, uX11_tell_5N, uX11_tell_6, uX11_tell_6N, uX11_tell_7, uX11_tell_7N, uX11_tell_10, uX11_tell_11, uX11_tell_14, uX11_tell_14N, uX11_tell_15, uX11_tell_16, uX11_tell_19, uX11_tell_22, vX hX, c_pageAt_n hX G hx, Option.bind_some, Option.toList_some, Option.toList_none, List.cons_append, List.nil_append, if_true, if_false, and_self, and_true, true_and, or_self, or_true, true_or, false_or, or_false, i10, i00, i01, i11, Nat.reduceAdd, st1_0, st1_c, st1_1i, st1_1r, st1_1n, st1_1u, st1_1J, st2_0, st2_c, st2_1i, st2_1r, st2_1n, st2_1u, st2_1J]
theorem c_mark_u {x : Int32} (hX : rO h 4 = some (10, xF dr xp xl xf)) (G : PagesC h P pk pp pn pl gr pa qa) (hx : ¬ (0 ≤ x.toInt ∧ x.toInt ≤ (P : Int) - 1)) : run 132 (0, [some (.ref 4), some (.int x), none], [], h) = some (some (.int (-1)), h) := by
  simp only [uX11_mark_0, uX11_mark_1, uX11_mark_2, uX11_mark_5, uX11_mark_5N, uX11_mark_6, uX11_mark_6N, uX11_mark_7, uX11_mark_7N, uX11_mark_10, uX11_mark_11, uX11_mark_14, uX11_mark_14N, uX11_mark_15, uX11_mark_16, uX11_mark_19, uX11_mark_22, vX hX, c_pageAt_n hX G hx, Option.bind_some, Option.toList_some, Option.toList_none, List.cons_append, List.nil_append, if_true, if_false, and_self, and_true, true_and, or_self, or_true, true_or, false_or, or_false, i10, i00, i01, i11, Nat.reduceAdd, st1_0, st1_c, st1_1i, st1_1r, st1_1n, st1_1u, st1_1J, st2_0, st2_c, st2_1i, st2_1r, st2_1n, st2_1u, st2_1J]
theorem c_tell {tr : Int32} (hX : rO h 4 = some (10, xF dr xp xl xf)) (G : PagesC h P pk pp pn pl gr pa qa) (hT : rO h 22 = some (9, [.int tr])) (hp : p < P) : ∃ h1, run 131 (0, [some (.ref 4), some (.int (nI p)), none], [], h) = some (some (.int (tlV (pk p) (pn p - pk p))), h1) ∧ Dif [22] h h1 ∧ rO h1 22 = some (9, [.int (trT (pk p) tr)]) := by
  have r0 := c_pageAt hX G hp
  obtain ⟨a1, a2, hP, b1, b2, b3, b4, b5, b6⟩ := G
  obtain ⟨hO, ⟨f, hf, hfe⟩, c1, c2, c3, c4⟩ := a2 p hp
  have hn := b3 p
  obtain ⟨h1, tv, D1, o1⟩ := c_tellV (F := fun q => run 131 (22, [some (.ref 4), some (.int (nI p)), some (.ref (pa p))], q.1.toList ++ [], q.2)) hO (b1 p) c1 c2 hf (by omega) hT
  refine ⟨h1, ?_, D1, o1⟩
  simp only [uX11_tell_0, uX11_tell_1, uX11_tell_2, uX11_tell_5, uX11_tell_5N, uX11_tell_6, uX11_tell_6N, uX11_tell_7, uX11_tell_7N, uX11_tell_10, uX11_tell_11, uX11_tell_14, uX11_tell_14N, uX11_tell_15, uX11_tell_16, uX11_tell_19, uX11_tell_22, vX hX, r0, gX2 hX, tv, Option.bind_some, Option.toList_some, Option.toList_none, List.cons_append, List.nil_append, if_true, if_false, and_self, and_true, true_and, or_self, or_true, true_or, false_or, or_false, i10, i00, i01, i11, Nat.reduceAdd, st1_0, st1_c, st1_1i, st1_1r, st1_1n, st1_1u, st1_1J, st2_0, st2_c, st2_1i, st2_1r, st2_1n, st2_1u, st2_1J]
theorem c_mark {tr : Int32} (hX : rO h 4 = some (10, xF dr xp xl xf)) (G : PagesC h P pk pp pn pl gr pa qa) (hT : rO h 22 = some (9, [.int tr])) (hp : p < P) : run 132 (0, [some (.ref 4), some (.int (nI p)), none], [], h) = some (some (.int (if pk p = 2 then 88 else nI p)), sf h 22 0 (.int (31 * tr + if pk p = 2 then 5 else 4))) := by
  have r0 := c_pageAt hX G hp
  obtain ⟨a1, a2, hP, b1, b2, b3, b4, b5, b6⟩ := G
  obtain ⟨hO, ⟨f, hf, hfe⟩, c1, c2, c3, c4⟩ := a2 p hp
  have mv := fun F => c_markV (F := F) hO (b1 p) c1 hT
  simp only [uX11_mark_0, uX11_mark_1, uX11_mark_2, uX11_mark_5, uX11_mark_5N, uX11_mark_6, uX11_mark_6N, uX11_mark_7, uX11_mark_7N, uX11_mark_10, uX11_mark_11, uX11_mark_14, uX11_mark_14N, uX11_mark_15, uX11_mark_16, uX11_mark_19, uX11_mark_22, vX hX, r0, gX2 hX, mv, Option.bind_some, Option.toList_some, Option.toList_none, List.cons_append, List.nil_append, if_true, if_false, and_self, and_true, true_and, or_self, or_true, true_or, false_or, or_false, i10, i00, i01, i11, Nat.reduceAdd, st1_0, st1_c, st1_1i, st1_1r, st1_1n, st1_1u, st1_1J, st2_0, st2_c, st2_1i, st2_1r, st2_1n, st2_1u, st2_1J]
theorem PagesC.f4 {v : Value} {q : Nat} (G : PagesC h P pk pp pn pl gr pa qa) : PagesC (sf h 4 q v) P pk pp pn pl gr pa qa := pagesC_eq G (by rw [sf_n]; exact Nat.le_refl _) (fun b hb => cell_sf (by omega))
theorem c_as_u {x y : Int32} (hX : rO h 4 = some (10, xF dr xp xl xf)) (G : PagesC h P pk pp pn pl gr pa qa) (hx : ¬ (0 ≤ x.toInt ∧ x.toInt ≤ (P : Int) - 1)) : run 133 (0, [some (.ref 4), some (.int x), some (.int y), none], [], h) = some (some (.int (-1)), sf h 4 9 (.int 0)) := by
  have hX2 := sX9 (x := 0) hX
  simp only [uX11_as_0, uX11_as_1, uX11_as_2, uX11_as_5, uX11_as_6, uX11_as_7, uX11_as_10, uX11_as_10N, uX11_as_11, uX11_as_11N, uX11_as_12, uX11_as_12N, uX11_as_15, uX11_as_16, uX11_as_17, uX11_as_18, uX11_as_19, uX11_as_22, uX11_as_25, uX11_as_27, uX11_as_28, uX11_as_28N, uX11_as_29, uX11_as_32, uX11_as_33, uX11_as_36, uX11_as_37, uX11_as_38, uX11_as_41, uX11_as_44, uX11_as_45, pX9 hX, vX hX2, c_pageAt_n hX2 G.f4 hx, Option.bind_some, Option.toList_some, Option.toList_none, List.cons_append, List.nil_append, if_true, if_false, and_self, and_true, true_and, or_self, or_true, true_or, false_or, or_false, i10, i00, i01, i11, Nat.reduceAdd, st1_0, st1_c, st1_1i, st1_1r, st1_1n, st1_1u, st1_1J, st2_0, st2_c, st2_1i, st2_1r, st2_1n, st2_1u, st2_1J]
theorem c_as {y : Int32} (hX : rO h 4 = some (10, xF dr xp xl xf)) (G : PagesC h P pk pp pn pl gr pa qa) (hp : p < P) : run 133 (0, [some (.ref 4), some (.int (nI p)), some (.int y), none], [], h) = if 0 ≤ y.toInt ∧ y.toInt ≤ 2 then (if (pk p : Int) < y.toInt then some (some (.int (-12)), sf (sf h 4 9 (.int 0)) 4 9 (.int 2)) else some (some (.int 1), sf h 4 9 (.int 0))) else some (some (.int (-2)), sf h 4 9 (.int 0)) := by
  have hX2 := sX9 (x := 0) hX
  have G2 : PagesC (sf h 4 9 (.int 0)) P pk pp pn pl gr pa qa := G.f4
  have r0 := c_pageAt hX2 G2 hp
  obtain ⟨a1, a2, hP, b1, b2, b3, b4, b5, b6⟩ := G2
  obtain ⟨hO, _⟩ := a2 p hp
  have hk := b1 p
  have kv := fun F => c_kindV (F := F) hO hk
  by_cases w : 0 ≤ y.toInt ∧ y.toInt ≤ 2
  · rw [if_pos w]
    have cv : (y ≤ nI (pk p)) = (y.toInt ≤ pk p) := by rw [Int32.le_iff_toInt_le, nI_toInt (by omega)]
    have e1 : (-10 : Int32) - 2 = -12 := by decide
    by_cases w2 : (pk p : Int) < y.toInt
    · rw [if_pos w2]
      have w3 : ¬ y.toInt ≤ pk p := by omega
      simp only [uX11_as_0, uX11_as_1, uX11_as_2, uX11_as_5, uX11_as_6, uX11_as_7, uX11_as_10, uX11_as_10N, uX11_as_11, uX11_as_11N, uX11_as_12, uX11_as_12N, uX11_as_15, uX11_as_16, uX11_as_17, uX11_as_18, uX11_as_19, uX11_as_22, uX11_as_25, uX11_as_27, uX11_as_28, uX11_as_28N, uX11_as_29, uX11_as_32, uX11_as_33, uX11_as_36, uX11_as_37, uX11_as_38, uX11_as_41, uX11_as_44, uX11_as_45, pX9 hX, vX hX2, r0, c_bl3, w, kv, cv, w3, c_comeTo hX2, e1, Option.bind_some, Option.toList_some, Option.toList_none, List.cons_append, List.nil_append, if_true, if_false, and_self, and_true, true_and, or_self, or_true, true_or, false_or, or_false, i10, i00, i01, i11, Nat.reduceAdd, st1_0, st1_c, st1_1i, st1_1r, st1_1n, st1_1u, st1_1J, st2_0, st2_c, st2_1i, st2_1r, st2_1n, st2_1u, st2_1J]
    · rw [if_neg w2]
      have w3 : y.toInt ≤ pk p := by omega
      simp only [uX11_as_0, uX11_as_1, uX11_as_2, uX11_as_5, uX11_as_6, uX11_as_7, uX11_as_10, uX11_as_10N, uX11_as_11, uX11_as_11N, uX11_as_12, uX11_as_12N, uX11_as_15, uX11_as_16, uX11_as_17, uX11_as_18, uX11_as_19, uX11_as_22, uX11_as_25, uX11_as_27, uX11_as_28, uX11_as_28N, uX11_as_29, uX11_as_32, uX11_as_33, uX11_as_36, uX11_as_37, uX11_as_38, uX11_as_41, uX11_as_44, uX11_as_45, pX9 hX, vX hX2, r0, c_bl3, w, kv, cv, w3, Option.bind_some, Option.toList_some, Option.toList_none, List.cons_append, List.nil_append, if_true, if_false, and_self, and_true, true_and, or_self, or_true, true_or, false_or, or_false, i10, i00, i01, i11, Nat.reduceAdd, st1_0, st1_c, st1_1i, st1_1r, st1_1n, st1_1u, st1_1J, st2_0, st2_c, st2_1i, st2_1r, st2_1n, st2_1u, st2_1J]
  · rw [if_neg w]
    simp only [uX11_as_0, uX11_as_1, uX11_as_2, uX11_as_5, uX11_as_6, uX11_as_7, uX11_as_10, uX11_as_10N, uX11_as_11, uX11_as_11N, uX11_as_12, uX11_as_12N, uX11_as_15, uX11_as_16, uX11_as_17, uX11_as_18, uX11_as_19, uX11_as_22, uX11_as_25, uX11_as_27, uX11_as_28, uX11_as_28N, uX11_as_29, uX11_as_32, uX11_as_33, uX11_as_36, uX11_as_37, uX11_as_38, uX11_as_41, uX11_as_44, uX11_as_45, pX9 hX, vX hX2, r0, c_bl3, if_neg w, Option.bind_some, Option.toList_some, Option.toList_none, List.cons_append, List.nil_append, if_true, if_false, and_self, and_true, true_and, or_self, or_true, true_or, false_or, or_false, i10, i00, i01, i11, Nat.reduceAdd, st1_0, st1_c, st1_1i, st1_1r, st1_1n, st1_1u, st1_1J, st2_0, st2_c, st2_1i, st2_1r, st2_1n, st2_1u, st2_1J]
end PGX
