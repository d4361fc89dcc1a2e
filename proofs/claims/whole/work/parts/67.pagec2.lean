theorem pa_sr {h : AH} {a t n j v c : Nat} {f : Nat → Option Nat} {fs : List Value} (h4 : 4 ≤ a) (hr : rR h a = some (t, n, f)) (hj : j < n) (hn : n < 2 ^ 31) (hv : rO h v = some (c, fs)) (h5 : 4 ≤ v) (ha : (t, c) ∈ asT) : pa h a (nI j) v = some (sr h a j v) := by
  unfold pa sr
  rw [hr, Option.bind_some, hv, Option.bind_some]
  simp only [nI_clamp (show j < 2 ^ 31 by omega)]
  rw [if_neg]
  rintro (q | q | q | q | q)
  · omega
  · omega
  · exact nI_pos (by omega) q
  · omega
  · exact q ha
section PG2
variable {h : AH} {dr : Nat} {xp xl xf : Int32} {sz : Nat → Option Nat} {sl : Nat → Nat} {cm : Nat → Int32} {k : Nat}
theorem c_hasOnlyGroups_loop {i n m : Nat} (S : SheetC h sz sl cm) (hk : k < 4) (hs : sz k = some m) (hi : i + n ≤ m) : ∀ e x, x + e = n → run 88 (2, [some (.ref (28 + 2 * k)), some (.int (nI i)), some (.int (nI n)), some (.int (nI x))], [], h) = some (some (.int (if allB (fun j => isG (cm (60 * k + i + (x + j)))) e then 1 else 0)), h) := by
  have hm := S.2.2.1 k m hs
  obtain ⟨hS, _⟩ := S.2.1 k hk
  intro e
  induction e with
  | zero =>
    intro x hx
    have c1 : nI n ≤ nI x := nI_le (by omega) (by omega)
    show _ = some (some (Value.int (if true = true then 1 else 0)), h)
    simp only [uX7_hasOnlyGroups_0, uX7_hasOnlyGroups_1, uX7_hasOnlyGroups_2, uX7_hasOnlyGroups_3, uX7_hasOnlyGroups_4, uX7_hasOnlyGroups_7, uX7_hasOnlyGroups_8, uX7_hasOnlyGroups_9, uX7_hasOnlyGroups_10, uX7_hasOnlyGroups_11, uX7_hasOnlyGroups_14, uX7_hasOnlyGroups_16, uX7_hasOnlyGroups_19, uX7_hasOnlyGroups_22, uX7_hasOnlyGroups_23, uX7_hasOnlyGroups_24, uX7_hasOnlyGroups_27, uX7_hasOnlyGroups_30, uX7_hasOnlyGroups_31, c1, Option.bind_some, Option.toList_some, Option.toList_none, List.cons_append, List.nil_append, if_true, if_false, and_self, and_true, true_and, or_self, or_true, true_or, false_or, or_false, i10, i00, i01, i11, Nat.reduceAdd, st1_0, st1_c, st1_1i, st1_1r, st1_1n, st1_1u, st1_1J, st2_0, st2_c, st2_1i, st2_1r, st2_1n, st2_1u, st2_1J]
  | succ e ih =>
    intro x hx
    have ih1 := ih (x + 1) (by omega)
    have c1 : ¬ nI n ≤ nI x := nI_ge (by omega) (by omega)
    have r1 := c_atS S hk hs (show i + x < m by omega)
    rw [show 60 * k + (i + x) = 60 * k + i + x by omega] at r1
    have es : allB (fun j => isG (cm (60 * k + i + (x + j)))) (e + 1) = (isG (cm (60 * k + i + x)) && allB (fun j => isG (cm (60 * k + i + (x + 1 + j)))) e) := by
      rw [allB_cons]
      show (isG (cm (60 * k + i + x)) && _) = _
      congr 2
      funext j
      congr 2
      omega
    rw [es, uX7_hasOnlyGroups_2]
    by_cases w : 0 ≤ (cm (60 * k + i + x)).toInt ∧ (cm (60 * k + i + x)).toInt ≤ 99
    · rw [isG_iff.mpr w]
      simp only [uX7_hasOnlyGroups_0, uX7_hasOnlyGroups_1, uX7_hasOnlyGroups_3, uX7_hasOnlyGroups_4, uX7_hasOnlyGroups_7, uX7_hasOnlyGroups_8, uX7_hasOnlyGroups_9, uX7_hasOnlyGroups_10, uX7_hasOnlyGroups_11, uX7_hasOnlyGroups_14, uX7_hasOnlyGroups_16, uX7_hasOnlyGroups_19, uX7_hasOnlyGroups_22, uX7_hasOnlyGroups_23, uX7_hasOnlyGroups_24, uX7_hasOnlyGroups_27, uX7_hasOnlyGroups_30, uX7_hasOnlyGroups_31, c1, nI_add, vX hS, r1, c_bl100, if_pos w, nI_1, Bool.true_and, Option.bind_some, Option.toList_some, Option.toList_none, List.cons_append, List.nil_append, if_true, if_false, and_self, and_true, true_and, or_self, or_true, true_or, false_or, or_false, i10, i00, i01, i11, Nat.reduceAdd, st1_0, st1_c, st1_1i, st1_1r, st1_1n, st1_1u, st1_1J, st2_0, st2_c, st2_1i, st2_1r, st2_1n, st2_1u, st2_1J]
      exact ih1
    · have w2 : isG (cm (60 * k + i + x)) = false := decide_eq_false w
      rw [w2]
      simp only [uX7_hasOnlyGroups_0, uX7_hasOnlyGroups_1, uX7_hasOnlyGroups_3, uX7_hasOnlyGroups_4, uX7_hasOnlyGroups_7, uX7_hasOnlyGroups_8, uX7_hasOnlyGroups_9, uX7_hasOnlyGroups_10, uX7_hasOnlyGroups_11, uX7_hasOnlyGroups_14, uX7_hasOnlyGroups_16, uX7_hasOnlyGroups_19, uX7_hasOnlyGroups_22, uX7_hasOnlyGroups_23, uX7_hasOnlyGroups_24, uX7_hasOnlyGroups_27, uX7_hasOnlyGroups_30, uX7_hasOnlyGroups_31, c1, nI_add, vX hS, r1, c_bl100, if_neg w, nI_1, Bool.false_and, Bool.false_eq_true, Option.bind_some, Option.toList_some, Option.toList_none, List.cons_append, List.nil_append, if_true, if_false, and_self, and_true, true_and, or_self, or_true, true_or, false_or, or_false, i10, i00, i01, i11, Nat.reduceAdd, st1_0, st1_c, st1_1i, st1_1r, st1_1n, st1_1u, st1_1J, st2_0, st2_c, st2_1i, st2_1r, st2_1n, st2_1u, st2_1J]
theorem c_hasOnlyGroups {i n m : Nat} (S : SheetC h sz sl cm) (hk : k < 4) (hs : sz k = some m) (hi : i + n ≤ m) : run 88 (0, [some (.ref (28 + 2 * k)), some (.int (nI i)), some (.int (nI n)), none], [], h) = some (some (.int (if allB (fun j => isG (cm (60 * k + i + j))) n then 1 else 0)), h) := by
  have lp := c_hasOnlyGroups_loop S hk hs hi n 0 (by omega)
  have e : (fun j => isG (cm (60 * k + i + (0 + j)))) = fun j => isG (cm (60 * k + i + j)) := by
    funext j
    rw [Nat.zero_add]
  rw [e] at lp
  simp only [uX7_hasOnlyGroups_0, uX7_hasOnlyGroups_1, uX7_hasOnlyGroups_3, uX7_hasOnlyGroups_4, uX7_hasOnlyGroups_7, uX7_hasOnlyGroups_8, uX7_hasOnlyGroups_9, uX7_hasOnlyGroups_10, uX7_hasOnlyGroups_11, uX7_hasOnlyGroups_14, uX7_hasOnlyGroups_16, uX7_hasOnlyGroups_19, uX7_hasOnlyGroups_22, uX7_hasOnlyGroups_23, uX7_hasOnlyGroups_24, uX7_hasOnlyGroups_27, uX7_hasOnlyGroups_30, uX7_hasOnlyGroups_31, Option.bind_some, Option.toList_some, Option.toList_none, List.cons_append, List.nil_append, if_true, if_false, and_self, and_true, true_and, or_self, or_true, true_or, false_or, or_false, i10, i00, i01, i11, Nat.reduceAdd, st1_0, st1_c, st1_1i, st1_1r, st1_1n, st1_1u, st1_1J, st2_0, st2_c, st2_1i, st2_1r, st2_1n, st2_1u, st2_1J]
  exact lp
theorem minmax {n : Nat} (hn : n ≤ 60) : (if nI n ≤ 60 then nI n else 60) = nI n ∧ (if (0 : Int32) < nI n then nI n else 0) = nI n := by
  refine ⟨if_pos (nI_le (b := 60) hn (by decide)), ?_⟩
  by_cases q : n = 0
  · rw [q]; rfl
  · rw [if_pos (show (0 : Int32) < nI n from nI_lt (a := 0) (b := n) (by omega) (by omega))]
theorem c_groups {i n m : Nat} (S : SheetC h sz sl cm) (hk : k < 4) (hs : sz k = some m) (hi : i + n ≤ m) (hN : 59 ≤ h.1) : run 89 (0, [some (.ref (28 + 2 * k)), some (.int (nI i)), some (.int (nI n)), none, none], [], h) = some (some (.ref h.1), fillI (al h (aI n fun _ => 0) n) h.1 0 (fun j => cm (60 * k + i + j)) n) := by
  have hm := S.2.2.1 k m hs
  obtain ⟨m1, m2⟩ := minmax (show n ≤ 60 by omega)
  have e5 : ¬ (nI n < 0 ∨ 100000 < n) := fun q => by
    rcases q with q | q
    · exact nI_pos (by omega) q
    · omega
  have e4 := nI_clamp (show n < 2 ^ 31 by omega)
  have r0 : rI (al h (aI n fun _ => 0) n) h.1 = some (n, fun _ => 0) := rI_al
  have S1 : SheetC (al h (aI n fun _ => 0) n) sz sl cm := sheetC_eq S (fun b hb => cell_al (by omega))
  generalize hh0 : al h (aI n fun _ => 0) n = h0 at *
  have lp := loopN (F := fun j => run 89 (16, [some (.ref (28 + 2 * k)), some (.int (nI i)), some (.int (nI n)), some (.ref h.1), some (.int (nI j))], [], fillI h0 h.1 0 (fun j => cm (60 * k + i + j)) j)) n (fun j hj => by
    have S2 : SheetC (fillI h0 h.1 0 (fun j => cm (60 * k + i + j)) j) sz sl cm := sheetC_eq S1 (fun b hb => cell_fill (by omega) j)
    obtain ⟨hS, _⟩ := S2.2.1 k hk
    have r1 := rI_fillA (g := fun j => cm (60 * k + i + j)) (o := 0) j r0
    have r2 := c_atS S2 hk hs (show i + j < m by omega)
    rw [show 60 * k + (i + j) = 60 * k + i + j by omega] at r2
    have c1 : ¬ nI n ≤ nI j := nI_ge hj (by omega)
    have p1 : pi (fillI h0 h.1 0 (fun j => cm (60 * k + i + j)) j) h.1 (nI j) (cm (60 * k + i + j)) = some (fillI h0 h.1 0 (fun j => cm (60 * k + i + j)) (j + 1)) := by
      rw [pi_si (by omega) r1 hj (by omega)]
      show _ = some (si (fillI h0 h.1 0 (fun j => cm (60 * k + i + j)) j) h.1 (0 + j) (cm (60 * k + i + j)))
      rw [Nat.zero_add]
    show run 89 (16, _) = run 89 (16, _)
    rw [uX7_groups_16]
    simp only [uX7_groups_0, uX7_groups_1, uX7_groups_2, uX7_groups_4, uX7_groups_7, uX7_groups_10, uX7_groups_12, uX7_groups_12N, uX7_groups_13, uX7_groups_14, uX7_groups_18, uX7_groups_18N, uX7_groups_19, uX7_groups_20, uX7_groups_23, uX7_groups_23N, uX7_groups_24, uX7_groups_26, uX7_groups_27, uX7_groups_28, uX7_groups_30, uX7_groups_31, uX7_groups_34, uX7_groups_35, uX7_groups_38, uX7_groups_41, uX7_groups_41N, uX7_groups_42, uX7_groups_42N, gl_nI r1, c1, nI_add, vX hS, r2, p1, nI_1, Option.bind_some, Option.toList_some, Option.toList_none, List.cons_append, List.nil_append, if_true, if_false, and_self, and_true, true_and, or_self, or_true, true_or, false_or, or_false, i10, i00, i01, i11, Nat.reduceAdd, st1_0, st1_c, st1_1i, st1_1r, st1_1n, st1_1u, st1_1J, st2_0, st2_c, st2_1i, st2_1r, st2_1n, st2_1u, st2_1J])
  have r3 := rI_fillA (g := fun j => cm (60 * k + i + j)) (o := 0) n r0
  have c1 : nI n ≤ nI n := nI_le (Nat.le_refl _) (by omega)
  simp only [uX7_groups_0, uX7_groups_1, uX7_groups_2, uX7_groups_4, uX7_groups_7, uX7_groups_10, uX7_groups_12, uX7_groups_12N, uX7_groups_13, uX7_groups_14, uX7_groups_18, uX7_groups_18N, uX7_groups_19, uX7_groups_20, uX7_groups_23, uX7_groups_23N, uX7_groups_24, uX7_groups_26, uX7_groups_27, uX7_groups_28, uX7_groups_30, uX7_groups_31, uX7_groups_34, uX7_groups_35, uX7_groups_38, uX7_groups_41, uX7_groups_41N, uX7_groups_42, uX7_groups_42N, j_min, m1, j_max, m2, e4, e5, hh0, Option.bind_some, Option.toList_some, Option.toList_none, List.cons_append, List.nil_append, if_true, if_false, and_self, and_true, true_and, or_self, or_true, true_or, false_or, or_false, i10, i00, i01, i11, Nat.reduceAdd, st1_0, st1_c, st1_1i, st1_1r, st1_1n, st1_1u, st1_1J, st2_0, st2_c, st2_1i, st2_1r, st2_1n, st2_1u, st2_1J]
  refine Eq.trans lp ?_
  show run 89 (16, _) = _
  rw [uX7_groups_16]
  simp only [uX7_groups_0, uX7_groups_1, uX7_groups_2, uX7_groups_4, uX7_groups_7, uX7_groups_10, uX7_groups_12, uX7_groups_12N, uX7_groups_13, uX7_groups_14, uX7_groups_18, uX7_groups_18N, uX7_groups_19, uX7_groups_20, uX7_groups_23, uX7_groups_23N, uX7_groups_24, uX7_groups_26, uX7_groups_27, uX7_groups_28, uX7_groups_30, uX7_groups_31, uX7_groups_34, uX7_groups_35, uX7_groups_38, uX7_groups_41, uX7_groups_41N, uX7_groups_42, uX7_groups_42N, gl_nI r3, c1, Option.bind_some, Option.toList_some, Option.toList_none, List.cons_append, List.nil_append, if_true, if_false, and_self, and_true, true_and, or_self, or_true, true_or, false_or, or_false, i10, i00, i01, i11, Nat.reduceAdd, st1_0, st1_c, st1_1i, st1_1r, st1_1n, st1_1u, st1_1J, st2_0, st2_c, st2_1i, st2_1r, st2_1n, st2_1u, st2_1J]
theorem pPg {h : AH} {a k i : Nat} {v : Value} {fs : List Value} {ty : FieldType} (hk : k < 3) (hP : rO h a = some (kc k, fs)) (h4 : 4 ≤ a) (hl : i < fs.length) (h0 : cty 4 i = some ty) (h1 : cty 7 i = some ty) (h2 : cty 8 i = some ty) (ho : okT ty v = true) : pf h [(4, i), (7, i), (8, i)] a v = some (sf h a i v) := by
  refine pf_sf (by omega) hP (lk3 hk) ?_ hl ho
  rcases k3 hk with e | e | e <;> subst e
  · exact h0
  · exact h1
  · exact h2
theorem c_pgInit {a u o q kd : Nat} (hk : kd < 3) (hO : rO h a = some (kc kd, [.int 0, .int 0, .null, .int 0])) (h4 : 4 ≤ a) : run 49 (0, [some (.ref a), some (.int (nI u)), some (.int (nI o)), some (.ref q)], [], h) = some (none, sf (sf (sf h a 0 (.int (nI u))) a 1 (.int (nI o))) a 2 (.ref q)) ∧ rO (sf (sf (sf h a 0 (.int (nI u))) a 1 (.int (nI o))) a 2 (.ref q)) a = some (kc kd, pgF u o q 0) := by
  have p0 : pf h [(4, 0), (7, 0), (8, 0)] a (.int (nI u)) = some (sf h a 0 (.int (nI u))) := pPg hk hO h4 (Nat.le_of_ble_eq_true rfl) rfl rfl rfl rfl
  have o1 : rO (sf h a 0 (.int (nI u))) a = some (kc kd, [.int (nI u), .int 0, .null, .int 0]) := by rw [rO_sf, if_pos rfl, hO]; rfl
  have p1 : pf (sf h a 0 (.int (nI u))) [(4, 1), (7, 1), (8, 1)] a (.int (nI o)) = some (sf (sf h a 0 (.int (nI u))) a 1 (.int (nI o))) := pPg hk o1 h4 (Nat.le_of_ble_eq_true rfl) rfl rfl rfl rfl
  have o2 : rO (sf (sf h a 0 (.int (nI u))) a 1 (.int (nI o))) a = some (kc kd, [.int (nI u), .int (nI o), .null, .int 0]) := by rw [rO_sf, if_pos rfl, o1]; rfl
  have p2 : pf (sf (sf h a 0 (.int (nI u))) a 1 (.int (nI o))) [(4, 2), (7, 2), (8, 2)] a (.ref q) = some (sf (sf (sf h a 0 (.int (nI u))) a 1 (.int (nI o))) a 2 (.ref q)) := pPg hk o2 h4 (Nat.le_of_ble_eq_true rfl) rfl rfl rfl rfl
  refine ⟨by simp only [uX5_init_0, uX5_init_1, uX5_init_4, uX5_init_5, uX5_init_6, uX5_init_9, uX5_init_10, uX5_init_11, uX5_init_14, uX5_init_15, uX5_init_15N, uX5_init_16, uX5_init_19, p0, p1, p2, Option.bind_some, Option.toList_some, Option.toList_none, List.cons_append, List.nil_append, if_true, if_false, and_self, and_true, true_and, or_self, or_true, true_or, false_or, or_false, i10, i00, i01, i11, Nat.reduceAdd, st1_0, st1_c, st1_1i, st1_1r, st1_1n, st1_1u, st1_1J, st2_0, st2_c, st2_1i, st2_1r, st2_1n, st2_1u, st2_1J], ?_⟩
  rw [rO_sf, if_pos rfl, o2]
  rfl
theorem c_newPage {u o q kd : Nat} (hk : kd < 3) (hN : 4 ≤ h.1) : ∃ h1, run 139 (0, [some (.int (nI kd)), some (.int (nI u)), some (.int (nI o)), some (.ref q)], [], h) = some (some (.ref h.1), h1) ∧ (∀ b, b ≠ h.1 → h1.2.2 b = h.2.2 b) ∧ h1.1 = h.1 + 1 ∧ h1.2.1 = h.2.1 + 4 ∧ rO h1 h.1 = some (kc kd, pgF u o q 0) := by
  have o0 : rO (al h (aO (kc kd) [.int 0, .int 0, .null, .int 0]) 4) h.1 = some (kc kd, [.int 0, .int 0, .null, .int 0]) := rO_al (by unfold kc; split <;> (try split) <;> decide)
  obtain ⟨r1, o1⟩ := c_pgInit (u := u) (o := o) (q := q) hk o0 hN
  refine ⟨_, ?_, fun b hb => ?_, ?_, ?_, o1⟩
  · rcases k3 hk with e | e | e
    · subst e
      have hx : (nI 0).toInt ≠ 1 ∧ (nI 0).toInt ≠ 2 := by decide
      have e0 : kc 0 = 4 := rfl
      rw [e0] at o0 r1 ⊢
      have v0 := vc_at (l := [(4, 0), (7, 0), (8, 0)]) (d := 0) o0 rfl
      simp only [uX11_newPage_0, uX11_newPage_1_d hx, uX11_newPage_28, uX11_newPage_31, uX11_newPage_32, uX11_newPage_33, uX11_newPage_34, uX11_newPage_34N, uX11_newPage_35, uX11_newPage_38, uX11_newPage_38N, uX11_newPage_39, uX11_newPage_42, uX11_newPage_43, uX11_newPage_44, uX11_newPage_45, uX11_newPage_45N, uX11_newPage_46, uX11_newPage_49, uX11_newPage_49N, uX11_newPage_50, uX11_newPage_53, uX11_newPage_54, uX11_newPage_55, uX11_newPage_56, uX11_newPage_56N, uX11_newPage_57, uX11_newPage_60, uX11_newPage_60N, v0, r1, Option.bind_some, Option.toList_some, Option.toList_none, List.cons_append, List.nil_append, if_true, if_false, and_self, and_true, true_and, or_self, or_true, true_or, false_or, or_false, i10, i00, i01, i11, Nat.reduceAdd, st1_0, st1_c, st1_1i, st1_1r, st1_1n, st1_1u, st1_1J, st2_0, st2_c, st2_1i, st2_1r, st2_1n, st2_1u, st2_1J]
    · subst e
      have e1 : nI 1 = 1 := rfl
      have e0 : kc 1 = 7 := rfl
      rw [e0] at o0 r1 ⊢
      have v0 := vc_at (l := [(4, 0), (7, 0), (8, 0)]) (d := 0) o0 rfl
      have v1 := vc_at (l := [(7, 0), (8, 0)]) (d := 0) o0 rfl
      have r2 : run 90 (0, [some (.ref h.1), some (.int (nI u)), some (.int (nI o)), some (.ref q)], [], al h (aO 7 [.int 0, .int 0, .null, .int 0]) 4) = some (none, sf (sf (sf (al h (aO 7 [.int 0, .int 0, .null, .int 0]) 4) h.1 0 (.int (nI u))) h.1 1 (.int (nI o))) h.1 2 (.ref q)) := by
        simp only [uX8_init_0, uX8_init_1, uX8_init_2, uX8_init_3, uX8_init_3N, uX8_init_4, uX8_init_7, v0, r1, Option.bind_some, Option.toList_some, Option.toList_none, List.cons_append, List.nil_append, if_true, if_false, and_self, and_true, true_and, or_self, or_true, true_or, false_or, or_false, i10, i00, i01, i11, Nat.reduceAdd, st1_0, st1_c, st1_1i, st1_1r, st1_1n, st1_1u, st1_1J, st2_0, st2_c, st2_1i, st2_1r, st2_1n, st2_1u, st2_1J]
      simp only [uX11_newPage_0, uX11_newPage_1_1, uX11_newPage_1_2, uX11_newPage_1_d, uX11_newPage_28, uX11_newPage_31, uX11_newPage_32, uX11_newPage_33, uX11_newPage_34, uX11_newPage_34N, uX11_newPage_35, uX11_newPage_38, uX11_newPage_38N, uX11_newPage_39, uX11_newPage_42, uX11_newPage_43, uX11_newPage_44, uX11_newPage_45, uX11_newPage_45N, uX11_newPage_46, uX11_newPage_49, uX11_newPage_49N, uX11_newPage_50, uX11_newPage_53, uX11_newPage_54, uX11_newPage_55, uX11_newPage_56, uX11_newPage_56N, uX11_newPage_57, uX11_newPage_60, uX11_newPage_60N, e1, v1, r2, Option.bind_some, Option.toList_some, Option.toList_none, List.cons_append, List.nil_append, if_true, if_false, and_self, and_true, true_and, or_self, or_true, true_or, false_or, or_false, i10, i00, i01, i11, Nat.reduceAdd, st1_0, st1_c, st1_1i, st1_1r, st1_1n, st1_1u, st1_1J, st2_0, st2_c, st2_1i, st2_1r, st2_1n, st2_1u, st2_1J]
    · subst e
      have e1 : nI 2 = 2 := rfl
      have e0 : kc 2 = 8 := rfl
      rw [e0] at o0 r1 ⊢
      have v0 := vc_at (l := [(4, 0), (7, 0), (8, 0)]) (d := 0) o0 rfl
      have v1 := vc_at (l := [(7, 0), (8, 0)]) (d := 0) o0 rfl
      have v2 := vc_at (l := [(8, 0)]) (d := 0) o0 rfl
      have r2 : run 90 (0, [some (.ref h.1), some (.int (nI u)), some (.int (nI o)), some (.ref q)], [], al h (aO 8 [.int 0, .int 0, .null, .int 0]) 4) = some (none, sf (sf (sf (al h (aO 8 [.int 0, .int 0, .null, .int 0]) 4) h.1 0 (.int (nI u))) h.1 1 (.int (nI o))) h.1 2 (.ref q)) := by
        simp only [uX8_init_0, uX8_init_1, uX8_init_2, uX8_init_3, uX8_init_3N, uX8_init_4, uX8_init_7, v0, r1, Option.bind_some, Option.toList_some, Option.toList_none, List.cons_append, List.nil_append, if_true, if_false, and_self, and_true, true_and, or_self, or_true, true_or, false_or, or_false, i10, i00, i01, i11, Nat.reduceAdd, st1_0, st1_c, st1_1i, st1_1r, st1_1n, st1_1u, st1_1J, st2_0, st2_c, st2_1i, st2_1r, st2_1n, st2_1u, st2_1J]
      have r3 : run 94 (0, [some (.ref h.1), some (.int (nI u)), some (.int (nI o)), some (.ref q)], [], al h (aO 8 [.int 0, .int 0, .null, .int 0]) 4) = some (none, sf (sf (sf (al h (aO 8 [.int 0, .int 0, .null, .int 0]) 4) h.1 0 (.int (nI u))) h.1 1 (.int (nI o))) h.1 2 (.ref q)) := by
        simp only [uX9_init_0, uX9_init_1, uX9_init_2, uX9_init_3, uX9_init_3N, uX9_init_4, uX9_init_7, v1, r2, Option.bind_some, Option.toList_some, Option.toList_none, List.cons_append, List.nil_append, if_true, if_false, and_self, and_true, true_and, or_self, or_true, true_or, false_or, or_false, i10, i00, i01, i11, Nat.reduceAdd, st1_0, st1_c, st1_1i, st1_1r, st1_1n, st1_1u, st1_1J, st2_0, st2_c, st2_1i, st2_1r, st2_1n, st2_1u, st2_1J]
      simp only [uX11_newPage_0, uX11_newPage_1_1, uX11_newPage_1_2, uX11_newPage_1_d, uX11_newPage_28, uX11_newPage_31, uX11_newPage_32, uX11_newPage_33, uX11_newPage_34, uX11_newPage_34N, uX11_newPage_35, uX11_newPage_38, uX11_newPage_38N, uX11_newPage_39, uX11_newPage_42, uX11_newPage_43, uX11_newPage_44, uX11_newPage_45, uX11_newPage_45N, uX11_newPage_46, uX11_newPage_49, uX11_newPage_49N, uX11_newPage_50, uX11_newPage_53, uX11_newPage_54, uX11_newPage_55, uX11_newPage_56, uX11_newPage_56N, uX11_newPage_57, uX11_newPage_60, uX11_newPage_60N, e1, v2, r3, Option.bind_some, Option.toList_some, Option.toList_none, List.cons_append, List.nil_append, if_true, if_false, and_self, and_true, true_and, or_self, or_true, true_or, false_or, or_false, i10, i00, i01, i11, Nat.reduceAdd, st1_0, st1_c, st1_1i, st1_1r, st1_1n, st1_1u, st1_1J, st2_0, st2_c, st2_1i, st2_1r, st2_1n, st2_1u, st2_1J]
  · rw [cell_sf hb, cell_sf hb, cell_sf hb, cell_al hb]
  · rw [sf_n, sf_n, sf_n]; rfl
  · rw [sf_s, sf_s, sf_s]; rfl
variable {P : Nat} {pk pp pn pl : Nat → Nat} {gr : Nat → Nat → Nat} {pa qa : Nat → Nat} {p : Nat}
theorem c_page_u {kd ps x lane i n : Int32} (hX : rO h 4 = some (10, xF dr xp xl xf)) (S : SheetC h sz sl cm) (hx : ¬ (0 ≤ x.toInt ∧ x.toInt ≤ 3) ∨ ¬ (0 ≤ ps.toInt ∧ ps.toInt ≤ 5)) : run 106 (0, [some (.ref 4), some (.int kd), some (.int ps), some (.int x), some (.int lane), some (.int i), some (.int n), none, none, none], [], h) = some (some (.int (-1)), sf h 4 9 (.int 0)) := by
  have hX2 := sX9 (x := 0) hX
  have S2 : SheetC (sf h 4 9 (.int 0)) sz sl cm := S.f4
  by_cases h1 : 0 ≤ x.toInt ∧ x.toInt ≤ 3
  · have h2 := hx.resolve_left (fun q => q h1)
    obtain ⟨k, q1, q2, q3⟩ := inR h1
    subst q3
    simp only [uX11_page_0, uX11_page_1, uX11_page_2, uX11_page_5, uX11_page_6, uX11_page_7, uX11_page_10, uX11_page_10N, uX11_page_12, uX11_page_12N, uX11_page_14, uX11_page_14N, uX11_page_17, uX11_page_18, uX11_page_20, uX11_page_23, uX11_page_26, uX11_page_27, uX11_page_28, uX11_page_29, uX11_page_30, uX11_page_33, uX11_page_36, uX11_page_38, uX11_page_39, uX11_page_42, uX11_page_45, uX11_page_47, uX11_page_48, uX11_page_48N, uX11_page_50, uX11_page_52, uX11_page_54, uX11_page_56, uX11_page_59, uX11_page_61, uX11_page_63, uX11_page_66, uX11_page_67, uX11_page_69, uX11_page_72, uX11_page_73, uX11_page_75, uX11_page_76, uX11_page_79, uX11_page_81, uX11_page_83, uX11_page_86, uX11_page_86N, uX11_page_88, uX11_page_90, uX11_page_92, uX11_page_95, uX11_page_98, uX11_page_100, uX11_page_101, uX11_page_102, uX11_page_105, uX11_page_107, uX11_page_110, uX11_page_113, uX11_page_115, uX11_page_116, uX11_page_117, uX11_page_120, uX11_page_122, uX11_page_123, uX11_page_126, uX11_page_128, uX11_page_129, uX11_page_131, uX11_page_132, uX11_page_132N, uX11_page_134, uX11_page_136, uX11_page_138, uX11_page_141, uX11_page_144, uX11_page_145, uX11_page_146, uX11_page_147, uX11_page_150, uX11_page_151, uX11_page_152, uX11_page_155, uX11_page_157, pX9 hX, vX hX2, c_sheetAt hX2 S2 (show k < 4 by omega), c_bl6, if_neg h2, Option.bind_some, Option.toList_some, Option.toList_none, List.cons_append, List.nil_append, if_true, if_false, and_self, and_true, true_and, or_self, or_true, true_or, false_or, or_false, i10, i00, i01, i11, Nat.reduceAdd, st1_0, st1_c, st1_1i, st1_1r, st1_1n, st1_1u, st1_1J, st2_0, st2_c, st2_1i, st2_1r, st2_1n, st2_1u, st2_1J]
  · simp only [uX11_page_0, uX11_page_1, uX11_page_2, uX11_page_5, uX11_page_6, uX11_page_7, uX11_page_10, uX11_page_10N, uX11_page_12, uX11_page_12N, uX11_page_14, uX11_page_14N, uX11_page_17, uX11_page_18, uX11_page_20, uX11_page_23, uX11_page_26, uX11_page_27, uX11_page_28, uX11_page_29, uX11_page_30, uX11_page_33, uX11_page_36, uX11_page_38, uX11_page_39, uX11_page_42, uX11_page_45, uX11_page_47, uX11_page_48, uX11_page_48N, uX11_page_50, uX11_page_52, uX11_page_54, uX11_page_56, uX11_page_59, uX11_page_61, uX11_page_63, uX11_page_66, uX11_page_67, uX11_page_69, uX11_page_72, uX11_page_73, uX11_page_75, uX11_page_76, uX11_page_79, uX11_page_81, uX11_page_83, uX11_page_86, uX11_page_86N, uX11_page_88, uX11_page_90, uX11_page_92, uX11_page_95, uX11_page_98, uX11_page_100, uX11_page_101, uX11_page_102, uX11_page_105, uX11_page_107, uX11_page_110, uX11_page_113, uX11_page_115, uX11_page_116, uX11_page_117, uX11_page_120, uX11_page_122, uX11_page_123, uX11_page_126, uX11_page_128, uX11_page_129, uX11_page_131, uX11_page_132, uX11_page_132N, uX11_page_134, uX11_page_136, uX11_page_138, uX11_page_141, uX11_page_144, uX11_page_145, uX11_page_146, uX11_page_147, uX11_page_150, uX11_page_151, uX11_page_152, uX11_page_155, uX11_page_157, pX9 hX, vX hX2, c_sheetAt_n h1, Option.bind_some, Option.toList_some, Option.toList_none, List.cons_append, List.nil_append, if_true, if_false, and_self, and_true, true_and, or_self, or_true, true_or, false_or, or_false, i10, i00, i01, i11, Nat.reduceAdd, st1_0, st1_c, st1_1i, st1_1r, st1_1n, st1_1u, st1_1J, st2_0, st2_c, st2_1i, st2_1r, st2_1n, st2_1u, st2_1J]
theorem c_page_o {kd ps lane i n : Int32} (hX : rO h 4 = some (10, xF dr xp xl xf)) (S : SheetC h sz sl cm) (hk : k < 4) (hps : 0 ≤ ps.toInt ∧ ps.toInt ≤ 5) (hx : ¬ (0 ≤ kd.toInt ∧ kd.toInt ≤ 2)) : run 106 (0, [some (.ref 4), some (.int kd), some (.int ps), some (.int (nI k)), some (.int lane), some (.int i), some (.int n), none, none, none], [], h) = some (some (.int (-2)), sf h 4 9 (.int 0)) := by
  have hX2 := sX9 (x := 0) hX
  have S2 : SheetC (sf h 4 9 (.int 0)) sz sl cm := S.f4
  simp only [uX11_page_0, uX11_page_1, uX11_page_2, uX11_page_5, uX11_page_6, uX11_page_7, uX11_page_10, uX11_page_10N, uX11_page_12, uX11_page_12N, uX11_page_14, uX11_page_14N, uX11_page_17, uX11_page_18, uX11_page_20, uX11_page_23, uX11_page_26, uX11_page_27, uX11_page_28, uX11_page_29, uX11_page_30, uX11_page_33, uX11_page_36, uX11_page_38, uX11_page_39, uX11_page_42, uX11_page_45, uX11_page_47, uX11_page_48, uX11_page_48N, uX11_page_50, uX11_page_52, uX11_page_54, uX11_page_56, uX11_page_59, uX11_page_61, uX11_page_63, uX11_page_66, uX11_page_67, uX11_page_69, uX11_page_72, uX11_page_73, uX11_page_75, uX11_page_76, uX11_page_79, uX11_page_81, uX11_page_83, uX11_page_86, uX11_page_86N, uX11_page_88, uX11_page_90, uX11_page_92, uX11_page_95, uX11_page_98, uX11_page_100, uX11_page_101, uX11_page_102, uX11_page_105, uX11_page_107, uX11_page_110, uX11_page_113, uX11_page_115, uX11_page_116, uX11_page_117, uX11_page_120, uX11_page_122, uX11_page_123, uX11_page_126, uX11_page_128, uX11_page_129, uX11_page_131, uX11_page_132, uX11_page_132N, uX11_page_134, uX11_page_136, uX11_page_138, uX11_page_141, uX11_page_144, uX11_page_145, uX11_page_146, uX11_page_147, uX11_page_150, uX11_page_151, uX11_page_152, uX11_page_155, uX11_page_157, pX9 hX, vX hX2, c_sheetAt hX2 S2 hk, c_bl6, hps, c_bl3, if_neg hx, Option.bind_some, Option.toList_some, Option.toList_none, List.cons_append, List.nil_append, if_true, if_false, and_self, and_true, true_and, or_self, or_true, true_or, false_or, or_false, i10, i00, i01, i11, Nat.reduceAdd, st1_0, st1_c, st1_1i, st1_1r, st1_1n, st1_1u, st1_1J, st2_0, st2_c, st2_1i, st2_1r, st2_1n, st2_1u, st2_1J]
theorem c_page_b {kd ps lane i n : Int32} (hX : rO h 4 = some (10, xF dr xp xl xf)) (S : SheetC h sz sl cm) (hk : k < 4) (hps : 0 ≤ ps.toInt ∧ ps.toInt ≤ 5) (hkd : 0 ≤ kd.toInt ∧ kd.toInt ≤ 2) (hb : ¬ bar (sz k) (sl k) lane i n = 0) : ∃ h1, run 106 (0, [some (.ref 4), some (.int kd), some (.int ps), some (.int (nI k)), some (.int lane), some (.int i), some (.int n), none, none, none], [], h) = some (some (.int (bar (sz k) (sl k) lane i n)), h1) ∧ Lf h h1 dr xp xl (fz (bar (sz k) (sl k) lane i n)) := by
  have hX2 := sX9 (x := 0) hX
  have S2 : SheetC (sf h 4 9 (.int 0)) sz sl cm := S.f4
  by_cases hl : 0 ≤ lane.toInt ∧ lane.toInt ≤ 2
  · obtain ⟨e1, e2, _⟩ := fz_back hl hb
    have r1 := c_faultOfCells (lane := lane) (i := i) (n := n) S2 hk hl
    rw [if_neg hb] at r1
    obtain ⟨hS, _⟩ := S2.2.1 k hk
    refine ⟨_, ?_, lf2 (x := 0) hX⟩
    simp only [uX11_page_0, uX11_page_1, uX11_page_2, uX11_page_5, uX11_page_6, uX11_page_7, uX11_page_10, uX11_page_10N, uX11_page_12, uX11_page_12N, uX11_page_14, uX11_page_14N, uX11_page_17, uX11_page_18, uX11_page_20, uX11_page_23, uX11_page_26, uX11_page_27, uX11_page_28, uX11_page_29, uX11_page_30, uX11_page_33, uX11_page_36, uX11_page_38, uX11_page_39, uX11_page_42, uX11_page_45, uX11_page_47, uX11_page_48, uX11_page_48N, uX11_page_50, uX11_page_52, uX11_page_54, uX11_page_56, uX11_page_59, uX11_page_61, uX11_page_63, uX11_page_66, uX11_page_67, uX11_page_69, uX11_page_72, uX11_page_73, uX11_page_75, uX11_page_76, uX11_page_79, uX11_page_81, uX11_page_83, uX11_page_86, uX11_page_86N, uX11_page_88, uX11_page_90, uX11_page_92, uX11_page_95, uX11_page_98, uX11_page_100, uX11_page_101, uX11_page_102, uX11_page_105, uX11_page_107, uX11_page_110, uX11_page_113, uX11_page_115, uX11_page_116, uX11_page_117, uX11_page_120, uX11_page_122, uX11_page_123, uX11_page_126, uX11_page_128, uX11_page_129, uX11_page_131, uX11_page_132, uX11_page_132N, uX11_page_134, uX11_page_136, uX11_page_138, uX11_page_141, uX11_page_144, uX11_page_145, uX11_page_146, uX11_page_147, uX11_page_150, uX11_page_151, uX11_page_152, uX11_page_155, uX11_page_157, pX9 hX, vX hX2, c_sheetAt hX2 S2 hk, c_bl6, hps, c_bl3, hkd, hl, vX hS, r1, e2, c_comeTo hX2, e1, Option.bind_some, Option.toList_some, Option.toList_none, List.cons_append, List.nil_append, if_true, if_false, and_self, and_true, true_and, or_self, or_true, true_or, false_or, or_false, i10, i00, i01, i11, Nat.reduceAdd, st1_0, st1_c, st1_1i, st1_1r, st1_1n, st1_1u, st1_1J, st2_0, st2_c, st2_1i, st2_1r, st2_1n, st2_1u, st2_1J]
  · rw [bar_lo hl]
    refine ⟨_, ?_, lf1 hX⟩
    simp only [uX11_page_0, uX11_page_1, uX11_page_2, uX11_page_5, uX11_page_6, uX11_page_7, uX11_page_10, uX11_page_10N, uX11_page_12, uX11_page_12N, uX11_page_14, uX11_page_14N, uX11_page_17, uX11_page_18, uX11_page_20, uX11_page_23, uX11_page_26, uX11_page_27, uX11_page_28, uX11_page_29, uX11_page_30, uX11_page_33, uX11_page_36, uX11_page_38, uX11_page_39, uX11_page_42, uX11_page_45, uX11_page_47, uX11_page_48, uX11_page_48N, uX11_page_50, uX11_page_52, uX11_page_54, uX11_page_56, uX11_page_59, uX11_page_61, uX11_page_63, uX11_page_66, uX11_page_67, uX11_page_69, uX11_page_72, uX11_page_73, uX11_page_75, uX11_page_76, uX11_page_79, uX11_page_81, uX11_page_83, uX11_page_86, uX11_page_86N, uX11_page_88, uX11_page_90, uX11_page_92, uX11_page_95, uX11_page_98, uX11_page_100, uX11_page_101, uX11_page_102, uX11_page_105, uX11_page_107, uX11_page_110, uX11_page_113, uX11_page_115, uX11_page_116, uX11_page_117, uX11_page_120, uX11_page_122, uX11_page_123, uX11_page_126, uX11_page_128, uX11_page_129, uX11_page_131, uX11_page_132, uX11_page_132N, uX11_page_134, uX11_page_136, uX11_page_138, uX11_page_141, uX11_page_144, uX11_page_145, uX11_page_146, uX11_page_147, uX11_page_150, uX11_page_151, uX11_page_152, uX11_page_155, uX11_page_157, pX9 hX, vX hX2, c_sheetAt hX2 S2 hk, c_bl6, hps, c_bl3, hkd, if_neg hl, Option.bind_some, Option.toList_some, Option.toList_none, List.cons_append, List.nil_append, if_true, if_false, and_self, and_true, true_and, or_self, or_true, true_or, false_or, or_false, i10, i00, i01, i11, Nat.reduceAdd, st1_0, st1_c, st1_1i, st1_1r, st1_1n, st1_1u, st1_1J, st2_0, st2_c, st2_1i, st2_1r, st2_1n, st2_1u, st2_1J]
    rfl
theorem c_page_g {kd ps lane : Int32} {i0 n0 m : Nat} (hX : rO h 4 = some (10, xF dr xp xl xf)) (S : SheetC h sz sl cm) (hk : k < 4) (hps : 0 ≤ ps.toInt ∧ ps.toInt ≤ 5) (hkd : 0 ≤ kd.toInt ∧ kd.toInt ≤ 2) (hb : bar (sz k) (sl k) lane (nI i0) (nI n0) = 0) (hs : sz k = some m) (hi : i0 + n0 ≤ m) (hg : ¬ ((1 ≤ n0 ∧ n0 ≤ 12) ∧ allB (fun x => isG (cm (60 * k + i0 + x))) n0 = true)) : run 106 (0, [some (.ref 4), some (.int kd), some (.int ps), some (.int (nI k)), some (.int lane), some (.int (nI i0)), some (.int (nI n0)), none, none, none], [], h) = some (some (.int (-2)), sf h 4 9 (.int 0)) := by
  have hX2 := sX9 (x := 0) hX
  have S2 : SheetC (sf h 4 9 (.int 0)) sz sl cm := S.f4
  have hl := bar_lane hb
  have hm := S.2.2.1 k m hs
  have r1 := c_faultOfCells (lane := lane) (i := nI i0) (n := nI n0) S2 hk hl
  rw [if_pos hb] at r1
  obtain ⟨hS, _⟩ := S2.2.1 k hk
  have r2 := c_hasOnlyGroups S2 hk hs hi
  by_cases w1 : nI n0 < 1
  · simp only [uX11_page_0, uX11_page_1, uX11_page_2, uX11_page_5, uX11_page_6, uX11_page_7, uX11_page_10, uX11_page_10N, uX11_page_12, uX11_page_12N, uX11_page_14, uX11_page_14N, uX11_page_17, uX11_page_18, uX11_page_20, uX11_page_23, uX11_page_26, uX11_page_27, uX11_page_28, uX11_page_29, uX11_page_30, uX11_page_33, uX11_page_36, uX11_page_38, uX11_page_39, uX11_page_42, uX11_page_45, uX11_page_47, uX11_page_48, uX11_page_48N, uX11_page_50, uX11_page_52, uX11_page_54, uX11_page_56, uX11_page_59, uX11_page_61, uX11_page_63, uX11_page_66, uX11_page_67, uX11_page_69, uX11_page_72, uX11_page_73, uX11_page_75, uX11_page_76, uX11_page_79, uX11_page_81, uX11_page_83, uX11_page_86, uX11_page_86N, uX11_page_88, uX11_page_90, uX11_page_92, uX11_page_95, uX11_page_98, uX11_page_100, uX11_page_101, uX11_page_102, uX11_page_105, uX11_page_107, uX11_page_110, uX11_page_113, uX11_page_115, uX11_page_116, uX11_page_117, uX11_page_120, uX11_page_122, uX11_page_123, uX11_page_126, uX11_page_128, uX11_page_129, uX11_page_131, uX11_page_132, uX11_page_132N, uX11_page_134, uX11_page_136, uX11_page_138, uX11_page_141, uX11_page_144, uX11_page_145, uX11_page_146, uX11_page_147, uX11_page_150, uX11_page_151, uX11_page_152, uX11_page_155, uX11_page_157, pX9 hX, vX hX2, c_sheetAt hX2 S2 hk, c_bl6, hps, c_bl3, hkd, hl, vX hS, r1, w1, Option.bind_some, Option.toList_some, Option.toList_none, List.cons_append, List.nil_append, if_true, if_false, and_self, and_true, true_and, or_self, or_true, true_or, false_or, or_false, i10, i00, i01, i11, Nat.reduceAdd, st1_0, st1_c, st1_1i, st1_1r, st1_1n, st1_1u, st1_1J, st2_0, st2_c, st2_1i, st2_1r, st2_1n, st2_1u, st2_1J]
  · by_cases w2 : (12 : Int32) < nI n0
    · simp only [uX11_page_0, uX11_page_1, uX11_page_2, uX11_page_5, uX11_page_6, uX11_page_7, uX11_page_10, uX11_page_10N, uX11_page_12, uX11_page_12N, uX11_page_14, uX11_page_14N, uX11_page_17, uX11_page_18, uX11_page_20, uX11_page_23, uX11_page_26, uX11_page_27, uX11_page_28, uX11_page_29, uX11_page_30, uX11_page_33, uX11_page_36, uX11_page_38, uX11_page_39, uX11_page_42, uX11_page_45, uX11_page_47, uX11_page_48, uX11_page_48N, uX11_page_50, uX11_page_52, uX11_page_54, uX11_page_56, uX11_page_59, uX11_page_61, uX11_page_63, uX11_page_66, uX11_page_67, uX11_page_69, uX11_page_72, uX11_page_73, uX11_page_75, uX11_page_76, uX11_page_79, uX11_page_81, uX11_page_83, uX11_page_86, uX11_page_86N, uX11_page_88, uX11_page_90, uX11_page_92, uX11_page_95, uX11_page_98, uX11_page_100, uX11_page_101, uX11_page_102, uX11_page_105, uX11_page_107, uX11_page_110, uX11_page_113, uX11_page_115, uX11_page_116, uX11_page_117, uX11_page_120, uX11_page_122, uX11_page_123, uX11_page_126, uX11_page_128, uX11_page_129, uX11_page_131, uX11_page_132, uX11_page_132N, uX11_page_134, uX11_page_136, uX11_page_138, uX11_page_141, uX11_page_144, uX11_page_145, uX11_page_146, uX11_page_147, uX11_page_150, uX11_page_151, uX11_page_152, uX11_page_155, uX11_page_157, pX9 hX, vX hX2, c_sheetAt hX2 S2 hk, c_bl6, hps, c_bl3, hkd, hl, vX hS, r1, w1, w2, Option.bind_some, Option.toList_some, Option.toList_none, List.cons_append, List.nil_append, if_true, if_false, and_self, and_true, true_and, or_self, or_true, true_or, false_or, or_false, i10, i00, i01, i11, Nat.reduceAdd, st1_0, st1_c, st1_1i, st1_1r, st1_1n, st1_1u, st1_1J, st2_0, st2_c, st2_1i, st2_1r, st2_1n, st2_1u, st2_1J]
    · have w3 : 1 ≤ n0 ∧ n0 ≤ 12 := by
        refine ⟨?_, ?_⟩
        · by_cases z : n0 = 0
          · subst z; exact absurd (by decide) w1
          · omega
        · by_cases z : n0 ≤ 12
          · exact z
          · exact absurd (nI_lt (a := 12) (by omega) (by omega)) w2
      have w4 : ¬ allB (fun x => isG (cm (60 * k + i0 + x))) n0 = true := fun z => hg ⟨w3, z⟩
      rw [if_neg w4] at r2
      simp only [uX11_page_0, uX11_page_1, uX11_page_2, uX11_page_5, uX11_page_6, uX11_page_7, uX11_page_10, uX11_page_10N, uX11_page_12, uX11_page_12N, uX11_page_14, uX11_page_14N, uX11_page_17, uX11_page_18, uX11_page_20, uX11_page_23, uX11_page_26, uX11_page_27, uX11_page_28, uX11_page_29, uX11_page_30, uX11_page_33, uX11_page_36, uX11_page_38, uX11_page_39, uX11_page_42, uX11_page_45, uX11_page_47, uX11_page_48, uX11_page_48N, uX11_page_50, uX11_page_52, uX11_page_54, uX11_page_56, uX11_page_59, uX11_page_61, uX11_page_63, uX11_page_66, uX11_page_67, uX11_page_69, uX11_page_72, uX11_page_73, uX11_page_75, uX11_page_76, uX11_page_79, uX11_page_81, uX11_page_83, uX11_page_86, uX11_page_86N, uX11_page_88, uX11_page_90, uX11_page_92, uX11_page_95, uX11_page_98, uX11_page_100, uX11_page_101, uX11_page_102, uX11_page_105, uX11_page_107, uX11_page_110, uX11_page_113, uX11_page_115, uX11_page_116, uX11_page_117, uX11_page_120, uX11_page_122, uX11_page_123, uX11_page_126, uX11_page_128, uX11_page_129, uX11_page_131, uX11_page_132, uX11_page_132N, uX11_page_134, uX11_page_136, uX11_page_138, uX11_page_141, uX11_page_144, uX11_page_145, uX11_page_146, uX11_page_147, uX11_page_150, uX11_page_151, uX11_page_152, uX11_page_155, uX11_page_157, pX9 hX, vX hX2, c_sheetAt hX2 S2 hk, c_bl6, hps, c_bl3, hkd, hl, vX hS, r1, w1, w2, r2, Option.bind_some, Option.toList_some, Option.toList_none, List.cons_append, List.nil_append, if_true, if_false, and_self, and_true, true_and, or_self, or_true, true_or, false_or, or_false, i10, i00, i01, i11, Nat.reduceAdd, st1_0, st1_c, st1_1i, st1_1r, st1_1n, st1_1u, st1_1J, st2_0, st2_c, st2_1i, st2_1r, st2_1n, st2_1u, st2_1J]
theorem c_page_f {kd ps lane : Int32} {i0 n0 m : Nat} (hX : rO h 4 = some (10, xF dr (nI P) xl xf)) (hP : P = 24) (S : SheetC h sz sl cm) (hk : k < 4) (hps : 0 ≤ ps.toInt ∧ ps.toInt ≤ 5) (hkd : 0 ≤ kd.toInt ∧ kd.toInt ≤ 2) (hb : bar (sz k) (sl k) lane (nI i0) (nI n0) = 0) (hs : sz k = some m) (hi : i0 + n0 ≤ m) (hn : 1 ≤ n0 ∧ n0 ≤ 12) (hg : allB (fun x => isG (cm (60 * k + i0 + x))) n0 = true) : run 106 (0, [some (.ref 4), some (.int kd), some (.int ps), some (.int (nI k)), some (.int lane), some (.int (nI i0)), some (.int (nI n0)), none, none, none], [], h) = some (some (.int (-4)), sf h 4 9 (.int 0)) := by
  have hX2 := sX9 (x := 0) hX
  have S2 : SheetC (sf h 4 9 (.int 0)) sz sl cm := S.f4
  have hl := bar_lane hb
  have r1 := c_faultOfCells (lane := lane) (i := nI i0) (n := nI n0) S2 hk hl
  rw [if_pos hb] at r1
  obtain ⟨hS, _⟩ := S2.2.1 k hk
  have r2 := c_hasOnlyGroups S2 hk hs hi
  rw [if_pos hg] at r2
  have w1 : ¬ nI n0 < 1 := nI_nlt (a := n0) (b := 1) hn.1 (by omega)
  have w2 : ¬ (12 : Int32) < nI n0 := nI_nlt (a := 12) (b := n0) hn.2 (by omega)
  subst hP
  have w3 : ¬ (0 ≤ (nI 24).toInt ∧ (nI 24).toInt ≤ 23) := by decide
  simp only [uX11_page_0, uX11_page_1, uX11_page_2, uX11_page_5, uX11_page_6, uX11_page_7, uX11_page_10, uX11_page_10N, uX11_page_12, uX11_page_12N, uX11_page_14, uX11_page_14N, uX11_page_17, uX11_page_18, uX11_page_20, uX11_page_23, uX11_page_26, uX11_page_27, uX11_page_28, uX11_page_29, uX11_page_30, uX11_page_33, uX11_page_36, uX11_page_38, uX11_page_39, uX11_page_42, uX11_page_45, uX11_page_47, uX11_page_48, uX11_page_48N, uX11_page_50, uX11_page_52, uX11_page_54, uX11_page_56, uX11_page_59, uX11_page_61, uX11_page_63, uX11_page_66, uX11_page_67, uX11_page_69, uX11_page_72, uX11_page_73, uX11_page_75, uX11_page_76, uX11_page_79, uX11_page_81, uX11_page_83, uX11_page_86, uX11_page_86N, uX11_page_88, uX11_page_90, uX11_page_92, uX11_page_95, uX11_page_98, uX11_page_100, uX11_page_101, uX11_page_102, uX11_page_105, uX11_page_107, uX11_page_110, uX11_page_113, uX11_page_115, uX11_page_116, uX11_page_117, uX11_page_120, uX11_page_122, uX11_page_123, uX11_page_126, uX11_page_128, uX11_page_129, uX11_page_131, uX11_page_132, uX11_page_132N, uX11_page_134, uX11_page_136, uX11_page_138, uX11_page_141, uX11_page_144, uX11_page_145, uX11_page_146, uX11_page_147, uX11_page_150, uX11_page_151, uX11_page_152, uX11_page_155, uX11_page_157, pX9 hX, vX hX2, c_sheetAt hX2 S2 hk, c_bl6, hps, c_bl3, hkd, hl, vX hS, r1, w1, w2, r2, gX7 hX2, c_bl24, if_neg w3, Option.bind_some, Option.toList_some, Option.toList_none, List.cons_append, List.nil_append, if_true, if_false, and_self, and_true, true_and, or_self, or_true, true_or, false_or, or_false, i10, i00, i01, i11, Nat.reduceAdd, st1_0, st1_c, st1_1i, st1_1r, st1_1n, st1_1u, st1_1J, st2_0, st2_c, st2_1i, st2_1r, st2_1n, st2_1u, st2_1J]
def pgN (P n0 : Nat) (cm : Nat → Int32) (o : Nat) (gr : Nat → Nat → Nat) : Nat → Nat → Nat := fun p j => if p = P ∧ j < n0 then (cm (o + j)).toInt.toNat else gr p j
theorem c_page {kd ps i0 n0 m : Nat} {lane : Int32} (hX : rO h 4 = some (10, xF dr (nI P) xl xf)) (G : PagesC h P pk pp pn pl gr pa qa) (hP : P < 24) (hpl : pl P = 0) (hN : 59 ≤ h.1) (S : SheetC h sz sl cm) (hk : k < 4) (hps : ps < 6) (hkd : kd < 3) (hb : bar (sz k) (sl k) lane (nI i0) (nI n0) = 0) (hs : sz k = some m) (hi : i0 + n0 ≤ m) (hn : 1 ≤ n0 ∧ n0 ≤ 12) (hg : allB (fun x => isG (cm (60 * k + i0 + x))) n0 = true) : ∃ h1, run 106 (0, [some (.ref 4), some (.int (nI kd)), some (.int (nI ps)), some (.int (nI k)), some (.int lane), some (.int (nI i0)), some (.int (nI n0)), none, none, none], [], h) = some (some (.int (nI P)), h1) ∧ (∀ b, b < h.1 → b ≠ 4 → b ≠ 23 → h1.2.2 b = h.2.2 b) ∧ h1.1 = h.1 + 2 ∧ h1.2.1 = h.2.1 + (n0 + 4) ∧ rO h1 4 = some (10, xF dr (nI (P + 1)) xl 0) ∧ PagesC h1 (P + 1) (slU pk P kd) (slU pp P ps) (slU pn P n0) pl (pgN P n0 cm (60 * k + i0) gr) (slU pa P (h.1 + 1)) (slU qa P h.1) := by
  have hX2 := sX9 (x := 0) hX
  have S2 : SheetC (sf h 4 9 (.int 0)) sz sl cm := S.f4
  have G2 : PagesC (sf h 4 9 (.int 0)) P pk pp pn pl gr pa qa := G.f4
  have hl := bar_lane hb
  have hpsI : 0 ≤ (nI ps).toInt ∧ (nI ps).toInt ≤ 5 := nI_rng (by omega) (by omega)
  have hkdI : 0 ≤ (nI kd).toInt ∧ (nI kd).toInt ≤ 2 := nI_rng (by omega) (by omega)
  have hPI : 0 ≤ (nI P).toInt ∧ (nI P).toInt ≤ 23 := nI_rng (by omega) (by omega)
  have r1 := c_faultOfCells (lane := lane) (i := nI i0) (n := nI n0) S2 hk hl
  rw [if_pos hb] at r1
  obtain ⟨hS, _⟩ := S2.2.1 k hk
  have r2 := c_hasOnlyGroups S2 hk hs hi
  rw [if_pos hg] at r2
  have w1 : ¬ nI n0 < 1 := nI_nlt (a := n0) (b := 1) hn.1 (by omega)
  have w2 : ¬ (12 : Int32) < nI n0 := nI_nlt (a := 12) (b := n0) hn.2 (by omega)
  have rs := c_sheetAt hX2 S2 hk
  have pp0 := pX9 (x := 0) hX
  have e1 : (sf h 4 9 (.int 0)).1 = h.1 := sf_n
  have e2 : (sf h 4 9 (.int 0)).2.1 = h.2.1 := sf_s
  have c0 : ∀ b, b ≠ 4 → (sf h 4 9 (.int 0)).2.2 b = h.2.2 b := fun b hb => cell_sf hb
  generalize hh0 : sf h 4 9 (.int 0) = h0 at *
  have r3 := c_groups S2 hk hs hi (by omega)
  have f1 : rI (fillI (al h0 (aI n0 fun _ => 0) n0) h0.1 0 (fun j => cm (60 * k + i0 + j)) n0) h0.1 = _ := rI_fillA n0 rI_al
  have c1 : ∀ b, b ≠ h0.1 → (fillI (al h0 (aI n0 fun _ => 0) n0) h0.1 0 (fun j => cm (60 * k + i0 + j)) n0).2.2 b = h0.2.2 b := fun b hb => by rw [cell_fill hb, cell_al hb]
  have n1 : (fillI (al h0 (aI n0 fun _ => 0) n0) h0.1 0 (fun j => cm (60 * k + i0 + j)) n0).1 = h0.1 + 1 := by rw [fill_n]; rfl
  have s1 : (fillI (al h0 (aI n0 fun _ => 0) n0) h0.1 0 (fun j => cm (60 * k + i0 + j)) n0).2.1 = h0.2.1 + n0 := by rw [fill_s]; rfl
  generalize hh1 : fillI (al h0 (aI n0 fun _ => 0) n0) h0.1 0 (fun j => cm (60 * k + i0 + j)) n0 = h1 at *
  obtain ⟨h2, r4, c2, n2, s2, o2⟩ := c_newPage (h := h1) (u := P) (o := ps) (q := h0.1) hkd (by omega)
  have R2 : rR h2 23 = some (1, 24, fun p => if p < P then some (pa p) else none) := by rw [rR_of (c2 23 (by omega)), rR_of (c1 23 (by omega)), G2.1]
  have as1 : (1, kc kd) ∈ asT := by
    rcases k3 hkd with e | e | e <;> subst e <;> decide
  have p3 := pa_sr (a := 23) (j := P) (by decide) R2 hP (by decide) o2 (by omega) as1
  have X2 : rO h2 4 = some (10, xF dr (nI P) xl 0) := by rw [rO_of (c2 4 (by omega)), rO_of (c1 4 (by omega)), hX2]
  have R3 : rR (sr h2 23 P h1.1) 23 = some (1, 24, va_up (fun p => if p < P then some (pa p) else none) P (some h1.1)) := by rw [rR_sr, if_pos rfl, R2]; rfl
  have X3 : rO (sr h2 23 P h1.1) 4 = some (10, xF dr (nI P) xl 0) := by rw [rO_sr, X2]
  have c3 : ∀ b, b ≠ 23 → (sr h2 23 P h1.1).2.2 b = h2.2.2 b := fun b hb => cell_sr hb
  have n3 : (sr h2 23 P h1.1).1 = h2.1 := sr_n
  have s3 : (sr h2 23 P h1.1).2.1 = h2.2.1 := sr_s
  generalize hh3 : sr h2 23 P h1.1 = h3 at *
  have p4 := pX7 (x := nI (P + 1)) X3
  have X4 := sX7 (x := nI (P + 1)) X3
  have c4 : ∀ b, b ≠ 4 → (sf h3 4 7 (.int (nI (P + 1)))).2.2 b = h3.2.2 b := fun b hb => cell_sf hb
  have n4 : (sf h3 4 7 (.int (nI (P + 1)))).1 = h3.1 := sf_n
  have s4 : (sf h3 4 7 (.int (nI (P + 1)))).2.1 = h3.2.1 := sf_s
  generalize hh4 : sf h3 4 7 (.int (nI (P + 1))) = h4 at *
  have cA : ∀ b, b ≠ 4 → b ≠ 23 → b < h.1 → h4.2.2 b = h.2.2 b := fun b b4 b23 hb => by rw [c4 b b4, c3 b b23, c2 b (by omega), c1 b (by omega), c0 b b4]
  refine ⟨h4, ?_, fun b h1 h2 h3 => cA b h2 h3 h1, by omega, by omega, X4, ?_, fun p hp => ?_, by omega, fun p => ?_, fun p => ?_, fun p => ?_, G.2.2.2.2.2.2.1, fun p j => ?_, fun p hp => ?_⟩
  · simp only [uX11_page_0, uX11_page_1, uX11_page_2, uX11_page_5, uX11_page_6, uX11_page_7, uX11_page_10, uX11_page_10N, uX11_page_12, uX11_page_12N, uX11_page_14, uX11_page_14N, uX11_page_17, uX11_page_18, uX11_page_20, uX11_page_23, uX11_page_26, uX11_page_27, uX11_page_28, uX11_page_29, uX11_page_30, uX11_page_33, uX11_page_36, uX11_page_38, uX11_page_39, uX11_page_42, uX11_page_45, uX11_page_47, uX11_page_48, uX11_page_48N, uX11_page_50, uX11_page_52, uX11_page_54, uX11_page_56, uX11_page_59, uX11_page_61, uX11_page_63, uX11_page_66, uX11_page_67, uX11_page_69, uX11_page_72, uX11_page_73, uX11_page_75, uX11_page_76, uX11_page_79, uX11_page_81, uX11_page_83, uX11_page_86, uX11_page_86N, uX11_page_88, uX11_page_90, uX11_page_92, uX11_page_95, uX11_page_98, uX11_page_100, uX11_page_101, uX11_page_102, uX11_page_105, uX11_page_107, uX11_page_110, uX11_page_113, uX11_page_115, uX11_page_116, uX11_page_117, uX11_page_120, uX11_page_122, uX11_page_123, uX11_page_126, uX11_page_128, uX11_page_129, uX11_page_131, uX11_page_132, uX11_page_132N, uX11_page_134, uX11_page_136, uX11_page_138, uX11_page_141, uX11_page_144, uX11_page_145, uX11_page_146, uX11_page_147, uX11_page_150, uX11_page_151, uX11_page_152, uX11_page_155, uX11_page_157, pp0, vX hX2, rs, c_bl6, hpsI, c_bl3, hkdI, hl, vX hS, r1, w1, w2, r2, gX7 hX2, c_bl24, hPI, gX3 hX2, r3, r4, p3, gX7 X3, nI_1, p4, Option.bind_some, Option.toList_some, Option.toList_none, List.cons_append, List.nil_append, if_true, if_false, and_self, and_true, true_and, or_self, or_true, true_or, false_or, or_false, i10, i00, i01, i11, Nat.reduceAdd, st1_0, st1_c, st1_1i, st1_1r, st1_1n, st1_1u, st1_1J, st2_0, st2_c, st2_1i, st2_1r, st2_1n, st2_1u, st2_1J]
  · rw [rR_of (c4 23 (by decide)), R3]
    congr 3
    funext q
    unfold va_up slU
    by_cases w : q = P
    · rw [if_pos w, if_pos (by omega), if_pos w, n1, e1]
    · rw [if_neg w, if_neg w]
      show (if q < P then some (pa q) else none) = _
      by_cases w3 : q < P
      · rw [if_pos w3, if_pos (by omega)]
      · rw [if_neg w3, if_neg (by omega)]
  · by_cases w : p = P
    · subst w
      have z : ∀ {f : Nat → Nat} {v : Nat}, slU f p v p = v := fun {f v} => if_pos rfl
      rw [z, z, z, z, z, hpl]
      have e5 : h1.1 = h.1 + 1 := by omega
      have F1 := (show rI h4 h.1 = rI h1 h0.1 by rw [← e1, rI_of (c4 _ (by omega)), rI_of (c3 _ (by omega)), rI_of (c2 _ (by omega))]).trans f1
      refine ⟨?_, ⟨_, F1, fun j hj => ?_⟩, by omega, hN, by omega, by omega⟩
      · rw [← e5, rO_of (c4 _ (by omega)), rO_of (c3 _ (by omega)), o2, e1]
      · have w3 := isG_iff.mp (allB_iff.mp hg j hj)
        rw [if_pos (show 0 ≤ j ∧ j < 0 + n0 by omega)]
        unfold pgN
        rw [if_pos (show p = p ∧ j < n0 from ⟨rfl, hj⟩), Nat.sub_zero, ← Int32.toInt_inj, nI_toInt (by omega)]
        omega
    · have z : ∀ {f : Nat → Nat} {v : Nat}, slU f P v p = f p := fun {f v} => if_neg w
      rw [z, z, z, z, z]
      obtain ⟨b1, ⟨f, b2, b2e⟩, b3, b4, b5, b6⟩ := G.2.1 p (by omega)
      rw [rO_of (cA _ (by omega) (by omega) b5), rI_of (cA _ (by omega) (by omega) b6)]
      refine ⟨b1, ⟨f, b2, fun j hj => ?_⟩, b3, b4, by omega, by omega⟩
      unfold pgN
      rw [if_neg (fun q => w q.1)]
      exact b2e j hj
  · unfold slU
    split
    · exact hkd
    · exact G.2.2.2.1 p
  · unfold slU
    split
    · exact hps
    · exact G.2.2.2.2.1 p
  · unfold slU
    split
    · exact hn.2
    · exact G.2.2.2.2.2.1 p
  · unfold pgN
    split
    · rename_i w
      have w3 := isG_iff.mp (allB_iff.mp hg j w.2)
      omega
    · exact G.2.2.2.2.2.2.2.1 p j
  · unfold slU
    split
    · exact hn.1
    · exact G.2.2.2.2.2.2.2.2 p (by omega)
end PG2
