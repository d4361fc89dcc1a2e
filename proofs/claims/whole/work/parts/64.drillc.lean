def StC (h : AH) : Prop := rI h 1 = some (4, tvL) ∧ rI h 2 = some (4, tvM) ∧ rI h 3 = some (4, tvG)
theorem stC_eq {h h1 : AH} (S : StC h) (he : ∀ b, b < 4 → h1.2.2 b = h.2.2 b) : StC h1 := by
  unfold StC
  rw [rI_of (he 1 (by decide)), rI_of (he 2 (by decide)), rI_of (he 3 (by decide))]
  exact S
def tdOK (t : Nat → Option Nat) : Prop := (∀ v, t 0 = some v → v < 100) ∧ (∀ v, t 1 = some v → 1 ≤ v ∧ v ≤ 6) ∧ (∀ v, t 2 = some v → v = 1) ∧ ∀ v, t 3 = some v → v < 2
abbrev okA (l v : Nat) : Prop := (l = 0 ∧ v < 100) ∨ (l = 1 ∧ 1 ≤ v ∧ v ≤ 6) ∨ (l = 2 ∧ v = 1) ∨ (l = 3 ∧ v < 2)
theorem tdOK_upd {t : Nat → Option Nat} {l v : Nat} (h : tdOK t) (ha : okA l v) : tdOK (updO t l v) := by
  obtain ⟨h0, h1, h2, h3⟩ := h
  unfold updO
  refine ⟨fun w hw => ?_, fun w hw => ?_, fun w hw => ?_, fun w hw => ?_⟩
  · simp only at hw
    split at hw
    · cases hw; omega
    · exact h0 w hw
  · simp only at hw
    split at hw
    · cases hw; omega
    · exact h1 w hw
  · simp only at hw
    split at hw
    · cases hw; omega
    · exact h2 w hw
  · simp only at hw
    split at hw
    · cases hw; omega
    · exact h3 w hw
def DrF (h : AH) (d da : Nat) (t : Nat → Option Nat) : Prop := ∃ f, rO h d = some (1, [.ref da]) ∧ rI h da = some (4, f) ∧ (∀ q, q < 4 → f q = oN (t q)) ∧ 4 ≤ d ∧ 4 ≤ da
theorem drF_eq {h h1 : AH} {d da : Nat} {t : Nat → Option Nat} (D : DrF h d da t) (e1 : h1.2.2 d = h.2.2 d) (e2 : h1.2.2 da = h.2.2 da) : DrF h1 d da t := by
  obtain ⟨f, a1, a2, a3⟩ := D
  exact ⟨f, by rw [rO_of e1, a1], by rw [rI_of e2, a2], a3⟩
section DC
variable {h : AH} {d da : Nat} {t : Nat → Option Nat}
theorem gD {d da : Nat} (hD : rO h d = some (1, [.ref da])) (h4 : 4 ≤ d) : gf h [(1, 0)] d = some (.ref da) := gf_at (by omega) hD rfl rfl
theorem oN9 {o : Option Nat} (ho : ∀ v, o = some v → v < 2 ^ 31) : (oN o = -9) = (o = none) := by
  cases o with
  | none => exact eq_true rfl |>.trans (eq_true rfl).symm
  | some v => exact (eq_false (ne9 (ho v rfl))).trans (eq_false (fun q => by cases q)).symm
theorem td_lt {t : Nat → Option Nat} (h : tdOK t) {q v : Nat} (hq : q < 4) (hv : t q = some v) : v < 100 := by
  obtain ⟨h0, h1, h2, h3⟩ := h
  match q, hq with
  | 0, _ => exact h0 v hv
  | 1, _ => have := h1 v hv; omega
  | 2, _ => have := h2 v hv; omega
  | 3, _ => have := h3 v hv; omega
theorem c_isTold {l : Nat} (D : DrF h d da t) (ht : tdOK t) (hl : l < 4) : run 17 (0, [some (.ref d), some (.int (nI l))], [], h) = some (some (.int (bI (t l).isSome)), h) := by
  obtain ⟨f, a1, a2, a3, h4, h5⟩ := D
  have h1 : 0 ≤ (nI l).toInt ∧ (nI l).toInt ≤ 3 := nI_rng (by omega) (by omega)
  have g1 : gi h da (nI l) = some (oN (t l)) := by rw [gi_nI a2 hl (by decide), a3 l hl]
  cases hv : t l with
  | none =>
    rw [hv, oN_none] at g1
    have b : bI (none : Option Nat).isSome = 0 := rfl
    simp only [uX1_isTold_0, uX1_isTold_1, uX1_isTold_2, uX1_isTold_5, uX1_isTold_8, uX1_isTold_9, uX1_isTold_12, uX1_isTold_13, uX1_isTold_14, uX1_isTold_16, uX1_isTold_19, uX1_isTold_20, uX1_isTold_23, uX1_isTold_24, c_bl4, h1, gD a1 h4, g1, b, Option.bind_some, Option.toList_some, Option.toList_none, List.cons_append, List.nil_append, if_true, if_false, and_self, and_true, true_and, or_self, or_true, true_or, false_or, or_false, i10, i00, i01, i11, Nat.reduceAdd, st1_0, st1_c, st1_1i, st1_1r, st1_1n, st1_1u, st1_1J, st2_0, st2_c, st2_1i, st2_1r, st2_1n, st2_1u, st2_1J]
  | some v =>
    have := td_lt ht hl hv
    rw [hv, oN_some] at g1
    have b : bI (some v : Option Nat).isSome = 1 := rfl
    simp only [uX1_isTold_0, uX1_isTold_1, uX1_isTold_2, uX1_isTold_5, uX1_isTold_8, uX1_isTold_9, uX1_isTold_12, uX1_isTold_13, uX1_isTold_14, uX1_isTold_16, uX1_isTold_19, uX1_isTold_20, uX1_isTold_23, uX1_isTold_24, c_bl4, h1, gD a1 h4, g1, ne9 (show v < 2 ^ 31 by omega), b, Option.bind_some, Option.toList_some, Option.toList_none, List.cons_append, List.nil_append, if_true, if_false, and_self, and_true, true_and, or_self, or_true, true_or, false_or, or_false, i10, i00, i01, i11, Nat.reduceAdd, st1_0, st1_c, st1_1i, st1_1r, st1_1n, st1_1u, st1_1J, st2_0, st2_c, st2_1i, st2_1r, st2_1n, st2_1u, st2_1J]
theorem c_hasCheck (D : DrF h d da t) (ht : tdOK t) : run 21 (0, [some (.ref d)], [], h) = some (some (.int (bI (t 2).isSome)), h) := by
  have r1 := c_isTold D ht (l := 2) (by decide)
  have e : nI 2 = 2 := rfl
  rw [e] at r1
  obtain ⟨f, a1, a2, a3, h4, h5⟩ := D
  rcases bcase (t 2).isSome with q | q
  · rw [q] at r1 ⊢
    have b : bI true = 1 := rfl
    rw [b] at r1 ⊢
    simp only [uX1_hasCheck_0, uX1_hasCheck_1, uX1_hasCheck_2, uX1_hasCheck_5, vX a1, r1, Option.bind_some, Option.toList_some, Option.toList_none, List.cons_append, List.nil_append, if_true, if_false, and_self, and_true, true_and, or_self, or_true, true_or, false_or, or_false, i10, i00, i01, i11, Nat.reduceAdd, st1_0, st1_c, st1_1i, st1_1r, st1_1n, st1_1u, st1_1J, st2_0, st2_c, st2_1i, st2_1r, st2_1n, st2_1u, st2_1J]
  · rw [q] at r1 ⊢
    have b : bI false = 0 := rfl
    rw [b] at r1 ⊢
    simp only [uX1_hasCheck_0, uX1_hasCheck_1, uX1_hasCheck_2, uX1_hasCheck_5, vX a1, r1, Option.bind_some, Option.toList_some, Option.toList_none, List.cons_append, List.nil_append, if_true, if_false, and_self, and_true, true_and, or_self, or_true, true_or, false_or, or_false, i10, i00, i01, i11, Nat.reduceAdd, st1_0, st1_c, st1_1i, st1_1r, st1_1n, st1_1u, st1_1J, st2_0, st2_c, st2_1i, st2_1r, st2_1n, st2_1u, st2_1J]
theorem c_beginning (D : DrF h d da t) : run 19 (0, [some (.ref d)], [], h) = some (some (.int (oN (t 0))), h) := by
  obtain ⟨f, a1, a2, a3, h4, h5⟩ := D
  have g1 : gi h da 0 = some (oN (t 0)) := by rw [show (0 : Int32) = nI 0 from rfl, gi_nI a2 (by decide) (by decide), a3 0 (by decide)]
  simp only [uX1_beginning_0, uX1_beginning_1, uX1_beginning_4, uX1_beginning_5, uX1_beginning_6, gD a1 h4, g1, Option.bind_some, Option.toList_some, Option.toList_none, List.cons_append, List.nil_append, if_true, if_false, and_self, and_true, true_and, or_self, or_true, true_or, false_or, or_false, i10, i00, i01, i11, Nat.reduceAdd, st1_0, st1_c, st1_1i, st1_1r, st1_1n, st1_1u, st1_1J, st2_0, st2_c, st2_1i, st2_1r, st2_1n, st2_1u, st2_1J]
theorem c_multiple (D : DrF h d da t) : run 20 (0, [some (.ref d)], [], h) = some (some (.int (oN (t 1))), h) := by
  obtain ⟨f, a1, a2, a3, h4, h5⟩ := D
  have g1 : gi h da 1 = some (oN (t 1)) := by rw [show (1 : Int32) = nI 1 from rfl, gi_nI a2 (by decide) (by decide), a3 1 (by decide)]
  simp only [uX1_multiple_0, uX1_multiple_1, uX1_multiple_4, uX1_multiple_5, uX1_multiple_6, gD a1 h4, g1, Option.bind_some, Option.toList_some, Option.toList_none, List.cons_append, List.nil_append, if_true, if_false, and_self, and_true, true_and, or_self, or_true, true_or, false_or, or_false, i10, i00, i01, i11, Nat.reduceAdd, st1_0, st1_c, st1_1i, st1_1r, st1_1n, st1_1u, st1_1J, st2_0, st2_c, st2_1i, st2_1r, st2_1n, st2_1u, st2_1J]
theorem c_allowsReuse (D : DrF h d da t) (ht : tdOK t) : run 22 (0, [some (.ref d)], [], h) = some (some (.int (bI (decide (t 3 = some 1)))), h) := by
  obtain ⟨f, a1, a2, a3, h4, h5⟩ := D
  have g1 : gi h da 3 = some (oN (t 3)) := by rw [show (3 : Int32) = nI 3 from rfl, gi_nI a2 (by decide) (by decide), a3 3 (by decide)]
  by_cases q : t 3 = some 1
  · have b : bI (decide (t 3 = some 1)) = 1 := by rw [decide_eq_true q]; rfl
    rw [q, oN_some, show nI 1 = 1 from rfl] at g1
    simp only [uX1_allowsReuse_0, uX1_allowsReuse_1, uX1_allowsReuse_4, uX1_allowsReuse_5, uX1_allowsReuse_6, uX1_allowsReuse_7, uX1_allowsReuse_10, uX1_allowsReuse_11, uX1_allowsReuse_14, uX1_allowsReuse_15, gD a1 h4, g1, b, Option.bind_some, Option.toList_some, Option.toList_none, List.cons_append, List.nil_append, if_true, if_false, and_self, and_true, true_and, or_self, or_true, true_or, false_or, or_false, i10, i00, i01, i11, Nat.reduceAdd, st1_0, st1_c, st1_1i, st1_1r, st1_1n, st1_1u, st1_1J, st2_0, st2_c, st2_1i, st2_1r, st2_1n, st2_1u, st2_1J]
  · have b : bI (decide (t 3 = some 1)) = 0 := by rw [decide_eq_false q]; rfl
    have c1 : ¬ oN (t 3) = 1 := fun r => by
      cases hv : t 3 with
      | none => rw [hv] at r; exact absurd r (by decide)
      | some v =>
        have := ht.2.2.2 v hv
        rw [hv, oN_some] at r
        have := (nI_eq (b := 1) (by omega) (by omega)).mp r
        exact q (by rw [hv, this])
    simp only [uX1_allowsReuse_0, uX1_allowsReuse_1, uX1_allowsReuse_4, uX1_allowsReuse_5, uX1_allowsReuse_6, uX1_allowsReuse_7, uX1_allowsReuse_10, uX1_allowsReuse_11, uX1_allowsReuse_14, uX1_allowsReuse_15, gD a1 h4, g1, c1, b, Option.bind_some, Option.toList_some, Option.toList_none, List.cons_append, List.nil_append, if_true, if_false, and_self, and_true, true_and, or_self, or_true, true_or, false_or, or_false, i10, i00, i01, i11, Nat.reduceAdd, st1_0, st1_c, st1_1i, st1_1r, st1_1n, st1_1u, st1_1J, st2_0, st2_c, st2_1i, st2_1r, st2_1n, st2_1u, st2_1J]
theorem itemOf_s {x : Int32} {j : Nat} (S : StC h) (hj : j < 4) : run 15 (2, [some (.int x), some (.int (nI j))], [], h) = if tvL j = x then some (some (.int (nI j)), h) else run 15 (2, [some (.int x), some (.int (nI (j + 1)))], [], h) := by
  have g : gi h 1 (nI j) = some (tvL j) := gi_nI S.1 hj (by decide)
  have c : ¬ (4 : Int32) ≤ nI j := nI_ge (a := j) (b := 4) hj (by decide)
  by_cases q : tvL j = x
  · rw [if_pos q, uX1_itemOf_2]
    simp only [uX1_itemOf_0, uX1_itemOf_1, uX1_itemOf_3, uX1_itemOf_4, uX1_itemOf_7, uX1_itemOf_10, uX1_itemOf_11, uX1_itemOf_12, uX1_itemOf_13, uX1_itemOf_16, uX1_itemOf_17, uX1_itemOf_18, uX1_itemOf_21, uX1_itemOf_24, uX1_itemOf_26, c, g, q, Option.bind_some, Option.toList_some, Option.toList_none, List.cons_append, List.nil_append, if_true, if_false, and_self, and_true, true_and, or_self, or_true, true_or, false_or, or_false, i10, i00, i01, i11, Nat.reduceAdd, st1_0, st1_c, st1_1i, st1_1r, st1_1n, st1_1u, st1_1J, st2_0, st2_c, st2_1i, st2_1r, st2_1n, st2_1u, st2_1J]
  · rw [if_neg q, uX1_itemOf_2]
    simp only [uX1_itemOf_0, uX1_itemOf_1, uX1_itemOf_3, uX1_itemOf_4, uX1_itemOf_7, uX1_itemOf_10, uX1_itemOf_11, uX1_itemOf_12, uX1_itemOf_13, uX1_itemOf_16, uX1_itemOf_17, uX1_itemOf_18, uX1_itemOf_21, uX1_itemOf_24, uX1_itemOf_26, c, g, q, nI_1, Option.bind_some, Option.toList_some, Option.toList_none, List.cons_append, List.nil_append, if_true, if_false, and_self, and_true, true_and, or_self, or_true, true_or, false_or, or_false, i10, i00, i01, i11, Nat.reduceAdd, st1_0, st1_c, st1_1i, st1_1r, st1_1n, st1_1u, st1_1J, st2_0, st2_c, st2_1i, st2_1r, st2_1n, st2_1u, st2_1J]
theorem c_itemOf {x : Int32} (S : StC h) : run 15 (0, [some (.int x), none], [], h) = some (some (.int (oN (letF x))), h) := by
  have e0 := itemOf_s (x := x) (j := 0) S (by decide)
  have e1 := itemOf_s (x := x) (j := 1) S (by decide)
  have e2 := itemOf_s (x := x) (j := 2) S (by decide)
  have e3 := itemOf_s (x := x) (j := 3) S (by decide)
  have e4 : run 15 (2, [some (.int x), some (.int (nI (3 + 1)))], [], h) = some (some (.int (-9)), h) := by
    have c : (4 : Int32) ≤ nI (3 + 1) := by decide
    rw [uX1_itemOf_2]
    simp only [uX1_itemOf_0, uX1_itemOf_1, uX1_itemOf_3, uX1_itemOf_4, uX1_itemOf_7, uX1_itemOf_10, uX1_itemOf_11, uX1_itemOf_12, uX1_itemOf_13, uX1_itemOf_16, uX1_itemOf_17, uX1_itemOf_18, uX1_itemOf_21, uX1_itemOf_24, uX1_itemOf_26, c, Option.bind_some, Option.toList_some, Option.toList_none, List.cons_append, List.nil_append, if_true, if_false, and_self, and_true, true_and, or_self, or_true, true_or, false_or, or_false, i10, i00, i01, i11, Nat.reduceAdd, st1_0, st1_c, st1_1i, st1_1r, st1_1n, st1_1u, st1_1J, st2_0, st2_c, st2_1i, st2_1r, st2_1n, st2_1u, st2_1J]
  have st : run 15 (0, [some (.int x), none], [], h) = run 15 (2, [some (.int x), some (.int (nI 0))], [], h) := by
    simp only [uX1_itemOf_0, uX1_itemOf_1, uX1_itemOf_3, uX1_itemOf_4, uX1_itemOf_7, uX1_itemOf_10, uX1_itemOf_11, uX1_itemOf_12, uX1_itemOf_13, uX1_itemOf_16, uX1_itemOf_17, uX1_itemOf_18, uX1_itemOf_21, uX1_itemOf_24, uX1_itemOf_26, Option.bind_some, Option.toList_some, Option.toList_none, List.cons_append, List.nil_append, if_true, if_false, and_self, and_true, true_and, or_self, or_true, true_or, false_or, or_false, i10, i00, i01, i11, Nat.reduceAdd, st1_0, st1_c, st1_1i, st1_1r, st1_1n, st1_1u, st1_1J, st2_0, st2_c, st2_1i, st2_1r, st2_1n, st2_1u, st2_1J]
    rfl
  rw [st, e0, e1, e2, e3, e4]
  unfold letF
  by_cases q0 : x = 98
  · rw [if_pos q0, if_pos (show tvL 0 = x from q0.symm)]
    rfl
  · rw [if_neg q0, if_neg (show ¬ tvL 0 = x from fun r => q0 r.symm)]
    by_cases q1 : x = 108
    · rw [if_pos q1, if_pos (show tvL 1 = x from q1.symm)]
      rfl
    · rw [if_neg q1, if_neg (show ¬ tvL 1 = x from fun r => q1 r.symm)]
      by_cases q2 : x = 99
      · rw [if_pos q2, if_pos (show tvL 2 = x from q2.symm)]
        rfl
      · rw [if_neg q2, if_neg (show ¬ tvL 2 = x from fun r => q2 r.symm)]
        by_cases q3 : x = 114
        · rw [if_pos q3, if_pos (show tvL 3 = x from q3.symm)]
          rfl
        · rw [if_neg q3, if_neg (show ¬ tvL 3 = x from fun r => q3 r.symm)]
          rfl
theorem c_hasNumber {l : Nat} (hl : l < 4) : run 16 (0, [some (.int (nI l))], [], h) = some (some (.int (if l = 2 then 0 else 1)), h) := by
  by_cases q : l = 2
  · subst q
    have e : nI 2 = 2 := rfl
    simp only [uX1_hasNumber_0, uX1_hasNumber_1, uX1_hasNumber_2, uX1_hasNumber_5, uX1_hasNumber_6, uX1_hasNumber_9, uX1_hasNumber_10, e, Option.bind_some, Option.toList_some, Option.toList_none, List.cons_append, List.nil_append, if_true, if_false, and_self, and_true, true_and, or_self, or_true, true_or, false_or, or_false, i10, i00, i01, i11, Nat.reduceAdd, st1_0, st1_c, st1_1i, st1_1r, st1_1n, st1_1u, st1_1J, st2_0, st2_c, st2_1i, st2_1r, st2_1n, st2_1u, st2_1J]
  · have e : ¬ nI l = 2 := nI_ne (b := 2) q (by omega) (by omega)
    simp only [uX1_hasNumber_0, uX1_hasNumber_1, uX1_hasNumber_2, uX1_hasNumber_5, uX1_hasNumber_6, uX1_hasNumber_9, uX1_hasNumber_10, e, q, Option.bind_some, Option.toList_some, Option.toList_none, List.cons_append, List.nil_append, if_true, if_false, and_self, and_true, true_and, or_self, or_true, true_or, false_or, or_false, i10, i00, i01, i11, Nat.reduceAdd, st1_0, st1_c, st1_1i, st1_1r, st1_1n, st1_1u, st1_1J, st2_0, st2_c, st2_1i, st2_1r, st2_1n, st2_1u, st2_1J]
theorem tv_ok {l v : Nat} (hl : l < 4) (hv : v < 100) : (okA l v) = (tvM l ≤ nI v ∧ nI v ≤ tvG l) := by
  have a0 : ∀ x : Nat, x < 100 → (nI x).toInt = x := fun x hx => nI_toInt (by omega)
  rw [Int32.le_iff_toInt_le, Int32.le_iff_toInt_le, a0 v hv]
  match l, hl with
  | 0, _ =>
    have e1 : (tvM 0).toInt = 0 := by decide
    have e2 : (tvG 0).toInt = 99 := by decide
    rw [e1, e2]
    exact propext ⟨fun q => by omega, fun q => by omega⟩
  | 1, _ =>
    have e1 : (tvM 1).toInt = 1 := by decide
    have e2 : (tvG 1).toInt = 6 := by decide
    rw [e1, e2]
    exact propext ⟨fun q => by omega, fun q => by omega⟩
  | 2, _ =>
    have e1 : (tvM 2).toInt = 1 := by decide
    have e2 : (tvG 2).toInt = 1 := by decide
    rw [e1, e2]
    exact propext ⟨fun q => by omega, fun q => by omega⟩
  | 3, _ =>
    have e1 : (tvM 3).toInt = 0 := by decide
    have e2 : (tvG 3).toInt = 1 := by decide
    rw [e1, e2]
    exact propext ⟨fun q => by omega, fun q => by omega⟩
theorem c_takes_y {l v : Nat} (S : StC h) (D : DrF h d da t) (hl : l < 4) (hv : v < 100) (ha : okA l v) : run 18 (0, [some (.ref d), some (.int (nI l)), some (.int (nI v))], [], h) = some (some (.int 1), si h da l (nI v)) ∧ DrF (si h da l (nI v)) d da (updO t l v) := by
  obtain ⟨f, a1, a2, a3, h4, h5⟩ := D
  have h1 : 0 ≤ (nI l).toInt ∧ (nI l).toInt ≤ 3 := nI_rng (by omega) (by omega)
  have g2 : gi h 2 (nI l) = some (tvM l) := gi_nI S.2.1 hl (by decide)
  have g3 : gi h 3 (nI l) = some (tvG l) := gi_nI S.2.2 hl (by decide)
  rw [tv_ok hl hv] at ha
  have c1 : ¬ nI v < tvM l := Int32.not_lt.mpr ha.1
  have c2 := ha.2
  have p1 : pi h da (nI l) (nI v) = some (si h da l (nI v)) := pi_si h5 a2 hl (by decide)
  refine ⟨by simp only [uX1_takes_0, uX1_takes_1, uX1_takes_2, uX1_takes_5, uX1_takes_8, uX1_takes_9, uX1_takes_12, uX1_takes_13, uX1_takes_14, uX1_takes_17, uX1_takes_18, uX1_takes_21, uX1_takes_22, uX1_takes_23, uX1_takes_26, uX1_takes_27, uX1_takes_28, uX1_takes_29, uX1_takes_32, uX1_takes_33, uX1_takes_34, uX1_takes_35, uX1_takes_36, c_bl4, h1, g2, g3, c1, c2, gD a1 h4, p1, Option.bind_some, Option.toList_some, Option.toList_none, List.cons_append, List.nil_append, if_true, if_false, and_self, and_true, true_and, or_self, or_true, true_or, false_or, or_false, i10, i00, i01, i11, Nat.reduceAdd, st1_0, st1_c, st1_1i, st1_1r, st1_1n, st1_1u, st1_1J, st2_0, st2_c, st2_1i, st2_1r, st2_1n, st2_1u, st2_1J], _, by rw [rO_si, a1], rI_siA a2, fun q hq => ?_, h4, h5⟩
  rw [updP]
  unfold updO
  by_cases w : q = l
  · rw [if_pos w, if_pos w]; rfl
  · rw [if_neg w, if_neg w, a3 q hq]
theorem c_takes_n {l v : Nat} (S : StC h) (hl : l < 4) (hv : v < 100) (ha : ¬ okA l v) : run 18 (0, [some (.ref d), some (.int (nI l)), some (.int (nI v))], [], h) = some (some (.int 0), h) := by
  have h1 : 0 ≤ (nI l).toInt ∧ (nI l).toInt ≤ 3 := nI_rng (by omega) (by omega)
  have g2 : gi h 2 (nI l) = some (tvM l) := gi_nI S.2.1 hl (by decide)
  have g3 : gi h 3 (nI l) = some (tvG l) := gi_nI S.2.2 hl (by decide)
  rw [tv_ok hl hv] at ha
  by_cases c1 : nI v < tvM l
  · simp only [uX1_takes_0, uX1_takes_1, uX1_takes_2, uX1_takes_5, uX1_takes_8, uX1_takes_9, uX1_takes_12, uX1_takes_13, uX1_takes_14, uX1_takes_17, uX1_takes_18, uX1_takes_21, uX1_takes_22, uX1_takes_23, uX1_takes_26, uX1_takes_27, uX1_takes_28, uX1_takes_29, uX1_takes_32, uX1_takes_33, uX1_takes_34, uX1_takes_35, uX1_takes_36, c_bl4, h1, g2, g3, c1, Option.bind_some, Option.toList_some, Option.toList_none, List.cons_append, List.nil_append, if_true, if_false, and_self, and_true, true_and, or_self, or_true, true_or, false_or, or_false, i10, i00, i01, i11, Nat.reduceAdd, st1_0, st1_c, st1_1i, st1_1r, st1_1n, st1_1u, st1_1J, st2_0, st2_c, st2_1i, st2_1r, st2_1n, st2_1u, st2_1J]
  · have c2 : ¬ nI v ≤ tvG l := fun q => ha ⟨Int32.not_lt.mp c1, q⟩
    simp only [uX1_takes_0, uX1_takes_1, uX1_takes_2, uX1_takes_5, uX1_takes_8, uX1_takes_9, uX1_takes_12, uX1_takes_13, uX1_takes_14, uX1_takes_17, uX1_takes_18, uX1_takes_21, uX1_takes_22, uX1_takes_23, uX1_takes_26, uX1_takes_27, uX1_takes_28, uX1_takes_29, uX1_takes_32, uX1_takes_33, uX1_takes_34, uX1_takes_35, uX1_takes_36, c_bl4, h1, g2, g3, c1, c2, Option.bind_some, Option.toList_some, Option.toList_none, List.cons_append, List.nil_append, if_true, if_false, and_self, and_true, true_and, or_self, or_true, true_or, false_or, or_false, i10, i00, i01, i11, Nat.reduceAdd, st1_0, st1_c, st1_1i, st1_1r, st1_1n, st1_1u, st1_1J, st2_0, st2_c, st2_1i, st2_1r, st2_1n, st2_1u, st2_1J]
end DC
def rF (k i n d : Nat) (p : Nat) : List Value := [.ref (28 + 2 * k), .int (nI i), .int (nI n), .ref d, .int (nI p)]
def RdC (h : AH) (r k i n d da p : Nat) (t : Nat → Option Nat) (sz : Nat → Option Nat) (sl : Nat → Nat) (cm : Nat → Int32) (m : Nat) : Prop := rO h r = some (2, rF k i n d p) ∧ DrF h d da t ∧ tdOK t ∧ StC h ∧ SheetC h sz sl cm ∧ sz k = some m ∧ k < 4 ∧ i + n ≤ m ∧ p ≤ n ∧ 36 ≤ r ∧ 36 ≤ da ∧ 36 ≤ d ∧ r ≠ d
section RC
variable {h : AH} {r k i n d da p : Nat} {t : Nat → Option Nat} {sz : Nat → Option Nat} {sl : Nat → Nat} {cm : Nat → Int32} {m : Nat}
theorem RdC.g0 (R : RdC h r k i n d da p t sz sl cm m) : gf h [(2, 0)] r = some (.ref (28 + 2 * k)) := gf_at (by have := R.2.2.2.2.2.2.2.2.2.1; omega) R.1 rfl rfl
theorem RdC.g1 (R : RdC h r k i n d da p t sz sl cm m) : gf h [(2, 1)] r = some (.int (nI i)) := gf_at (by have := R.2.2.2.2.2.2.2.2.2.1; omega) R.1 rfl rfl
theorem RdC.g2 (R : RdC h r k i n d da p t sz sl cm m) : gf h [(2, 2)] r = some (.int (nI n)) := gf_at (by have := R.2.2.2.2.2.2.2.2.2.1; omega) R.1 rfl rfl
theorem RdC.g3 (R : RdC h r k i n d da p t sz sl cm m) : gf h [(2, 3)] r = some (.ref d) := gf_at (by have := R.2.2.2.2.2.2.2.2.2.1; omega) R.1 rfl rfl
theorem RdC.g4 (R : RdC h r k i n d da p t sz sl cm m) : gf h [(2, 4)] r = some (.int (nI p)) := gf_at (by have := R.2.2.2.2.2.2.2.2.2.1; omega) R.1 rfl rfl
theorem RdC.p4 {x : Int32} (R : RdC h r k i n d da p t sz sl cm m) : pf h [(2, 4)] r (.int x) = some (sf h r 4 (.int x)) := pf_sf (by have := R.2.2.2.2.2.2.2.2.2.1; omega) R.1 rfl rfl (Nat.le_of_ble_eq_true rfl) rfl
theorem RdC.mv {q : Nat} (R : RdC h r k i n d da p t sz sl cm m) (hq : q ≤ n) : RdC (sf h r 4 (.int (nI q))) r k i n d da q t sz sl cm m := by
  obtain ⟨a1, a2, a3, a4, a5, a6, a7, a8, a9, a10, a11, a12, a13⟩ := R
  have hne : da ≠ r := fun e => by
    obtain ⟨f, b1, b2, b3⟩ := a2
    rw [e, rI_o (rO_lt a1).1] at b2
    cases b2
  refine ⟨by rw [rO_sf, if_pos rfl, a1]; rfl, drF_eq a2 (cell_sf (fun e => a13 e.symm)) (cell_sf hne), a3, stC_eq a4 (fun b hb => cell_sf (by omega)), sheetC_eq a5 (fun b hb => cell_sf (by omega)), a6, a7, a8, hq, a10, a11, a12, a13⟩
theorem RdC.tk {l v : Nat} (R : RdC h r k i n d da p t sz sl cm m) (hl : l < 4) (hv : v < 100) (ha : okA l v) : run 18 (0, [some (.ref d), some (.int (nI l)), some (.int (nI v))], [], h) = some (some (.int 1), si h da l (nI v)) ∧ RdC (si h da l (nI v)) r k i n d da p (updO t l v) sz sl cm m := by
  obtain ⟨a1, a2, a3, a4, a5, a6, a7, a8, a9, a10, a11, a12, a13⟩ := R
  obtain ⟨e1, e2⟩ := c_takes_y a4 a2 hl hv ha
  refine ⟨e1, by rw [rO_si, a1], e2, tdOK_upd a3 ha, stC_eq a4 (fun b hb => cell_si (by omega)), sheetC_eq a5 (fun b hb => cell_si (by omega)), a6, a7, a8, a9, a10, a11, a12, a13⟩
theorem c_here_in (R : RdC h r k i n d da p t sz sl cm m) (hp : p < n) : run 31 (0, [some (.ref r)], [], h) = some (some (.int (cm (60 * k + i + p))), h) := by
  have R0 := R
  obtain ⟨a1, a2, a3, a4, a5, a6, a7, a8, a9, a10, a11, a12, a13⟩ := R
  have hm := a5.2.2.1 k m a6
  have c1 : ¬ nI n ≤ nI p := nI_ge hp (by omega)
  have r1 := c_atS a5 a7 a6 (show i + p < m by omega)
  obtain ⟨hS, _⟩ := a5.2.1 k a7
  rw [show 60 * k + (i + p) = 60 * k + i + p by omega] at r1
  simp only [uX2_here_0, uX2_here_1, uX2_here_4, uX2_here_5, uX2_here_8, uX2_here_11, uX2_here_12, uX2_here_15, uX2_here_16, uX2_here_19, uX2_here_20, uX2_here_23, uX2_here_24, uX2_here_27, uX2_here_30, uX2_here_31, R0.g4, R0.g2, R0.g0, R0.g1, c1, nI_add, vX hS, r1, Option.bind_some, Option.toList_some, Option.toList_none, List.cons_append, List.nil_append, if_true, if_false, and_self, and_true, true_and, or_self, or_true, true_or, false_or, or_false, i10, i00, i01, i11, Nat.reduceAdd, st1_0, st1_c, st1_1i, st1_1r, st1_1n, st1_1u, st1_1J, st2_0, st2_c, st2_1i, st2_1r, st2_1n, st2_1u, st2_1J]
theorem c_here_out (R : RdC h r k i n d da p t sz sl cm m) (hp : ¬ p < n) : run 31 (0, [some (.ref r)], [], h) = some (some (.int (-1)), h) := by
  have hm := R.2.2.2.2.1.2.2.1 k m R.2.2.2.2.2.1
  have h1 := R.2.2.2.2.2.2.2.1
  have h2 := R.2.2.2.2.2.2.2.2.1
  have c1 : nI n ≤ nI p := nI_le (by omega) (by omega)
  simp only [uX2_here_0, uX2_here_1, uX2_here_4, uX2_here_5, uX2_here_8, uX2_here_11, uX2_here_12, uX2_here_15, uX2_here_16, uX2_here_19, uX2_here_20, uX2_here_23, uX2_here_24, uX2_here_27, uX2_here_30, uX2_here_31, R.g4, R.g2, c1, Option.bind_some, Option.toList_some, Option.toList_none, List.cons_append, List.nil_append, if_true, if_false, and_self, and_true, true_and, or_self, or_true, true_or, false_or, or_false, i10, i00, i01, i11, Nat.reduceAdd, st1_0, st1_c, st1_1i, st1_1r, st1_1n, st1_1u, st1_1J, st2_0, st2_c, st2_1i, st2_1r, st2_1n, st2_1u, st2_1J]
theorem c_isDigit (R : RdC h r k i n d da p t sz sl cm m) : run 34 (0, [some (.ref r), none], [], h) = some (some (.int (if dg (fun x => cm (60 * k + i + x)) n p then 1 else 0)), h) := by
  by_cases hp : p < n
  · have r1 := c_here_in R hp
    generalize hc : cm (60 * k + i + p) = x at r1
    have e : dg (fun x => cm (60 * k + i + x)) n p = (48 ≤ x.toInt ∧ x.toInt ≤ 57) := by
      show (p < n ∧ 48 ≤ (cm (60 * k + i + p)).toInt ∧ (cm (60 * k + i + p)).toInt ≤ 57) = _
      rw [hc]
      exact propext ⟨fun q => q.2, fun q => ⟨hp, q⟩⟩
    have e1 : (x < 48) = (x.toInt < 48) := ltI (by decide)
    have e2 : ((57 : Int32) < x) = (57 < x.toInt) := by rw [Int32.lt_iff_toInt_lt, show (57 : Int32).toInt = 57 by decide]
    by_cases q1 : x.toInt < 48
    · have q : ¬ dg (fun x => cm (60 * k + i + x)) n p := by rw [e]; omega
      rw [if_neg q]
      simp only [uX2_isDigitHere_0, uX2_isDigitHere_1, uX2_isDigitHere_4, uX2_isDigitHere_5, uX2_isDigitHere_6, uX2_isDigitHere_8, uX2_isDigitHere_11, uX2_isDigitHere_12, uX2_isDigitHere_14, uX2_isDigitHere_17, uX2_isDigitHere_18, uX2_isDigitHere_21, uX2_isDigitHere_22, vX R.1, r1, e1, q1, Option.bind_some, Option.toList_some, Option.toList_none, List.cons_append, List.nil_append, if_true, if_false, and_self, and_true, true_and, or_self, or_true, true_or, false_or, or_false, i10, i00, i01, i11, Nat.reduceAdd, st1_0, st1_c, st1_1i, st1_1r, st1_1n, st1_1u, st1_1J, st2_0, st2_c, st2_1i, st2_1r, st2_1n, st2_1u, st2_1J]
    · by_cases q2 : 57 < x.toInt
      · have q : ¬ dg (fun x => cm (60 * k + i + x)) n p := by rw [e]; omega
        rw [if_neg q]
        simp only [uX2_isDigitHere_0, uX2_isDigitHere_1, uX2_isDigitHere_4, uX2_isDigitHere_5, uX2_isDigitHere_6, uX2_isDigitHere_8, uX2_isDigitHere_11, uX2_isDigitHere_12, uX2_isDigitHere_14, uX2_isDigitHere_17, uX2_isDigitHere_18, uX2_isDigitHere_21, uX2_isDigitHere_22, vX R.1, r1, e1, q1, e2, q2, Option.bind_some, Option.toList_some, Option.toList_none, List.cons_append, List.nil_append, if_true, if_false, and_self, and_true, true_and, or_self, or_true, true_or, false_or, or_false, i10, i00, i01, i11, Nat.reduceAdd, st1_0, st1_c, st1_1i, st1_1r, st1_1n, st1_1u, st1_1J, st2_0, st2_c, st2_1i, st2_1r, st2_1n, st2_1u, st2_1J]
      · have q : dg (fun x => cm (60 * k + i + x)) n p := by rw [e]; omega
        rw [if_pos q]
        simp only [uX2_isDigitHere_0, uX2_isDigitHere_1, uX2_isDigitHere_4, uX2_isDigitHere_5, uX2_isDigitHere_6, uX2_isDigitHere_8, uX2_isDigitHere_11, uX2_isDigitHere_12, uX2_isDigitHere_14, uX2_isDigitHere_17, uX2_isDigitHere_18, uX2_isDigitHere_21, uX2_isDigitHere_22, vX R.1, r1, e1, q1, e2, q2, Option.bind_some, Option.toList_some, Option.toList_none, List.cons_append, List.nil_append, if_true, if_false, and_self, and_true, true_and, or_self, or_true, true_or, false_or, or_false, i10, i00, i01, i11, Nat.reduceAdd, st1_0, st1_c, st1_1i, st1_1r, st1_1n, st1_1u, st1_1J, st2_0, st2_c, st2_1i, st2_1r, st2_1n, st2_1u, st2_1J]
  · have r1 := c_here_out R hp
    have q : ¬ dg (fun x => cm (60 * k + i + x)) n p := fun q => hp q.1
    have c1 : (-1 : Int32) < 48 := by decide
    rw [if_neg q]
    simp only [uX2_isDigitHere_0, uX2_isDigitHere_1, uX2_isDigitHere_4, uX2_isDigitHere_5, uX2_isDigitHere_6, uX2_isDigitHere_8, uX2_isDigitHere_11, uX2_isDigitHere_12, uX2_isDigitHere_14, uX2_isDigitHere_17, uX2_isDigitHere_18, uX2_isDigitHere_21, uX2_isDigitHere_22, vX R.1, r1, c1, Option.bind_some, Option.toList_some, Option.toList_none, List.cons_append, List.nil_append, if_true, if_false, and_self, and_true, true_and, or_self, or_true, true_or, false_or, or_false, i10, i00, i01, i11, Nat.reduceAdd, st1_0, st1_c, st1_1i, st1_1r, st1_1n, st1_1u, st1_1J, st2_0, st2_c, st2_1i, st2_1r, st2_1n, st2_1u, st2_1J]
theorem c_readDigit (R : RdC h r k i n d da p t sz sl cm m) (hd : dg (fun x => cm (60 * k + i + x)) n p) : run 35 (0, [some (.ref r), none], [], h) = some (some (.int (nI (dvN (cm (60 * k + i + p))))), sf h r 4 (.int (nI (p + 1)))) := by
  have r1 := c_here_in R hd.1
  obtain ⟨e1, e2⟩ := dg_val hd
  have e3 : cm (60 * k + i + p) - 48 = nI (dvN (cm (60 * k + i + p))) := by
    have e1 : cm (60 * k + i + p) = nI (48 + dvN (cm (60 * k + i + p))) := e1
    rw [← Int32.toInt_inj]
    conv => lhs; rw [e1]
    have e2 : dvN (cm (60 * k + i + p)) ≤ 9 := e2
    rw [show (48 : Int32) = nI 48 from rfl, nI_subI (by omega) (by omega), nI_toInt (by omega)]
    omega
  simp only [uX2_readDigit_0, uX2_readDigit_1, uX2_readDigit_4, uX2_readDigit_6, uX2_readDigit_7, uX2_readDigit_8, uX2_readDigit_9, uX2_readDigit_10, uX2_readDigit_13, uX2_readDigit_14, uX2_readDigit_15, uX2_readDigit_18, uX2_readDigit_19, vX R.1, r1, e3, R.g4, nI_1, R.p4, Option.bind_some, Option.toList_some, Option.toList_none, List.cons_append, List.nil_append, if_true, if_false, and_self, and_true, true_and, or_self, or_true, true_or, false_or, or_false, i10, i00, i01, i11, Nat.reduceAdd, st1_0, st1_c, st1_1i, st1_1r, st1_1n, st1_1u, st1_1J, st2_0, st2_c, st2_1i, st2_1r, st2_1n, st2_1u, st2_1J]
def rdT (T : Nat → Int32) (n l p : Nat) : Prop := 0 < numL T n p ∧ okN l (numV T n p)
theorem okNA {l v : Nat} (hl : l = 0 ∨ l = 1 ∨ l = 3) (hv : v < 100) : okN l v ↔ okA l v := by
  constructor
  · intro q; rcases q with q | q | q <;> omega
  · intro q; rcases q with q | q | q | q <;> omega
theorem c_readNumber {l : Nat} (R : RdC h r k i n d da p t sz sl cm m) (hl : l = 0 ∨ l = 1 ∨ l = 3) : ∃ h1, Dif [r, da] h h1 ∧ ((rdT (fun x => cm (60 * k + i + x)) n l p → run 33 (0, [some (.ref r), some (.int (nI l)), none, none], [], h) = some (some (.int 1), h1) ∧ RdC h1 r k i n d da (p + numL (fun x => cm (60 * k + i + x)) n p) (updO t l (numV (fun x => cm (60 * k + i + x)) n p)) sz sl cm m) ∧ (¬ rdT (fun x => cm (60 * k + i + x)) n l p → run 33 (0, [some (.ref r), some (.int (nI l)), none, none], [], h) = some (some (.int 0), h1) ∧ RdC h1 r k i n d da p t sz sl cm m)) := by
  have hl4 : l < 4 := by omega
  have dI := c_isDigit R
  have hpn := R.2.2.2.2.2.2.2.2.1
  by_cases d1 : dg (fun x => cm (60 * k + i + x)) n p
  · rw [if_pos d1] at dI
    have rD := c_readDigit R d1
    obtain ⟨v1, v2⟩ := dg_val d1
    have v2 : dvN (cm (60 * k + i + p)) ≤ 9 := v2
    have hp1 : p + 1 ≤ n := d1.1
    have R1 := R.mv hp1
    have dI1 := c_isDigit R1
    have D1 : Dif [r, da] h (sf h r 4 (.int (nI (p + 1)))) := difSf (by simp)
    generalize hh1 : sf h r 4 (.int (nI (p + 1))) = h1 at *
    by_cases d2 : dg (fun x => cm (60 * k + i + x)) n (p + 1)
    · rw [if_pos d2] at dI1
      have rD1 := c_readDigit R1 d2
      obtain ⟨w1, w2⟩ := dg_val d2
      have w2 : dvN (cm (60 * k + i + (p + 1))) ≤ 9 := w2
      have hp2 : p + 1 + 1 ≤ n := d2.1
      have R2 := R1.mv hp2
      have D2 : Dif [r, da] h (sf h1 r 4 (.int (nI (p + 1 + 1)))) := difT D1 (difSf (by simp))
      generalize hh2 : sf h1 r 4 (.int (nI (p + 1 + 1))) = h2 at *
      have eL : numL (fun x => cm (60 * k + i + x)) n p = 2 := by unfold numL; rw [if_pos d1, if_pos d2]
      have eV : numV (fun x => cm (60 * k + i + x)) n p = 10 * dvN (cm (60 * k + i + p)) + dvN (cm (60 * k + i + (p + 1))) := by unfold numV; rw [if_pos d1, if_pos d2]
      have eN : nI (dvN (cm (60 * k + i + p))) * 10 + nI (dvN (cm (60 * k + i + (p + 1)))) = nI (numV (fun x => cm (60 * k + i + x)) n p) := by
        rw [eV, show (10 : Int32) = nI 10 from rfl, pk_mul, nI_add, Nat.mul_comm]
      have hv := numV_lt (T := fun x => cm (60 * k + i + x)) (n := n) (p := p)
      by_cases ho : okN l (numV (fun x => cm (60 * k + i + x)) n p)
      · obtain ⟨t1, R3⟩ := R2.tk hl4 hv ((okNA hl hv).mp ho)
        refine ⟨_, difT D2 (difSi (a := da) (k := l) (x := nI (numV (fun x => cm (60 * k + i + x)) n p)) (by simp)), fun _ => ⟨?_, ?_⟩, fun q => absurd ⟨by omega, ho⟩ q⟩
        · simp only [uX2_readNumber_0, uX2_readNumber_1, uX2_readNumber_4, uX2_readNumber_5, uX2_readNumber_6, uX2_readNumber_9, uX2_readNumber_12, uX2_readNumber_13, uX2_readNumber_14, uX2_readNumber_15, uX2_readNumber_18, uX2_readNumber_19, uX2_readNumber_20, uX2_readNumber_23, uX2_readNumber_26, uX2_readNumber_27, uX2_readNumber_29, uX2_readNumber_30, uX2_readNumber_31, uX2_readNumber_34, uX2_readNumber_35, uX2_readNumber_36, uX2_readNumber_37, uX2_readNumber_40, uX2_readNumber_41, uX2_readNumber_42, uX2_readNumber_45, uX2_readNumber_48, uX2_readNumber_49, uX2_readNumber_50, uX2_readNumber_51, uX2_readNumber_52, uX2_readNumber_55, uX2_readNumber_56, vX R.1, vX R1.1, R.g4, dI, rD, dI1, rD1, eN, R2.g3, vX R2.2.1.choose_spec.1, t1, Option.bind_some, Option.toList_some, Option.toList_none, List.cons_append, List.nil_append, if_true, if_false, and_self, and_true, true_and, or_self, or_true, true_or, false_or, or_false, i10, i00, i01, i11, Nat.reduceAdd, st1_0, st1_c, st1_1i, st1_1r, st1_1n, st1_1u, st1_1J, st2_0, st2_c, st2_1i, st2_1r, st2_1n, st2_1u, st2_1J]
        · rw [eL]; exact R3
      · have t1 := c_takes_n (d := d) R2.2.2.2.1 hl4 hv (fun q => ho ((okNA hl hv).mpr q))
        have R3 := R2.mv hpn
        refine ⟨_, difT D2 (difSf (a := r) (k := 4) (x := .int (nI p)) (by simp)), fun q => absurd q.2 ho, fun _ => ⟨?_, R3⟩⟩
        simp only [uX2_readNumber_0, uX2_readNumber_1, uX2_readNumber_4, uX2_readNumber_5, uX2_readNumber_6, uX2_readNumber_9, uX2_readNumber_12, uX2_readNumber_13, uX2_readNumber_14, uX2_readNumber_15, uX2_readNumber_18, uX2_readNumber_19, uX2_readNumber_20, uX2_readNumber_23, uX2_readNumber_26, uX2_readNumber_27, uX2_readNumber_29, uX2_readNumber_30, uX2_readNumber_31, uX2_readNumber_34, uX2_readNumber_35, uX2_readNumber_36, uX2_readNumber_37, uX2_readNumber_40, uX2_readNumber_41, uX2_readNumber_42, uX2_readNumber_45, uX2_readNumber_48, uX2_readNumber_49, uX2_readNumber_50, uX2_readNumber_51, uX2_readNumber_52, uX2_readNumber_55, uX2_readNumber_56, vX R.1, vX R1.1, R.g4, dI, rD, dI1, rD1, eN, R2.g3, vX R2.2.1.choose_spec.1, t1, R2.p4, Option.bind_some, Option.toList_some, Option.toList_none, List.cons_append, List.nil_append, if_true, if_false, and_self, and_true, true_and, or_self, or_true, true_or, false_or, or_false, i10, i00, i01, i11, Nat.reduceAdd, st1_0, st1_c, st1_1i, st1_1r, st1_1n, st1_1u, st1_1J, st2_0, st2_c, st2_1i, st2_1r, st2_1n, st2_1u, st2_1J]
    · rw [if_neg d2] at dI1
      have eL : numL (fun x => cm (60 * k + i + x)) n p = 1 := by unfold numL; rw [if_pos d1, if_neg d2]
      have eV : numV (fun x => cm (60 * k + i + x)) n p = dvN (cm (60 * k + i + p)) := by unfold numV; rw [if_pos d1, if_neg d2]
      rw [← eV] at rD
      have hv := numV_lt (T := fun x => cm (60 * k + i + x)) (n := n) (p := p)
      by_cases ho : okN l (numV (fun x => cm (60 * k + i + x)) n p)
      · obtain ⟨t1, R3⟩ := R1.tk hl4 hv ((okNA hl hv).mp ho)
        refine ⟨_, difT D1 (difSi (a := da) (k := l) (x := nI (numV (fun x => cm (60 * k + i + x)) n p)) (by simp)), fun _ => ⟨?_, ?_⟩, fun q => absurd ⟨by omega, ho⟩ q⟩
        · simp only [uX2_readNumber_0, uX2_readNumber_1, uX2_readNumber_4, uX2_readNumber_5, uX2_readNumber_6, uX2_readNumber_9, uX2_readNumber_12, uX2_readNumber_13, uX2_readNumber_14, uX2_readNumber_15, uX2_readNumber_18, uX2_readNumber_19, uX2_readNumber_20, uX2_readNumber_23, uX2_readNumber_26, uX2_readNumber_27, uX2_readNumber_29, uX2_readNumber_30, uX2_readNumber_31, uX2_readNumber_34, uX2_readNumber_35, uX2_readNumber_36, uX2_readNumber_37, uX2_readNumber_40, uX2_readNumber_41, uX2_readNumber_42, uX2_readNumber_45, uX2_readNumber_48, uX2_readNumber_49, uX2_readNumber_50, uX2_readNumber_51, uX2_readNumber_52, uX2_readNumber_55, uX2_readNumber_56, vX R.1, vX R1.1, R.g4, dI, rD, dI1, R1.g3, vX R1.2.1.choose_spec.1, t1, Option.bind_some, Option.toList_some, Option.toList_none, List.cons_append, List.nil_append, if_true, if_false, and_self, and_true, true_and, or_self, or_true, true_or, false_or, or_false, i10, i00, i01, i11, Nat.reduceAdd, st1_0, st1_c, st1_1i, st1_1r, st1_1n, st1_1u, st1_1J, st2_0, st2_c, st2_1i, st2_1r, st2_1n, st2_1u, st2_1J]
        · rw [eL]; exact R3
      · have t1 := c_takes_n (d := d) R1.2.2.2.1 hl4 hv (fun q => ho ((okNA hl hv).mpr q))
        have R3 := R1.mv hpn
        refine ⟨_, difT D1 (difSf (a := r) (k := 4) (x := .int (nI p)) (by simp)), fun q => absurd q.2 ho, fun _ => ⟨?_, R3⟩⟩
        simp only [uX2_readNumber_0, uX2_readNumber_1, uX2_readNumber_4, uX2_readNumber_5, uX2_readNumber_6, uX2_readNumber_9, uX2_readNumber_12, uX2_readNumber_13, uX2_readNumber_14, uX2_readNumber_15, uX2_readNumber_18, uX2_readNumber_19, uX2_readNumber_20, uX2_readNumber_23, uX2_readNumber_26, uX2_readNumber_27, uX2_readNumber_29, uX2_readNumber_30, uX2_readNumber_31, uX2_readNumber_34, uX2_readNumber_35, uX2_readNumber_36, uX2_readNumber_37, uX2_readNumber_40, uX2_readNumber_41, uX2_readNumber_42, uX2_readNumber_45, uX2_readNumber_48, uX2_readNumber_49, uX2_readNumber_50, uX2_readNumber_51, uX2_readNumber_52, uX2_readNumber_55, uX2_readNumber_56, vX R.1, vX R1.1, R.g4, dI, rD, dI1, R1.g3, vX R1.2.1.choose_spec.1, t1, R1.p4, Option.bind_some, Option.toList_some, Option.toList_none, List.cons_append, List.nil_append, if_true, if_false, and_self, and_true, true_and, or_self, or_true, true_or, false_or, or_false, i10, i00, i01, i11, Nat.reduceAdd, st1_0, st1_c, st1_1i, st1_1r, st1_1n, st1_1u, st1_1J, st2_0, st2_c, st2_1i, st2_1r, st2_1n, st2_1u, st2_1J]
  · rw [if_neg d1] at dI
    have eL : numL (fun x => cm (60 * k + i + x)) n p = 0 := by unfold numL; rw [if_neg d1]
    refine ⟨h, difR, fun q => absurd q.1 (by omega), fun _ => ⟨?_, R⟩⟩
    simp only [uX2_readNumber_0, uX2_readNumber_1, uX2_readNumber_4, uX2_readNumber_5, uX2_readNumber_6, uX2_readNumber_9, uX2_readNumber_12, uX2_readNumber_13, uX2_readNumber_14, uX2_readNumber_15, uX2_readNumber_18, uX2_readNumber_19, uX2_readNumber_20, uX2_readNumber_23, uX2_readNumber_26, uX2_readNumber_27, uX2_readNumber_29, uX2_readNumber_30, uX2_readNumber_31, uX2_readNumber_34, uX2_readNumber_35, uX2_readNumber_36, uX2_readNumber_37, uX2_readNumber_40, uX2_readNumber_41, uX2_readNumber_42, uX2_readNumber_45, uX2_readNumber_48, uX2_readNumber_49, uX2_readNumber_50, uX2_readNumber_51, uX2_readNumber_52, uX2_readNumber_55, uX2_readNumber_56, vX R.1, R.g4, dI, Option.bind_some, Option.toList_some, Option.toList_none, List.cons_append, List.nil_append, if_true, if_false, and_self, and_true, true_and, or_self, or_true, true_or, false_or, or_false, i10, i00, i01, i11, Nat.reduceAdd, st1_0, st1_c, st1_1i, st1_1r, st1_1n, st1_1u, st1_1J, st2_0, st2_c, st2_1i, st2_1r, st2_1n, st2_1u, st2_1J]
theorem c_readItem (R : RdC h r k i n d da p t sz sl cm m) : ∃ h1, Dif [r, da] h h1 ∧ match itF (fun x => cm (60 * k + i + x)) n t p with
    | .inl q => run 32 (0, [some (.ref r), none], [], h) = some (some (.int 0), h1) ∧ RdC h1 r k i n d da q t sz sl cm m
    | .inr q => run 32 (0, [some (.ref r), none], [], h) = some (some (.int 1), h1) ∧ RdC h1 r k i n d da q.1 (updO t q.2.1 q.2.2) sz sl cm m ∧ t q.2.1 = none ∧ q.2.1 < 4 := by
  unfold itF
  by_cases hp : p < n
  · rw [if_pos hp]
    have r1 := c_here_in R hp
    have r2 := c_itemOf (x := cm (60 * k + i + p)) R.2.2.2.1
    cases hl : letF (cm (60 * k + i + p)) with
    | none =>
      rw [hl, oN_none] at r2
      refine ⟨h, difR, ?_, R⟩
      simp only [uX2_readItem_0, uX2_readItem_1, uX2_readItem_4, uX2_readItem_7, uX2_readItem_8, uX2_readItem_9, uX2_readItem_11, uX2_readItem_14, uX2_readItem_15, uX2_readItem_18, uX2_readItem_19, uX2_readItem_22, uX2_readItem_25, uX2_readItem_26, uX2_readItem_27, uX2_readItem_28, uX2_readItem_29, uX2_readItem_32, uX2_readItem_33, uX2_readItem_34, uX2_readItem_37, uX2_readItem_38, uX2_readItem_41, uX2_readItem_44, uX2_readItem_45, uX2_readItem_46, uX2_readItem_49, uX2_readItem_52, uX2_readItem_53, uX2_readItem_56, uX2_readItem_57, uX2_readItem_58, uX2_readItem_61, vX R.1, r1, r2, Option.bind_some, Option.toList_some, Option.toList_none, List.cons_append, List.nil_append, if_true, if_false, and_self, and_true, true_and, or_self, or_true, true_or, false_or, or_false, i10, i00, i01, i11, Nat.reduceAdd, st1_0, st1_c, st1_1i, st1_1r, st1_1n, st1_1u, st1_1J, st2_0, st2_c, st2_1i, st2_1r, st2_1n, st2_1u, st2_1J]
    | some l =>
      have hl4 := letF_lt hl
      rw [hl, oN_some] at r2
      have r3 := c_isTold R.2.1 R.2.2.1 hl4
      simp only
      have b1 : bI true = 1 := rfl
      have b0 : bI false = 0 := rfl
      rcases bcase (t l).isSome with hs | hs
      · rw [if_pos hs]
        rw [hs, b1] at r3
        refine ⟨h, difR, ?_, R⟩
        simp only [uX2_readItem_0, uX2_readItem_1, uX2_readItem_4, uX2_readItem_7, uX2_readItem_8, uX2_readItem_9, uX2_readItem_11, uX2_readItem_14, uX2_readItem_15, uX2_readItem_18, uX2_readItem_19, uX2_readItem_22, uX2_readItem_25, uX2_readItem_26, uX2_readItem_27, uX2_readItem_28, uX2_readItem_29, uX2_readItem_32, uX2_readItem_33, uX2_readItem_34, uX2_readItem_37, uX2_readItem_38, uX2_readItem_41, uX2_readItem_44, uX2_readItem_45, uX2_readItem_46, uX2_readItem_49, uX2_readItem_52, uX2_readItem_53, uX2_readItem_56, uX2_readItem_57, uX2_readItem_58, uX2_readItem_61, vX R.1, r1, r2, ne9 (show l < 2 ^ 31 by omega), R.g3, vX R.2.1.choose_spec.1, r3, Option.bind_some, Option.toList_some, Option.toList_none, List.cons_append, List.nil_append, if_true, if_false, and_self, and_true, true_and, or_self, or_true, true_or, false_or, or_false, i10, i00, i01, i11, Nat.reduceAdd, st1_0, st1_c, st1_1i, st1_1r, st1_1n, st1_1u, st1_1J, st2_0, st2_c, st2_1i, st2_1r, st2_1n, st2_1u, st2_1J]
      · rw [if_neg (by rw [hs]; decide)]
        rw [hs, b0] at r3
        have htn : t l = none := by cases hv : t l with
          | none => rfl
          | some v => rw [hv] at hs; cases hs
        have R1 := R.mv (show p + 1 ≤ n from hp)
        have r4 := c_hasNumber (h := sf h r 4 (.int (nI (p + 1)))) hl4
        have D1 : Dif [r, da] h (sf h r 4 (.int (nI (p + 1)))) := difSf (by simp)
        have pp := R.p4 (x := nI (p + 1))
        generalize hh1 : sf h r 4 (.int (nI (p + 1))) = h1 at *
        by_cases q2 : l = 2
        · subst q2
          rw [if_pos rfl] at r4 ⊢
          obtain ⟨t1, R2⟩ := R1.tk (l := 2) (v := 1) (by decide) (by decide) (by decide)
          have e1 : nI 1 = 1 := rfl
          rw [e1] at t1 R2
          refine ⟨_, difT D1 (difSi (a := da) (k := 2) (x := 1) (by simp)), ?_, R2, htn, show 2 < 4 by decide⟩
          simp only [uX2_readItem_0, uX2_readItem_1, uX2_readItem_4, uX2_readItem_7, uX2_readItem_8, uX2_readItem_9, uX2_readItem_11, uX2_readItem_14, uX2_readItem_15, uX2_readItem_18, uX2_readItem_19, uX2_readItem_22, uX2_readItem_25, uX2_readItem_26, uX2_readItem_27, uX2_readItem_28, uX2_readItem_29, uX2_readItem_32, uX2_readItem_33, uX2_readItem_34, uX2_readItem_37, uX2_readItem_38, uX2_readItem_41, uX2_readItem_44, uX2_readItem_45, uX2_readItem_46, uX2_readItem_49, uX2_readItem_52, uX2_readItem_53, uX2_readItem_56, uX2_readItem_57, uX2_readItem_58, uX2_readItem_61, vX R.1, r1, r2, ne9 (show 2 < 2 ^ 31 by omega), R.g3, R1.g3, vX R.2.1.choose_spec.1, vX R1.2.1.choose_spec.1, r3, R.g4, nI_1, pp, r4, t1, Option.bind_some, Option.toList_some, Option.toList_none, List.cons_append, List.nil_append, if_true, if_false, and_self, and_true, true_and, or_self, or_true, true_or, false_or, or_false, i10, i00, i01, i11, Nat.reduceAdd, st1_0, st1_c, st1_1i, st1_1r, st1_1n, st1_1u, st1_1J, st2_0, st2_c, st2_1i, st2_1r, st2_1n, st2_1u, st2_1J]
        · rw [if_neg q2] at r4 ⊢
          obtain ⟨h2, D2, y, z⟩ := c_readNumber (l := l) R1 (by omega)
          by_cases hr : rdT (fun x => cm (60 * k + i + x)) n l (p + 1)
          · obtain ⟨y1, y2⟩ := y hr
            have hr' : 0 < numL (fun x => cm (60 * k + i + x)) n (p + 1) ∧ okN l (numV (fun x => cm (60 * k + i + x)) n (p + 1)) := hr
            rw [if_pos hr']
            refine ⟨h2, difT D1 D2, ?_, y2, htn, hl4⟩
            simp only [uX2_readItem_0, uX2_readItem_1, uX2_readItem_4, uX2_readItem_7, uX2_readItem_8, uX2_readItem_9, uX2_readItem_11, uX2_readItem_14, uX2_readItem_15, uX2_readItem_18, uX2_readItem_19, uX2_readItem_22, uX2_readItem_25, uX2_readItem_26, uX2_readItem_27, uX2_readItem_28, uX2_readItem_29, uX2_readItem_32, uX2_readItem_33, uX2_readItem_34, uX2_readItem_37, uX2_readItem_38, uX2_readItem_41, uX2_readItem_44, uX2_readItem_45, uX2_readItem_46, uX2_readItem_49, uX2_readItem_52, uX2_readItem_53, uX2_readItem_56, uX2_readItem_57, uX2_readItem_58, uX2_readItem_61, vX R.1, vX R1.1, r1, r2, ne9 (show l < 2 ^ 31 by omega), R.g3, vX R.2.1.choose_spec.1, r3, R.g4, nI_1, pp, r4, y1, Option.bind_some, Option.toList_some, Option.toList_none, List.cons_append, List.nil_append, if_true, if_false, and_self, and_true, true_and, or_self, or_true, true_or, false_or, or_false, i10, i00, i01, i11, Nat.reduceAdd, st1_0, st1_c, st1_1i, st1_1r, st1_1n, st1_1u, st1_1J, st2_0, st2_c, st2_1i, st2_1r, st2_1n, st2_1u, st2_1J]
          · obtain ⟨y1, y2⟩ := z hr
            have hr' : ¬ (0 < numL (fun x => cm (60 * k + i + x)) n (p + 1) ∧ okN l (numV (fun x => cm (60 * k + i + x)) n (p + 1))) := hr
            rw [if_neg hr']
            refine ⟨h2, difT D1 D2, ?_, y2⟩
            simp only [uX2_readItem_0, uX2_readItem_1, uX2_readItem_4, uX2_readItem_7, uX2_readItem_8, uX2_readItem_9, uX2_readItem_11, uX2_readItem_14, uX2_readItem_15, uX2_readItem_18, uX2_readItem_19, uX2_readItem_22, uX2_readItem_25, uX2_readItem_26, uX2_readItem_27, uX2_readItem_28, uX2_readItem_29, uX2_readItem_32, uX2_readItem_33, uX2_readItem_34, uX2_readItem_37, uX2_readItem_38, uX2_readItem_41, uX2_readItem_44, uX2_readItem_45, uX2_readItem_46, uX2_readItem_49, uX2_readItem_52, uX2_readItem_53, uX2_readItem_56, uX2_readItem_57, uX2_readItem_58, uX2_readItem_61, vX R.1, vX R1.1, r1, r2, ne9 (show l < 2 ^ 31 by omega), R.g3, vX R.2.1.choose_spec.1, r3, R.g4, nI_1, pp, r4, y1, Option.bind_some, Option.toList_some, Option.toList_none, List.cons_append, List.nil_append, if_true, if_false, and_self, and_true, true_and, or_self, or_true, true_or, false_or, or_false, i10, i00, i01, i11, Nat.reduceAdd, st1_0, st1_c, st1_1i, st1_1r, st1_1n, st1_1u, st1_1J, st2_0, st2_c, st2_1i, st2_1r, st2_1n, st2_1u, st2_1J]
  · rw [if_neg hp]
    have r1 := c_here_out R hp
    have r2 := c_itemOf (x := -1) R.2.2.2.1
    have e : letF (-1) = none := by decide
    rw [e, oN_none] at r2
    refine ⟨h, difR, ?_, R⟩
    simp only [uX2_readItem_0, uX2_readItem_1, uX2_readItem_4, uX2_readItem_7, uX2_readItem_8, uX2_readItem_9, uX2_readItem_11, uX2_readItem_14, uX2_readItem_15, uX2_readItem_18, uX2_readItem_19, uX2_readItem_22, uX2_readItem_25, uX2_readItem_26, uX2_readItem_27, uX2_readItem_28, uX2_readItem_29, uX2_readItem_32, uX2_readItem_33, uX2_readItem_34, uX2_readItem_37, uX2_readItem_38, uX2_readItem_41, uX2_readItem_44, uX2_readItem_45, uX2_readItem_46, uX2_readItem_49, uX2_readItem_52, uX2_readItem_53, uX2_readItem_56, uX2_readItem_57, uX2_readItem_58, uX2_readItem_61, vX R.1, r1, r2, Option.bind_some, Option.toList_some, Option.toList_none, List.cons_append, List.nil_append, if_true, if_false, and_self, and_true, true_and, or_self, or_true, true_or, false_or, or_false, i10, i00, i01, i11, Nat.reduceAdd, st1_0, st1_c, st1_1i, st1_1r, st1_1n, st1_1u, st1_1J, st2_0, st2_c, st2_1i, st2_1r, st2_1n, st2_1u, st2_1J]
theorem c_readText_loop : ∀ (e : Nat) (h : AH) (t : Nat → Option Nat) (p : Nat), RdC h r k i n d da p t sz sl cm m → cnt (isS t) 4 + e = 4 → 0 < e → ∃ h1, Dif [r, da] h h1 ∧ match parseF (fun x => cm (60 * k + i + x)) n e t p with
    | .inl q => run 30 (11, [some (.ref r), some (.int (nI (5 - e)))], [], h) = some (some (.int (-100 - nI q)), h1) ∧ q ≤ n
    | .inr t2 => run 30 (11, [some (.ref r), some (.int (nI (5 - e)))], [], h) = some (some (.int (tI t2)), h1) ∧ DrF h1 d da t2 ∧ tdOK t2 ∧ rO h1 r = some (2, rF k i n d n) := by
  intro e
  induction e with
  | zero => intro h t p R hc h0; omega
  | succ e ih =>
    intro h t p R hc _
    have hm := R.2.2.2.2.1.2.2.1 k m R.2.2.2.2.2.1
    have hin := R.2.2.2.2.2.2.2.1
    obtain ⟨h1, D1, E⟩ := c_readItem R
    have c1 : ¬ (4 : Int32) < nI (5 - (e + 1)) := nI_nlt (a := 4) (b := 5 - (e + 1)) (by omega) (by omega)
    unfold parseF
    cases hi : itF (fun x => cm (60 * k + i + x)) n t p with
    | inl q =>
      rw [hi] at E
      obtain ⟨E1, E2⟩ := E
      refine ⟨h1, D1, ?_, E2.2.2.2.2.2.2.2.2.1⟩
      simp only [uX2_readText_0, uX2_readText_1, uX2_readText_4, uX2_readText_7, uX2_readText_8, uX2_readText_9, uX2_readText_10, uX2_readText_12, uX2_readText_13, uX2_readText_16, uX2_readText_17, uX2_readText_20, uX2_readText_23, uX2_readText_25, uX2_readText_26, uX2_readText_29, uX2_readText_30, uX2_readText_31, uX2_readText_32, uX2_readText_35, uX2_readText_36, uX2_readText_39, uX2_readText_42, uX2_readText_43, uX2_readText_44, uX2_readText_45, uX2_readText_48, uX2_readText_50, uX2_readText_53, uX2_readText_54, uX2_readText_55, uX2_readText_58, uX2_readText_60, uX2_readText_61, uX2_readText_64, uX2_readText_65, uX2_readText_66, uX2_readText_67, uX2_readText_68, uX2_readText_71, uX2_readText_72, uX2_readText_73, uX2_readText_76, uX2_readText_79, uX2_readText_82, uX2_readText_84, uX2_readText_85, uX2_readText_88, uX2_readText_89, uX2_readText_11, c1, vX R.1, E1, E2.g4, Option.bind_some, Option.toList_some, Option.toList_none, List.cons_append, List.nil_append, if_true, if_false, and_self, and_true, true_and, or_self, or_true, true_or, false_or, or_false, i10, i00, i01, i11, Nat.reduceAdd, st1_0, st1_c, st1_1i, st1_1r, st1_1n, st1_1u, st1_1J, st2_0, st2_c, st2_1i, st2_1r, st2_1n, st2_1u, st2_1J]
    | inr q =>
      rw [hi] at E
      obtain ⟨E1, E2, E3, E4⟩ := E
      have hqn := E2.2.2.2.2.2.2.2.2.1
      have hcu := cnt_upd (v := q.2.2) E3 4
      rw [if_pos E4] at hcu
      simp only
      by_cases w : q.1 = n
      · rw [if_pos w]
        refine ⟨h1, D1, ?_, E2.2.1, E2.2.2.1, by rw [E2.1, w]⟩
        have et : tI (updO t q.2.1 q.2.2) = nI (5 - (e + 1)) := by
          unfold tI
          rw [hcu]
          congr 1
          omega
        have g4 := E2.g4
        rw [w] at g4
        rw [et]
        simp only [uX2_readText_0, uX2_readText_1, uX2_readText_4, uX2_readText_7, uX2_readText_8, uX2_readText_9, uX2_readText_10, uX2_readText_12, uX2_readText_13, uX2_readText_16, uX2_readText_17, uX2_readText_20, uX2_readText_23, uX2_readText_25, uX2_readText_26, uX2_readText_29, uX2_readText_30, uX2_readText_31, uX2_readText_32, uX2_readText_35, uX2_readText_36, uX2_readText_39, uX2_readText_42, uX2_readText_43, uX2_readText_44, uX2_readText_45, uX2_readText_48, uX2_readText_50, uX2_readText_53, uX2_readText_54, uX2_readText_55, uX2_readText_58, uX2_readText_60, uX2_readText_61, uX2_readText_64, uX2_readText_65, uX2_readText_66, uX2_readText_67, uX2_readText_68, uX2_readText_71, uX2_readText_72, uX2_readText_73, uX2_readText_76, uX2_readText_79, uX2_readText_82, uX2_readText_84, uX2_readText_85, uX2_readText_88, uX2_readText_89, uX2_readText_11, c1, vX R.1, E1, g4, E2.g2, Option.bind_some, Option.toList_some, Option.toList_none, List.cons_append, List.nil_append, if_true, if_false, and_self, and_true, true_and, or_self, or_true, true_or, false_or, or_false, i10, i00, i01, i11, Nat.reduceAdd, st1_0, st1_c, st1_1i, st1_1r, st1_1n, st1_1u, st1_1J, st2_0, st2_c, st2_1i, st2_1r, st2_1n, st2_1u, st2_1J]
      · rw [if_neg w]
        have c2 : ¬ nI q.1 = nI n := nI_ne w (by omega) (by omega)
        have r5 := c_here_in E2 (by omega)
        by_cases w2 : cm (60 * k + i + q.1) = 59 ∧ e ≠ 0
        · have w2' : (fun x => cm (60 * k + i + x)) q.1 = 59 ∧ e ≠ 0 := w2
          rw [if_pos w2']
          have R2 := E2.mv (show q.1 + 1 ≤ n by omega)
          obtain ⟨h3, D3, E5⟩ := ih _ (updO t q.2.1 q.2.2) (q.1 + 1) R2 (by omega) (by omega)
          have c3 : ¬ nI (5 - (e + 1)) = 4 := nI_ne (b := 4) (by omega) (by omega) (by omega)
          have es : nI (5 - (e + 1)) + 1 = nI (5 - e) := by rw [nI_1]; congr 1; omega
          have hrun : run 30 (11, [some (.ref r), some (.int (nI (5 - (e + 1))))], [], h) = run 30 (11, [some (.ref r), some (.int (nI (5 - e)))], [], sf h1 r 4 (.int (nI (q.1 + 1)))) := by
            rw [uX2_readText_11]
            simp only [uX2_readText_0, uX2_readText_1, uX2_readText_4, uX2_readText_7, uX2_readText_8, uX2_readText_9, uX2_readText_10, uX2_readText_12, uX2_readText_13, uX2_readText_16, uX2_readText_17, uX2_readText_20, uX2_readText_23, uX2_readText_25, uX2_readText_26, uX2_readText_29, uX2_readText_30, uX2_readText_31, uX2_readText_32, uX2_readText_35, uX2_readText_36, uX2_readText_39, uX2_readText_42, uX2_readText_43, uX2_readText_44, uX2_readText_45, uX2_readText_48, uX2_readText_50, uX2_readText_53, uX2_readText_54, uX2_readText_55, uX2_readText_58, uX2_readText_60, uX2_readText_61, uX2_readText_64, uX2_readText_65, uX2_readText_66, uX2_readText_67, uX2_readText_68, uX2_readText_71, uX2_readText_72, uX2_readText_73, uX2_readText_76, uX2_readText_79, uX2_readText_82, uX2_readText_84, uX2_readText_85, uX2_readText_88, uX2_readText_89, c1, vX R.1, vX E2.1, E1, E2.g4, E2.g2, c2, r5, w2.1, c3, nI_1, E2.p4, es, Option.bind_some, Option.toList_some, Option.toList_none, List.cons_append, List.nil_append, if_true, if_false, and_self, and_true, true_and, or_self, or_true, true_or, false_or, or_false, i10, i00, i01, i11, Nat.reduceAdd, st1_0, st1_c, st1_1i, st1_1r, st1_1n, st1_1u, st1_1J, st2_0, st2_c, st2_1i, st2_1r, st2_1n, st2_1u, st2_1J]
          rw [hrun]
          exact ⟨h3, difT (difT D1 (difSf (by simp))) D3, E5⟩
        · have w2' : ¬ ((fun x => cm (60 * k + i + x)) q.1 = 59 ∧ e ≠ 0) := w2
          rw [if_neg w2']
          refine ⟨h1, D1, ?_, hqn⟩
          by_cases w3 : cm (60 * k + i + q.1) = 59
          · have w4 : e = 0 := Decidable.byContradiction (fun z => w2 ⟨w3, z⟩)
            subst w4
            have c3 : nI (5 - (0 + 1)) = 4 := rfl
            have c1' : ¬ (4 : Int32) < 4 := by decide
            rw [c3]
            simp only [uX2_readText_0, uX2_readText_1, uX2_readText_4, uX2_readText_7, uX2_readText_8, uX2_readText_9, uX2_readText_10, uX2_readText_12, uX2_readText_13, uX2_readText_16, uX2_readText_17, uX2_readText_20, uX2_readText_23, uX2_readText_25, uX2_readText_26, uX2_readText_29, uX2_readText_30, uX2_readText_31, uX2_readText_32, uX2_readText_35, uX2_readText_36, uX2_readText_39, uX2_readText_42, uX2_readText_43, uX2_readText_44, uX2_readText_45, uX2_readText_48, uX2_readText_50, uX2_readText_53, uX2_readText_54, uX2_readText_55, uX2_readText_58, uX2_readText_60, uX2_readText_61, uX2_readText_64, uX2_readText_65, uX2_readText_66, uX2_readText_67, uX2_readText_68, uX2_readText_71, uX2_readText_72, uX2_readText_73, uX2_readText_76, uX2_readText_79, uX2_readText_82, uX2_readText_84, uX2_readText_85, uX2_readText_88, uX2_readText_89, uX2_readText_11, c1', vX R.1, vX E2.1, E1, E2.g4, E2.g2, c2, r5, w3, Option.bind_some, Option.toList_some, Option.toList_none, List.cons_append, List.nil_append, if_true, if_false, and_self, and_true, true_and, or_self, or_true, true_or, false_or, or_false, i10, i00, i01, i11, Nat.reduceAdd, st1_0, st1_c, st1_1i, st1_1r, st1_1n, st1_1u, st1_1J, st2_0, st2_c, st2_1i, st2_1r, st2_1n, st2_1u, st2_1J]
          · simp only [uX2_readText_0, uX2_readText_1, uX2_readText_4, uX2_readText_7, uX2_readText_8, uX2_readText_9, uX2_readText_10, uX2_readText_12, uX2_readText_13, uX2_readText_16, uX2_readText_17, uX2_readText_20, uX2_readText_23, uX2_readText_25, uX2_readText_26, uX2_readText_29, uX2_readText_30, uX2_readText_31, uX2_readText_32, uX2_readText_35, uX2_readText_36, uX2_readText_39, uX2_readText_42, uX2_readText_43, uX2_readText_44, uX2_readText_45, uX2_readText_48, uX2_readText_50, uX2_readText_53, uX2_readText_54, uX2_readText_55, uX2_readText_58, uX2_readText_60, uX2_readText_61, uX2_readText_64, uX2_readText_65, uX2_readText_66, uX2_readText_67, uX2_readText_68, uX2_readText_71, uX2_readText_72, uX2_readText_73, uX2_readText_76, uX2_readText_79, uX2_readText_82, uX2_readText_84, uX2_readText_85, uX2_readText_88, uX2_readText_89, uX2_readText_11, c1, vX R.1, vX E2.1, E1, E2.g4, E2.g2, c2, r5, w3, Option.bind_some, Option.toList_some, Option.toList_none, List.cons_append, List.nil_append, if_true, if_false, and_self, and_true, true_and, or_self, or_true, true_or, false_or, or_false, i10, i00, i01, i11, Nat.reduceAdd, st1_0, st1_c, st1_1i, st1_1r, st1_1n, st1_1u, st1_1J, st2_0, st2_c, st2_1i, st2_1r, st2_1n, st2_1u, st2_1J]
theorem c_readText (R : RdC h r k i n d da 0 (fun _ => none) sz sl cm m) : ∃ h1, Dif [r, da] h h1 ∧ match txF (fun x => cm (60 * k + i + x)) n with
    | .inl q => run 30 (0, [some (.ref r), none], [], h) = some (some (.int (-100 - nI q)), h1) ∧ q ≤ n
    | .inr t2 => run 30 (0, [some (.ref r), none], [], h) = some (some (.int (tI t2)), h1) ∧ DrF h1 d da t2 ∧ tdOK t2 ∧ rO h1 r = some (2, rF k i n d n) := by
  have hm := R.2.2.2.2.1.2.2.1 k m R.2.2.2.2.2.1
  have hin := R.2.2.2.2.2.2.2.1
  unfold txF
  by_cases hn : 0 < n
  · rw [if_pos hn]
    obtain ⟨h1, D1, E⟩ := c_readText_loop 4 h (fun _ => none) 0 R rfl (by decide)
    have c1 : ¬ nI n = 0 := nI_ne (b := 0) (by omega) (by omega) (by omega)
    have e1 : nI (5 - 4) = 1 := rfl
    rw [e1] at E
    refine ⟨h1, D1, ?_⟩
    have hrun : run 30 (0, [some (.ref r), none], [], h) = run 30 (11, [some (.ref r), some (.int 1)], [], h) := by
      simp only [uX2_readText_0, uX2_readText_1, uX2_readText_4, uX2_readText_7, uX2_readText_8, uX2_readText_9, uX2_readText_10, uX2_readText_12, uX2_readText_13, uX2_readText_16, uX2_readText_17, uX2_readText_20, uX2_readText_23, uX2_readText_25, uX2_readText_26, uX2_readText_29, uX2_readText_30, uX2_readText_31, uX2_readText_32, uX2_readText_35, uX2_readText_36, uX2_readText_39, uX2_readText_42, uX2_readText_43, uX2_readText_44, uX2_readText_45, uX2_readText_48, uX2_readText_50, uX2_readText_53, uX2_readText_54, uX2_readText_55, uX2_readText_58, uX2_readText_60, uX2_readText_61, uX2_readText_64, uX2_readText_65, uX2_readText_66, uX2_readText_67, uX2_readText_68, uX2_readText_71, uX2_readText_72, uX2_readText_73, uX2_readText_76, uX2_readText_79, uX2_readText_82, uX2_readText_84, uX2_readText_85, uX2_readText_88, uX2_readText_89, R.g2, c1, Option.bind_some, Option.toList_some, Option.toList_none, List.cons_append, List.nil_append, if_true, if_false, and_self, and_true, true_and, or_self, or_true, true_or, false_or, or_false, i10, i00, i01, i11, Nat.reduceAdd, st1_0, st1_c, st1_1i, st1_1r, st1_1n, st1_1u, st1_1J, st2_0, st2_c, st2_1i, st2_1r, st2_1n, st2_1u, st2_1J]
    rw [hrun]
    exact E
  · rw [if_neg hn]
    have hn0 : n = 0 := by omega
    subst hn0
    have g2 := R.g2
    have z : nI 0 = 0 := rfl
    rw [z] at g2
    refine ⟨h, difR, ?_, R.2.1, R.2.2.1, R.1⟩
    have et : tI (fun _ => none) = 0 := by decide
    rw [et]
    simp only [uX2_readText_0, uX2_readText_1, uX2_readText_4, uX2_readText_7, uX2_readText_8, uX2_readText_9, uX2_readText_10, uX2_readText_12, uX2_readText_13, uX2_readText_16, uX2_readText_17, uX2_readText_20, uX2_readText_23, uX2_readText_25, uX2_readText_26, uX2_readText_29, uX2_readText_30, uX2_readText_31, uX2_readText_32, uX2_readText_35, uX2_readText_36, uX2_readText_39, uX2_readText_42, uX2_readText_43, uX2_readText_44, uX2_readText_45, uX2_readText_48, uX2_readText_50, uX2_readText_53, uX2_readText_54, uX2_readText_55, uX2_readText_58, uX2_readText_60, uX2_readText_61, uX2_readText_64, uX2_readText_65, uX2_readText_66, uX2_readText_67, uX2_readText_68, uX2_readText_71, uX2_readText_72, uX2_readText_73, uX2_readText_76, uX2_readText_79, uX2_readText_82, uX2_readText_84, uX2_readText_85, uX2_readText_88, uX2_readText_89, g2, Option.bind_some, Option.toList_some, Option.toList_none, List.cons_append, List.nil_append, if_true, if_false, and_self, and_true, true_and, or_self, or_true, true_or, false_or, or_false, i10, i00, i01, i11, Nat.reduceAdd, st1_0, st1_c, st1_1i, st1_1r, st1_1n, st1_1u, st1_1J, st2_0, st2_c, st2_1i, st2_1r, st2_1n, st2_1u, st2_1J]
end RC
