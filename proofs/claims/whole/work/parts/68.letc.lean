def LettersC (h : AH) (L : Nat) (lp ld ln : Nat → Nat) (lg : Nat → Nat → Nat) (la ma : Nat → Nat) : Prop := rR h 24 = some (2, 20, fun x => if x < L then some (la x) else none) ∧ (∀ x, x < L → rO h (la x) = some (3, [.int (nI (lp x)), .int (nI (ld x)), .ref (ma x)]) ∧ (∃ f, rI h (ma x) = some (ln x, f) ∧ ∀ j, j < ln x → f j = nI (lg x j)) ∧ 59 ≤ la x ∧ 59 ≤ ma x ∧ la x < h.1 ∧ ma x < h.1) ∧ L ≤ 20 ∧ (∀ x, lp x < 24) ∧ (∀ x, ld x < 100) ∧ (∀ x, ln x ≤ 12) ∧ (∀ x j, lg x j < 100) ∧ ∀ x, x < L → 1 ≤ ln x
theorem bookC_eq {h h1 : AH} {c w : Nat → Option Nat} {wt : Nat → Nat} (B : BookC h c w wt) (he : ∀ b, 5 ≤ b ∧ b ≤ 9 → h1.2.2 b = h.2.2 b) : BookC h1 c w wt := by
  unfold BookC
  rw [rO_of (he 5 (by omega)), rI_of (he 6 (by omega)), rI_of (he 7 (by omega)), rI_of (he 8 (by omega)), rI_of (he 9 (by omega))]
  exact B
theorem wd_code {h : AH} {c w : Nat → Option Nat} {wt : Nat → Nat} {x : Int32} (B : BookC h c w wt) : ∃ v, run 1 (0, [some (.ref 5), some (.int x)], [], h) = some (some (.int v), h) ∧ (isWd c x = true → ¬ v = -9 ∧ v = nI ((c x.toInt.toNat).getD 0)) ∧ (isWd c x = false → v = -9) := by
  by_cases hr : 0 ≤ x.toInt ∧ x.toInt ≤ 29
  · obtain ⟨u, q1, q2, q3⟩ := inR hr
    subst q3
    have hu : u < 30 := by omega
    refine ⟨oN (c u), c_codeK B hu, fun hw => ?_, fun hw => ?_⟩
    · obtain ⟨u2, g, w1, w2, w3⟩ := isWd_iff.mp hw
      have := (nI_eq (by omega) (by omega)).mp w2
      rw [nI_toInt (by omega), this]
      show ¬ oN (c u2) = -9 ∧ oN (c u2) = nI ((c u2).getD 0)
      rw [w3]
      have hg := B.2.2.2.2.2.1.1 u2 g w3
      exact ⟨ne9 (by omega), rfl⟩
    · cases hc : c u with
      | none => rfl
      | some g =>
        have : isWd c (nI u) = true := isWd_iff.mpr ⟨u, g, hu, rfl, hc⟩
        rw [this] at hw
        cases hw
  · refine ⟨-9, c_codeOf_o hr, fun hw => ?_, fun _ => rfl⟩
    obtain ⟨u2, g, w1, w2, w3⟩ := isWd_iff.mp hw
    rw [w2] at hr
    exact absurd (nI_rng (by omega) (by omega)) hr
section LC1
variable {h : AH} {c w : Nat → Option Nat} {wt : Nat → Nat} {sz : Nat → Option Nat} {sl : Nat → Nat} {cm : Nat → Int32} {k d da : Nat} {t : Nat → Option Nat}
theorem c_hasCodesOf_loop {i n m : Nat} (B : BookC h c w wt) (S : SheetC h sz sl cm) (hk : k < 4) (hs : sz k = some m) (hi : i + n ≤ m) : ∀ e x, x + e = n → run 8 (3, [some (.ref 5), some (.ref (28 + 2 * k)), some (.int (nI i)), some (.int (nI n)), some (.int (nI x))], [], h) = some (some (.int (if allB (fun j => isWd c (cm (60 * k + i + (x + j)))) e then 1 else 0)), h) := by
  have hm := S.2.2.1 k m hs
  obtain ⟨hS, _⟩ := S.2.1 k hk
  intro e
  induction e with
  | zero =>
    intro x hx
    have c1 : nI n ≤ nI x := nI_le (by omega) (by omega)
    show _ = some (some (Value.int (if true = true then 1 else 0)), h)
    rw [uX0_hasCodesOf_3]
    simp only [uX0_hasCodesOf_0, uX0_hasCodesOf_1, uX0_hasCodesOf_5, uX0_hasCodesOf_6, uX0_hasCodesOf_9, uX0_hasCodesOf_10, uX0_hasCodesOf_10N, uX0_hasCodesOf_11, uX0_hasCodesOf_12, uX0_hasCodesOf_14, uX0_hasCodesOf_15, uX0_hasCodesOf_18, uX0_hasCodesOf_21, uX0_hasCodesOf_23, uX0_hasCodesOf_26, uX0_hasCodesOf_27, uX0_hasCodesOf_28, uX0_hasCodesOf_31, uX0_hasCodesOf_34, uX0_hasCodesOf_35, c1, Option.bind_some, Option.toList_some, Option.toList_none, List.cons_append, List.nil_append, if_true, if_false, and_self, and_true, true_and, or_self, or_true, true_or, false_or, or_false, i10, i00, i01, i11, Nat.reduceAdd, st1_0, st1_c, st1_1i, st1_1r, st1_1n, st1_1u, st1_1J, st2_0, st2_c, st2_1i, st2_1r, st2_1n, st2_1u, st2_1J]
  | succ e ih =>
    intro x hx
    have ih1 := ih (x + 1) (by omega)
    have c1 : ¬ nI n ≤ nI x := nI_ge (by omega) (by omega)
    have r1 := c_atS S hk hs (show i + x < m by omega)
    rw [show 60 * k + (i + x) = 60 * k + i + x by omega] at r1
    obtain ⟨v, r2, y, z⟩ := wd_code (x := cm (60 * k + i + x)) B
    have es : allB (fun j => isWd c (cm (60 * k + i + (x + j)))) (e + 1) = (isWd c (cm (60 * k + i + x)) && allB (fun j => isWd c (cm (60 * k + i + (x + 1 + j)))) e) := by
      rw [allB_cons]
      show (isWd c (cm (60 * k + i + x)) && _) = _
      congr 2
      funext j
      congr 2
      omega
    rw [es, uX0_hasCodesOf_3]
    rcases bcase (isWd c (cm (60 * k + i + x))) with q | q
    · have c2 := (y q).1
      rw [q]
      simp only [uX0_hasCodesOf_0, uX0_hasCodesOf_1, uX0_hasCodesOf_5, uX0_hasCodesOf_6, uX0_hasCodesOf_9, uX0_hasCodesOf_10, uX0_hasCodesOf_10N, uX0_hasCodesOf_11, uX0_hasCodesOf_12, uX0_hasCodesOf_14, uX0_hasCodesOf_15, uX0_hasCodesOf_18, uX0_hasCodesOf_21, uX0_hasCodesOf_23, uX0_hasCodesOf_26, uX0_hasCodesOf_27, uX0_hasCodesOf_28, uX0_hasCodesOf_31, uX0_hasCodesOf_34, uX0_hasCodesOf_35, c1, nI_add, vX hS, vX B.1, r1, r2, c2, nI_1, Bool.true_and, Option.bind_some, Option.toList_some, Option.toList_none, List.cons_append, List.nil_append, if_true, if_false, and_self, and_true, true_and, or_self, or_true, true_or, false_or, or_false, i10, i00, i01, i11, Nat.reduceAdd, st1_0, st1_c, st1_1i, st1_1r, st1_1n, st1_1u, st1_1J, st2_0, st2_c, st2_1i, st2_1r, st2_1n, st2_1u, st2_1J]
      exact ih1
    · have c2 := z q
      rw [q]
      simp only [uX0_hasCodesOf_0, uX0_hasCodesOf_1, uX0_hasCodesOf_5, uX0_hasCodesOf_6, uX0_hasCodesOf_9, uX0_hasCodesOf_10, uX0_hasCodesOf_10N, uX0_hasCodesOf_11, uX0_hasCodesOf_12, uX0_hasCodesOf_14, uX0_hasCodesOf_15, uX0_hasCodesOf_18, uX0_hasCodesOf_21, uX0_hasCodesOf_23, uX0_hasCodesOf_26, uX0_hasCodesOf_27, uX0_hasCodesOf_28, uX0_hasCodesOf_31, uX0_hasCodesOf_34, uX0_hasCodesOf_35, c1, nI_add, vX hS, vX B.1, r1, r2, c2, nI_1, Bool.false_and, Bool.false_eq_true, Option.bind_some, Option.toList_some, Option.toList_none, List.cons_append, List.nil_append, if_true, if_false, and_self, and_true, true_and, or_self, or_true, true_or, false_or, or_false, i10, i00, i01, i11, Nat.reduceAdd, st1_0, st1_c, st1_1i, st1_1r, st1_1n, st1_1u, st1_1J, st2_0, st2_c, st2_1i, st2_1r, st2_1n, st2_1u, st2_1J]
theorem c_hasCodesOf {i n m : Nat} (B : BookC h c w wt) (S : SheetC h sz sl cm) (hk : k < 4) (hs : sz k = some m) (hi : i + n ≤ m) : run 8 (0, [some (.ref 5), some (.ref (28 + 2 * k)), some (.int (nI i)), some (.int (nI n)), none], [], h) = some (some (.int (if allB (fun j => isWd c (cm (60 * k + i + j))) n then 1 else 0)), h) := by
  have lp := c_hasCodesOf_loop B S hk hs hi n 0 (by omega)
  have e : (fun j => isWd c (cm (60 * k + i + (0 + j)))) = fun j => isWd c (cm (60 * k + i + j)) := by
    funext j
    rw [Nat.zero_add]
  rw [e] at lp
  simp only [uX0_hasCodesOf_0, uX0_hasCodesOf_1, uX0_hasCodesOf_5, uX0_hasCodesOf_6, uX0_hasCodesOf_9, uX0_hasCodesOf_10, uX0_hasCodesOf_10N, uX0_hasCodesOf_11, uX0_hasCodesOf_12, uX0_hasCodesOf_14, uX0_hasCodesOf_15, uX0_hasCodesOf_18, uX0_hasCodesOf_21, uX0_hasCodesOf_23, uX0_hasCodesOf_26, uX0_hasCodesOf_27, uX0_hasCodesOf_28, uX0_hasCodesOf_31, uX0_hasCodesOf_34, uX0_hasCodesOf_35, Option.bind_some, Option.toList_some, Option.toList_none, List.cons_append, List.nil_append, if_true, if_false, and_self, and_true, true_and, or_self, or_true, true_or, false_or, or_false, i10, i00, i01, i11, Nat.reduceAdd, st1_0, st1_c, st1_1i, st1_1r, st1_1n, st1_1u, st1_1J, st2_0, st2_c, st2_1i, st2_1r, st2_1n, st2_1u, st2_1J]
  exact lp
theorem c_sizeAhead {n : Nat} (D : DrF h d da t) (ht : tdOK t) (hn : n ≤ 60) : run 24 (0, [some (.ref d), some (.int (nI n)), none, none, none], [], h) = some (some (.int (nI (layN (t 0) (t 1) n))), h) := by
  have a1 := D.choose_spec.1
  have r1 := c_isTold D ht (l := 0) (by decide)
  rw [show nI 0 = 0 from rfl] at r1
  have r2 := c_multiple D
  have key : ∀ s, s ≤ 61 → run 24 (16, [some (.ref d), some (.int (nI n)), some (.int (nI s)), none, none], [], h) = some (some (.int (nI (s + padN (t 1) s))), h) := by
    intro s hs
    cases hl : t 1 with
    | none =>
      rw [hl, oN_none] at r2
      have c1 : (-9 : Int32) ≤ 0 := by decide
      simp only [uX1_sizeAheadOfCheck_0, uX1_sizeAheadOfCheck_1, uX1_sizeAheadOfCheck_2, uX1_sizeAheadOfCheck_5, uX1_sizeAheadOfCheck_8, uX1_sizeAheadOfCheck_9, uX1_sizeAheadOfCheck_10, uX1_sizeAheadOfCheck_11, uX1_sizeAheadOfCheck_14, uX1_sizeAheadOfCheck_15, uX1_sizeAheadOfCheck_16, uX1_sizeAheadOfCheck_17, uX1_sizeAheadOfCheck_20, uX1_sizeAheadOfCheck_21, uX1_sizeAheadOfCheck_22, uX1_sizeAheadOfCheck_25, uX1_sizeAheadOfCheck_26, uX1_sizeAheadOfCheck_27, uX1_sizeAheadOfCheck_28, uX1_sizeAheadOfCheck_31, uX1_sizeAheadOfCheck_32, uX1_sizeAheadOfCheck_34, uX1_sizeAheadOfCheck_36, uX1_sizeAheadOfCheck_39, uX1_sizeAheadOfCheck_40, uX1_sizeAheadOfCheck_43, uX1_sizeAheadOfCheck_44, uX1_sizeAheadOfCheck_45, uX1_sizeAheadOfCheck_46, uX1_sizeAheadOfCheck_48, uX1_sizeAheadOfCheck_49, vX a1, r2, c1, padN, Nat.add_zero, Option.bind_some, Option.toList_some, Option.toList_none, List.cons_append, List.nil_append, if_true, if_false, and_self, and_true, true_and, or_self, or_true, true_or, false_or, or_false, i10, i00, i01, i11, Nat.reduceAdd, st1_0, st1_c, st1_1i, st1_1r, st1_1n, st1_1u, st1_1J, st2_0, st2_c, st2_1i, st2_1r, st2_1n, st2_1u, st2_1J]
    | some l =>
      have hlb := ht.2.1 l hl
      rw [hl, oN_some] at r2
      have c1 : ¬ nI l ≤ 0 := nI_nle (by omega) (by omega)
      have z : ¬ nI l = 0 := nI_ne (b := 0) (by omega) (by omega) (by omega)
      have er : nI s - nI s / nI l * nI l = nI (s % l) := pk_rem (by omega) (by omega) (by omega)
      have hml : s % l < l := Nat.mod_lt _ (by omega)
      by_cases q : s % l = 0
      · have e0 : padN (some l) s = 0 := if_pos q
        have z2 : nI (s % l) = 0 := by rw [q]; rfl
        rw [e0, Nat.add_zero]
        simp only [uX1_sizeAheadOfCheck_0, uX1_sizeAheadOfCheck_1, uX1_sizeAheadOfCheck_2, uX1_sizeAheadOfCheck_5, uX1_sizeAheadOfCheck_8, uX1_sizeAheadOfCheck_9, uX1_sizeAheadOfCheck_10, uX1_sizeAheadOfCheck_11, uX1_sizeAheadOfCheck_14, uX1_sizeAheadOfCheck_15, uX1_sizeAheadOfCheck_16, uX1_sizeAheadOfCheck_17, uX1_sizeAheadOfCheck_20, uX1_sizeAheadOfCheck_21, uX1_sizeAheadOfCheck_22, uX1_sizeAheadOfCheck_25, uX1_sizeAheadOfCheck_26, uX1_sizeAheadOfCheck_27, uX1_sizeAheadOfCheck_28, uX1_sizeAheadOfCheck_31, uX1_sizeAheadOfCheck_32, uX1_sizeAheadOfCheck_34, uX1_sizeAheadOfCheck_36, uX1_sizeAheadOfCheck_39, uX1_sizeAheadOfCheck_40, uX1_sizeAheadOfCheck_43, uX1_sizeAheadOfCheck_44, uX1_sizeAheadOfCheck_45, uX1_sizeAheadOfCheck_46, uX1_sizeAheadOfCheck_48, uX1_sizeAheadOfCheck_49, vX a1, r2, c1, z, er, z2, Option.bind_some, Option.toList_some, Option.toList_none, List.cons_append, List.nil_append, if_true, if_false, and_self, and_true, true_and, or_self, or_true, true_or, false_or, or_false, i10, i00, i01, i11, Nat.reduceAdd, st1_0, st1_c, st1_1i, st1_1r, st1_1n, st1_1u, st1_1J, st2_0, st2_c, st2_1i, st2_1r, st2_1n, st2_1u, st2_1J]
      · have e0 : padN (some l) s = l - s % l := if_neg q
        have z2 : ¬ nI (s % l) = 0 := nI_ne (b := 0) q (by omega) (by omega)
        have ex : nI (s + l) - nI (s % l) = nI (s + (l - s % l)) := by
          rw [← Int32.toInt_inj, nI_subI (by omega) (by omega), nI_toInt (by omega)]
          omega
        rw [e0]
        simp only [uX1_sizeAheadOfCheck_0, uX1_sizeAheadOfCheck_1, uX1_sizeAheadOfCheck_2, uX1_sizeAheadOfCheck_5, uX1_sizeAheadOfCheck_8, uX1_sizeAheadOfCheck_9, uX1_sizeAheadOfCheck_10, uX1_sizeAheadOfCheck_11, uX1_sizeAheadOfCheck_14, uX1_sizeAheadOfCheck_15, uX1_sizeAheadOfCheck_16, uX1_sizeAheadOfCheck_17, uX1_sizeAheadOfCheck_20, uX1_sizeAheadOfCheck_21, uX1_sizeAheadOfCheck_22, uX1_sizeAheadOfCheck_25, uX1_sizeAheadOfCheck_26, uX1_sizeAheadOfCheck_27, uX1_sizeAheadOfCheck_28, uX1_sizeAheadOfCheck_31, uX1_sizeAheadOfCheck_32, uX1_sizeAheadOfCheck_34, uX1_sizeAheadOfCheck_36, uX1_sizeAheadOfCheck_39, uX1_sizeAheadOfCheck_40, uX1_sizeAheadOfCheck_43, uX1_sizeAheadOfCheck_44, uX1_sizeAheadOfCheck_45, uX1_sizeAheadOfCheck_46, uX1_sizeAheadOfCheck_48, uX1_sizeAheadOfCheck_49, vX a1, r2, c1, z, er, z2, nI_add, ex, Option.bind_some, Option.toList_some, Option.toList_none, List.cons_append, List.nil_append, if_true, if_false, and_self, and_true, true_and, or_self, or_true, true_or, false_or, or_false, i10, i00, i01, i11, Nat.reduceAdd, st1_0, st1_c, st1_1i, st1_1r, st1_1n, st1_1u, st1_1J, st2_0, st2_c, st2_1i, st2_1r, st2_1n, st2_1u, st2_1J]
  have b1 : bI true = 1 := rfl
  have b0 : bI false = 0 := rfl
  cases hb : t 0 with
  | none =>
    rw [hb] at r1
    have r1 : run 17 (0, [some (.ref d), some (.int 0)], [], h) = some (some (.int 0), h) := r1
    have eo : offB none = 0 := rfl
    have k1 := key n (by omega)
    unfold layN
    rw [eo, Nat.zero_add]
    simp only [uX1_sizeAheadOfCheck_0, uX1_sizeAheadOfCheck_1, uX1_sizeAheadOfCheck_2, uX1_sizeAheadOfCheck_5, uX1_sizeAheadOfCheck_8, uX1_sizeAheadOfCheck_9, uX1_sizeAheadOfCheck_10, uX1_sizeAheadOfCheck_11, uX1_sizeAheadOfCheck_14, uX1_sizeAheadOfCheck_15, uX1_sizeAheadOfCheck_17, uX1_sizeAheadOfCheck_20, uX1_sizeAheadOfCheck_21, uX1_sizeAheadOfCheck_22, uX1_sizeAheadOfCheck_25, uX1_sizeAheadOfCheck_26, uX1_sizeAheadOfCheck_27, uX1_sizeAheadOfCheck_28, uX1_sizeAheadOfCheck_31, uX1_sizeAheadOfCheck_32, uX1_sizeAheadOfCheck_34, uX1_sizeAheadOfCheck_36, uX1_sizeAheadOfCheck_39, uX1_sizeAheadOfCheck_40, uX1_sizeAheadOfCheck_43, uX1_sizeAheadOfCheck_44, uX1_sizeAheadOfCheck_45, uX1_sizeAheadOfCheck_46, uX1_sizeAheadOfCheck_48, uX1_sizeAheadOfCheck_49, vX a1, r1, Option.bind_some, Option.toList_some, Option.toList_none, List.cons_append, List.nil_append, if_true, if_false, and_self, and_true, true_and, or_self, or_true, true_or, false_or, or_false, i10, i00, i01, i11, Nat.reduceAdd, st1_0, st1_c, st1_1i, st1_1r, st1_1n, st1_1u, st1_1J, st2_0, st2_c, st2_1i, st2_1r, st2_1n, st2_1u, st2_1J]
    exact k1
  | some v =>
    rw [hb] at r1
    have r1 : run 17 (0, [some (.ref d), some (.int 0)], [], h) = some (some (.int 1), h) := r1
    have eo : offB (some v) = 1 := rfl
    have k1 := key (1 + n) (by omega)
    unfold layN
    rw [eo]
    simp only [uX1_sizeAheadOfCheck_0, uX1_sizeAheadOfCheck_1, uX1_sizeAheadOfCheck_2, uX1_sizeAheadOfCheck_5, uX1_sizeAheadOfCheck_8, uX1_sizeAheadOfCheck_9, uX1_sizeAheadOfCheck_10, uX1_sizeAheadOfCheck_11, uX1_sizeAheadOfCheck_14, uX1_sizeAheadOfCheck_15, uX1_sizeAheadOfCheck_17, uX1_sizeAheadOfCheck_20, uX1_sizeAheadOfCheck_21, uX1_sizeAheadOfCheck_22, uX1_sizeAheadOfCheck_25, uX1_sizeAheadOfCheck_26, uX1_sizeAheadOfCheck_27, uX1_sizeAheadOfCheck_28, uX1_sizeAheadOfCheck_31, uX1_sizeAheadOfCheck_32, uX1_sizeAheadOfCheck_34, uX1_sizeAheadOfCheck_36, uX1_sizeAheadOfCheck_39, uX1_sizeAheadOfCheck_40, uX1_sizeAheadOfCheck_43, uX1_sizeAheadOfCheck_44, uX1_sizeAheadOfCheck_45, uX1_sizeAheadOfCheck_46, uX1_sizeAheadOfCheck_48, uX1_sizeAheadOfCheck_49, vX a1, r1, nI_1, Option.bind_some, Option.toList_some, Option.toList_none, List.cons_append, List.nil_append, if_true, if_false, and_self, and_true, true_and, or_self, or_true, true_or, false_or, or_false, i10, i00, i01, i11, Nat.reduceAdd, st1_0, st1_c, st1_1i, st1_1r, st1_1n, st1_1u, st1_1J, st2_0, st2_c, st2_1i, st2_1r, st2_1n, st2_1u, st2_1J]
    rw [show n + 1 = 1 + n by omega]
    exact k1
theorem layN_le {b l : Option Nat} {n : Nat} (hl : ∀ g, l = some g → 1 ≤ g ∧ g ≤ 6) (hn : n ≤ 60) : layN b l n ≤ 66 := by
  unfold layN
  have h1 : offB b ≤ 1 := by unfold offB; split <;> omega
  cases l with
  | none => show _ + _ + 0 ≤ _; omega
  | some g =>
    have := (padN_p (s := offB b + n) (hl g rfl).1 (hl g rfl).2).2.2
    omega
theorem c_sizeLaid {n : Nat} (D : DrF h d da t) (ht : tdOK t) (hn : n ≤ 60) : run 23 (0, [some (.ref d), some (.int (nI n)), none], [], h) = some (some (.int (nI (layT (t 0) (t 1) (t 2).isSome n))), h) := by
  have a1 := D.choose_spec.1
  have r1 := c_sizeAhead D ht hn
  have r2 := c_hasCheck D ht
  unfold layT
  have b1 : bI true = 1 := rfl
  have b0 : bI false = 0 := rfl
  rcases bcase (t 2).isSome with q | q
  · rw [q, b1] at r2
    rw [q, if_pos rfl]
    simp only [uX1_sizeLaid_0, uX1_sizeLaid_1, uX1_sizeLaid_2, uX1_sizeLaid_5, uX1_sizeLaid_6, uX1_sizeLaid_7, uX1_sizeLaid_10, uX1_sizeLaid_13, uX1_sizeLaid_14, uX1_sizeLaid_15, uX1_sizeLaid_16, uX1_sizeLaid_19, uX1_sizeLaid_20, vX a1, r1, r2, nI_1, Option.bind_some, Option.toList_some, Option.toList_none, List.cons_append, List.nil_append, if_true, if_false, and_self, and_true, true_and, or_self, or_true, true_or, false_or, or_false, i10, i00, i01, i11, Nat.reduceAdd, st1_0, st1_c, st1_1i, st1_1r, st1_1n, st1_1u, st1_1J, st2_0, st2_c, st2_1i, st2_1r, st2_1n, st2_1u, st2_1J]
  · rw [q, b0] at r2
    rw [q, if_neg (by decide), Nat.add_zero]
    simp only [uX1_sizeLaid_0, uX1_sizeLaid_1, uX1_sizeLaid_2, uX1_sizeLaid_5, uX1_sizeLaid_6, uX1_sizeLaid_7, uX1_sizeLaid_10, uX1_sizeLaid_13, uX1_sizeLaid_14, uX1_sizeLaid_15, uX1_sizeLaid_16, uX1_sizeLaid_19, uX1_sizeLaid_20, vX a1, r1, r2, Option.bind_some, Option.toList_some, Option.toList_none, List.cons_append, List.nil_append, if_true, if_false, and_self, and_true, true_and, or_self, or_true, true_or, false_or, or_false, i10, i00, i01, i11, Nat.reduceAdd, st1_0, st1_c, st1_1i, st1_1r, st1_1n, st1_1u, st1_1J, st2_0, st2_c, st2_1i, st2_1r, st2_1n, st2_1u, st2_1J]
theorem c_inCheck {g j : Nat} : run 27 (0, [some (.int (nI g)), some (.int (nI j))], [], h) = some (some (.int (nI (g * (j + 2)))), h) := by
  have e : nI j + 2 = nI (j + 2) := nI_add j 2
  simp only [uX1_inCheck_0, uX1_inCheck_1, uX1_inCheck_2, uX1_inCheck_3, uX1_inCheck_4, uX1_inCheck_5, e, pk_mul, Option.bind_some, Option.toList_some, Option.toList_none, List.cons_append, List.nil_append, if_true, if_false, and_self, and_true, true_and, or_self, or_true, true_or, false_or, or_false, i10, i00, i01, i11, Nat.reduceAdd, st1_0, st1_c, st1_1i, st1_1r, st1_1n, st1_1u, st1_1J, st2_0, st2_c, st2_1i, st2_1r, st2_1n, st2_1u, st2_1J]
theorem c_checkAll {a m : Nat} {W : Nat → Nat} {f : Nat → Int32} (hf : rI h a = some (m, f)) (hW : ∀ j, W j < 100) (he : ∀ j, j < m - 1 → f j = nI (W j)) (hm : 1 ≤ m ∧ m ≤ 80) : run 26 (0, [some (.ref a), none, none], [], h) = some (some (.int (nI (chS W (m - 1) % 100))), h) := by
  have em : nI m - 1 = nI (m - 1) := by
    rw [show m = m - 1 + 1 by omega, nI_s1]
    rfl
  have lp := loopN (F := fun j => run 26 (4, [some (.ref a), some (.int (nI (chS W j))), some (.int (nI j))], [], h)) (m - 1) (fun j hj => by
    have c1 : ¬ nI (m - 1) ≤ nI j := nI_ge hj (by omega)
    have g1 : gi h a (nI j) = some (nI (W j)) := by rw [gi_nI hf (by omega) (by omega), he j hj]
    have e1 : nI (chS W j) + nI (W j * (j + 2)) = nI (chS W (j + 1)) := by
      rw [nI_add]
      rfl
    show run 26 (4, _) = run 26 (4, _)
    rw [uX1_checkOfAllButLast_4]
    simp only [uX1_checkOfAllButLast_0, uX1_checkOfAllButLast_1, uX1_checkOfAllButLast_2, uX1_checkOfAllButLast_3, uX1_checkOfAllButLast_5, uX1_checkOfAllButLast_6, uX1_checkOfAllButLast_7, uX1_checkOfAllButLast_8, uX1_checkOfAllButLast_9, uX1_checkOfAllButLast_12, uX1_checkOfAllButLast_13, uX1_checkOfAllButLast_14, uX1_checkOfAllButLast_15, uX1_checkOfAllButLast_16, uX1_checkOfAllButLast_17, uX1_checkOfAllButLast_20, uX1_checkOfAllButLast_21, uX1_checkOfAllButLast_22, uX1_checkOfAllButLast_25, uX1_checkOfAllButLast_28, uX1_checkOfAllButLast_29, uX1_checkOfAllButLast_31, uX1_checkOfAllButLast_32, gl_nI hf, em, c1, g1, c_inCheck, e1, nI_1, Option.bind_some, Option.toList_some, Option.toList_none, List.cons_append, List.nil_append, if_true, if_false, and_self, and_true, true_and, or_self, or_true, true_or, false_or, or_false, i10, i00, i01, i11, Nat.reduceAdd, st1_0, st1_c, st1_1i, st1_1r, st1_1n, st1_1u, st1_1J, st2_0, st2_c, st2_1i, st2_1r, st2_1n, st2_1u, st2_1J])
  have c1 : nI (m - 1) ≤ nI (m - 1) := nI_le (Nat.le_refl _) (by omega)
  have hl := chS_le hW (m - 1) (by omega)
  have e1 := pk_rem100 (n := chS W (m - 1)) (by omega)
  have z : ¬ (100 : Int32) = 0 := by decide
  simp only [uX1_checkOfAllButLast_0, uX1_checkOfAllButLast_1, uX1_checkOfAllButLast_2, uX1_checkOfAllButLast_3, uX1_checkOfAllButLast_5, uX1_checkOfAllButLast_6, uX1_checkOfAllButLast_7, uX1_checkOfAllButLast_8, uX1_checkOfAllButLast_9, uX1_checkOfAllButLast_12, uX1_checkOfAllButLast_13, uX1_checkOfAllButLast_14, uX1_checkOfAllButLast_15, uX1_checkOfAllButLast_16, uX1_checkOfAllButLast_17, uX1_checkOfAllButLast_20, uX1_checkOfAllButLast_21, uX1_checkOfAllButLast_22, uX1_checkOfAllButLast_25, uX1_checkOfAllButLast_28, uX1_checkOfAllButLast_29, uX1_checkOfAllButLast_31, uX1_checkOfAllButLast_32, Option.bind_some, Option.toList_some, Option.toList_none, List.cons_append, List.nil_append, if_true, if_false, and_self, and_true, true_and, or_self, or_true, true_or, false_or, or_false, i10, i00, i01, i11, Nat.reduceAdd, st1_0, st1_c, st1_1i, st1_1r, st1_1n, st1_1u, st1_1J, st2_0, st2_c, st2_1i, st2_1r, st2_1n, st2_1u, st2_1J]
  refine Eq.trans lp ?_
  show run 26 (4, _) = _
  rw [uX1_checkOfAllButLast_4]
  simp only [uX1_checkOfAllButLast_0, uX1_checkOfAllButLast_1, uX1_checkOfAllButLast_2, uX1_checkOfAllButLast_3, uX1_checkOfAllButLast_5, uX1_checkOfAllButLast_6, uX1_checkOfAllButLast_7, uX1_checkOfAllButLast_8, uX1_checkOfAllButLast_9, uX1_checkOfAllButLast_12, uX1_checkOfAllButLast_13, uX1_checkOfAllButLast_14, uX1_checkOfAllButLast_15, uX1_checkOfAllButLast_16, uX1_checkOfAllButLast_17, uX1_checkOfAllButLast_20, uX1_checkOfAllButLast_21, uX1_checkOfAllButLast_22, uX1_checkOfAllButLast_25, uX1_checkOfAllButLast_28, uX1_checkOfAllButLast_29, uX1_checkOfAllButLast_31, uX1_checkOfAllButLast_32, gl_nI hf, em, c1, z, e1, Option.bind_some, Option.toList_some, Option.toList_none, List.cons_append, List.nil_append, if_true, if_false, and_self, and_true, true_and, or_self, or_true, true_or, false_or, or_false, i10, i00, i01, i11, Nat.reduceAdd, st1_0, st1_c, st1_1i, st1_1r, st1_1n, st1_1u, st1_1J, st2_0, st2_c, st2_1i, st2_1r, st2_1n, st2_1u, st2_1J]
def wk (b : Option Nat) (c : Nat → Option Nat) (T : Nat → Int32) (n k j : Nat) : Nat := if j < offB b + k then wdF b c T n j else 0
theorem c_lay {a i n m ms : Nat} (D : DrF h d da t) (ht : tdOK t) (B : BookC h c w wt) (S : SheetC h sz sl cm) (hk : k < 4) (hs : sz k = some ms) (hi : i + n ≤ ms) (hw : allB (fun j => isWd c (cm (60 * k + i + j))) n = true) (ha : 59 ≤ a) (had : a ≠ d) (hada : a ≠ da) (hm : m = layT (t 0) (t 1) (t 2).isSome n) (hm1 : 1 ≤ m ∧ m ≤ 80) (hf : rI h a = some (m, fun _ => 0)) : ∃ h1 f, run 25 (0, [some (.ref d), some (.ref a), some (.ref 5), some (.ref (28 + 2 * k)), some (.int (nI i)), some (.int (nI n)), none, none], [], h) = some (none, h1) ∧ Dif [a] h h1 ∧ rI h1 a = some (m, f) ∧ ∀ j, j < m → f j = nI (layF (t 0) (t 1) c (fun x => cm (60 * k + i + x)) n j) := by
  have hms := S.2.2.1 k ms hs
  have a1 := D.choose_spec.1
  have r1 := c_isTold D ht (l := 0) (by decide)
  rw [show nI 0 = 0 from rfl] at r1
  have hlen : offB (t 0) + n ≤ m := by rw [hm]; unfold layT layN; omega
  have hob : offB (t 0) ≤ 1 := by unfold offB; split <;> omega
  have hWlt : ∀ j, wdF (t 0) c (fun x => cm (60 * k + i + x)) n j < 100 := wdF_lt (fun g hg => ht.1 g hg) B.2.2.2.2.2.1.1
  -- first place
  have st1 : ∃ h1 f, run 25 (0, [some (.ref d), some (.ref a), some (.ref 5), some (.ref (28 + 2 * k)), some (.int (nI i)), some (.int (nI n)), none, none], [], h) = run 25 (32, [some (.ref d), some (.ref a), some (.ref 5), some (.ref (28 + 2 * k)), some (.int (nI i)), some (.int (nI n)), some (.int (nI (offB (t 0) + 0))), some (.int (nI 0))], [], h1) ∧ Dif [a] h h1 ∧ rI h1 a = some (m, f) ∧ ∀ j, f j = nI (wk (t 0) c (fun x => cm (60 * k + i + x)) n 0 j) := by
    have c1 : ¬ nI m ≤ 0 := nI_nle (by omega) (by omega)
    cases hb : t 0 with
    | none =>
      rw [hb] at r1
      have r1 : run 17 (0, [some (.ref d), some (.int 0)], [], h) = some (some (.int 0), h) := r1
      refine ⟨h, _, ?_, difR, hf, fun j => ?_⟩
      · simp only [uX1_lay_0, uX1_lay_1, uX1_lay_3, uX1_lay_4, uX1_lay_5, uX1_lay_8, uX1_lay_11, uX1_lay_13, uX1_lay_13N, uX1_lay_14, uX1_lay_15, uX1_lay_18, uX1_lay_18N, uX1_lay_19, uX1_lay_21, uX1_lay_22, uX1_lay_25, uX1_lay_26, uX1_lay_29, uX1_lay_30, uX1_lay_34, uX1_lay_36, uX1_lay_39, uX1_lay_41, uX1_lay_41N, uX1_lay_42, uX1_lay_43, uX1_lay_46, uX1_lay_46N, uX1_lay_47, uX1_lay_49, uX1_lay_49N, uX1_lay_50, uX1_lay_50N, uX1_lay_51, uX1_lay_53, uX1_lay_55, uX1_lay_56, uX1_lay_59, uX1_lay_62, uX1_lay_63, uX1_lay_66, uX1_lay_69, uX1_lay_72, uX1_lay_73, uX1_lay_76, uX1_lay_79, uX1_lay_79N, uX1_lay_80, uX1_lay_81, uX1_lay_84, uX1_lay_84N, uX1_lay_85, uX1_lay_85N, uX1_lay_86, uX1_lay_87, uX1_lay_88, uX1_lay_89, uX1_lay_89N, uX1_lay_90, uX1_lay_93, uX1_lay_94, vX a1, r1, Option.bind_some, Option.toList_some, Option.toList_none, List.cons_append, List.nil_append, if_true, if_false, and_self, and_true, true_and, or_self, or_true, true_or, false_or, or_false, i10, i00, i01, i11, Nat.reduceAdd, st1_0, st1_c, st1_1i, st1_1r, st1_1n, st1_1u, st1_1J, st2_0, st2_c, st2_1i, st2_1r, st2_1n, st2_1u, st2_1J]
        rfl
      · show 0 = nI (wk none c _ n 0 j)
        unfold wk
        rw [show offB none + 0 = 0 from rfl, if_neg (by omega)]
        rfl
    | some v =>
      rw [hb] at r1
      have r1 : run 17 (0, [some (.ref d), some (.int 0)], [], h) = some (some (.int 1), h) := r1
      have r2 := c_beginning D
      rw [hb, oN_some] at r2
      have p1 : pi h a 0 (nI v) = some (si h a 0 (nI v)) := pi_si (k := 0) (by omega) hf (by omega) (by omega)
      refine ⟨_, _, ?_, difSi (a := a) (k := 0) (x := nI v) (by simp), rI_siA hf, fun j => ?_⟩
      · simp only [uX1_lay_0, uX1_lay_1, uX1_lay_3, uX1_lay_4, uX1_lay_5, uX1_lay_8, uX1_lay_11, uX1_lay_13, uX1_lay_13N, uX1_lay_14, uX1_lay_15, uX1_lay_18, uX1_lay_18N, uX1_lay_19, uX1_lay_21, uX1_lay_22, uX1_lay_25, uX1_lay_26, uX1_lay_29, uX1_lay_30, uX1_lay_34, uX1_lay_36, uX1_lay_39, uX1_lay_41, uX1_lay_41N, uX1_lay_42, uX1_lay_43, uX1_lay_46, uX1_lay_46N, uX1_lay_47, uX1_lay_49, uX1_lay_49N, uX1_lay_50, uX1_lay_50N, uX1_lay_51, uX1_lay_53, uX1_lay_55, uX1_lay_56, uX1_lay_59, uX1_lay_62, uX1_lay_63, uX1_lay_66, uX1_lay_69, uX1_lay_72, uX1_lay_73, uX1_lay_76, uX1_lay_79, uX1_lay_79N, uX1_lay_80, uX1_lay_81, uX1_lay_84, uX1_lay_84N, uX1_lay_85, uX1_lay_85N, uX1_lay_86, uX1_lay_87, uX1_lay_88, uX1_lay_89, uX1_lay_89N, uX1_lay_90, uX1_lay_93, uX1_lay_94, vX a1, r1, gl_nI hf, c1, r2, p1, Option.bind_some, Option.toList_some, Option.toList_none, List.cons_append, List.nil_append, if_true, if_false, and_self, and_true, true_and, or_self, or_true, true_or, false_or, or_false, i10, i00, i01, i11, Nat.reduceAdd, st1_0, st1_c, st1_1i, st1_1r, st1_1n, st1_1u, st1_1J, st2_0, st2_c, st2_1i, st2_1r, st2_1n, st2_1u, st2_1J]
        rfl
      · rw [updP]
        unfold wk
        rw [show offB (some v) + 0 = 1 from rfl]
        by_cases q : j = 0
        · rw [if_pos q, if_pos (by omega)]
          unfold wdF
          rw [if_pos (by show j < 1; omega)]
          rfl
        · rw [if_neg q, if_neg (by omega)]
          rfl
  obtain ⟨h1, f1, e1, D1, b1, y1⟩ := st1
  obtain ⟨h2, lp, D2, f2, b2, y2⟩ := loopE (F := fun x h1 => run 25 (32, [some (.ref d), some (.ref a), some (.ref 5), some (.ref (28 + 2 * k)), some (.int (nI i)), some (.int (nI n)), some (.int (nI (offB (t 0) + x))), some (.int (nI x))], [], h1)) (I := fun x h1 => Dif [a] h h1 ∧ ∃ f, rI h1 a = some (m, f) ∧ ∀ j, f j = nI (wk (t 0) c (fun x => cm (60 * k + i + x)) n x j)) n h1 ⟨D1, f1, b1, y1⟩ (fun x hx hxn I => by
    obtain ⟨Dx, fx, bx, yx⟩ := I
    have Sx : SheetC hx sz sl cm := sheetC_eq S (fun b hb => Dx.1 b (by simp only [List.mem_singleton]; omega))
    have Bx : BookC hx c w wt := bookC_eq B (fun b hb => Dx.1 b (by simp only [List.mem_singleton]; omega))
    obtain ⟨hS, _⟩ := Sx.2.1 k hk
    have r3 := c_atS Sx hk hs (show i + x < ms by omega)
    rw [show 60 * k + (i + x) = 60 * k + i + x by omega] at r3
    obtain ⟨v, r4, y4, _⟩ := wd_code (x := cm (60 * k + i + x)) Bx
    have y5 := (y4 (allB_iff.mp hw x hxn)).2
    have c1 : ¬ nI n ≤ nI x := nI_ge hxn (by omega)
    have c2 : ¬ nI m ≤ nI (offB (t 0) + x) := nI_ge (by omega) (by omega)
    have p1 : pi hx a (nI (offB (t 0) + x)) v = some (si hx a (offB (t 0) + x) v) := pi_si (by omega) bx (by omega) (by omega)
    refine ⟨_, ?_, difT Dx (difSi (a := a) (k := offB (t 0) + x) (x := v) (by simp)), _, rI_siA bx, fun j => ?_⟩
    · show run 25 (32, _) = run 25 (32, _)
      rw [uX1_lay_32]
      simp only [uX1_lay_0, uX1_lay_1, uX1_lay_3, uX1_lay_4, uX1_lay_5, uX1_lay_8, uX1_lay_11, uX1_lay_13, uX1_lay_13N, uX1_lay_14, uX1_lay_15, uX1_lay_18, uX1_lay_18N, uX1_lay_19, uX1_lay_21, uX1_lay_22, uX1_lay_25, uX1_lay_26, uX1_lay_29, uX1_lay_30, uX1_lay_34, uX1_lay_36, uX1_lay_39, uX1_lay_41, uX1_lay_41N, uX1_lay_42, uX1_lay_43, uX1_lay_46, uX1_lay_46N, uX1_lay_47, uX1_lay_49, uX1_lay_49N, uX1_lay_50, uX1_lay_50N, uX1_lay_51, uX1_lay_53, uX1_lay_55, uX1_lay_56, uX1_lay_59, uX1_lay_62, uX1_lay_63, uX1_lay_66, uX1_lay_69, uX1_lay_72, uX1_lay_73, uX1_lay_76, uX1_lay_79, uX1_lay_79N, uX1_lay_80, uX1_lay_81, uX1_lay_84, uX1_lay_84N, uX1_lay_85, uX1_lay_85N, uX1_lay_86, uX1_lay_87, uX1_lay_88, uX1_lay_89, uX1_lay_89N, uX1_lay_90, uX1_lay_93, uX1_lay_94, c1, gl_nI bx, c2, nI_add, vX hS, vX Bx.1, r3, r4, p1, nI_1, Option.bind_some, Option.toList_some, Option.toList_none, List.cons_append, List.nil_append, if_true, if_false, and_self, and_true, true_and, or_self, or_true, true_or, false_or, or_false, i10, i00, i01, i11, Nat.reduceAdd, st1_0, st1_c, st1_1i, st1_1r, st1_1n, st1_1u, st1_1J, st2_0, st2_c, st2_1i, st2_1r, st2_1n, st2_1u, st2_1J]
      rfl
    · rw [updP]
      unfold wk
      by_cases q : j = offB (t 0) + x
      · rw [if_pos q, if_pos (by omega), y5]
        unfold wdF
        rw [if_neg (by omega), if_pos (by omega), show j - offB (t 0) = x by omega]
      · rw [if_neg q, yx j]
        unfold wk
        by_cases q2 : j < offB (t 0) + x
        · rw [if_pos q2, if_pos (by omega)]
        · rw [if_neg q2, if_neg (by omega)])
  have y3 : ∀ j, f2 j = nI (wdF (t 0) c (fun x => cm (60 * k + i + x)) n j) := by
    intro j
    rw [y2 j]
    unfold wk
    by_cases q : j < offB (t 0) + n
    · rw [if_pos q]
    · rw [if_neg q]
      unfold wdF
      rw [if_neg (by omega), if_neg q]
  have Dd : DrF h2 d da t := drF_eq D (D2.1 d (by simp only [List.mem_singleton]; exact fun e => had e.symm)) (D2.1 da (by simp only [List.mem_singleton]; exact fun e => hada e.symm))
  have r5 := c_hasCheck Dd ht
  have a2 := Dd.choose_spec.1
  have c3 : nI n ≤ nI n := nI_le (Nat.le_refl _) (by omega)
  have hrun : run 25 (0, [some (.ref d), some (.ref a), some (.ref 5), some (.ref (28 + 2 * k)), some (.int (nI i)), some (.int (nI n)), none, none], [], h) = run 25 (72, [some (.ref d), some (.ref a), some (.ref 5), some (.ref (28 + 2 * k)), some (.int (nI i)), some (.int (nI n)), some (.int (nI (offB (t 0) + n))), some (.int (nI n))], [], h2) := by
    rw [e1]
    refine Eq.trans lp ?_
    show run 25 (32, _) = _
    rw [uX1_lay_32]
    simp only [uX1_lay_0, uX1_lay_1, uX1_lay_3, uX1_lay_4, uX1_lay_5, uX1_lay_8, uX1_lay_11, uX1_lay_13, uX1_lay_13N, uX1_lay_14, uX1_lay_15, uX1_lay_18, uX1_lay_18N, uX1_lay_19, uX1_lay_21, uX1_lay_22, uX1_lay_25, uX1_lay_26, uX1_lay_29, uX1_lay_30, uX1_lay_34, uX1_lay_36, uX1_lay_39, uX1_lay_41, uX1_lay_41N, uX1_lay_42, uX1_lay_43, uX1_lay_46, uX1_lay_46N, uX1_lay_47, uX1_lay_49, uX1_lay_49N, uX1_lay_50, uX1_lay_50N, uX1_lay_51, uX1_lay_53, uX1_lay_55, uX1_lay_56, uX1_lay_59, uX1_lay_62, uX1_lay_63, uX1_lay_66, uX1_lay_69, uX1_lay_73, uX1_lay_76, uX1_lay_79, uX1_lay_79N, uX1_lay_80, uX1_lay_81, uX1_lay_84, uX1_lay_84N, uX1_lay_85, uX1_lay_85N, uX1_lay_86, uX1_lay_87, uX1_lay_88, uX1_lay_89, uX1_lay_89N, uX1_lay_90, uX1_lay_93, uX1_lay_94, c3, Option.bind_some, Option.toList_some, Option.toList_none, List.cons_append, List.nil_append, if_true, if_false, and_self, and_true, true_and, or_self, or_true, true_or, false_or, or_false, i10, i00, i01, i11, Nat.reduceAdd, st1_0, st1_c, st1_1i, st1_1r, st1_1n, st1_1u, st1_1J, st2_0, st2_c, st2_1i, st2_1r, st2_1n, st2_1u, st2_1J]
  have bt : bI true = 1 := rfl
  have bf : bI false = 0 := rfl
  rcases bcase (t 2).isSome with q | q
  · rw [q, bt] at r5
    have hmN : m - 1 = layN (t 0) (t 1) n := by rw [hm, q]; unfold layT; rw [if_pos rfl]; omega
    have r6 := c_checkAll b2 hWlt (fun j _ => y3 j) hm1
    have em : nI m - 1 = nI (m - 1) := by
      rw [show m = m - 1 + 1 by omega, nI_s1]
      rfl
    have c4 : ¬ nI m ≤ 0 := nI_nle (by omega) (by omega)
    have p1 : ∀ v, pi h2 a (nI (m - 1)) v = some (si h2 a (m - 1) v) := fun v => pi_si (by omega) b2 (by omega) (by omega)
    refine ⟨_, _, ?_, difT D2 (difSi (a := a) (k := m - 1) (x := nI (chS (wdF (t 0) c (fun x => cm (60 * k + i + x)) n) (m - 1) % 100)) (by simp)), rI_siA b2, fun j hj => ?_⟩
    · rw [hrun]
      simp only [uX1_lay_0, uX1_lay_1, uX1_lay_3, uX1_lay_4, uX1_lay_5, uX1_lay_8, uX1_lay_11, uX1_lay_13, uX1_lay_13N, uX1_lay_14, uX1_lay_15, uX1_lay_18, uX1_lay_18N, uX1_lay_19, uX1_lay_21, uX1_lay_22, uX1_lay_25, uX1_lay_26, uX1_lay_29, uX1_lay_30, uX1_lay_34, uX1_lay_36, uX1_lay_39, uX1_lay_41, uX1_lay_41N, uX1_lay_42, uX1_lay_43, uX1_lay_46, uX1_lay_46N, uX1_lay_47, uX1_lay_49, uX1_lay_49N, uX1_lay_50, uX1_lay_50N, uX1_lay_51, uX1_lay_53, uX1_lay_55, uX1_lay_56, uX1_lay_59, uX1_lay_62, uX1_lay_63, uX1_lay_66, uX1_lay_69, uX1_lay_72, uX1_lay_73, uX1_lay_76, uX1_lay_79, uX1_lay_79N, uX1_lay_80, uX1_lay_81, uX1_lay_84, uX1_lay_84N, uX1_lay_85, uX1_lay_85N, uX1_lay_86, uX1_lay_87, uX1_lay_88, uX1_lay_89, uX1_lay_89N, uX1_lay_90, uX1_lay_93, uX1_lay_94, vX a2, r5, gl_nI b2, c4, em, r6, p1, Option.bind_some, Option.toList_some, Option.toList_none, List.cons_append, List.nil_append, if_true, if_false, and_self, and_true, true_and, or_self, or_true, true_or, false_or, or_false, i10, i00, i01, i11, Nat.reduceAdd, st1_0, st1_c, st1_1i, st1_1r, st1_1n, st1_1u, st1_1J, st2_0, st2_c, st2_1i, st2_1r, st2_1n, st2_1u, st2_1J]
    · rw [updP]
      unfold layF
      rw [← hmN]
      by_cases w1 : j = m - 1
      · rw [if_pos w1, if_neg (by omega)]
      · rw [if_neg w1, if_pos (by omega), y3]
  · rw [q, bf] at r5
    have hmN : m = layN (t 0) (t 1) n := by rw [hm, q]; rfl
    refine ⟨h2, f2, ?_, D2, b2, fun j hj => ?_⟩
    · rw [hrun]
      simp only [uX1_lay_0, uX1_lay_1, uX1_lay_3, uX1_lay_4, uX1_lay_5, uX1_lay_8, uX1_lay_11, uX1_lay_13, uX1_lay_13N, uX1_lay_14, uX1_lay_15, uX1_lay_18, uX1_lay_18N, uX1_lay_19, uX1_lay_21, uX1_lay_22, uX1_lay_25, uX1_lay_26, uX1_lay_29, uX1_lay_30, uX1_lay_34, uX1_lay_36, uX1_lay_39, uX1_lay_41, uX1_lay_41N, uX1_lay_42, uX1_lay_43, uX1_lay_46, uX1_lay_46N, uX1_lay_47, uX1_lay_49, uX1_lay_49N, uX1_lay_50, uX1_lay_50N, uX1_lay_51, uX1_lay_53, uX1_lay_55, uX1_lay_56, uX1_lay_59, uX1_lay_62, uX1_lay_63, uX1_lay_66, uX1_lay_69, uX1_lay_72, uX1_lay_73, uX1_lay_76, uX1_lay_79, uX1_lay_79N, uX1_lay_80, uX1_lay_81, uX1_lay_84, uX1_lay_84N, uX1_lay_85, uX1_lay_85N, uX1_lay_86, uX1_lay_87, uX1_lay_88, uX1_lay_89, uX1_lay_89N, uX1_lay_90, uX1_lay_93, uX1_lay_94, vX a2, r5, Option.bind_some, Option.toList_some, Option.toList_none, List.cons_append, List.nil_append, if_true, if_false, and_self, and_true, true_and, or_self, or_true, true_or, false_or, or_false, i10, i00, i01, i11, Nat.reduceAdd, st1_0, st1_c, st1_1i, st1_1r, st1_1n, st1_1u, st1_1J, st2_0, st2_c, st2_1i, st2_1r, st2_1n, st2_1u, st2_1J]
    · unfold layF
      rw [if_pos (by omega), y3]
theorem c_hide {a u o q l kd n m ap : Nat} {f g : Nat → Int32} {W G : Nat → Nat} (hP : rO h ap = some (kc kd, pgF u o q l)) (hk : kd < 3) (h4 : 59 ≤ ap) (h5 : 59 ≤ a) (hne : q ≠ a) (hg : rI h q = some (n, g)) (hgG : ∀ j, j < n → g j = nI (G j)) (hG : ∀ j, G j < 100) (hf : rI h a = some (m, f)) (hfW : ∀ j, j < m → f j = nI (W j)) (hW : ∀ j, W j < 100) (hm : m ≤ n ∧ n ≤ 12) (hl : l < 100) : ∃ h1 f1, run 58 (0, [some (.ref ap), some (.ref a), none], [], h) = some (none, h1) ∧ Dif [a, ap] h h1 ∧ rO h1 ap = some (kc kd, pgF u o q (l + 1)) ∧ rI h1 a = some (m, f1) ∧ ∀ j, j < m → f1 j = nI ((W j + G j) % 100) := by
  have hna : ap ≠ a := fun e => by
    rw [e] at hP
    rw [rI_o (rO_lt hP).1] at hf
    cases hf
  obtain ⟨h1, lp, D1, f1, b1, y1⟩ := loopE (F := fun x h1 => run 58 (2, [some (.ref ap), some (.ref a), some (.int (nI x))], [], h1)) (I := fun x h1 => Dif [a] h h1 ∧ ∃ f1, rI h1 a = some (m, f1) ∧ ∀ j, j < m → f1 j = if j < x then nI ((W j + G j) % 100) else nI (W j)) m h ⟨difR, f, hf, fun j hj => by rw [if_neg (by omega), hfW j hj]⟩ (fun x hx hxm I => by
    obtain ⟨Dx, fx, bx, yx⟩ := I
    have hPx : rO hx ap = some (kc kd, pgF u o q l) := by rw [difO Dx (by simp only [List.mem_singleton]; exact hna), hP]
    have hgx : rI hx q = some (n, g) := by rw [difI Dx (by simp only [List.mem_singleton]; exact hne), hg]
    have r1 := c_pgroupAt (j := x) hPx hk (by omega) hgx (by omega) (by omega)
    rw [hgG x (by omega)] at r1
    have c1 : ¬ nI m ≤ nI x := nI_ge hxm (by omega)
    have g1 : gi hx a (nI x) = some (nI (W x)) := by rw [gi_nI bx hxm (by omega), yx x hxm, if_neg (by omega)]
    have h1 := hW x
    have h2 := hG x
    have er := pk_rem100 (n := W x + G x) (by omega)
    have z : ¬ (100 : Int32) = 0 := by decide
    have p1 : pi hx a (nI x) (nI ((W x + G x) % 100)) = some (si hx a x (nI ((W x + G x) % 100))) := pi_si (by omega) bx hxm (by omega)
    refine ⟨_, ?_, difT Dx (difSi (a := a) (k := x) (x := nI ((W x + G x) % 100)) (by simp)), _, rI_siA bx, fun j hj => ?_⟩
    · show run 58 (2, _) = run 58 (2, _)
      rw [uX5_hide_2]
      simp only [uX5_hide_0, uX5_hide_1, uX5_hide_3, uX5_hide_3N, uX5_hide_4, uX5_hide_5, uX5_hide_8, uX5_hide_8N, uX5_hide_9, uX5_hide_10, uX5_hide_10N, uX5_hide_11, uX5_hide_12, uX5_hide_13, uX5_hide_14, uX5_hide_15, uX5_hide_18, uX5_hide_19, uX5_hide_21, uX5_hide_22, uX5_hide_23, uX5_hide_26, uX5_hide_29, uX5_hide_30, uX5_hide_31, uX5_hide_34, uX5_hide_35, uX5_hide_36, uX5_hide_39, gl_nI bx, c1, g1, vPg hPx hk, r1, nI_add, z, er, p1, nI_1, Option.bind_some, Option.toList_some, Option.toList_none, List.cons_append, List.nil_append, if_true, if_false, and_self, and_true, true_and, or_self, or_true, true_or, false_or, or_false, i10, i00, i01, i11, Nat.reduceAdd, st1_0, st1_c, st1_1i, st1_1r, st1_1n, st1_1u, st1_1J, st2_0, st2_c, st2_1i, st2_1r, st2_1n, st2_1u, st2_1J]
    · rw [updP]
      by_cases w : j = x
      · rw [if_pos w, if_pos (by omega), w]
      · rw [if_neg w, yx j hj]
        by_cases w2 : j < x
        · rw [if_pos w2, if_pos (by omega)]
        · rw [if_neg w2, if_neg (by omega)])
  have hP1 : rO h1 ap = some (kc kd, pgF u o q l) := by rw [difO D1 (by simp only [List.mem_singleton]; exact hna), hP]
  have c1 : nI m ≤ nI m := nI_le (Nat.le_refl _) (by omega)
  have p1 : pf h1 [(4, 3), (7, 3), (8, 3)] ap (.int (nI (l + 1))) = some (sf h1 ap 3 (.int (nI (l + 1)))) := pPg hk hP1 (by omega) (Nat.le_of_ble_eq_true rfl) rfl rfl rfl rfl
  refine ⟨sf h1 ap 3 (.int (nI (l + 1))), f1, ?_, difT ⟨fun b hb => D1.1 b (fun e => hb (by simp only [List.mem_singleton] at e; rw [e]; simp)), D1.2⟩ (difSf (by simp)), ?_, by rw [rI_sf, b1], fun j hj => by rw [y1 j hj, if_pos hj]⟩
  · simp only [uX5_hide_0, uX5_hide_1, uX5_hide_3, uX5_hide_3N, uX5_hide_4, uX5_hide_5, uX5_hide_8, uX5_hide_8N, uX5_hide_9, uX5_hide_10, uX5_hide_10N, uX5_hide_11, uX5_hide_12, uX5_hide_13, uX5_hide_14, uX5_hide_15, uX5_hide_18, uX5_hide_19, uX5_hide_21, uX5_hide_22, uX5_hide_23, uX5_hide_26, uX5_hide_29, uX5_hide_30, uX5_hide_31, uX5_hide_34, uX5_hide_35, uX5_hide_36, uX5_hide_39, Option.bind_some, Option.toList_some, Option.toList_none, List.cons_append, List.nil_append, if_true, if_false, and_self, and_true, true_and, or_self, or_true, true_or, false_or, or_false, i10, i00, i01, i11, Nat.reduceAdd, st1_0, st1_c, st1_1i, st1_1r, st1_1n, st1_1u, st1_1J, st2_0, st2_c, st2_1i, st2_1r, st2_1n, st2_1u, st2_1J]
    refine Eq.trans lp ?_
    show run 58 (2, _) = _
    rw [uX5_hide_2]
    simp only [uX5_hide_0, uX5_hide_1, uX5_hide_3, uX5_hide_3N, uX5_hide_4, uX5_hide_5, uX5_hide_8, uX5_hide_8N, uX5_hide_9, uX5_hide_10, uX5_hide_10N, uX5_hide_11, uX5_hide_12, uX5_hide_13, uX5_hide_14, uX5_hide_15, uX5_hide_18, uX5_hide_19, uX5_hide_21, uX5_hide_22, uX5_hide_23, uX5_hide_26, uX5_hide_29, uX5_hide_30, uX5_hide_31, uX5_hide_34, uX5_hide_35, uX5_hide_36, uX5_hide_39, gl_nI b1, c1, gPg3 hP1 hk (show 4 ≤ ap by omega), nI_1, p1, Option.bind_some, Option.toList_some, Option.toList_none, List.cons_append, List.nil_append, if_true, if_false, and_self, and_true, true_and, or_self, or_true, true_or, false_or, or_false, i10, i00, i01, i11, Nat.reduceAdd, st1_0, st1_c, st1_1i, st1_1r, st1_1n, st1_1u, st1_1J, st2_0, st2_c, st2_1i, st2_1r, st2_1n, st2_1u, st2_1J]
  · rw [rO_sf, if_pos rfl, hP1]
    rfl
end LC1
