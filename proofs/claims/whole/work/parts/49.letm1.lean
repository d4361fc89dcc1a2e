theorem loopE {α : Type} {F : Nat → AH → α} {I : Nat → AH → Prop} (n : Nat) (h : AH) (h0 : I 0 h) (st : ∀ k h, k < n → I k h → ∃ h1, F k h = F (k + 1) h1 ∧ I (k + 1) h1) : ∃ h1, F 0 h = F n h1 ∧ I n h1 := by
  induction n with
  | zero => exact ⟨h, rfl, h0⟩
  | succ n ih =>
    obtain ⟨h1, e1, i1⟩ := ih (fun k h hk => st k h (by omega))
    obtain ⟨h2, e2, i2⟩ := st n h1 (by omega) i1
    exact ⟨h2, e1.trans e2, i2⟩
def bI (c : Bool) : Int32 := if c then 1 else 0
def chS (W : Nat → Nat) : Nat → Nat
  | 0 => 0
  | n + 1 => chS W n + W n * (n + 2)
theorem chS_le {W : Nat → Nat} (hW : ∀ j, W j < 100) : ∀ n, n ≤ 100 → chS W n ≤ 10200 * n
  | 0, _ => Nat.zero_le _
  | n + 1, hn => by
    have h1 := chS_le hW n (by omega)
    have h2 := hW n
    have h3 : W n * (n + 2) ≤ 100 * 102 := Nat.mul_le_mul (by omega) (by omega)
    show chS W n + W n * (n + 2) ≤ _
    omega
def isWd (c : Nat → Option Nat) (x : Int32) : Bool := decide (0 ≤ x.toInt ∧ x.toInt ≤ 29) && (c x.toInt.toNat).isSome
theorem isWd_iff {c : Nat → Option Nat} {x : Int32} : isWd c x = true ↔ ∃ u g, u < 30 ∧ x = nI u ∧ c u = some g := by
  unfold isWd
  rw [Bool.and_eq_true, decide_eq_true_iff]
  constructor
  · rintro ⟨h1, h2⟩
    obtain ⟨u, q1, q2, q3⟩ := inR h1
    subst q3
    obtain ⟨g, hg⟩ := Option.isSome_iff_exists.mp h2
    refine ⟨u, g, by omega, rfl, ?_⟩
    rw [nI_toInt q2] at hg
    exact hg
  · rintro ⟨u, g, h1, h2, h3⟩
    subst h2
    refine ⟨nI_rng (by omega) (by omega), ?_⟩
    rw [nI_toInt (by omega)]
    show (c u).isSome = true
    rw [h3]
    rfl
section LM
variable {h : AH} {fa dB dL dC dR rd pg lt lm bg tr : Int32} {c : Nat → Option Nat}
def LD (h0 h : AH) (fa dB dL dC dR rd pg lt bg tr : Int32) (m : Nat) (W : Nat → Nat) : Prop := Dif [36, 50] h0 h ∧ rO h 36 = some (11, mF fa dB dL dC dR rd pg lt (nI m) bg tr) ∧ ∃ f, rI h 50 = some (80, f) ∧ ∀ j, j < m → f j = nI (W j)
theorem r_layGroup {h0 : AH} {m : Nat} {W : Nat → Nat} {x : Int32} (D : LD h0 h fa dB dL dC dR rd pg lt bg tr m W) (hm : m < 80) (hx : x = nI (W m)) : ∃ h1, run 173 (0, [some (.ref 36), some (.int x)], [], h) = some (none, h1) ∧ LD h0 h1 fa dB dL dC dR rd pg lt bg tr (m + 1) W := by
  obtain ⟨D1, hM, f, a, hf⟩ := D
  subst hx
  have p1 : pi h 50 (nI m) (nI (W m)) = _ := pi_si (by decide) a hm (by decide)
  have hM2 : rO (si h 50 m (nI (W m))) 36 = some (11, mF fa dB dL dC dR rd pg lt (nI m) bg tr) := by rw [rO_si, hM]
  refine ⟨sf (si h 50 m (nI (W m))) 36 21 (.int (nI (m + 1))), ?_, difT D1 (difT (difSi (by decide)) (difSf (by decide))), sM21 hM2, upd f m (nI (W m)), ?_, ?_⟩
  · simp only [uX12_layGroup_0, uX12_layGroup_1, uX12_layGroup_4, uX12_layGroup_5, uX12_layGroup_8, uX12_layGroup_9, uX12_layGroup_10, uX12_layGroup_11, uX12_layGroup_12, uX12_layGroup_15, uX12_layGroup_16, uX12_layGroup_17, uX12_layGroup_20, gM0 hM, gM1 hM, gM2 hM, gM3 hM, gM4 hM, gM5 hM, gM6 hM, gM7 hM, gM8 hM, gM9 hM, gM10 hM, gM11 hM, gM12 hM, gM13 hM, gM14 hM, gM15 hM, gM16 hM, gM17 hM, gM18 hM, gM19 hM, gM20 hM, gM21 hM, gM22 hM, gM23 hM, gM24 hM, gM25 hM, gM26 hM, gM27 hM, gM28 hM, gM29 hM, gM30 hM, gM31 hM, gM32 hM, vM hM, gM0 hM2, gM1 hM2, gM2 hM2, gM3 hM2, gM4 hM2, gM5 hM2, gM6 hM2, gM7 hM2, gM8 hM2, gM9 hM2, gM10 hM2, gM11 hM2, gM12 hM2, gM13 hM2, gM14 hM2, gM15 hM2, gM16 hM2, gM17 hM2, gM18 hM2, gM19 hM2, gM20 hM2, gM21 hM2, gM22 hM2, gM23 hM2, gM24 hM2, gM25 hM2, gM26 hM2, gM27 hM2, gM28 hM2, gM29 hM2, gM30 hM2, gM31 hM2, gM32 hM2, vM hM2, p1, nI_1, pM21 hM2, Option.bind_some, Option.toList_some, Option.toList_none, List.cons_append, List.nil_append, if_true, if_false, and_self, and_true, true_and, or_self, or_true, true_or, false_or, or_false, i10, i00, i01, i11, Nat.reduceAdd, st1_0, st1_c, st1_1i, st1_1r, st1_1n, st1_1u, st1_1J, st2_0, st2_c, st2_1i, st2_1r, st2_1n, st2_1u, st2_1J]
  · rw [rI_sf]
    exact rI_siA a
  · intro j hj
    show (if j = m then _ else f j) = _
    by_cases e : j = m
    · rw [if_pos e, e]
    · rw [if_neg e]
      exact hf j (by omega)
theorem r_checkOf {n : Nat} {W : Nat → Nat} {f : Nat → Int32} (hM : rO h 36 = some (11, mF fa dB dL dC dR rd pg lt lm bg tr)) (a : rI h 50 = some (80, f)) (hW : ∀ j, W j < 100) (hf : ∀ j, j < n → f j = nI (W j)) (hn : n ≤ 80) : run 174 (0, [some (.ref 36), some (.int (nI n)), none, none], [], h) = some (some (.int (nI (chS W n % 100))), h) := by
  have lp : run 174 (4, [some (.ref 36), some (.int (nI n)), some (.int (nI (chS W 0))), some (.int (nI 0))], [], h) = run 174 (4, [some (.ref 36), some (.int (nI n)), some (.int (nI (chS W n))), some (.int (nI n))], [], h) := by
    refine loopN (F := fun j => run 174 (4, [some (.ref 36), some (.int (nI n)), some (.int (nI (chS W j))), some (.int (nI j))], [], h)) n (fun j hj => ?_)
    have c1 : ¬ nI n ≤ nI j := nI_ge hj (by omega)
    have g1 : gi h 50 (nI j) = some (nI (W j)) := by rw [gi_nI a (by omega) (by decide), hf j hj]
    have e1 : nI (chS W j) + nI (W j) * (nI j + 2) = nI (chS W (j + 1)) := by
      rw [show nI j + 2 = nI (j + 2) from nI_add j 2, pk_mul, nI_add]
      rfl
    show run 174 (4, _) = run 174 (4, _)
    rw [uX12_checkOf_4]
    simp only [uX12_checkOf_0, uX12_checkOf_1, uX12_checkOf_2, uX12_checkOf_3, uX12_checkOf_5, uX12_checkOf_6, uX12_checkOf_9, uX12_checkOf_10, uX12_checkOf_11, uX12_checkOf_14, uX12_checkOf_15, uX12_checkOf_16, uX12_checkOf_17, uX12_checkOf_18, uX12_checkOf_19, uX12_checkOf_20, uX12_checkOf_21, uX12_checkOf_22, uX12_checkOf_25, uX12_checkOf_28, uX12_checkOf_29, uX12_checkOf_31, uX12_checkOf_32, c1, gM0 hM, gM1 hM, gM2 hM, gM3 hM, gM4 hM, gM5 hM, gM6 hM, gM7 hM, gM8 hM, gM9 hM, gM10 hM, gM11 hM, gM12 hM, gM13 hM, gM14 hM, gM15 hM, gM16 hM, gM17 hM, gM18 hM, gM19 hM, gM20 hM, gM21 hM, gM22 hM, gM23 hM, gM24 hM, gM25 hM, gM26 hM, gM27 hM, gM28 hM, gM29 hM, gM30 hM, gM31 hM, gM32 hM, vM hM, g1, e1, nI_1, Option.bind_some, Option.toList_some, Option.toList_none, List.cons_append, List.nil_append, if_true, if_false, and_self, and_true, true_and, or_self, or_true, true_or, false_or, or_false, i10, i00, i01, i11, Nat.reduceAdd, st1_0, st1_c, st1_1i, st1_1r, st1_1n, st1_1u, st1_1J, st2_0, st2_c, st2_1i, st2_1r, st2_1n, st2_1u, st2_1J]
  have c1 : nI n ≤ nI n := nI_le (Nat.le_refl _) (by omega)
  have hl := chS_le hW n (by omega)
  have e1 : nI (chS W n) - nI (chS W n) / 100 * 100 = nI (chS W n % 100) := pk_rem (d := 100) (by omega) (by decide) (by decide)
  have z : ¬ (100 : Int32) = 0 := by decide
  simp only [uX12_checkOf_0, uX12_checkOf_1, uX12_checkOf_2, uX12_checkOf_3, uX12_checkOf_5, uX12_checkOf_6, uX12_checkOf_9, uX12_checkOf_10, uX12_checkOf_11, uX12_checkOf_14, uX12_checkOf_15, uX12_checkOf_16, uX12_checkOf_17, uX12_checkOf_18, uX12_checkOf_19, uX12_checkOf_20, uX12_checkOf_21, uX12_checkOf_22, uX12_checkOf_25, uX12_checkOf_28, uX12_checkOf_29, uX12_checkOf_31, uX12_checkOf_32, Option.bind_some, Option.toList_some, Option.toList_none, List.cons_append, List.nil_append, if_true, if_false, and_self, and_true, true_and, or_self, or_true, true_or, false_or, or_false, i10, i00, i01, i11, Nat.reduceAdd, st1_0, st1_c, st1_1i, st1_1r, st1_1n, st1_1u, st1_1J, st2_0, st2_c, st2_1i, st2_1r, st2_1n, st2_1u, st2_1J]
  refine lp.trans ?_
  rw [uX12_checkOf_4]
  simp only [uX12_checkOf_0, uX12_checkOf_1, uX12_checkOf_2, uX12_checkOf_3, uX12_checkOf_5, uX12_checkOf_6, uX12_checkOf_9, uX12_checkOf_10, uX12_checkOf_11, uX12_checkOf_14, uX12_checkOf_15, uX12_checkOf_16, uX12_checkOf_17, uX12_checkOf_18, uX12_checkOf_19, uX12_checkOf_20, uX12_checkOf_21, uX12_checkOf_22, uX12_checkOf_25, uX12_checkOf_28, uX12_checkOf_29, uX12_checkOf_31, uX12_checkOf_32, c1, z, e1, Option.bind_some, Option.toList_some, Option.toList_none, List.cons_append, List.nil_append, if_true, if_false, and_self, and_true, true_and, or_self, or_true, true_or, false_or, or_false, i10, i00, i01, i11, Nat.reduceAdd, st1_0, st1_c, st1_1i, st1_1r, st1_1n, st1_1u, st1_1J, st2_0, st2_c, st2_1i, st2_1r, st2_1n, st2_1u, st2_1J]
theorem r_areWords {fr n : Nat} {f : Nat → Int32} (hM : rO h 36 = some (11, mF fa dB dL dC dR rd pg lt lm bg tr)) (a : rI h 57 = some (240, f)) (a1 : rI h 37 = some (30, fun k => oN (c k))) (hc : ∀ u g, c u = some g → g < 100) (hfr : fr + n ≤ 240) : run 176 (0, [some (.ref 36), some (.int (nI fr)), some (.int (nI n)), none, none], [], h) = some (some (.int (if allB (fun x => isWd c (f (fr + x))) n then 1 else 0)), h) := by
  have lp : run 176 (5, [some (.ref 36), some (.int (nI fr)), some (.int (nI n)), some (.int (if allB (fun x => isWd c (f (fr + x))) 0 then 1 else 0)), some (.int (nI 0))], [], h) = run 176 (5, [some (.ref 36), some (.int (nI fr)), some (.int (nI n)), some (.int (if allB (fun x => isWd c (f (fr + x))) n then 1 else 0)), some (.int (nI n))], [], h) := by
    refine loopN (F := fun j => run 176 (5, [some (.ref 36), some (.int (nI fr)), some (.int (nI n)), some (.int (if allB (fun x => isWd c (f (fr + x))) j then 1 else 0)), some (.int (nI j))], [], h)) n (fun j hj => ?_)
    have c1 : ¬ nI n ≤ nI j := nI_ge hj (by omega)
    have g1 : gi h 57 (nI (fr + j)) = some (f (fr + j)) := gi_nI a (by omega) (by decide)
    have es : allB (fun x => isWd c (f (fr + x))) (j + 1) = (allB (fun x => isWd c (f (fr + x))) j && isWd c (f (fr + j))) := rfl
    show run 176 (5, _) = run 176 (5, _)
    rw [uX12_areWords_5, es]
    cases hA : allB (fun x => isWd c (f (fr + x))) j with
    | true =>
      by_cases hr : 0 ≤ (f (fr + j)).toInt ∧ (f (fr + j)).toInt ≤ 29
      · obtain ⟨u, q1, q2, q3⟩ := inR hr
        have g2 : gi h 37 (nI u) = some (oN (c u)) := gi_nI a1 (by omega) (by decide)
        have hr2 : 0 ≤ (nI u).toInt ∧ (nI u).toInt ≤ 29 := nI_rng (by omega) (by omega)
        cases hcu : c u with
        | none =>
          have hB : isWd c (nI u) = false := by
            rcases bcase (isWd c (nI u)) with q | q
            · obtain ⟨u2, g, w1, w2, w3⟩ := isWd_iff.mp q
              have := (nI_eq (by omega) (by omega)).mp w2
              rw [← this, hcu] at w3
              cases w3
            · exact q
          have c2 : oN none < 0 := by decide
          rw [hcu] at g2
          simp only [uX12_areWords_0, uX12_areWords_1, uX12_areWords_2, uX12_areWords_3, uX12_areWords_7, uX12_areWords_8, uX12_areWords_11, uX12_areWords_12, uX12_areWords_15, uX12_areWords_16, uX12_areWords_19, uX12_areWords_20, uX12_areWords_22, uX12_areWords_23, uX12_areWords_24, uX12_areWords_27, uX12_areWords_30, uX12_areWords_31, uX12_areWords_34, uX12_areWords_35, uX12_areWords_38, uX12_areWords_39, uX12_areWords_41, uX12_areWords_42, uX12_areWords_43, uX12_areWords_44, uX12_areWords_47, uX12_areWords_48, uX12_areWords_51, uX12_areWords_52, uX12_areWords_53, uX12_areWords_56, uX12_areWords_59, uX12_areWords_60, c1, gM0 hM, gM1 hM, gM2 hM, gM3 hM, gM4 hM, gM5 hM, gM6 hM, gM7 hM, gM8 hM, gM9 hM, gM10 hM, gM11 hM, gM12 hM, gM13 hM, gM14 hM, gM15 hM, gM16 hM, gM17 hM, gM18 hM, gM19 hM, gM20 hM, gM21 hM, gM22 hM, gM23 hM, gM24 hM, gM25 hM, gM26 hM, gM27 hM, gM28 hM, gM29 hM, gM30 hM, gM31 hM, gM32 hM, vM hM, nI_add, g1, q3, r_noWord, hr2, g2, c2, hB, nI_1, Bool.and_false, Bool.false_eq_true, Option.bind_some, Option.toList_some, Option.toList_none, List.cons_append, List.nil_append, if_true, if_false, and_self, and_true, true_and, or_self, or_true, true_or, false_or, or_false, i10, i00, i01, i11, Nat.reduceAdd, st1_0, st1_c, st1_1i, st1_1r, st1_1n, st1_1u, st1_1J, st2_0, st2_c, st2_1i, st2_1r, st2_1n, st2_1u, st2_1J]
        | some g =>
          have hB : isWd c (nI u) = true := isWd_iff.mpr ⟨u, g, by omega, rfl, hcu⟩
          have hg := hc u g hcu
          have c2 : ¬ oN (some g) < 0 := nI_pos (by omega)
          rw [hcu] at g2
          simp only [uX12_areWords_0, uX12_areWords_1, uX12_areWords_2, uX12_areWords_3, uX12_areWords_7, uX12_areWords_8, uX12_areWords_11, uX12_areWords_12, uX12_areWords_15, uX12_areWords_16, uX12_areWords_19, uX12_areWords_20, uX12_areWords_22, uX12_areWords_23, uX12_areWords_24, uX12_areWords_27, uX12_areWords_30, uX12_areWords_31, uX12_areWords_34, uX12_areWords_35, uX12_areWords_38, uX12_areWords_39, uX12_areWords_41, uX12_areWords_42, uX12_areWords_43, uX12_areWords_44, uX12_areWords_47, uX12_areWords_48, uX12_areWords_51, uX12_areWords_52, uX12_areWords_53, uX12_areWords_56, uX12_areWords_59, uX12_areWords_60, c1, gM0 hM, gM1 hM, gM2 hM, gM3 hM, gM4 hM, gM5 hM, gM6 hM, gM7 hM, gM8 hM, gM9 hM, gM10 hM, gM11 hM, gM12 hM, gM13 hM, gM14 hM, gM15 hM, gM16 hM, gM17 hM, gM18 hM, gM19 hM, gM20 hM, gM21 hM, gM22 hM, gM23 hM, gM24 hM, gM25 hM, gM26 hM, gM27 hM, gM28 hM, gM29 hM, gM30 hM, gM31 hM, gM32 hM, vM hM, nI_add, g1, q3, r_noWord, hr2, g2, c2, hB, nI_1, Bool.and_self, Option.bind_some, Option.toList_some, Option.toList_none, List.cons_append, List.nil_append, if_true, if_false, and_self, and_true, true_and, or_self, or_true, true_or, false_or, or_false, i10, i00, i01, i11, Nat.reduceAdd, st1_0, st1_c, st1_1i, st1_1r, st1_1n, st1_1u, st1_1J, st2_0, st2_c, st2_1i, st2_1r, st2_1n, st2_1u, st2_1J]
      · have hB : isWd c (f (fr + j)) = false := by
          rcases bcase (isWd c (f (fr + j))) with q | q
          · obtain ⟨u2, g, w1, w2, w3⟩ := isWd_iff.mp q
            exact absurd (by rw [w2]; exact nI_rng (by omega) (by omega)) hr
          · exact q
        simp only [uX12_areWords_0, uX12_areWords_1, uX12_areWords_2, uX12_areWords_3, uX12_areWords_7, uX12_areWords_8, uX12_areWords_11, uX12_areWords_12, uX12_areWords_15, uX12_areWords_16, uX12_areWords_19, uX12_areWords_20, uX12_areWords_22, uX12_areWords_23, uX12_areWords_24, uX12_areWords_27, uX12_areWords_30, uX12_areWords_31, uX12_areWords_34, uX12_areWords_35, uX12_areWords_38, uX12_areWords_39, uX12_areWords_41, uX12_areWords_42, uX12_areWords_43, uX12_areWords_44, uX12_areWords_47, uX12_areWords_48, uX12_areWords_51, uX12_areWords_52, uX12_areWords_53, uX12_areWords_56, uX12_areWords_59, uX12_areWords_60, c1, gM0 hM, gM1 hM, gM2 hM, gM3 hM, gM4 hM, gM5 hM, gM6 hM, gM7 hM, gM8 hM, gM9 hM, gM10 hM, gM11 hM, gM12 hM, gM13 hM, gM14 hM, gM15 hM, gM16 hM, gM17 hM, gM18 hM, gM19 hM, gM20 hM, gM21 hM, gM22 hM, gM23 hM, gM24 hM, gM25 hM, gM26 hM, gM27 hM, gM28 hM, gM29 hM, gM30 hM, gM31 hM, gM32 hM, vM hM, nI_add, g1, r_noWord, if_neg hr, hB, nI_1, Bool.and_false, Bool.false_eq_true, Option.bind_some, Option.toList_some, Option.toList_none, List.cons_append, List.nil_append, if_true, if_false, and_self, and_true, true_and, or_self, or_true, true_or, false_or, or_false, i10, i00, i01, i11, Nat.reduceAdd, st1_0, st1_c, st1_1i, st1_1r, st1_1n, st1_1u, st1_1J, st2_0, st2_c, st2_1i, st2_1r, st2_1n, st2_1u, st2_1J]
    | false =>
      simp only [uX12_areWords_0, uX12_areWords_1, uX12_areWords_2, uX12_areWords_3, uX12_areWords_7, uX12_areWords_8, uX12_areWords_11, uX12_areWords_12, uX12_areWords_15, uX12_areWords_16, uX12_areWords_19, uX12_areWords_20, uX12_areWords_22, uX12_areWords_23, uX12_areWords_24, uX12_areWords_27, uX12_areWords_30, uX12_areWords_31, uX12_areWords_34, uX12_areWords_35, uX12_areWords_38, uX12_areWords_39, uX12_areWords_41, uX12_areWords_42, uX12_areWords_43, uX12_areWords_44, uX12_areWords_47, uX12_areWords_48, uX12_areWords_51, uX12_areWords_52, uX12_areWords_53, uX12_areWords_56, uX12_areWords_59, uX12_areWords_60, c1, nI_1, Bool.false_and, Bool.false_eq_true, Option.bind_some, Option.toList_some, Option.toList_none, List.cons_append, List.nil_append, if_true, if_false, and_self, and_true, true_and, or_self, or_true, true_or, false_or, or_false, i10, i00, i01, i11, Nat.reduceAdd, st1_0, st1_c, st1_1i, st1_1r, st1_1n, st1_1u, st1_1J, st2_0, st2_c, st2_1i, st2_1r, st2_1n, st2_1u, st2_1J]
  have c1 : nI n ≤ nI n := nI_le (Nat.le_refl _) (by omega)
  simp only [uX12_areWords_0, uX12_areWords_1, uX12_areWords_2, uX12_areWords_3, uX12_areWords_7, uX12_areWords_8, uX12_areWords_11, uX12_areWords_12, uX12_areWords_15, uX12_areWords_16, uX12_areWords_19, uX12_areWords_20, uX12_areWords_22, uX12_areWords_23, uX12_areWords_24, uX12_areWords_27, uX12_areWords_30, uX12_areWords_31, uX12_areWords_34, uX12_areWords_35, uX12_areWords_38, uX12_areWords_39, uX12_areWords_41, uX12_areWords_42, uX12_areWords_43, uX12_areWords_44, uX12_areWords_47, uX12_areWords_48, uX12_areWords_51, uX12_areWords_52, uX12_areWords_53, uX12_areWords_56, uX12_areWords_59, uX12_areWords_60, Option.bind_some, Option.toList_some, Option.toList_none, List.cons_append, List.nil_append, if_true, if_false, and_self, and_true, true_and, or_self, or_true, true_or, false_or, or_false, i10, i00, i01, i11, Nat.reduceAdd, st1_0, st1_c, st1_1i, st1_1r, st1_1n, st1_1u, st1_1J, st2_0, st2_c, st2_1i, st2_1r, st2_1n, st2_1u, st2_1J]
  refine lp.trans ?_
  rw [uX12_areWords_5]
  cases hA : allB (fun x => isWd c (f (fr + x))) n with
  | true => simp only [uX12_areWords_0, uX12_areWords_1, uX12_areWords_2, uX12_areWords_3, uX12_areWords_7, uX12_areWords_8, uX12_areWords_11, uX12_areWords_12, uX12_areWords_15, uX12_areWords_16, uX12_areWords_19, uX12_areWords_20, uX12_areWords_22, uX12_areWords_23, uX12_areWords_24, uX12_areWords_27, uX12_areWords_30, uX12_areWords_31, uX12_areWords_34, uX12_areWords_35, uX12_areWords_38, uX12_areWords_39, uX12_areWords_41, uX12_areWords_42, uX12_areWords_43, uX12_areWords_44, uX12_areWords_47, uX12_areWords_48, uX12_areWords_51, uX12_areWords_52, uX12_areWords_53, uX12_areWords_56, uX12_areWords_59, uX12_areWords_60, c1, Option.bind_some, Option.toList_some, Option.toList_none, List.cons_append, List.nil_append, if_true, if_false, and_self, and_true, true_and, or_self, or_true, true_or, false_or, or_false, i10, i00, i01, i11, Nat.reduceAdd, st1_0, st1_c, st1_1i, st1_1r, st1_1n, st1_1u, st1_1J, st2_0, st2_c, st2_1i, st2_1r, st2_1n, st2_1u, st2_1J]
  | false => simp only [uX12_areWords_0, uX12_areWords_1, uX12_areWords_2, uX12_areWords_3, uX12_areWords_7, uX12_areWords_8, uX12_areWords_11, uX12_areWords_12, uX12_areWords_15, uX12_areWords_16, uX12_areWords_19, uX12_areWords_20, uX12_areWords_22, uX12_areWords_23, uX12_areWords_24, uX12_areWords_27, uX12_areWords_30, uX12_areWords_31, uX12_areWords_34, uX12_areWords_35, uX12_areWords_38, uX12_areWords_39, uX12_areWords_41, uX12_areWords_42, uX12_areWords_43, uX12_areWords_44, uX12_areWords_47, uX12_areWords_48, uX12_areWords_51, uX12_areWords_52, uX12_areWords_53, uX12_areWords_56, uX12_areWords_59, uX12_areWords_60, c1, Bool.false_eq_true, Option.bind_some, Option.toList_some, Option.toList_none, List.cons_append, List.nil_append, if_true, if_false, and_self, and_true, true_and, or_self, or_true, true_or, false_or, or_false, i10, i00, i01, i11, Nat.reduceAdd, st1_0, st1_c, st1_1i, st1_1r, st1_1n, st1_1u, st1_1J, st2_0, st2_c, st2_1i, st2_1r, st2_1n, st2_1u, st2_1J]
def offB (b : Option Nat) : Nat := if b.isSome then 1 else 0
def wdF (b : Option Nat) (c : Nat → Option Nat) (T : Nat → Int32) (n j : Nat) : Nat := if j < offB b then b.getD 0 else if j < offB b + n then (c (T (j - offB b)).toInt.toNat).getD 0 else 0
def padN (l : Option Nat) (s : Nat) : Nat := match l with
  | none => 0
  | some l => if s % l = 0 then 0 else l - s % l
def layN (b l : Option Nat) (n : Nat) : Nat := offB b + n + padN l (offB b + n)
def layT (b l : Option Nat) (ck : Bool) (n : Nat) : Nat := layN b l n + if ck then 1 else 0
def layF (b l : Option Nat) (c : Nat → Option Nat) (T : Nat → Int32) (n j : Nat) : Nat := if j < layN b l n then wdF b c T n j else chS (wdF b c T n) (layN b l n) % 100
theorem padN_p {l s : Nat} (h1 : 1 ≤ l) (h6 : l ≤ 6) : (∀ k, k < padN (some l) s → ¬ (s + k) % l = 0) ∧ (s + padN (some l) s) % l = 0 ∧ padN (some l) s ≤ 5 := by
  have hl : l = 1 ∨ l = 2 ∨ l = 3 ∨ l = 4 ∨ l = 5 ∨ l = 6 := by omega
  unfold padN
  rcases hl with e | e | e | e | e | e <;> subst e <;> simp only <;> split <;> refine ⟨fun k hk => ?_, ?_, ?_⟩ <;> omega
end LM
