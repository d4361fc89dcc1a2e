def bst (V : Nat → Nat → Nat) (a b : Nat) (s : Option (Nat × Nat × Nat)) : Option (Nat × Nat × Nat) := match s with
  | none => some (a, b, V a b)
  | some q => if V a b < q.2.2 then some (a, b, V a b) else some q
def bsI (V : Nat → Nat → Nat) (a : Nat) (s : Option (Nat × Nat × Nat)) : Nat → Option (Nat × Nat × Nat)
  | 0 => s
  | t + 1 => bst V a (a + 1 + t) (bsI V a s t)
def bsO (V : Nat → Nat → Nat) (L : Nat) : Nat → Option (Nat × Nat × Nat)
  | 0 => none
  | a + 1 => bsI V a (bsO V L a) (L - (a + 1))
def bsOK (V : Nat → Nat → Nat) (s : Option (Nat × Nat × Nat)) : Prop := ∀ q, s = some q → q.1 < 20 ∧ q.2.1 < 20 ∧ q.2.2 < 2 ^ 63
theorem bst_ok {V : Nat → Nat → Nat} {a b : Nat} {s : Option (Nat × Nat × Nat)} (hV : ∀ a b, V a b < 2 ^ 63) (ha : a < 20) (hb : b < 20) (hs : bsOK V s) : bsOK V (bst V a b s) := by
  intro q hq
  unfold bst at hq
  cases s with
  | none => cases hq; exact ⟨ha, hb, hV a b⟩
  | some z =>
    simp only at hq
    split at hq
    · cases hq; exact ⟨ha, hb, hV a b⟩
    · cases hq; exact hs _ rfl
theorem bsI_ok {V : Nat → Nat → Nat} {a : Nat} {s : Option (Nat × Nat × Nat)} (hV : ∀ a b, V a b < 2 ^ 63) (hs : bsOK V s) : ∀ t, a + 1 + t ≤ 20 → bsOK V (bsI V a s t)
  | 0, _ => hs
  | t + 1, ht => bst_ok hV (by omega) (by omega) (bsI_ok hV hs t (by omega))
theorem bsO_ok {V : Nat → Nat → Nat} {L : Nat} (hV : ∀ a b, V a b < 2 ^ 63) (hL : L ≤ 20) : ∀ a, a ≤ L → bsOK V (bsO V L a)
  | 0, _ => fun q hq => by cases hq
  | a + 1, ha => bsI_ok hV (bsO_ok hV hL a (by omega)) _ (by omega)
def bsB (s : Option (Nat × Nat × Nat)) : Int32 := match s with
  | none => -9
  | some q => nI (20 * q.1 + q.2.1)
def bsL (s : Option (Nat × Nat × Nat)) : Int64 := match s with
  | none => 0
  | some q => lN q.2.2
section OM
variable {h : AH} {fa dB dL dC dR rd pg lt lm bg tr : Int32} {c w : Nat → Option Nat} {wt : Nat → Nat} {L : Nat} {lp ld ln : Nat → Nat} {lg : Nat → Nat → Nat} {a b : Nat}
def vlF (c w : Nat → Option Nat) (ln : Nat → Nat) (lg : Nat → Nat → Nat) (a b : Nat) : Nat := rwL c w ln lg a b * 100 ^ (8 - pls (ln a) (ln b))
theorem vlF_lt (a b : Nat) : vlF c w ln lg a b < 2 ^ 63 := rwV_lt (pls_le _ _) spF_le ftF_le
theorem r_best_o {z : Int32} (hz : ¬ (0 ≤ z.toInt ∧ z.toInt ≤ 1)) : run 198 (0, [some (.ref 36), some (.int z), none, none, none, none, none, none, none], [], h) = some (some (.int (-2)), h) := by
  simp only [uX12_best_0, uX12_best_1, uX12_best_2, uX12_best_3, uX12_best_4, uX12_best_7, uX12_best_10, uX12_best_12, uX12_best_13, uX12_best_15, uX12_best_16, uX12_best_17, uX12_best_18, uX12_best_19, uX12_best_23, uX12_best_24, uX12_best_27, uX12_best_30, uX12_best_32, uX12_best_33, uX12_best_34, uX12_best_38, uX12_best_39, uX12_best_42, uX12_best_45, uX12_best_46, uX12_best_48, uX12_best_50, uX12_best_53, uX12_best_56, uX12_best_58, uX12_best_59, uX12_best_61, uX12_best_63, uX12_best_66, uX12_best_67, uX12_best_70, uX12_best_71, uX12_best_73, uX12_best_74, uX12_best_77, uX12_best_79, uX12_best_80, uX12_best_81, uX12_best_84, uX12_best_86, uX12_best_88, uX12_best_89, uX12_best_91, uX12_best_92, uX12_best_93, uX12_best_95, uX12_best_96, uX12_best_99, uX12_best_102, uX12_best_105, uX12_best_108, uX12_best_109, uX12_best_112, uX12_best_114, uX12_best_117, uX12_best_118, uX12_best_121, uX12_best_122, uX12_best_124, uX12_best_125, uX12_best_128, uX12_best_129, uX12_best_131, uX12_best_132, r_in_0_1, if_neg hz, Option.bind_some, Option.toList_some, Option.toList_none, List.cons_append, List.nil_append, if_true, if_false, and_self, and_true, true_and, or_self, or_true, true_or, false_or, or_false, i10, i00, i01, i11]
theorem r_best_step {z : Int32} {s : Option (Nat × Nat × Nat)} (hM : rO h 36 = some (11, mF fa dB dL dC dR rd pg (nI L) lm bg tr)) (B : BookM h c w wt) (K : LettersM h L lp ld ln lg) (ha : a < L) (hb : b < L) (hs : bsOK (vlF c w ln lg) s) (l7 l8 : Option Value) : ∃ l7b, run 198 (36, [some (.ref 36), some (.int z), some (.int (bsB s)), some (.long (bsL s)), none, some (.int (nI a)), some (.int (nI b)), l7, l8], [], h) = run 198 (36, [some (.ref 36), some (.int z), some (.int (bsB (bst (vlF c w ln lg) a b s))), some (.long (bsL (bst (vlF c w ln lg) a b s))), none, some (.int (nI a)), some (.int (nI (b + 1))), l7b, none], [], h) := by
  have hL := K.2.2.2.2.1
  have hp8 := pls_le (ln a) (ln b)
  have c1 : ¬ nI L ≤ nI b := nI_ge hb (by omega)
  have hpl := r_placesOf (a := a) (b := b) hM K (by omega) (by omega)
  have hrw := r_rowsOf (a := a) (b := b) hM B K (by omega) (by omega)
  have e8 : (8 : Int32) - nI (pls (ln a) (ln b)) = nI (8 - pls (ln a) (ln b)) := pk_sub (a := 8) hp8
  have hpw := r_power (h := h) (x := 100) (n := 8 - pls (ln a) (ln b)) (by omega)
  have e100 : (100 : Int64) = lN 100 := by decide
  have eV : lN (rwL c w ln lg a b) * lN (100 ^ (8 - pls (ln a) (ln b))) = lN (vlF c w ln lg a b) := lN_mul _ _
  have eB : (20 : Int32) * nI a + nI b = nI (20 * a + b) := by rw [show (20 : Int32) = nI 20 by decide, pk_mul, nI_add]
  refine ⟨some (.long (lN (vlF c w ln lg a b))), ?_⟩
  rw [uX12_best_36]
  cases s with
  | none =>
    have m1 : (-9 : Int32) < 0 := by decide
    simp only [uX12_best_0, uX12_best_1, uX12_best_2, uX12_best_3, uX12_best_4, uX12_best_7, uX12_best_10, uX12_best_12, uX12_best_13, uX12_best_15, uX12_best_16, uX12_best_17, uX12_best_18, uX12_best_19, uX12_best_23, uX12_best_24, uX12_best_27, uX12_best_30, uX12_best_32, uX12_best_33, uX12_best_34, uX12_best_38, uX12_best_39, uX12_best_42, uX12_best_45, uX12_best_46, uX12_best_48, uX12_best_50, uX12_best_53, uX12_best_56, uX12_best_58, uX12_best_59, uX12_best_61, uX12_best_63, uX12_best_66, uX12_best_67, uX12_best_70, uX12_best_71, uX12_best_73, uX12_best_74, uX12_best_77, uX12_best_79, uX12_best_80, uX12_best_81, uX12_best_84, uX12_best_86, uX12_best_88, uX12_best_89, uX12_best_91, uX12_best_92, uX12_best_93, uX12_best_95, uX12_best_96, uX12_best_99, uX12_best_102, uX12_best_105, uX12_best_108, uX12_best_109, uX12_best_112, uX12_best_114, uX12_best_117, uX12_best_118, uX12_best_121, uX12_best_122, uX12_best_124, uX12_best_125, uX12_best_128, uX12_best_129, uX12_best_131, uX12_best_132, gM0 hM, gM1 hM, gM2 hM, gM3 hM, gM4 hM, gM5 hM, gM6 hM, gM7 hM, gM8 hM, gM9 hM, gM10 hM, gM11 hM, gM12 hM, gM13 hM, gM14 hM, gM15 hM, gM16 hM, gM17 hM, gM18 hM, gM19 hM, gM20 hM, gM21 hM, gM22 hM, gM23 hM, gM24 hM, gM25 hM, gM26 hM, gM27 hM, gM28 hM, gM29 hM, gM30 hM, gM31 hM, gM32 hM, vM hM, c1, hrw, hpl, e8, e100, hpw, eV, bsB, bsL, bst, m1, eB, nI_1, Option.bind_some, Option.toList_some, Option.toList_none, List.cons_append, List.nil_append, if_true, if_false, and_self, and_true, true_and, or_self, or_true, true_or, false_or, or_false, i10, i00, i01, i11, Nat.reduceAdd, st1_0, st1_c, st1_1i, st1_1r, st1_1n, st1_1u, st1_1J, st2_0, st2_c, st2_1i, st2_1r, st2_1n, st2_1u, st2_1J]
  | some q =>
    obtain ⟨qa, qb, qv⟩ := q
    obtain ⟨s1, s2, s3⟩ := hs _ rfl
    simp only at s1 s2 s3
    have m1 : ¬ nI (20 * qa + qb) < 0 := nI_pos (by omega)
    by_cases hv : vlF c w ln lg a b < qv
    · have g1 : ¬ lN qv ≤ lN (vlF c w ln lg a b) := by
        rw [lN_leI s3 (vlF_lt a b)]
        omega
      simp only [uX12_best_0, uX12_best_1, uX12_best_2, uX12_best_3, uX12_best_4, uX12_best_7, uX12_best_10, uX12_best_12, uX12_best_13, uX12_best_15, uX12_best_16, uX12_best_17, uX12_best_18, uX12_best_19, uX12_best_23, uX12_best_24, uX12_best_27, uX12_best_30, uX12_best_32, uX12_best_33, uX12_best_34, uX12_best_38, uX12_best_39, uX12_best_42, uX12_best_45, uX12_best_46, uX12_best_48, uX12_best_50, uX12_best_53, uX12_best_56, uX12_best_58, uX12_best_59, uX12_best_61, uX12_best_63, uX12_best_66, uX12_best_67, uX12_best_70, uX12_best_71, uX12_best_73, uX12_best_74, uX12_best_77, uX12_best_79, uX12_best_80, uX12_best_81, uX12_best_84, uX12_best_86, uX12_best_88, uX12_best_89, uX12_best_91, uX12_best_92, uX12_best_93, uX12_best_95, uX12_best_96, uX12_best_99, uX12_best_102, uX12_best_105, uX12_best_108, uX12_best_109, uX12_best_112, uX12_best_114, uX12_best_117, uX12_best_118, uX12_best_121, uX12_best_122, uX12_best_124, uX12_best_125, uX12_best_128, uX12_best_129, uX12_best_131, uX12_best_132, gM0 hM, gM1 hM, gM2 hM, gM3 hM, gM4 hM, gM5 hM, gM6 hM, gM7 hM, gM8 hM, gM9 hM, gM10 hM, gM11 hM, gM12 hM, gM13 hM, gM14 hM, gM15 hM, gM16 hM, gM17 hM, gM18 hM, gM19 hM, gM20 hM, gM21 hM, gM22 hM, gM23 hM, gM24 hM, gM25 hM, gM26 hM, gM27 hM, gM28 hM, gM29 hM, gM30 hM, gM31 hM, gM32 hM, vM hM, c1, hrw, hpl, e8, e100, hpw, eV, bsB, bsL, bst, m1, lg_cmp_ge, g1, if_pos hv, eB, nI_1, Option.bind_some, Option.toList_some, Option.toList_none, List.cons_append, List.nil_append, if_true, if_false, and_self, and_true, true_and, or_self, or_true, true_or, false_or, or_false, i10, i00, i01, i11, Nat.reduceAdd, st1_0, st1_c, st1_1i, st1_1r, st1_1n, st1_1u, st1_1J, st2_0, st2_c, st2_1i, st2_1r, st2_1n, st2_1u, st2_1J]
    · have g1 : lN qv ≤ lN (vlF c w ln lg a b) := by
        rw [lN_leI s3 (vlF_lt a b)]
        omega
      simp only [uX12_best_0, uX12_best_1, uX12_best_2, uX12_best_3, uX12_best_4, uX12_best_7, uX12_best_10, uX12_best_12, uX12_best_13, uX12_best_15, uX12_best_16, uX12_best_17, uX12_best_18, uX12_best_19, uX12_best_23, uX12_best_24, uX12_best_27, uX12_best_30, uX12_best_32, uX12_best_33, uX12_best_34, uX12_best_38, uX12_best_39, uX12_best_42, uX12_best_45, uX12_best_46, uX12_best_48, uX12_best_50, uX12_best_53, uX12_best_56, uX12_best_58, uX12_best_59, uX12_best_61, uX12_best_63, uX12_best_66, uX12_best_67, uX12_best_70, uX12_best_71, uX12_best_73, uX12_best_74, uX12_best_77, uX12_best_79, uX12_best_80, uX12_best_81, uX12_best_84, uX12_best_86, uX12_best_88, uX12_best_89, uX12_best_91, uX12_best_92, uX12_best_93, uX12_best_95, uX12_best_96, uX12_best_99, uX12_best_102, uX12_best_105, uX12_best_108, uX12_best_109, uX12_best_112, uX12_best_114, uX12_best_117, uX12_best_118, uX12_best_121, uX12_best_122, uX12_best_124, uX12_best_125, uX12_best_128, uX12_best_129, uX12_best_131, uX12_best_132, gM0 hM, gM1 hM, gM2 hM, gM3 hM, gM4 hM, gM5 hM, gM6 hM, gM7 hM, gM8 hM, gM9 hM, gM10 hM, gM11 hM, gM12 hM, gM13 hM, gM14 hM, gM15 hM, gM16 hM, gM17 hM, gM18 hM, gM19 hM, gM20 hM, gM21 hM, gM22 hM, gM23 hM, gM24 hM, gM25 hM, gM26 hM, gM27 hM, gM28 hM, gM29 hM, gM30 hM, gM31 hM, gM32 hM, vM hM, c1, hrw, hpl, e8, e100, hpw, eV, bsB, bsL, bst, m1, lg_cmp_ge, g1, if_neg hv, eB, nI_1, Option.bind_some, Option.toList_some, Option.toList_none, List.cons_append, List.nil_append, if_true, if_false, and_self, and_true, true_and, or_self, or_true, true_or, false_or, or_false, i10, i00, i01, i11, Nat.reduceAdd, st1_0, st1_c, st1_1i, st1_1r, st1_1n, st1_1u, st1_1J, st2_0, st2_c, st2_1i, st2_1r, st2_1n, st2_1u, st2_1J]
theorem r_best_in {z : Int32} {s : Option (Nat × Nat × Nat)} (hM : rO h 36 = some (11, mF fa dB dL dC dR rd pg (nI L) lm bg tr)) (B : BookM h c w wt) (K : LettersM h L lp ld ln lg) (ha : a < L) (hs : bsOK (vlF c w ln lg) s) (l7 l8 : Option Value) : ∀ t, a + 1 + t ≤ L → ∃ m7 m8, run 198 (36, [some (.ref 36), some (.int z), some (.int (bsB s)), some (.long (bsL s)), none, some (.int (nI a)), some (.int (nI (a + 1))), l7, l8], [], h) = run 198 (36, [some (.ref 36), some (.int z), some (.int (bsB (bsI (vlF c w ln lg) a s t))), some (.long (bsL (bsI (vlF c w ln lg) a s t))), none, some (.int (nI a)), some (.int (nI (a + 1 + t))), m7, m8], [], h) := by
  intro t
  induction t with
  | zero => intro _; exact ⟨l7, l8, rfl⟩
  | succ t ih =>
    intro ht
    obtain ⟨m7, m8, e⟩ := ih (by omega)
    obtain ⟨n7, e2⟩ := r_best_step (z := z) (a := a) (b := a + 1 + t) hM B K ha (by omega) (bsI_ok (a := a) (vlF_lt (c := c) (w := w) (ln := ln) (lg := lg)) hs t (by have := K.2.2.2.2.1; omega)) m7 m8
    exact ⟨n7, none, e.trans e2⟩
theorem r_best_out {z : Int32} (hM : rO h 36 = some (11, mF fa dB dL dC dR rd pg (nI L) lm bg tr)) (B : BookM h c w wt) (K : LettersM h L lp ld ln lg) : ∀ a, a ≤ L → ∃ m6 m7 m8, run 198 (21, [some (.ref 36), some (.int z), some (.int (-9)), some (.long 0), none, some (.int (nI 0)), none, none, none], [], h) = run 198 (21, [some (.ref 36), some (.int z), some (.int (bsB (bsO (vlF c w ln lg) L a))), some (.long (bsL (bsO (vlF c w ln lg) L a))), none, some (.int (nI a)), m6, m7, m8], [], h) := by
  have hL := K.2.2.2.2.1
  intro a
  induction a with
  | zero => intro _; exact ⟨none, none, none, rfl⟩
  | succ a ih =>
    intro ha
    obtain ⟨m6, m7, m8, e⟩ := ih (by omega)
    have c1 : ¬ nI L ≤ nI a := nI_ge (by omega) (by omega)
    obtain ⟨n7, n8, e2⟩ := r_best_in (z := z) (a := a) hM B K (by omega) (bsO_ok (vlF_lt (c := c) (w := w) (ln := ln) (lg := lg)) hL a (by omega)) m7 m8 (L - (a + 1)) (by omega)
    have c2 : nI L ≤ nI (a + 1 + (L - (a + 1))) := nI_le (by omega) (by omega)
    refine ⟨some (.int (nI (a + 1 + (L - (a + 1))))), n7, n8, e.trans ?_⟩
    rw [uX12_best_21]
    simp only [uX12_best_0, uX12_best_1, uX12_best_2, uX12_best_3, uX12_best_4, uX12_best_7, uX12_best_10, uX12_best_12, uX12_best_13, uX12_best_15, uX12_best_16, uX12_best_17, uX12_best_18, uX12_best_19, uX12_best_23, uX12_best_24, uX12_best_27, uX12_best_30, uX12_best_32, uX12_best_33, uX12_best_34, uX12_best_38, uX12_best_39, uX12_best_42, uX12_best_45, uX12_best_46, uX12_best_48, uX12_best_50, uX12_best_53, uX12_best_56, uX12_best_58, uX12_best_59, uX12_best_61, uX12_best_63, uX12_best_66, uX12_best_67, uX12_best_70, uX12_best_71, uX12_best_73, uX12_best_74, uX12_best_77, uX12_best_79, uX12_best_80, uX12_best_81, uX12_best_84, uX12_best_86, uX12_best_88, uX12_best_89, uX12_best_91, uX12_best_92, uX12_best_93, uX12_best_95, uX12_best_96, uX12_best_99, uX12_best_102, uX12_best_105, uX12_best_108, uX12_best_109, uX12_best_112, uX12_best_114, uX12_best_117, uX12_best_118, uX12_best_121, uX12_best_122, uX12_best_124, uX12_best_125, uX12_best_128, uX12_best_129, uX12_best_131, uX12_best_132, gM0 hM, gM1 hM, gM2 hM, gM3 hM, gM4 hM, gM5 hM, gM6 hM, gM7 hM, gM8 hM, gM9 hM, gM10 hM, gM11 hM, gM12 hM, gM13 hM, gM14 hM, gM15 hM, gM16 hM, gM17 hM, gM18 hM, gM19 hM, gM20 hM, gM21 hM, gM22 hM, gM23 hM, gM24 hM, gM25 hM, gM26 hM, gM27 hM, gM28 hM, gM29 hM, gM30 hM, gM31 hM, gM32 hM, vM hM, c1, nI_1, Option.bind_some, Option.toList_some, Option.toList_none, List.cons_append, List.nil_append, if_true, if_false, and_self, and_true, true_and, or_self, or_true, true_or, false_or, or_false, i10, i00, i01, i11, Nat.reduceAdd, st1_0, st1_c, st1_1i, st1_1r, st1_1n, st1_1u, st1_1J, st2_0, st2_c, st2_1i, st2_1r, st2_1n, st2_1u, st2_1J]
    refine e2.trans ?_
    rw [uX12_best_36]
    simp only [uX12_best_0, uX12_best_1, uX12_best_2, uX12_best_3, uX12_best_4, uX12_best_7, uX12_best_10, uX12_best_12, uX12_best_13, uX12_best_15, uX12_best_16, uX12_best_17, uX12_best_18, uX12_best_19, uX12_best_23, uX12_best_24, uX12_best_27, uX12_best_30, uX12_best_32, uX12_best_33, uX12_best_34, uX12_best_38, uX12_best_39, uX12_best_42, uX12_best_45, uX12_best_46, uX12_best_48, uX12_best_50, uX12_best_53, uX12_best_56, uX12_best_58, uX12_best_59, uX12_best_61, uX12_best_63, uX12_best_66, uX12_best_67, uX12_best_70, uX12_best_71, uX12_best_73, uX12_best_74, uX12_best_77, uX12_best_79, uX12_best_80, uX12_best_81, uX12_best_84, uX12_best_86, uX12_best_88, uX12_best_89, uX12_best_91, uX12_best_92, uX12_best_93, uX12_best_95, uX12_best_96, uX12_best_99, uX12_best_102, uX12_best_105, uX12_best_108, uX12_best_109, uX12_best_112, uX12_best_114, uX12_best_117, uX12_best_118, uX12_best_121, uX12_best_122, uX12_best_124, uX12_best_125, uX12_best_128, uX12_best_129, uX12_best_131, uX12_best_132, gM0 hM, gM1 hM, gM2 hM, gM3 hM, gM4 hM, gM5 hM, gM6 hM, gM7 hM, gM8 hM, gM9 hM, gM10 hM, gM11 hM, gM12 hM, gM13 hM, gM14 hM, gM15 hM, gM16 hM, gM17 hM, gM18 hM, gM19 hM, gM20 hM, gM21 hM, gM22 hM, gM23 hM, gM24 hM, gM25 hM, gM26 hM, gM27 hM, gM28 hM, gM29 hM, gM30 hM, gM31 hM, gM32 hM, vM hM, c2, nI_1, Option.bind_some, Option.toList_some, Option.toList_none, List.cons_append, List.nil_append, if_true, if_false, and_self, and_true, true_and, or_self, or_true, true_or, false_or, or_false, i10, i00, i01, i11, Nat.reduceAdd, st1_0, st1_c, st1_1i, st1_1r, st1_1n, st1_1u, st1_1J, st2_0, st2_c, st2_1i, st2_1r, st2_1n, st2_1u, st2_1J]
    rfl
def bsR (s : Option (Nat × Nat × Nat)) (z : Nat) : Int32 := match s with
  | none => -9
  | some q => if z = 0 then nI q.1 else nI q.2.1
theorem r_best {z : Nat} (hM : rO h 36 = some (11, mF fa dB dL dC dR rd pg (nI L) lm bg tr)) (B : BookM h c w wt) (K : LettersM h L lp ld ln lg) (hz : z < 2) : run 198 (0, [some (.ref 36), some (.int (nI z)), none, none, none, none, none, none, none], [], h) = some (some (.int (bsR (bsO (vlF c w ln lg) L L) z)), h) := by
  have hL := K.2.2.2.2.1
  have h1 : 0 ≤ (nI z).toInt ∧ (nI z).toInt ≤ 1 := nI_rng (by omega) (by omega)
  obtain ⟨m6, m7, m8, e⟩ := r_best_out (z := nI z) hM B K L (Nat.le_refl _)
  have hok := bsO_ok (vlF_lt (c := c) (w := w) (ln := ln) (lg := lg)) hL L (Nat.le_refl _)
  have c1 : nI L ≤ nI L := nI_le (Nat.le_refl _) (by omega)
  simp only [uX12_best_0, uX12_best_1, uX12_best_2, uX12_best_3, uX12_best_4, uX12_best_7, uX12_best_10, uX12_best_12, uX12_best_13, uX12_best_15, uX12_best_16, uX12_best_17, uX12_best_18, uX12_best_19, uX12_best_23, uX12_best_24, uX12_best_27, uX12_best_30, uX12_best_32, uX12_best_33, uX12_best_34, uX12_best_38, uX12_best_39, uX12_best_42, uX12_best_45, uX12_best_46, uX12_best_48, uX12_best_50, uX12_best_53, uX12_best_56, uX12_best_58, uX12_best_59, uX12_best_61, uX12_best_63, uX12_best_66, uX12_best_67, uX12_best_70, uX12_best_71, uX12_best_73, uX12_best_74, uX12_best_77, uX12_best_79, uX12_best_80, uX12_best_81, uX12_best_84, uX12_best_86, uX12_best_88, uX12_best_89, uX12_best_91, uX12_best_92, uX12_best_93, uX12_best_95, uX12_best_96, uX12_best_99, uX12_best_102, uX12_best_105, uX12_best_108, uX12_best_109, uX12_best_112, uX12_best_114, uX12_best_117, uX12_best_118, uX12_best_121, uX12_best_122, uX12_best_124, uX12_best_125, uX12_best_128, uX12_best_129, uX12_best_131, uX12_best_132, r_in_0_1, if_pos h1, Option.bind_some, Option.toList_some, Option.toList_none, List.cons_append, List.nil_append, if_true, if_false, and_self, and_true, true_and, or_self, or_true, true_or, false_or, or_false, i10, i00, i01, i11, Nat.reduceAdd, st1_0, st1_c, st1_1i, st1_1r, st1_1n, st1_1u, st1_1J, st2_0, st2_c, st2_1i, st2_1r, st2_1n, st2_1u, st2_1J]
  refine Eq.trans e ?_
  rw [uX12_best_21]
  cases hs : bsO (vlF c w ln lg) L L with
  | none =>
    have m1 : ¬ (0 : Int32) ≤ -9 := by decide
    simp only [uX12_best_0, uX12_best_1, uX12_best_2, uX12_best_3, uX12_best_4, uX12_best_7, uX12_best_10, uX12_best_12, uX12_best_13, uX12_best_15, uX12_best_16, uX12_best_17, uX12_best_18, uX12_best_19, uX12_best_23, uX12_best_24, uX12_best_27, uX12_best_30, uX12_best_32, uX12_best_33, uX12_best_34, uX12_best_38, uX12_best_39, uX12_best_42, uX12_best_45, uX12_best_46, uX12_best_48, uX12_best_50, uX12_best_53, uX12_best_56, uX12_best_58, uX12_best_59, uX12_best_61, uX12_best_63, uX12_best_66, uX12_best_67, uX12_best_70, uX12_best_71, uX12_best_73, uX12_best_74, uX12_best_77, uX12_best_79, uX12_best_80, uX12_best_81, uX12_best_84, uX12_best_86, uX12_best_88, uX12_best_89, uX12_best_91, uX12_best_92, uX12_best_93, uX12_best_95, uX12_best_96, uX12_best_99, uX12_best_102, uX12_best_105, uX12_best_108, uX12_best_109, uX12_best_112, uX12_best_114, uX12_best_117, uX12_best_118, uX12_best_121, uX12_best_122, uX12_best_124, uX12_best_125, uX12_best_128, uX12_best_129, uX12_best_131, uX12_best_132, gM0 hM, gM1 hM, gM2 hM, gM3 hM, gM4 hM, gM5 hM, gM6 hM, gM7 hM, gM8 hM, gM9 hM, gM10 hM, gM11 hM, gM12 hM, gM13 hM, gM14 hM, gM15 hM, gM16 hM, gM17 hM, gM18 hM, gM19 hM, gM20 hM, gM21 hM, gM22 hM, gM23 hM, gM24 hM, gM25 hM, gM26 hM, gM27 hM, gM28 hM, gM29 hM, gM30 hM, gM31 hM, gM32 hM, vM hM, c1, bsB, bsR, m1, Option.bind_some, Option.toList_some, Option.toList_none, List.cons_append, List.nil_append, if_true, if_false, and_self, and_true, true_and, or_self, or_true, true_or, false_or, or_false, i10, i00, i01, i11, Nat.reduceAdd, st1_0, st1_c, st1_1i, st1_1r, st1_1n, st1_1u, st1_1J, st2_0, st2_c, st2_1i, st2_1r, st2_1n, st2_1u, st2_1J]
  | some q =>
    obtain ⟨qa, qb, qv⟩ := q
    obtain ⟨s1, s2, s3⟩ := hok _ hs
    simp only at s1 s2 s3
    have m1 : (0 : Int32) ≤ nI (20 * qa + qb) := nI_pos' (by omega)
    have z0 : (nI z = 0) = (z = 0) := propext (nI_eq (b := 0) (by omega) (by decide))
    have zz : ¬ (20 : Int32) = 0 := by decide
    have e1 : nI (20 * qa + qb) / 20 = nI qa := by
      rw [show (20 : Int32) = nI 20 by decide, pk_div (by omega) (by decide) (by decide)]
      congr 1
      omega
    have e2 : nI (20 * qa + qb) - nI (20 * qa + qb) / 20 * 20 = nI qb := by
      rw [show (20 : Int32) = nI 20 by decide, pk_rem (by omega) (by decide) (by decide)]
      congr 1
      omega
    by_cases q0 : z = 0
    · simp only [uX12_best_0, uX12_best_1, uX12_best_2, uX12_best_3, uX12_best_4, uX12_best_7, uX12_best_10, uX12_best_12, uX12_best_13, uX12_best_15, uX12_best_16, uX12_best_17, uX12_best_18, uX12_best_19, uX12_best_23, uX12_best_24, uX12_best_27, uX12_best_30, uX12_best_32, uX12_best_33, uX12_best_34, uX12_best_38, uX12_best_39, uX12_best_42, uX12_best_45, uX12_best_46, uX12_best_48, uX12_best_50, uX12_best_53, uX12_best_56, uX12_best_58, uX12_best_59, uX12_best_61, uX12_best_63, uX12_best_66, uX12_best_67, uX12_best_70, uX12_best_71, uX12_best_73, uX12_best_74, uX12_best_77, uX12_best_79, uX12_best_80, uX12_best_81, uX12_best_84, uX12_best_86, uX12_best_88, uX12_best_89, uX12_best_91, uX12_best_92, uX12_best_93, uX12_best_95, uX12_best_96, uX12_best_99, uX12_best_102, uX12_best_105, uX12_best_108, uX12_best_109, uX12_best_112, uX12_best_114, uX12_best_117, uX12_best_118, uX12_best_121, uX12_best_122, uX12_best_124, uX12_best_125, uX12_best_128, uX12_best_129, uX12_best_131, uX12_best_132, gM0 hM, gM1 hM, gM2 hM, gM3 hM, gM4 hM, gM5 hM, gM6 hM, gM7 hM, gM8 hM, gM9 hM, gM10 hM, gM11 hM, gM12 hM, gM13 hM, gM14 hM, gM15 hM, gM16 hM, gM17 hM, gM18 hM, gM19 hM, gM20 hM, gM21 hM, gM22 hM, gM23 hM, gM24 hM, gM25 hM, gM26 hM, gM27 hM, gM28 hM, gM29 hM, gM30 hM, gM31 hM, gM32 hM, vM hM, c1, bsB, bsR, m1, z0, eq_true q0, zz, e1, Option.bind_some, Option.toList_some, Option.toList_none, List.cons_append, List.nil_append, if_true, if_false, and_self, and_true, true_and, or_self, or_true, true_or, false_or, or_false, i10, i00, i01, i11, Nat.reduceAdd, st1_0, st1_c, st1_1i, st1_1r, st1_1n, st1_1u, st1_1J, st2_0, st2_c, st2_1i, st2_1r, st2_1n, st2_1u, st2_1J]
    · simp only [uX12_best_0, uX12_best_1, uX12_best_2, uX12_best_3, uX12_best_4, uX12_best_7, uX12_best_10, uX12_best_12, uX12_best_13, uX12_best_15, uX12_best_16, uX12_best_17, uX12_best_18, uX12_best_19, uX12_best_23, uX12_best_24, uX12_best_27, uX12_best_30, uX12_best_32, uX12_best_33, uX12_best_34, uX12_best_38, uX12_best_39, uX12_best_42, uX12_best_45, uX12_best_46, uX12_best_48, uX12_best_50, uX12_best_53, uX12_best_56, uX12_best_58, uX12_best_59, uX12_best_61, uX12_best_63, uX12_best_66, uX12_best_67, uX12_best_70, uX12_best_71, uX12_best_73, uX12_best_74, uX12_best_77, uX12_best_79, uX12_best_80, uX12_best_81, uX12_best_84, uX12_best_86, uX12_best_88, uX12_best_89, uX12_best_91, uX12_best_92, uX12_best_93, uX12_best_95, uX12_best_96, uX12_best_99, uX12_best_102, uX12_best_105, uX12_best_108, uX12_best_109, uX12_best_112, uX12_best_114, uX12_best_117, uX12_best_118, uX12_best_121, uX12_best_122, uX12_best_124, uX12_best_125, uX12_best_128, uX12_best_129, uX12_best_131, uX12_best_132, gM0 hM, gM1 hM, gM2 hM, gM3 hM, gM4 hM, gM5 hM, gM6 hM, gM7 hM, gM8 hM, gM9 hM, gM10 hM, gM11 hM, gM12 hM, gM13 hM, gM14 hM, gM15 hM, gM16 hM, gM17 hM, gM18 hM, gM19 hM, gM20 hM, gM21 hM, gM22 hM, gM23 hM, gM24 hM, gM25 hM, gM26 hM, gM27 hM, gM28 hM, gM29 hM, gM30 hM, gM31 hM, gM32 hM, vM hM, c1, bsB, bsR, m1, z0, eq_false q0, zz, e2, Option.bind_some, Option.toList_some, Option.toList_none, List.cons_append, List.nil_append, if_true, if_false, and_self, and_true, true_and, or_self, or_true, true_or, false_or, or_false, i10, i00, i01, i11, Nat.reduceAdd, st1_0, st1_c, st1_1i, st1_1r, st1_1n, st1_1u, st1_1J, st2_0, st2_c, st2_1i, st2_1r, st2_1n, st2_1u, st2_1J]
def itsF (c w : Nat → Option Nat) (wt : Nat → Nat) (by' u : Nat) : Nat := match ptF c w by' u with
  | none => 0
  | some v => (wt u + 1) * (wt v + 1)
def lkF (c w : Nat → Option Nat) (wt : Nat → Nat) (by' : Nat) : Nat → Option Nat × Nat
  | 0 => (none, 0)
  | u + 1 => if (lkF c w wt by' u).2 < itsF c w wt by' u then (some u, itsF c w wt by' u) else lkF c w wt by' u
theorem itsF_le {by' u : Nat} (hw : ∀ u, wt u < 100) : itsF c w wt by' u ≤ 10000 := by
  unfold itsF
  split
  · omega
  · have h1 := hw u
    rename_i v _
    have h2 := hw v
    have h3 : (wt u + 1) * (wt v + 1) ≤ 100 * 100 := Nat.mul_le_mul (by omega) (by omega)
    omega
theorem lkF_le {by' : Nat} (hw : ∀ u, wt u < 100) : ∀ u, (lkF c w wt by' u).2 ≤ 10000
  | 0 => by show (0 : Nat) ≤ 10000; omega
  | u + 1 => by
    show (if _ then (some u, itsF c w wt by' u) else lkF c w wt by' u).2 ≤ 10000
    split
    · exact itsF_le hw
    · exact lkF_le hw u
theorem lkF_lt {by' : Nat} : ∀ u x, (lkF c w wt by' u).1 = some x → x < u ∧ (ptF c w by' x).isSome
  | 0, x, e => by cases e
  | u + 1, x, e => by
    have e' : (if (lkF c w wt by' u).2 < itsF c w wt by' u then (some u, itsF c w wt by' u) else lkF c w wt by' u).1 = some x := e
    split at e'
    · rename_i hl
      cases e'
      refine ⟨Nat.lt_succ_self _, ?_⟩
      unfold itsF at hl
      cases hp : ptF c w by' u with
      | none => rw [hp] at hl; exact absurd (show (lkF c w wt by' u).2 < 0 from hl) (by omega)
      | some v => rfl
    · have := lkF_lt u x e'
      exact ⟨by omega, this.2⟩
end OM
