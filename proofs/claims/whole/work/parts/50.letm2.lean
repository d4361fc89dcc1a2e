section LM
variable {h : AH} {fa dB dL dC dR rd pg lt lm bg tr : Int32} {c : Nat → Option Nat}
theorem wdF_lt {b : Option Nat} {T : Nat → Int32} {n : Nat} (hb : ∀ g, b = some g → g < 100) (hc : ∀ u g, c u = some g → g < 100) (j : Nat) : wdF b c T n j < 100 := by
  unfold wdF
  split
  · cases e : b with
    | none => show 0 < 100; decide
    | some g => exact hb g e
  · split
    · cases e : c (T (j - offB b)).toInt.toNat with
      | none => show 0 < 100; decide
      | some g => exact hc _ g e
    · decide
theorem r_layWords {fr n : Nat} {b l : Option Nat} {ck : Bool} {f f50 : Nat → Int32} (hM : rO h 36 = some (11, mF fa (oN b) (oN l) (bI ck) dR rd pg lt lm bg tr)) (hb : ∀ g, b = some g → g < 100) (hl : ∀ g, l = some g → 1 ≤ g ∧ g ≤ 6) (hc : ∀ u g, c u = some g → g < 100) (a : rI h 57 = some (240, f)) (a1 : rI h 37 = some (30, fun k => oN (c k))) (a5 : rI h 50 = some (80, f50)) (hfr : fr + n ≤ 240) (hn : n ≤ 60) (hw : allB (fun x => isWd c (f (fr + x))) n = true) : ∃ h1, run 175 (0, [some (.ref 36), some (.int (nI fr)), some (.int (nI n)), none], [], h) = some (none, h1) ∧ LD h h1 fa (oN b) (oN l) (bI ck) dR rd pg lt bg tr (layT b l ck n) (layF b l c (fun x => f (fr + x)) n) := by
  have I0 : LD h (sf h 36 21 (.int 0)) fa (oN b) (oN l) (bI ck) dR rd pg lt bg tr 0 (layF b l c (fun x => f (fr + x)) n) := ⟨difSf (by decide), sM21 hM, f50, by rw [rI_sf, a5], fun j hj => absurd hj (by omega)⟩
  have hoff : offB b ≤ 1 := by unfold offB; split <;> omega
  have s1 : ∃ h1, run 175 (0, [some (.ref 36), some (.int (nI fr)), some (.int (nI n)), none], [], h) = run 175 (22, [some (.ref 36), some (.int (nI fr)), some (.int (nI n)), some (.int (nI 0))], [], h1) ∧ LD h h1 fa (oN b) (oN l) (bI ck) dR rd pg lt bg tr (offB b + 0) (layF b l c (fun x => f (fr + x)) n) := by
    cases hbb : b with
    | none =>
      subst hbb
      have c1 : oN none < 0 := by decide
      refine ⟨_, ?_, I0⟩
      have M1 := I0.2.1
      simp only [uX12_layWords_0, uX12_layWords_1, uX12_layWords_2, uX12_layWords_5, uX12_layWords_6, uX12_layWords_9, uX12_layWords_12, uX12_layWords_13, uX12_layWords_14, uX12_layWords_17, uX12_layWords_20, uX12_layWords_21, uX12_layWords_23, uX12_layWords_24, uX12_layWords_27, uX12_layWords_28, uX12_layWords_29, uX12_layWords_32, uX12_layWords_33, uX12_layWords_36, uX12_layWords_37, uX12_layWords_38, uX12_layWords_39, uX12_layWords_40, uX12_layWords_41, uX12_layWords_44, uX12_layWords_47, uX12_layWords_51, uX12_layWords_54, uX12_layWords_57, uX12_layWords_58, uX12_layWords_61, uX12_layWords_62, uX12_layWords_65, uX12_layWords_66, uX12_layWords_69, uX12_layWords_70, uX12_layWords_71, uX12_layWords_74, uX12_layWords_77, uX12_layWords_78, uX12_layWords_81, uX12_layWords_82, uX12_layWords_85, uX12_layWords_86, uX12_layWords_87, uX12_layWords_88, uX12_layWords_91, uX12_layWords_94, uX12_layWords_97, pM21 hM, gM0 M1, gM1 M1, gM2 M1, gM3 M1, gM4 M1, gM5 M1, gM6 M1, gM7 M1, gM8 M1, gM9 M1, gM10 M1, gM11 M1, gM12 M1, gM13 M1, gM14 M1, gM15 M1, gM16 M1, gM17 M1, gM18 M1, gM19 M1, gM20 M1, gM21 M1, gM22 M1, gM23 M1, gM24 M1, gM25 M1, gM26 M1, gM27 M1, gM28 M1, gM29 M1, gM30 M1, gM31 M1, gM32 M1, vM M1, c1, Option.bind_some, Option.toList_some, Option.toList_none, List.cons_append, List.nil_append, if_true, if_false, and_self, and_true, true_and, or_self, or_true, true_or, false_or, or_false, i10, i00, i01, i11, Nat.reduceAdd, st1_0, st1_c, st1_1i, st1_1r, st1_1n, st1_1u, st1_1J, st2_0, st2_c, st2_1i, st2_1r, st2_1n, st2_1u, st2_1J]
      rfl
    | some g =>
      subst hbb
      have hg := hb g rfl
      have c1 : ¬ oN (some g) < 0 := nI_pos (by omega)
      have hW : oN (some g) = nI (layF (some g) l c (fun x => f (fr + x)) n 0) := by
        unfold layF
        rw [if_pos (by unfold layN offB; simp only [Option.isSome_some, if_true]; omega)]
        unfold wdF
        rw [if_pos (by unfold offB; simp only [Option.isSome_some, if_true]; omega)]
        rfl
      obtain ⟨h1, e1, I1⟩ := r_layGroup I0 (by decide) hW
      have M1 := I0.2.1
      refine ⟨h1, ?_, I1⟩
      simp only [uX12_layWords_0, uX12_layWords_1, uX12_layWords_2, uX12_layWords_5, uX12_layWords_6, uX12_layWords_9, uX12_layWords_12, uX12_layWords_13, uX12_layWords_14, uX12_layWords_17, uX12_layWords_20, uX12_layWords_21, uX12_layWords_23, uX12_layWords_24, uX12_layWords_27, uX12_layWords_28, uX12_layWords_29, uX12_layWords_32, uX12_layWords_33, uX12_layWords_36, uX12_layWords_37, uX12_layWords_38, uX12_layWords_39, uX12_layWords_40, uX12_layWords_41, uX12_layWords_44, uX12_layWords_47, uX12_layWords_51, uX12_layWords_54, uX12_layWords_57, uX12_layWords_58, uX12_layWords_61, uX12_layWords_62, uX12_layWords_65, uX12_layWords_66, uX12_layWords_69, uX12_layWords_70, uX12_layWords_71, uX12_layWords_74, uX12_layWords_77, uX12_layWords_78, uX12_layWords_81, uX12_layWords_82, uX12_layWords_85, uX12_layWords_86, uX12_layWords_87, uX12_layWords_88, uX12_layWords_91, uX12_layWords_94, uX12_layWords_97, pM21 hM, gM0 M1, gM1 M1, gM2 M1, gM3 M1, gM4 M1, gM5 M1, gM6 M1, gM7 M1, gM8 M1, gM9 M1, gM10 M1, gM11 M1, gM12 M1, gM13 M1, gM14 M1, gM15 M1, gM16 M1, gM17 M1, gM18 M1, gM19 M1, gM20 M1, gM21 M1, gM22 M1, gM23 M1, gM24 M1, gM25 M1, gM26 M1, gM27 M1, gM28 M1, gM29 M1, gM30 M1, gM31 M1, gM32 M1, vM M1, c1, e1, Option.bind_some, Option.toList_some, Option.toList_none, List.cons_append, List.nil_append, if_true, if_false, and_self, and_true, true_and, or_self, or_true, true_or, false_or, or_false, i10, i00, i01, i11, Nat.reduceAdd, st1_0, st1_c, st1_1i, st1_1r, st1_1n, st1_1u, st1_1J, st2_0, st2_c, st2_1i, st2_1r, st2_1n, st2_1u, st2_1J]
      rfl
  obtain ⟨h1, e1, I1⟩ := s1
  have s2 := loopE (F := fun x hh => run 175 (22, [some (.ref 36), some (.int (nI fr)), some (.int (nI n)), some (.int (nI x))], [], hh)) (I := fun x hh => LD h hh fa (oN b) (oN l) (bI ck) dR rd pg lt bg tr (offB b + x) (layF b l c (fun x => f (fr + x)) n)) n h1 I1 (by
    intro x hh hx I
    have c1 : ¬ nI n ≤ nI x := nI_ge hx (by omega)
    obtain ⟨u, g, q1, q2, q3⟩ := isWd_iff.mp (allB_iff.mp hw x hx)
    have M1 := I.2.1
    have b7 : rI hh 57 = some (240, f) := by rw [difI I.1 (by decide), a]
    have b1 : rI hh 37 = some (30, fun k => oN (c k)) := by rw [difI I.1 (by decide), a1]
    have g7 : gi hh 57 (nI (fr + x)) = some (nI u) := by rw [gi_nI b7 (by omega) (by decide), q2]
    have g1 : gi hh 37 (nI u) = some (nI g) := by rw [gi_nI b1 q1 (by decide), q3]; rfl
    have hW : nI g = nI (layF b l c (fun x => f (fr + x)) n (offB b + x)) := by
      unfold layF
      rw [if_pos (by unfold layN; omega)]
      unfold wdF
      rw [if_neg (by omega), if_pos (by omega), show offB b + x - offB b = x by omega]
      show nI g = nI ((c (f (fr + x)).toInt.toNat).getD 0)
      rw [q2, nI_toInt (by omega)]
      show nI g = nI ((c u).getD 0)
      rw [q3]
      rfl
    obtain ⟨h2, e2, I2⟩ := r_layGroup I (by omega) hW
    refine ⟨h2, ?_, I2⟩
    show run 175 (22, _) = run 175 (22, _)
    rw [uX12_layWords_22]
    simp only [uX12_layWords_0, uX12_layWords_1, uX12_layWords_2, uX12_layWords_5, uX12_layWords_6, uX12_layWords_9, uX12_layWords_12, uX12_layWords_13, uX12_layWords_14, uX12_layWords_17, uX12_layWords_20, uX12_layWords_21, uX12_layWords_23, uX12_layWords_24, uX12_layWords_27, uX12_layWords_28, uX12_layWords_29, uX12_layWords_32, uX12_layWords_33, uX12_layWords_36, uX12_layWords_37, uX12_layWords_38, uX12_layWords_39, uX12_layWords_40, uX12_layWords_41, uX12_layWords_44, uX12_layWords_47, uX12_layWords_51, uX12_layWords_54, uX12_layWords_57, uX12_layWords_58, uX12_layWords_61, uX12_layWords_62, uX12_layWords_65, uX12_layWords_66, uX12_layWords_69, uX12_layWords_70, uX12_layWords_71, uX12_layWords_74, uX12_layWords_77, uX12_layWords_78, uX12_layWords_81, uX12_layWords_82, uX12_layWords_85, uX12_layWords_86, uX12_layWords_87, uX12_layWords_88, uX12_layWords_91, uX12_layWords_94, uX12_layWords_97, c1, gM0 M1, gM1 M1, gM2 M1, gM3 M1, gM4 M1, gM5 M1, gM6 M1, gM7 M1, gM8 M1, gM9 M1, gM10 M1, gM11 M1, gM12 M1, gM13 M1, gM14 M1, gM15 M1, gM16 M1, gM17 M1, gM18 M1, gM19 M1, gM20 M1, gM21 M1, gM22 M1, gM23 M1, gM24 M1, gM25 M1, gM26 M1, gM27 M1, gM28 M1, gM29 M1, gM30 M1, gM31 M1, gM32 M1, vM M1, nI_add, g7, g1, e2, nI_1, Option.bind_some, Option.toList_some, Option.toList_none, List.cons_append, List.nil_append, if_true, if_false, and_self, and_true, true_and, or_self, or_true, true_or, false_or, or_false, i10, i00, i01, i11, Nat.reduceAdd, st1_0, st1_c, st1_1i, st1_1r, st1_1n, st1_1u, st1_1J, st2_0, st2_c, st2_1i, st2_1r, st2_1n, st2_1u, st2_1J])
  obtain ⟨h2, e2, I2⟩ := s2
  have c2 : nI n ≤ nI n := nI_le (Nat.le_refl _) (by omega)
  have s3 : ∃ h3, run 175 (50, [some (.ref 36), some (.int (nI fr)), some (.int (nI n)), some (.int (nI n))], [], h2) = run 175 (77, [some (.ref 36), some (.int (nI fr)), some (.int (nI n)), some (.int (nI n))], [], h3) ∧ LD h h3 fa (oN b) (oN l) (bI ck) dR rd pg lt bg tr (layN b l n) (layF b l c (fun x => f (fr + x)) n) := by
    have M2 := I2.2.1
    cases hll : l with
    | none =>
      subst hll
      have c1 : oN none ≤ 0 := by decide
      refine ⟨h2, ?_, I2⟩
      rw [uX12_layWords_50]
      simp only [uX12_layWords_0, uX12_layWords_1, uX12_layWords_2, uX12_layWords_5, uX12_layWords_6, uX12_layWords_9, uX12_layWords_12, uX12_layWords_13, uX12_layWords_14, uX12_layWords_17, uX12_layWords_20, uX12_layWords_21, uX12_layWords_23, uX12_layWords_24, uX12_layWords_27, uX12_layWords_28, uX12_layWords_29, uX12_layWords_32, uX12_layWords_33, uX12_layWords_36, uX12_layWords_37, uX12_layWords_38, uX12_layWords_39, uX12_layWords_40, uX12_layWords_41, uX12_layWords_44, uX12_layWords_47, uX12_layWords_51, uX12_layWords_54, uX12_layWords_57, uX12_layWords_58, uX12_layWords_61, uX12_layWords_62, uX12_layWords_65, uX12_layWords_66, uX12_layWords_69, uX12_layWords_70, uX12_layWords_71, uX12_layWords_74, uX12_layWords_78, uX12_layWords_81, uX12_layWords_82, uX12_layWords_85, uX12_layWords_86, uX12_layWords_87, uX12_layWords_88, uX12_layWords_91, uX12_layWords_94, uX12_layWords_97, gM0 M2, gM1 M2, gM2 M2, gM3 M2, gM4 M2, gM5 M2, gM6 M2, gM7 M2, gM8 M2, gM9 M2, gM10 M2, gM11 M2, gM12 M2, gM13 M2, gM14 M2, gM15 M2, gM16 M2, gM17 M2, gM18 M2, gM19 M2, gM20 M2, gM21 M2, gM22 M2, gM23 M2, gM24 M2, gM25 M2, gM26 M2, gM27 M2, gM28 M2, gM29 M2, gM30 M2, gM31 M2, gM32 M2, vM M2, c1, Option.bind_some, Option.toList_some, Option.toList_none, List.cons_append, List.nil_append, if_true, if_false, and_self, and_true, true_and, or_self, or_true, true_or, false_or, or_false, i10, i00, i01, i11, Nat.reduceAdd, st1_0, st1_c, st1_1i, st1_1r, st1_1n, st1_1u, st1_1J, st2_0, st2_c, st2_1i, st2_1r, st2_1n, st2_1u, st2_1J]
    | some L =>
      subst hll
      obtain ⟨w1, w2⟩ := hl L rfl
      obtain ⟨p1, p2, p3⟩ := padN_p (s := offB b + n) w1 w2
      have c1 : ¬ nI L ≤ 0 := nI_nle (by omega) (by omega)
      have z : ¬ nI L = 0 := nI_ne0 (by omega) (by omega)
      have s4 := loopE (F := fun (k : Nat) hh => run 175 (50, [some (.ref 36), some (.int (nI fr)), some (.int (nI n)), some (.int (nI n))], [], hh)) (I := fun k hh => LD h hh fa (oN b) (oN (some L)) (bI ck) dR rd pg lt bg tr (offB b + n + k) (layF b (some L) c (fun x => f (fr + x)) n)) (padN (some L) (offB b + n)) h2 I2 (by
        intro k hh hk I
        have M1 := I.2.1
        have e3 : nI (offB b + n + k) - nI (offB b + n + k) / nI L * nI L = nI ((offB b + n + k) % L) := pk_rem (by omega) (by omega) (by omega)
        have lt := Nat.mod_lt (offB b + n + k) (show 0 < L by omega)
        have c3 : ¬ nI ((offB b + n + k) % L) = 0 := nI_ne0 (by have := p1 k hk; omega) (by omega)
        have hW : (0 : Int32) = nI (layF b (some L) c (fun x => f (fr + x)) n (offB b + n + k)) := by
          unfold layF
          rw [if_pos (by unfold layN; omega)]
          unfold wdF
          rw [if_neg (by omega), if_neg (by omega)]
          rfl
        obtain ⟨h3, e4, I3⟩ := r_layGroup I (by omega) hW
        refine ⟨h3, ?_, I3⟩
        show run 175 (50, _) = run 175 (50, _)
        rw [uX12_layWords_50]
        simp only [uX12_layWords_0, uX12_layWords_1, uX12_layWords_2, uX12_layWords_5, uX12_layWords_6, uX12_layWords_9, uX12_layWords_12, uX12_layWords_13, uX12_layWords_14, uX12_layWords_17, uX12_layWords_20, uX12_layWords_21, uX12_layWords_23, uX12_layWords_24, uX12_layWords_27, uX12_layWords_28, uX12_layWords_29, uX12_layWords_32, uX12_layWords_33, uX12_layWords_36, uX12_layWords_37, uX12_layWords_38, uX12_layWords_39, uX12_layWords_40, uX12_layWords_41, uX12_layWords_44, uX12_layWords_47, uX12_layWords_51, uX12_layWords_54, uX12_layWords_57, uX12_layWords_58, uX12_layWords_61, uX12_layWords_62, uX12_layWords_65, uX12_layWords_66, uX12_layWords_69, uX12_layWords_70, uX12_layWords_71, uX12_layWords_74, uX12_layWords_78, uX12_layWords_81, uX12_layWords_82, uX12_layWords_85, uX12_layWords_86, uX12_layWords_87, uX12_layWords_88, uX12_layWords_91, uX12_layWords_94, uX12_layWords_97, gM0 M1, gM1 M1, gM2 M1, gM3 M1, gM4 M1, gM5 M1, gM6 M1, gM7 M1, gM8 M1, gM9 M1, gM10 M1, gM11 M1, gM12 M1, gM13 M1, gM14 M1, gM15 M1, gM16 M1, gM17 M1, gM18 M1, gM19 M1, gM20 M1, gM21 M1, gM22 M1, gM23 M1, gM24 M1, gM25 M1, gM26 M1, gM27 M1, gM28 M1, gM29 M1, gM30 M1, gM31 M1, gM32 M1, vM M1, oN_some, c1, z, e3, c3, e4, Option.bind_some, Option.toList_some, Option.toList_none, List.cons_append, List.nil_append, if_true, if_false, and_self, and_true, true_and, or_self, or_true, true_or, false_or, or_false, i10, i00, i01, i11, Nat.reduceAdd, st1_0, st1_c, st1_1i, st1_1r, st1_1n, st1_1u, st1_1J, st2_0, st2_c, st2_1i, st2_1r, st2_1n, st2_1u, st2_1J])
      obtain ⟨h3, e5, I3⟩ := s4
      have M3 := I3.2.1
      have e3 : nI (offB b + n + padN (some L) (offB b + n)) - nI (offB b + n + padN (some L) (offB b + n)) / nI L * nI L = nI ((offB b + n + padN (some L) (offB b + n)) % L) := pk_rem (by omega) (by omega) (by omega)
      have c3 : nI ((offB b + n + padN (some L) (offB b + n)) % L) = 0 := by rw [p2]; rfl
      refine ⟨h3, ?_, I3⟩
      refine e5.trans ?_
      show run 175 (50, _) = _
      rw [uX12_layWords_50]
      simp only [uX12_layWords_0, uX12_layWords_1, uX12_layWords_2, uX12_layWords_5, uX12_layWords_6, uX12_layWords_9, uX12_layWords_12, uX12_layWords_13, uX12_layWords_14, uX12_layWords_17, uX12_layWords_20, uX12_layWords_21, uX12_layWords_23, uX12_layWords_24, uX12_layWords_27, uX12_layWords_28, uX12_layWords_29, uX12_layWords_32, uX12_layWords_33, uX12_layWords_36, uX12_layWords_37, uX12_layWords_38, uX12_layWords_39, uX12_layWords_40, uX12_layWords_41, uX12_layWords_44, uX12_layWords_47, uX12_layWords_51, uX12_layWords_54, uX12_layWords_57, uX12_layWords_58, uX12_layWords_61, uX12_layWords_62, uX12_layWords_65, uX12_layWords_66, uX12_layWords_69, uX12_layWords_70, uX12_layWords_71, uX12_layWords_74, uX12_layWords_78, uX12_layWords_81, uX12_layWords_82, uX12_layWords_85, uX12_layWords_86, uX12_layWords_87, uX12_layWords_88, uX12_layWords_91, uX12_layWords_94, uX12_layWords_97, gM0 M3, gM1 M3, gM2 M3, gM3 M3, gM4 M3, gM5 M3, gM6 M3, gM7 M3, gM8 M3, gM9 M3, gM10 M3, gM11 M3, gM12 M3, gM13 M3, gM14 M3, gM15 M3, gM16 M3, gM17 M3, gM18 M3, gM19 M3, gM20 M3, gM21 M3, gM22 M3, gM23 M3, gM24 M3, gM25 M3, gM26 M3, gM27 M3, gM28 M3, gM29 M3, gM30 M3, gM31 M3, gM32 M3, vM M3, oN_some, c1, z, e3, c3, Option.bind_some, Option.toList_some, Option.toList_none, List.cons_append, List.nil_append, if_true, if_false, and_self, and_true, true_and, or_self, or_true, true_or, false_or, or_false, i10, i00, i01, i11, Nat.reduceAdd, st1_0, st1_c, st1_1i, st1_1r, st1_1n, st1_1u, st1_1J, st2_0, st2_c, st2_1i, st2_1r, st2_1n, st2_1u, st2_1J]
  obtain ⟨h3, e3, I3⟩ := s3
  have M3 := I3.2.1
  have hpd : padN l (offB b + n) ≤ 5 := by
    cases hll : l with
    | none => exact Nat.zero_le _
    | some L => exact (padN_p (hl L hll).1 (hl L hll).2).2.2
  have hlN : layN b l n ≤ 66 := by unfold layN; omega
  have e12 : run 175 (0, [some (.ref 36), some (.int (nI fr)), some (.int (nI n)), none], [], h) = run 175 (77, [some (.ref 36), some (.int (nI fr)), some (.int (nI n)), some (.int (nI n))], [], h3) := by
    refine e1.trans (e2.trans ?_)
    show run 175 (22, _) = _
    rw [uX12_layWords_22]
    simp only [uX12_layWords_23, uX12_layWords_24, c2, if_true]
    exact e3
  rw [e12]
  cases hck : ck with
  | false =>
    subst hck
    have z : (bI false = 1) = False := eq_false (by decide)
    refine ⟨h3, ?_, I3⟩
    simp only [uX12_layWords_0, uX12_layWords_1, uX12_layWords_2, uX12_layWords_5, uX12_layWords_6, uX12_layWords_9, uX12_layWords_12, uX12_layWords_13, uX12_layWords_14, uX12_layWords_17, uX12_layWords_20, uX12_layWords_21, uX12_layWords_23, uX12_layWords_24, uX12_layWords_27, uX12_layWords_28, uX12_layWords_29, uX12_layWords_32, uX12_layWords_33, uX12_layWords_36, uX12_layWords_37, uX12_layWords_38, uX12_layWords_39, uX12_layWords_40, uX12_layWords_41, uX12_layWords_44, uX12_layWords_47, uX12_layWords_51, uX12_layWords_54, uX12_layWords_57, uX12_layWords_58, uX12_layWords_61, uX12_layWords_62, uX12_layWords_65, uX12_layWords_66, uX12_layWords_69, uX12_layWords_70, uX12_layWords_71, uX12_layWords_74, uX12_layWords_77, uX12_layWords_78, uX12_layWords_81, uX12_layWords_82, uX12_layWords_85, uX12_layWords_86, uX12_layWords_87, uX12_layWords_88, uX12_layWords_91, uX12_layWords_94, uX12_layWords_97, gM0 M3, gM1 M3, gM2 M3, gM3 M3, gM4 M3, gM5 M3, gM6 M3, gM7 M3, gM8 M3, gM9 M3, gM10 M3, gM11 M3, gM12 M3, gM13 M3, gM14 M3, gM15 M3, gM16 M3, gM17 M3, gM18 M3, gM19 M3, gM20 M3, gM21 M3, gM22 M3, gM23 M3, gM24 M3, gM25 M3, gM26 M3, gM27 M3, gM28 M3, gM29 M3, gM30 M3, gM31 M3, gM32 M3, vM M3, z, Option.bind_some, Option.toList_some, Option.toList_none, List.cons_append, List.nil_append, if_true, if_false, and_self, and_true, true_and, or_self, or_true, true_or, false_or, or_false, i10, i00, i01, i11, Nat.reduceAdd, st1_0, st1_c, st1_1i, st1_1r, st1_1n, st1_1u, st1_1J, st2_0, st2_c, st2_1i, st2_1r, st2_1n, st2_1u, st2_1J]
  | true =>
    subst hck
    have z : (bI true = 1) = True := eq_true (by decide)
    obtain ⟨D3, _, f3, a3, hf3⟩ := id I3
    have hck1 := r_checkOf (n := layN b l n) (W := wdF b c (fun x => f (fr + x)) n) M3 a3 (wdF_lt hb hc) (fun j hj => by
      rw [hf3 j hj]
      unfold layF
      rw [if_pos hj]) (by omega)
    have hW : nI (chS (wdF b c (fun x => f (fr + x)) n) (layN b l n) % 100) = nI (layF b l c (fun x => f (fr + x)) n (layN b l n)) := by
      unfold layF
      rw [if_neg (by omega)]
    obtain ⟨h4, e4, I4⟩ := r_layGroup I3 (by omega) hW
    refine ⟨h4, ?_, I4⟩
    simp only [uX12_layWords_0, uX12_layWords_1, uX12_layWords_2, uX12_layWords_5, uX12_layWords_6, uX12_layWords_9, uX12_layWords_12, uX12_layWords_13, uX12_layWords_14, uX12_layWords_17, uX12_layWords_20, uX12_layWords_21, uX12_layWords_23, uX12_layWords_24, uX12_layWords_27, uX12_layWords_28, uX12_layWords_29, uX12_layWords_32, uX12_layWords_33, uX12_layWords_36, uX12_layWords_37, uX12_layWords_38, uX12_layWords_39, uX12_layWords_40, uX12_layWords_41, uX12_layWords_44, uX12_layWords_47, uX12_layWords_51, uX12_layWords_54, uX12_layWords_57, uX12_layWords_58, uX12_layWords_61, uX12_layWords_62, uX12_layWords_65, uX12_layWords_66, uX12_layWords_69, uX12_layWords_70, uX12_layWords_71, uX12_layWords_74, uX12_layWords_77, uX12_layWords_78, uX12_layWords_81, uX12_layWords_82, uX12_layWords_85, uX12_layWords_86, uX12_layWords_87, uX12_layWords_88, uX12_layWords_91, uX12_layWords_94, uX12_layWords_97, gM0 M3, gM1 M3, gM2 M3, gM3 M3, gM4 M3, gM5 M3, gM6 M3, gM7 M3, gM8 M3, gM9 M3, gM10 M3, gM11 M3, gM12 M3, gM13 M3, gM14 M3, gM15 M3, gM16 M3, gM17 M3, gM18 M3, gM19 M3, gM20 M3, gM21 M3, gM22 M3, gM23 M3, gM24 M3, gM25 M3, gM26 M3, gM27 M3, gM28 M3, gM29 M3, gM30 M3, gM31 M3, gM32 M3, vM M3, z, hck1, e4, Option.bind_some, Option.toList_some, Option.toList_none, List.cons_append, List.nil_append, if_true, if_false, and_self, and_true, true_and, or_self, or_true, true_or, false_or, or_false, i10, i00, i01, i11, Nat.reduceAdd, st1_0, st1_c, st1_1i, st1_1r, st1_1n, st1_1u, st1_1J, st2_0, st2_c, st2_1i, st2_1r, st2_1n, st2_1u, st2_1J]
end LM
