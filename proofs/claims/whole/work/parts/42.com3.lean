section CL
variable {h : AH} {br : Nat → Nat → Nat} {nd : Nat → Nat} {bg : Int32}
def t3 : List Nat := [19, 20, 21]
def tkC (br : Nat → Nat → Nat) (nd : Nat → Nat) (d p : Nat) : Int := tkF (br p) (nd p) d
theorem PostsC.fr {h1 : AH} (PC : PostsC h br nd bg) (F : Fr3 t3 h h1) : PostsC h1 br nd bg := by
  obtain ⟨p1, p2, p3, p4, p5, p6⟩ := PC
  refine ⟨by rw [F.2.1, p1], by rw [F.2.2.1, p2], fun p hp => ?_, ?_, p5, p6⟩
  · rw [F.1 _ (by unfold t3; simp; omega), p3 p hp]
  · rw [F.1 _ (by decide), p4]
theorem sum3 {t : Nat → Int} {p : Nat} : sumT t (p + 1) = sumT t p + t p := rfl
theorem updP {f : Nat → Int32} {p q : Nat} {x : Int32} : upd f p x q = if q = p then x else f q := rfl
theorem c_wanted_loop {day : Nat} (hday : day < 100) : ∀ (k p : Nat) (h : AH) (l4 : Option Value) (f19 f20 f21 : Nat → Int32), PostsC h br nd bg → p + k = 6 → rI h 19 = some (6, f19) → (∀ q, q < 6 → f19 q = Int32.ofInt (tkC br nd day q)) → rI h 20 = some (6, f20) → (∀ q, q < p → f20 q = Int32.ofInt (tkC br nd (day + 1) q)) → rI h 21 = some (6, f21) → (∀ q, q < 6 → f21 q = if q < p then nI (arF (br q) (day + 1)) else nI (arF (br q) day)) → ∃ h1 g20 g21, Fr3 t3 h h1 ∧ run 72 (4, [some (.ref 10), some (.int (nI day)), some (.int (Int32.ofInt (sumT (tkC br nd (day + 1)) p))), some (.int (nI p)), l4], [], h) = some (some (.int (Int32.ofInt (sumT (tkC br nd (day + 1)) 6))), h1) ∧ rI h1 19 = some (6, f19) ∧ rI h1 20 = some (6, g20) ∧ (∀ q, q < 6 → g20 q = Int32.ofInt (tkC br nd (day + 1) q)) ∧ rI h1 21 = some (6, g21) ∧ (∀ q, q < 6 → g21 q = nI (arF (br q) (day + 1))) := by
  intro k
  induction k with
  | zero =>
    intro p h l4 f19 f20 f21 PC hp a19 e19 a20 e20 a21 e21
    have hp : p = 6 := by omega
    subst hp
    have c1 : (6 : Int32) ≤ nI 6 := by decide
    refine ⟨h, f20, f21, Fr3.rfl, ?_, a19, a20, e20, a21, fun q hq => by rw [e21 q hq, if_pos hq]⟩
    simp only [uX6_wantedThrough_0, uX6_wantedThrough_1, uX6_wantedThrough_2, uX6_wantedThrough_3, uX6_wantedThrough_4, uX6_wantedThrough_5, uX6_wantedThrough_7, uX6_wantedThrough_10, uX6_wantedThrough_11, uX6_wantedThrough_14, uX6_wantedThrough_15, uX6_wantedThrough_16, uX6_wantedThrough_17, uX6_wantedThrough_18, uX6_wantedThrough_21, uX6_wantedThrough_22, uX6_wantedThrough_23, uX6_wantedThrough_24, uX6_wantedThrough_25, uX6_wantedThrough_26, uX6_wantedThrough_27, uX6_wantedThrough_28, uX6_wantedThrough_31, uX6_wantedThrough_32, uX6_wantedThrough_33, uX6_wantedThrough_34, uX6_wantedThrough_35, uX6_wantedThrough_36, uX6_wantedThrough_37, uX6_wantedThrough_38, uX6_wantedThrough_41, uX6_wantedThrough_42, uX6_wantedThrough_43, uX6_wantedThrough_44, uX6_wantedThrough_46, uX6_wantedThrough_47, uX6_wantedThrough_50, uX6_wantedThrough_51, uX6_wantedThrough_52, uX6_wantedThrough_55, uX6_wantedThrough_56, uX6_wantedThrough_57, uX6_wantedThrough_59, uX6_wantedThrough_62, uX6_wantedThrough_63, uX6_wantedThrough_64, uX6_wantedThrough_65, uX6_wantedThrough_68, uX6_wantedThrough_69, uX6_wantedThrough_70, uX6_wantedThrough_71, uX6_wantedThrough_72, uX6_wantedThrough_75, uX6_wantedThrough_78, uX6_wantedThrough_79, c1, if_true, if_false, and_self, and_true, true_and, or_self, or_true, true_or, false_or, or_false, i10, i00, i01, i11]
  | succ k ih =>
    intro p h l4 f19 f20 f21 PC hp a19 e19 a20 e20 a21 e21
    obtain ⟨p1, p2, p3, p4, p5, p6⟩ := id PC
    have c1 : ¬ (6 : Int32) ≤ nI p := nI_ge (a := p) (b := 6) (by omega) (by decide)
    have hp6 : p < 6 := by omega
    have hnd := p6 p
    have hal := arF_le (p5 p) (day + 1)
    have htl := tkF_le (cm := br p) hnd day
    have hmul : nd p * (day + 1) ≤ 9 * (day + 1) := Nat.mul_le_mul_right _ (by omega)
    have q21 : gi h 21 (nI p) = some (nI (arF (br p) day)) := by
      rw [gi_nI a21 hp6 (by decide), e21 p hp6, if_neg (Nat.lt_irrefl p)]
    have qbr : gi h (13 + p) (nI day) = some (nI (br p day)) := gi_nI (p3 p hp6) hday (by decide)
    have ea : nI (arF (br p) day) + nI (br p day) = nI (arF (br p) (day + 1)) := nI_add _ _
    have w1 : pi h 21 (nI p) (nI (arF (br p) (day + 1))) = some (si h 21 p (nI (arF (br p) (day + 1)))) := pi_si (by decide) a21 hp6 (by decide)
    generalize hh2 : si h 21 p (nI (arF (br p) (day + 1))) = h2 at w1
    have F2 : Fr3 t3 h h2 := by rw [← hh2]; exact Fr3.si (by decide)
    have PC2 := PC.fr F2
    have b21 : rI h2 21 = some (6, upd f21 p (nI (arF (br p) (day + 1)))) := by
      rw [← hh2, rI_si, if_pos rfl, a21]
      rfl
    have b19 : rI h2 19 = some (6, f19) := by rw [← hh2, rI_si, if_neg (by decide), a19]
    have b20 : rI h2 20 = some (6, f20) := by rw [← hh2, rI_si, if_neg (by decide), a20]
    have q21b : gi h2 21 (nI p) = some (nI (arF (br p) (day + 1))) := by
      rw [gi_nI b21 hp6 (by decide), updP, if_pos rfl]
    have q11 : gi h2 11 (nI p) = some (nI (nd p)) := gi_nI PC2.2.2.2.1 hp6 (by decide)
    have q19 : gi h2 19 (nI p) = some (Int32.ofInt (tkC br nd day p)) := by rw [gi_nI b19 hp6 (by decide), e19 p hp6]
    have eL : nI (nd p) * nI (day + 1) - nI (arF (br p) (day + 1)) = Int32.ofInt ((nd p * (day + 1) : Nat) - (arF (br p) (day + 1) : Int)) := by rw [pk_mul, nIi, nIi, iS]
    have cL : (Int32.ofInt (tkC br nd day p) < Int32.ofInt ((nd p * (day + 1) : Nat) - (arF (br p) (day + 1) : Int))) = (tkF (br p) (nd p) day < (nd p * (day + 1) : Nat) - (arF (br p) (day + 1) : Int)) := iLt (by unfold tkC; omega) (by omega)
    have eM : (if tkF (br p) (nd p) day < (nd p * (day + 1) : Nat) - (arF (br p) (day + 1) : Int) then Int32.ofInt ((nd p * (day + 1) : Nat) - (arF (br p) (day + 1) : Int)) else Int32.ofInt (tkC br nd day p)) = Int32.ofInt (tkC br nd (day + 1) p) := by
      unfold tkC
      conv => rhs; unfold tkF
      split <;> rfl
    have w2 : pi h2 20 (nI p) (Int32.ofInt (tkC br nd (day + 1) p)) = some (si h2 20 p (Int32.ofInt (tkC br nd (day + 1) p))) := pi_si (by decide) b20 hp6 (by decide)
    generalize hh3 : si h2 20 p (Int32.ofInt (tkC br nd (day + 1) p)) = h3 at w2
    have F3 : Fr3 t3 h2 h3 := by rw [← hh3]; exact Fr3.si (by decide)
    have PC3 := PC2.fr F3
    have c20 : rI h3 20 = some (6, upd f20 p (Int32.ofInt (tkC br nd (day + 1) p))) := by
      rw [← hh3, rI_si, if_pos rfl, b20]
      rfl
    have c19 : rI h3 19 = some (6, f19) := by rw [← hh3, rI_si, if_neg (by decide), b19]
    have c21 : rI h3 21 = some (6, upd f21 p (nI (arF (br p) (day + 1)))) := by rw [← hh3, rI_si, if_neg (by decide), b21]
    have q20c : gi h3 20 (nI p) = some (Int32.ofInt (tkC br nd (day + 1) p)) := by
      rw [gi_nI c20 hp6 (by decide), updP, if_pos rfl]
    obtain ⟨h9, g20, g21, F9, r9, z19, z20, y20, z21, y21⟩ := ih (p + 1) h3 (some (.int (Int32.ofInt ((nd p * (day + 1) : Nat) - (arF (br p) (day + 1) : Int))))) f19 _ _ PC3 (by omega) c19 e19 c20 (fun q hq => by
      rw [updP]
      by_cases e : q = p
      · rw [if_pos e, e]
      · rw [if_neg e]
        exact e20 q (by omega)) c21 (fun q hq => by
      rw [updP]
      by_cases e : q = p
      · rw [if_pos e, e, if_pos (Nat.lt_succ_self p)]
      · rw [if_neg e, e21 q hq]
        by_cases e2 : q < p
        · rw [if_pos e2, if_pos (by omega)]
        · rw [if_neg e2, if_neg (by omega)])
    refine ⟨h9, g20, g21, (F2.trans F3).trans F9, ?_, z19, z20, y20, z21, y21⟩
    rw [uX6_wantedThrough_4]
    simp only [uX6_wantedThrough_0, uX6_wantedThrough_1, uX6_wantedThrough_2, uX6_wantedThrough_3, uX6_wantedThrough_5, uX6_wantedThrough_7, uX6_wantedThrough_10, uX6_wantedThrough_11, uX6_wantedThrough_14, uX6_wantedThrough_15, uX6_wantedThrough_16, uX6_wantedThrough_17, uX6_wantedThrough_18, uX6_wantedThrough_21, uX6_wantedThrough_22, uX6_wantedThrough_23, uX6_wantedThrough_24, uX6_wantedThrough_25, uX6_wantedThrough_26, uX6_wantedThrough_27, uX6_wantedThrough_28, uX6_wantedThrough_31, uX6_wantedThrough_32, uX6_wantedThrough_33, uX6_wantedThrough_34, uX6_wantedThrough_35, uX6_wantedThrough_36, uX6_wantedThrough_37, uX6_wantedThrough_38, uX6_wantedThrough_41, uX6_wantedThrough_42, uX6_wantedThrough_43, uX6_wantedThrough_44, uX6_wantedThrough_46, uX6_wantedThrough_47, uX6_wantedThrough_50, uX6_wantedThrough_51, uX6_wantedThrough_52, uX6_wantedThrough_55, uX6_wantedThrough_56, uX6_wantedThrough_57, uX6_wantedThrough_59, uX6_wantedThrough_62, uX6_wantedThrough_63, uX6_wantedThrough_64, uX6_wantedThrough_65, uX6_wantedThrough_68, uX6_wantedThrough_69, uX6_wantedThrough_70, uX6_wantedThrough_71, uX6_wantedThrough_72, uX6_wantedThrough_75, uX6_wantedThrough_78, uX6_wantedThrough_79, c1, gP0 PC2.1, gP1 p1, gP2 PC2.1, gP3 PC2.1, gP3 PC3.1, gP4 p1, gP4 PC2.1, br_ga PC hp6, q21, qbr, ea, w1, q21b, q11, q19, nI_1, eL, j_max, cL, eM, w2, q20c, iA, Option.bind_some, Option.toList_some, Option.toList_none, List.cons_append, List.nil_append, if_true, if_false, and_self, and_true, true_and, or_self, or_true, true_or, false_or, or_false, i10, i00, i01, i11, Nat.reduceAdd, st1_0, st1_c, st1_1i, st1_1r, st1_1n, st1_1u, st1_1J, st2_0, st2_c, st2_1i, st2_1r, st2_1n, st2_1u, st2_1J]
    exact r9
theorem c_zero_loop : ∀ (k p : Nat) (h : AH) (n : Int32) (l3 : Option Value) (f19 f21 : Nat → Int32), PostsC h br nd bg → p + k = 6 → rI h 19 = some (6, f19) → (∀ q, q < p → f19 q = 0) → rI h 21 = some (6, f21) → (∀ q, q < p → f21 q = 0) → ∃ h1 g19 g21, Fr3 t3 h h1 ∧ run 71 (2, [some (.ref 10), some (.int n), some (.int (nI p)), l3], [], h) = run 71 (28, [some (.ref 10), some (.int n), some (.int (nI 6)), l3], [], h1) ∧ rI h1 19 = some (6, g19) ∧ (∀ q, q < 6 → g19 q = 0) ∧ rI h1 20 = rI h 20 ∧ rI h1 21 = some (6, g21) ∧ (∀ q, q < 6 → g21 q = 0) := by
  intro k
  induction k with
  | zero =>
    intro p h n l3 f19 f21 PC hp a19 e19 a21 e21
    have hp : p = 6 := by omega
    subst hp
    have c1 : (6 : Int32) ≤ nI 6 := by decide
    refine ⟨h, f19, f21, Fr3.rfl, ?_, a19, e19, rfl, a21, e21⟩
    rw [uX6_part_2]
    simp only [uX6_part_3, uX6_part_5, c1, if_true, if_false, and_self, and_true, true_and, or_self, or_true, true_or, false_or, or_false, i10, i00, i01, i11]
  | succ k ih =>
    intro p h n l3 f19 f21 PC hp a19 e19 a21 e21
    have c1 : ¬ (6 : Int32) ≤ nI p := nI_ge (a := p) (b := 6) (by omega) (by decide)
    have hp6 : p < 6 := by omega
    have w1 : pi h 19 (nI p) 0 = some (si h 19 p 0) := pi_si (by decide) a19 hp6 (by decide)
    generalize hh2 : si h 19 p 0 = h2 at w1
    have F2 : Fr3 t3 h h2 := by rw [← hh2]; exact Fr3.si (by decide)
    have PC2 := PC.fr F2
    have b19 : rI h2 19 = some (6, upd f19 p 0) := by
      rw [← hh2, rI_si, if_pos rfl, a19]
      rfl
    have b21 : rI h2 21 = some (6, f21) := by rw [← hh2, rI_si, if_neg (by decide), a21]
    have b20 : rI h2 20 = rI h 20 := by rw [← hh2, rI_si, if_neg (by decide)]
    have w2 : pi h2 21 (nI p) 0 = some (si h2 21 p 0) := pi_si (by decide) b21 hp6 (by decide)
    generalize hh3 : si h2 21 p 0 = h3 at w2
    have F3 : Fr3 t3 h2 h3 := by rw [← hh3]; exact Fr3.si (by decide)
    have c21 : rI h3 21 = some (6, upd f21 p 0) := by
      rw [← hh3, rI_si, if_pos rfl, b21]
      rfl
    have c19 : rI h3 19 = some (6, upd f19 p 0) := by rw [← hh3, rI_si, if_neg (by decide), b19]
    have c20 : rI h3 20 = rI h 20 := by rw [← hh3, rI_si, if_neg (by decide), b20]
    have ev : ∀ {f : Nat → Int32}, (∀ q, q < p → f q = 0) → ∀ q, q < p + 1 → upd f p 0 q = 0 := fun hf q hq => by
      rw [updP]
      by_cases e : q = p
      · rw [if_pos e]
      · rw [if_neg e]
        exact hf q (by omega)
    obtain ⟨h9, g19, g21, F9, r9, z19, y19, z20, z21, y21⟩ := ih (p + 1) h3 n l3 _ _ (PC2.fr F3) (by omega) c19 (ev e19) c21 (ev e21)
    refine ⟨h9, g19, g21, (F2.trans F3).trans F9, ?_, z19, y19, z20.trans c20, z21, y21⟩
    rw [uX6_part_2]
    simp only [uX6_part_0, uX6_part_1, uX6_part_3, uX6_part_5, uX6_part_8, uX6_part_9, uX6_part_12, uX6_part_13, uX6_part_14, uX6_part_15, uX6_part_16, uX6_part_19, uX6_part_20, uX6_part_21, uX6_part_22, uX6_part_25, uX6_part_29, uX6_part_30, uX6_part_31, uX6_part_33, uX6_part_36, uX6_part_37, uX6_part_38, uX6_part_41, uX6_part_42, uX6_part_45, uX6_part_46, uX6_part_47, uX6_part_48, uX6_part_49, uX6_part_50, uX6_part_52, uX6_part_55, uX6_part_56, uX6_part_59, uX6_part_60, uX6_part_61, uX6_part_64, uX6_part_65, uX6_part_66, uX6_part_67, uX6_part_70, uX6_part_73, uX6_part_76, uX6_part_79, uX6_part_81, c1, gP2 PC.1, gP4 PC2.1, w1, w2, nI_1, Option.bind_some, Option.toList_some, Option.toList_none, List.cons_append, List.nil_append, if_true, if_false, and_self, and_true, true_and, or_self, or_true, true_or, false_or, or_false, i10, i00, i01, i11, Nat.reduceAdd, st1_0, st1_c, st1_1i, st1_1r, st1_1n, st1_1u, st1_1J, st2_0, st2_c, st2_1i, st2_1r, st2_1n, st2_1u, st2_1J]
    exact r9
theorem c_copy_loop {d : Nat} : ∀ (k p : Nat) (h : AH) (n : Int32) (f19 f20 : Nat → Int32), PostsC h br nd bg → p + k = 6 → rI h 19 = some (6, f19) → (∀ q, q < p → f19 q = f20 q) → rI h 20 = some (6, f20) → ∃ h1 g19, Fr3 t3 h h1 ∧ run 71 (49, [some (.ref 10), some (.int n), some (.int (nI d)), some (.int (nI p))], [], h) = run 71 (73, [some (.ref 10), some (.int n), some (.int (nI d)), some (.int (nI 6))], [], h1) ∧ rI h1 19 = some (6, g19) ∧ (∀ q, q < 6 → g19 q = f20 q) ∧ rI h1 20 = some (6, f20) ∧ rI h1 21 = rI h 21 := by
  intro k
  induction k with
  | zero =>
    intro p h n f19 f20 PC hp a19 e19 a20
    have hp : p = 6 := by omega
    subst hp
    have c1 : (6 : Int32) ≤ nI 6 := by decide
    refine ⟨h, f19, Fr3.rfl, ?_, a19, e19, a20, rfl⟩
    rw [uX6_part_49]
    simp only [uX6_part_50, uX6_part_52, c1, if_true, if_false, and_self, and_true, true_and, or_self, or_true, true_or, false_or, or_false, i10, i00, i01, i11]
  | succ k ih =>
    intro p h n f19 f20 PC hp a19 e19 a20
    have c1 : ¬ (6 : Int32) ≤ nI p := nI_ge (a := p) (b := 6) (by omega) (by decide)
    have hp6 : p < 6 := by omega
    have q20 : gi h 20 (nI p) = some (f20 p) := gi_nI a20 hp6 (by decide)
    have w1 : pi h 19 (nI p) (f20 p) = some (si h 19 p (f20 p)) := pi_si (by decide) a19 hp6 (by decide)
    generalize hh2 : si h 19 p (f20 p) = h2 at w1
    have F2 : Fr3 t3 h h2 := by rw [← hh2]; exact Fr3.si (by decide)
    have b19 : rI h2 19 = some (6, upd f19 p (f20 p)) := by
      rw [← hh2, rI_si, if_pos rfl, a19]
      rfl
    have b20 : rI h2 20 = some (6, f20) := by rw [← hh2, rI_si, if_neg (by decide), a20]
    have b21 : rI h2 21 = rI h 21 := by rw [← hh2, rI_si, if_neg (by decide)]
    obtain ⟨h9, g19, F9, r9, z19, y19, z20, z21⟩ := ih (p + 1) h2 n _ f20 (PC.fr F2) (by omega) b19 (fun q hq => by
      rw [updP]
      by_cases e : q = p
      · rw [if_pos e, e]
      · rw [if_neg e]
        exact e19 q (by omega)) b20
    refine ⟨h9, g19, F2.trans F9, ?_, z19, y19, z20, z21.trans b21⟩
    rw [uX6_part_49]
    simp only [uX6_part_0, uX6_part_1, uX6_part_3, uX6_part_5, uX6_part_8, uX6_part_9, uX6_part_12, uX6_part_13, uX6_part_14, uX6_part_15, uX6_part_16, uX6_part_19, uX6_part_20, uX6_part_21, uX6_part_22, uX6_part_25, uX6_part_28, uX6_part_29, uX6_part_31, uX6_part_33, uX6_part_36, uX6_part_37, uX6_part_38, uX6_part_41, uX6_part_42, uX6_part_45, uX6_part_46, uX6_part_47, uX6_part_48, uX6_part_50, uX6_part_52, uX6_part_55, uX6_part_56, uX6_part_59, uX6_part_60, uX6_part_61, uX6_part_64, uX6_part_65, uX6_part_66, uX6_part_67, uX6_part_70, uX6_part_76, uX6_part_79, uX6_part_81, c1, gP2 PC.1, gP3 PC.1, q20, w1, nI_1, Option.bind_some, Option.toList_some, Option.toList_none, List.cons_append, List.nil_append, if_true, if_false, and_self, and_true, true_and, or_self, or_true, true_or, false_or, or_false, i10, i00, i01, i11, Nat.reduceAdd, st1_0, st1_c, st1_1i, st1_1r, st1_1n, st1_1u, st1_1J, st2_0, st2_c, st2_1i, st2_1r, st2_1n, st2_1u, st2_1J]
    exact r9
def sumC (br : Nat → Nat → Nat) (nd : Nat → Nat) (d : Nat) : Int := sumT (tkC br nd d) 6
theorem sumC_le (PC : PostsC h br nd bg) (d : Nat) : 0 ≤ sumC br nd d ∧ sumC br nd d ≤ 6 * (9 * d) := by
  have := sumT_le (t := tkC br nd d) (b := 9 * d) (fun p => tkF_le (PC.2.2.2.2.2 p) d) 6
  unfold sumC
  omega
theorem c_part_loop {n : Nat} (hn : n < 10000) : ∀ (k d : Nat) (h : AH) (l3 : Option Value) (f19 f20 f21 : Nat → Int32), PostsC h br nd bg → d + k = 100 → rI h 19 = some (6, f19) → (∀ q, q < 6 → f19 q = Int32.ofInt (tkC br nd d q)) → rI h 20 = some (6, f20) → rI h 21 = some (6, f21) → (∀ q, q < 6 → f21 q = nI (arF (br q) d)) → ∃ h1 g19 g20 g21, Fr3 t3 h h1 ∧ run 71 (30, [some (.ref 10), some (.int (nI n)), some (.int (nI d)), l3], [], h) = some (some (.int (nI (lastF (sumC br nd) n k (d + 1)))), h1) ∧ rI h1 19 = some (6, g19) ∧ (∀ q, q < 6 → g19 q = Int32.ofInt (tkC br nd (lastF (sumC br nd) n k (d + 1)) q)) ∧ rI h1 20 = some (6, g20) ∧ rI h1 21 = some (6, g21) := by
  intro k
  induction k with
  | zero =>
    intro d h l3 f19 f20 f21 PC hd a19 e19 a20 a21 e21
    have hd : d = 100 := by omega
    subst hd
    have c1 : (100 : Int32) ≤ nI 100 := by decide
    have e1 : (100 : Int32) = nI 100 := by decide
    refine ⟨h, f19, f20, f21, Fr3.rfl, ?_, a19, e19, a20, a21⟩
    rw [uX6_part_30]
    simp only [uX6_part_31, uX6_part_33, uX6_part_79, uX6_part_81, c1, if_true, if_false, and_self, and_true, true_and, or_self, or_true, true_or, false_or, or_false, i10, i00, i01, i11]
    rw [e1]
    rfl
  | succ k ih =>
    intro d h l3 f19 f20 f21 PC hd a19 e19 a20 a21 e21
    have c1 : ¬ (100 : Int32) ≤ nI d := nI_ge (a := d) (b := 100) (by omega) (by decide)
    obtain ⟨h2, g20, g21, F2, r2, b19, b20, y20, b21, y21⟩ := c_wanted_loop (show d < 100 by omega) 6 0 h none f19 f20 f21 PC (by omega) a19 e19 a20 (fun q hq => by omega) a21 (fun q hq => by rw [e21 q hq, if_neg (by omega)])
    have r2b : run 72 (0, [some (.ref 10), some (.int (nI d)), none, none, none], [], h) = some (some (.int (Int32.ofInt (sumT (tkC br nd (d + 1)) 6))), h2) := by
      simp only [uX6_wantedThrough_0, uX6_wantedThrough_1, uX6_wantedThrough_2, uX6_wantedThrough_3, uX6_wantedThrough_5, uX6_wantedThrough_7, uX6_wantedThrough_10, uX6_wantedThrough_11, uX6_wantedThrough_14, uX6_wantedThrough_15, uX6_wantedThrough_16, uX6_wantedThrough_17, uX6_wantedThrough_18, uX6_wantedThrough_21, uX6_wantedThrough_22, uX6_wantedThrough_23, uX6_wantedThrough_24, uX6_wantedThrough_25, uX6_wantedThrough_26, uX6_wantedThrough_27, uX6_wantedThrough_28, uX6_wantedThrough_31, uX6_wantedThrough_32, uX6_wantedThrough_33, uX6_wantedThrough_34, uX6_wantedThrough_35, uX6_wantedThrough_36, uX6_wantedThrough_37, uX6_wantedThrough_38, uX6_wantedThrough_41, uX6_wantedThrough_42, uX6_wantedThrough_43, uX6_wantedThrough_44, uX6_wantedThrough_46, uX6_wantedThrough_47, uX6_wantedThrough_50, uX6_wantedThrough_51, uX6_wantedThrough_52, uX6_wantedThrough_55, uX6_wantedThrough_56, uX6_wantedThrough_57, uX6_wantedThrough_59, uX6_wantedThrough_62, uX6_wantedThrough_63, uX6_wantedThrough_64, uX6_wantedThrough_65, uX6_wantedThrough_68, uX6_wantedThrough_69, uX6_wantedThrough_70, uX6_wantedThrough_71, uX6_wantedThrough_72, uX6_wantedThrough_75, uX6_wantedThrough_78, uX6_wantedThrough_79, Option.bind_some, Option.toList_some, Option.toList_none, List.cons_append, List.nil_append, Nat.reduceAdd, st1_0, st1_c, st1_1i, st1_1r, st1_1n, st1_1u, st1_1J, st2_0, st2_c, st2_1i, st2_1r, st2_1n, st2_1u, st2_1J]
      exact r2
    have PC2 := PC.fr F2
    have hs := sumC_le PC (d + 1)
    have c2 : (Int32.ofInt (sumT (tkC br nd (d + 1)) 6) ≤ nI n) = (sumC br nd (d + 1) ≤ (n : Int)) := by
      rw [nIi]
      exact iLe (by unfold sumC at hs; omega) (by omega)
    by_cases hz : sumC br nd (d + 1) ≤ n
    · obtain ⟨h3, g19, F3, r3, c19, y19, c20, c21⟩ := c_copy_loop (d := d) 6 0 h2 (nI n) f19 g20 PC2 (by omega) b19 (fun q hq => by omega) b20
      obtain ⟨h9, k19, k20, k21, F9, r9, z19, x19, z20, z21⟩ := ih (d + 1) h3 (some (.int (nI 6))) g19 g20 g21 (PC2.fr F3) (by omega) c19 (fun q hq => by rw [y19 q hq, y20 q hq]) c20 (by rw [c21, b21]) y21
      have el : lastF (sumC br nd) n (k + 1) (d + 1) = lastF (sumC br nd) n k (d + 1 + 1) := by
        conv => lhs; unfold lastF
        rw [if_pos hz]
      rw [el]
      refine ⟨h9, k19, k20, k21, (F2.trans F3).trans F9, ?_, z19, x19, z20, z21⟩
      rw [uX6_part_30]
      simp only [uX6_part_0, uX6_part_1, uX6_part_3, uX6_part_5, uX6_part_8, uX6_part_9, uX6_part_12, uX6_part_13, uX6_part_14, uX6_part_15, uX6_part_16, uX6_part_19, uX6_part_20, uX6_part_21, uX6_part_22, uX6_part_25, uX6_part_28, uX6_part_29, uX6_part_31, uX6_part_33, uX6_part_36, uX6_part_37, uX6_part_38, uX6_part_41, uX6_part_42, uX6_part_45, uX6_part_46, uX6_part_47, uX6_part_48, uX6_part_50, uX6_part_52, uX6_part_55, uX6_part_56, uX6_part_59, uX6_part_60, uX6_part_61, uX6_part_64, uX6_part_65, uX6_part_66, uX6_part_67, uX6_part_70, uX6_part_76, uX6_part_79, uX6_part_81, c1, vX PC.1, r2b, c2, hz, Option.bind_some, Option.toList_some, Option.toList_none, List.cons_append, List.nil_append, if_true, if_false, and_self, and_true, true_and, or_self, or_true, true_or, false_or, or_false, i10, i00, i01, i11, Nat.reduceAdd, st1_0, st1_c, st1_1i, st1_1r, st1_1n, st1_1u, st1_1J, st2_0, st2_c, st2_1i, st2_1r, st2_1n, st2_1u, st2_1J]
      rw [show (run 71 (49, [some (.ref 10), some (.int (nI n)), some (.int (nI d)), some (.int 0)], [], h2)) = _ from r3, uX6_part_73]
      simp only [uX6_part_0, uX6_part_1, uX6_part_3, uX6_part_5, uX6_part_8, uX6_part_9, uX6_part_12, uX6_part_13, uX6_part_14, uX6_part_15, uX6_part_16, uX6_part_19, uX6_part_20, uX6_part_21, uX6_part_22, uX6_part_25, uX6_part_28, uX6_part_29, uX6_part_31, uX6_part_33, uX6_part_36, uX6_part_37, uX6_part_38, uX6_part_41, uX6_part_42, uX6_part_45, uX6_part_46, uX6_part_47, uX6_part_48, uX6_part_50, uX6_part_52, uX6_part_55, uX6_part_56, uX6_part_59, uX6_part_60, uX6_part_61, uX6_part_64, uX6_part_65, uX6_part_66, uX6_part_67, uX6_part_70, uX6_part_76, uX6_part_79, uX6_part_81, nI_1, Option.bind_some, Option.toList_some, Option.toList_none, List.cons_append, List.nil_append, if_true, if_false, and_self, and_true, true_and, or_self, or_true, true_or, false_or, or_false, i10, i00, i01, i11, Nat.reduceAdd, st1_0, st1_c, st1_1i, st1_1r, st1_1n, st1_1u, st1_1J, st2_0, st2_c, st2_1i, st2_1r, st2_1n, st2_1u, st2_1J]
      exact r9
    · have el : lastF (sumC br nd) n (k + 1) (d + 1) = d := by
        conv => lhs; unfold lastF
        rw [if_neg hz]
        omega
      rw [el]
      refine ⟨h2, f19, g20, g21, F2, ?_, b19, e19, b20, b21⟩
      rw [uX6_part_30]
      simp only [uX6_part_0, uX6_part_1, uX6_part_3, uX6_part_5, uX6_part_8, uX6_part_9, uX6_part_12, uX6_part_13, uX6_part_14, uX6_part_15, uX6_part_16, uX6_part_19, uX6_part_20, uX6_part_21, uX6_part_22, uX6_part_25, uX6_part_28, uX6_part_29, uX6_part_31, uX6_part_33, uX6_part_36, uX6_part_37, uX6_part_38, uX6_part_41, uX6_part_42, uX6_part_45, uX6_part_46, uX6_part_47, uX6_part_48, uX6_part_50, uX6_part_52, uX6_part_55, uX6_part_56, uX6_part_59, uX6_part_60, uX6_part_61, uX6_part_64, uX6_part_65, uX6_part_66, uX6_part_67, uX6_part_70, uX6_part_76, uX6_part_79, uX6_part_81, c1, vX PC.1, r2b, c2, hz, Option.bind_some, Option.toList_some, Option.toList_none, List.cons_append, List.nil_append, if_true, if_false, and_self, and_true, true_and, or_self, or_true, true_or, false_or, or_false, i10, i00, i01, i11, Nat.reduceAdd, st1_0, st1_c, st1_1i, st1_1r, st1_1n, st1_1u, st1_1J, st2_0, st2_c, st2_1i, st2_1r, st2_1n, st2_1u, st2_1J]
theorem c_part {n : Nat} {f19 f20 f21 : Nat → Int32} (hn : n < 10000) (PC : PostsC h br nd bg) (a19 : rI h 19 = some (6, f19)) (a20 : rI h 20 = some (6, f20)) (a21 : rI h 21 = some (6, f21)) : ∃ h1 g19 g20 g21, Fr3 t3 h h1 ∧ run 71 (0, [some (.ref 10), some (.int (nI n)), none, none], [], h) = some (some (.int (nI (lastF (sumC br nd) n 100 1))), h1) ∧ rI h1 19 = some (6, g19) ∧ (∀ q, q < 6 → g19 q = Int32.ofInt (tkC br nd (lastF (sumC br nd) n 100 1) q)) ∧ rI h1 20 = some (6, g20) ∧ rI h1 21 = some (6, g21) := by
  obtain ⟨h2, g19, g21, F2, r2, b19, y19, b20, b21, y21⟩ := c_zero_loop 6 0 h (nI n) none f19 f21 PC (by omega) a19 (fun q hq => by omega) a21 (fun q hq => by omega)
  obtain ⟨h9, k19, k20, k21, F9, r9, z19, x19, z20, z21⟩ := c_part_loop hn 100 0 h2 none g19 f20 g21 (PC.fr F2) (by omega) b19 (fun q hq => by rw [y19 q hq]; rfl) (by rw [b20, a20]) b21 (fun q hq => by rw [y21 q hq]; rfl)
  refine ⟨h9, k19, k20, k21, F2.trans F9, ?_, z19, x19, z20, z21⟩
  simp only [uX6_part_0, uX6_part_1, uX6_part_3, uX6_part_5, uX6_part_8, uX6_part_9, uX6_part_12, uX6_part_13, uX6_part_14, uX6_part_15, uX6_part_16, uX6_part_19, uX6_part_20, uX6_part_21, uX6_part_22, uX6_part_25, uX6_part_29, uX6_part_31, uX6_part_33, uX6_part_36, uX6_part_37, uX6_part_38, uX6_part_41, uX6_part_42, uX6_part_45, uX6_part_46, uX6_part_47, uX6_part_48, uX6_part_50, uX6_part_52, uX6_part_55, uX6_part_56, uX6_part_59, uX6_part_60, uX6_part_61, uX6_part_64, uX6_part_65, uX6_part_66, uX6_part_67, uX6_part_70, uX6_part_73, uX6_part_76, uX6_part_79, uX6_part_81, Option.bind_some, Option.toList_some, Option.toList_none, List.cons_append, List.nil_append, Nat.reduceAdd, st1_0, st1_c, st1_1i, st1_1r, st1_1n, st1_1u, st1_1J, st2_0, st2_c, st2_1i, st2_1r, st2_1n, st2_1u, st2_1J]
  rw [show (run 71 (2, [some (.ref 10), some (.int (nI n)), some (.int 0), none], [], h)) = _ from r2, uX6_part_28]
  simp only [uX6_part_0, uX6_part_1, uX6_part_3, uX6_part_5, uX6_part_8, uX6_part_9, uX6_part_12, uX6_part_13, uX6_part_14, uX6_part_15, uX6_part_16, uX6_part_19, uX6_part_20, uX6_part_21, uX6_part_22, uX6_part_25, uX6_part_29, uX6_part_31, uX6_part_33, uX6_part_36, uX6_part_37, uX6_part_38, uX6_part_41, uX6_part_42, uX6_part_45, uX6_part_46, uX6_part_47, uX6_part_48, uX6_part_50, uX6_part_52, uX6_part_55, uX6_part_56, uX6_part_59, uX6_part_60, uX6_part_61, uX6_part_64, uX6_part_65, uX6_part_66, uX6_part_67, uX6_part_70, uX6_part_73, uX6_part_76, uX6_part_79, uX6_part_81, Option.bind_some, Option.toList_some, Option.toList_none, List.cons_append, List.nil_append, Nat.reduceAdd, st1_0, st1_c, st1_1i, st1_1r, st1_1n, st1_1u, st1_1J, st2_0, st2_c, st2_1i, st2_1r, st2_1n, st2_1u, st2_1J]
  exact r9
theorem c_last_o {n post : Int32} (hn : ¬ (0 ≤ n.toInt ∧ n.toInt ≤ 9999)) : run 114 (0, [some (.ref 4), some (.int n), some (.int post), none], [], h) = some (some (.int (-2)), h) := by
  by_cases h2 : n.toInt < 0
  · simp only [uX11_last_0, uX11_last_1, uX11_last_4, uX11_last_5, uX11_last_8, uX11_last_11, uX11_last_13, uX11_last_14, uX11_last_15, uX11_last_16, uX11_last_19, uX11_last_20, uX11_last_22, uX11_last_25, uX11_last_28, uX11_last_29, uX11_last_30, uX11_last_31, uX11_last_34, uX11_last_35, uX11_last_38, uX11_last_39, uX11_last_40, uX11_last_41, uX11_last_44, uX11_last_45, uX11_last_48, uX11_last_49, uX11_last_52, uX11_last_53, uX11_last_56, lt0I, h2, Option.bind_some, Option.toList_some, Option.toList_none, List.cons_append, List.nil_append, if_true, if_false, and_self, and_true, true_and, or_self, or_true, true_or, false_or, or_false, i10, i00, i01, i11]
  · have h3 : ¬ n.toInt ≤ 9999 := fun q => hn ⟨by omega, q⟩
    simp only [uX11_last_0, uX11_last_1, uX11_last_4, uX11_last_5, uX11_last_8, uX11_last_11, uX11_last_13, uX11_last_14, uX11_last_15, uX11_last_16, uX11_last_19, uX11_last_20, uX11_last_22, uX11_last_25, uX11_last_28, uX11_last_29, uX11_last_30, uX11_last_31, uX11_last_34, uX11_last_35, uX11_last_38, uX11_last_39, uX11_last_40, uX11_last_41, uX11_last_44, uX11_last_45, uX11_last_48, uX11_last_49, uX11_last_52, uX11_last_53, uX11_last_56, lt0I, h2, leI (show (9999 : Int32).toInt = 9999 by decide), h3, Option.bind_some, Option.toList_some, Option.toList_none, List.cons_append, List.nil_append, if_true, if_false, and_self, and_true, true_and, or_self, or_true, true_or, false_or, or_false, i10, i00, i01, i11]
theorem c_last_u {n : Nat} {post : Int32} (hn : n < 10000) (hp : ¬ (0 ≤ post.toInt ∧ post.toInt ≤ 5)) (hp1 : ¬ post = -1) : run 114 (0, [some (.ref 4), some (.int (nI n)), some (.int post), none], [], h) = some (some (.int (-1)), h) := by
  have h2 := nI_rng (k := n) (b := 9999) (by omega) (by omega)
  have h3 : ¬ (nI n).toInt < 0 := by omega
  simp only [uX11_last_0, uX11_last_1, uX11_last_4, uX11_last_5, uX11_last_8, uX11_last_11, uX11_last_13, uX11_last_14, uX11_last_15, uX11_last_16, uX11_last_19, uX11_last_20, uX11_last_22, uX11_last_25, uX11_last_28, uX11_last_29, uX11_last_30, uX11_last_31, uX11_last_34, uX11_last_35, uX11_last_38, uX11_last_39, uX11_last_40, uX11_last_41, uX11_last_44, uX11_last_45, uX11_last_48, uX11_last_49, uX11_last_52, uX11_last_53, uX11_last_56, lt0I, h3, leI (show (9999 : Int32).toInt = 9999 by decide), h2.2, c_bl6, hp, hp1, Option.bind_some, Option.toList_some, Option.toList_none, List.cons_append, List.nil_append, if_true, if_false, and_self, and_true, true_and, or_self, or_true, true_or, false_or, or_false, i10, i00, i01, i11]
theorem c_last_all {n dr : Nat} {pc lc lf : Int32} {f19 f20 f21 : Nat → Int32} (hX : rO h 4 = some (10, xF dr pc lc lf)) (hn : n < 10000) (PC : PostsC h br nd bg) (a19 : rI h 19 = some (6, f19)) (a20 : rI h 20 = some (6, f20)) (a21 : rI h 21 = some (6, f21)) : ∃ h1 g19 g20 g21, Fr3 t3 h h1 ∧ run 114 (0, [some (.ref 4), some (.int (nI n)), some (.int (-1)), none], [], h) = some (some (.int (nI (lastF (sumC br nd) n 100 1))), h1) ∧ rI h1 19 = some (6, g19) ∧ rI h1 20 = some (6, g20) ∧ rI h1 21 = some (6, g21) := by
  obtain ⟨h1, g19, g20, g21, F1, r1, z19, y19, z20, z21⟩ := c_part hn PC a19 a20 a21
  have h2 := nI_rng (k := n) (b := 9999) (by omega) (by omega)
  have h3 : ¬ (nI n).toInt < 0 := by omega
  refine ⟨h1, g19, g20, g21, F1, ?_, z19, z20, z21⟩
  simp only [uX11_last_0, uX11_last_1, uX11_last_4, uX11_last_5, uX11_last_8, uX11_last_11, uX11_last_13, uX11_last_14, uX11_last_15, uX11_last_16, uX11_last_19, uX11_last_20, uX11_last_22, uX11_last_25, uX11_last_28, uX11_last_29, uX11_last_30, uX11_last_31, uX11_last_34, uX11_last_35, uX11_last_38, uX11_last_39, uX11_last_40, uX11_last_41, uX11_last_44, uX11_last_45, uX11_last_48, uX11_last_49, uX11_last_52, uX11_last_53, uX11_last_56, lt0I, h3, leI (show (9999 : Int32).toInt = 9999 by decide), h2.2, gX1 hX, vX PC.1, r1, Option.bind_some, Option.toList_some, Option.toList_none, List.cons_append, List.nil_append, if_true, if_false, and_self, and_true, true_and, or_self, or_true, true_or, false_or, or_false, i10, i00, i01, i11, Nat.reduceAdd, st1_0, st1_c, st1_1i, st1_1r, st1_1n, st1_1u, st1_1J, st2_0, st2_c, st2_1i, st2_1r, st2_1n, st2_1u, st2_1J]
theorem c_last {n k dr : Nat} {pc lc lf : Int32} {f19 f20 f21 : Nat → Int32} (hk : k < 6) (hX : rO h 4 = some (10, xF dr pc lc lf)) (hn : n < 10000) (PC : PostsC h br nd bg) (a19 : rI h 19 = some (6, f19)) (a20 : rI h 20 = some (6, f20)) (a21 : rI h 21 = some (6, f21)) : ∃ h1 g19 g20 g21, Fr3 t3 h h1 ∧ run 114 (0, [some (.ref 4), some (.int (nI n)), some (.int (nI k)), none], [], h) = some (some (.int (Int32.ofInt (tkC br nd (lastF (sumC br nd) n 100 1) k))), h1) ∧ rI h1 19 = some (6, g19) ∧ rI h1 20 = some (6, g20) ∧ rI h1 21 = some (6, g21) := by
  obtain ⟨h1, g19, g20, g21, F1, r1, z19, y19, z20, z21⟩ := c_part hn PC a19 a20 a21
  have h2 := nI_rng (k := n) (b := 9999) (by omega) (by omega)
  have h3 : ¬ (nI n).toInt < 0 := by omega
  have h5 : 0 ≤ (nI k).toInt ∧ (nI k).toInt ≤ 5 := nI_rng (by omega) (by omega)
  have h4 : ¬ nI k = -1 := fun q => by
    rw [← Int32.toInt_inj, nI_toInt (by omega)] at q
    have : (-1 : Int32).toInt = -1 := by decide
    omega
  have hX1 : rO h1 4 = some (10, xF dr pc lc lf) := by rw [F1.2.1, hX]
  have PC1 := PC.fr F1
  have q19 : gi h1 19 (nI k) = some (Int32.ofInt (tkC br nd (lastF (sumC br nd) n 100 1) k)) := by rw [gi_nI z19 hk (by decide), y19 k hk]
  have rp : run 73 (0, [some (.ref 10), some (.int (nI k))], [], h1) = some (some (.int (Int32.ofInt (tkC br nd (lastF (sumC br nd) n 100 1) k))), h1) := by
    simp only [uX6_partOf_0, uX6_partOf_1, uX6_partOf_3, uX6_partOf_6, uX6_partOf_9, uX6_partOf_10, uX6_partOf_13, uX6_partOf_14, uX6_partOf_15, uX6_partOf_18, uX6_partOf_19, c_bl6, h5, gP2 PC1.1, q19, Option.bind_some, Option.toList_some, Option.toList_none, List.cons_append, List.nil_append, if_true, if_false, and_self, and_true, true_and, or_self, or_true, true_or, false_or, or_false, i10, i00, i01, i11]
  refine ⟨h1, g19, g20, g21, F1, ?_, z19, z20, z21⟩
  simp only [uX11_last_0, uX11_last_1, uX11_last_4, uX11_last_5, uX11_last_8, uX11_last_11, uX11_last_13, uX11_last_14, uX11_last_15, uX11_last_16, uX11_last_19, uX11_last_20, uX11_last_22, uX11_last_25, uX11_last_28, uX11_last_29, uX11_last_30, uX11_last_31, uX11_last_34, uX11_last_35, uX11_last_38, uX11_last_39, uX11_last_40, uX11_last_41, uX11_last_44, uX11_last_45, uX11_last_48, uX11_last_49, uX11_last_52, uX11_last_53, uX11_last_56, lt0I, h3, leI (show (9999 : Int32).toInt = 9999 by decide), h2.2, c_bl6, h5, h4, gX1 hX, gX1 hX1, vX PC.1, vX PC1.1, r1, rp, Option.bind_some, Option.toList_some, Option.toList_none, List.cons_append, List.nil_append, if_true, if_false, and_self, and_true, true_and, or_self, or_true, true_or, false_or, or_false, i10, i00, i01, i11, Nat.reduceAdd, st1_0, st1_c, st1_1i, st1_1r, st1_1n, st1_1u, st1_1J, st2_0, st2_c, st2_1i, st2_1r, st2_1n, st2_1u, st2_1J]
end CL
