theorem j_max {x y : Int32} {h : AH} : run 224 (0, [some (.int x), some (.int y)], [], h) = some (some (.int (if x < y then y else x)), h) := by
  by_cases h1 : x < y
  · have h2 : ¬ y ≤ x := Int32.not_le.mpr h1
    simp only [uJ9_max_7cf53_0, uJ9_max_7cf53_1, uJ9_max_7cf53_2, uJ9_max_7cf53_5, uJ9_max_7cf53_6, uJ9_max_7cf53_9, uJ9_max_7cf53_10, h1, h2, if_true, if_false, and_self, and_true, true_and, or_self, or_true, true_or, false_or, or_false, i10, i00, i01, i11]
  · have h2 : y ≤ x := Int32.not_lt.mp h1
    simp only [uJ9_max_7cf53_0, uJ9_max_7cf53_1, uJ9_max_7cf53_2, uJ9_max_7cf53_5, uJ9_max_7cf53_6, uJ9_max_7cf53_9, uJ9_max_7cf53_10, h1, h2, if_true, if_false, and_self, and_true, true_and, or_self, or_true, true_or, false_or, or_false, i10, i00, i01, i11]
theorem j_min {x y : Int32} {h : AH} : run 225 (0, [some (.int x), some (.int y)], [], h) = some (some (.int (if x ≤ y then x else y)), h) := by
  by_cases h1 : x ≤ y
  · have h2 : ¬ y < x := Int32.not_lt.mpr h1
    simp only [uJ9_min_7cf53_0, uJ9_min_7cf53_1, uJ9_min_7cf53_2, uJ9_min_7cf53_5, uJ9_min_7cf53_6, uJ9_min_7cf53_9, uJ9_min_7cf53_10, h1, h2, if_true, if_false, and_self, and_true, true_and, or_self, or_true, true_or, false_or, or_false, i10, i00, i01, i11]
  · have h2 : y < x := Int32.not_le.mp h1
    simp only [uJ9_min_7cf53_0, uJ9_min_7cf53_1, uJ9_min_7cf53_2, uJ9_min_7cf53_5, uJ9_min_7cf53_6, uJ9_min_7cf53_9, uJ9_min_7cf53_10, h1, h2, if_true, if_false, and_self, and_true, true_and, or_self, or_true, true_or, false_or, or_false, i10, i00, i01, i11]
theorem ga_nI {h : AH} {a t n k : Nat} {f : Nat → Option Nat} (h4 : 4 ≤ a) (hr : rR h a = some (t, n, f)) (hk : k < n) (hn : n < 2 ^ 31) : ga h a (nI k) = some (rfv (f k)) := by
  unfold ga
  rw [hr, Option.bind_some, nI_clamp (by omega), if_neg]
  rintro (q | q | q)
  · omega
  · exact nI_pos (by omega) q
  · exact absurd hk (Nat.not_lt.mpr q)
def brR (i : Nat) : Option Nat := if i < 6 then some (13 + i) else none
theorem updS {f g : Nat → Int32} {p : Nat} {x : Int32} (hx : x = f p) : upd (fun q => if q < p then f q else g q) p x = fun q => if q < p + 1 then f q else g q := by
  funext q
  unfold upd
  by_cases e : q = p
  · subst e
    rw [if_pos rfl, if_pos (Nat.lt_succ_self q), hx]
  · rw [if_neg e]
    show (if q < p then f q else g q) = _
    by_cases h1 : q < p
    · rw [if_pos h1, if_pos (by omega)]
    · rw [if_neg h1, if_neg (by omega)]
def Fr3 (bs : List Nat) (h h1 : AH) : Prop := (∀ b, b ∉ bs → rI h1 b = rI h b) ∧ (∀ b, rO h1 b = rO h b) ∧ (∀ b, rR h1 b = rR h b) ∧ h1.1 = h.1 ∧ h1.2.1 = h.2.1
theorem Fr3.rfl {bs : List Nat} {h : AH} : Fr3 bs h h := ⟨fun _ _ => Eq.refl _, fun _ => Eq.refl _, fun _ => Eq.refl _, Eq.refl _, Eq.refl _⟩
theorem Fr3.trans {bs : List Nat} {a b c : AH} (h1 : Fr3 bs a b) (h2 : Fr3 bs b c) : Fr3 bs a c := ⟨fun q hq => (h2.1 q hq).trans (h1.1 q hq), fun q => (h2.2.1 q).trans (h1.2.1 q), fun q => (h2.2.2.1 q).trans (h1.2.2.1 q), h2.2.2.2.1.trans h1.2.2.2.1, h2.2.2.2.2.trans h1.2.2.2.2⟩
theorem Fr3.si {bs : List Nat} {h : AH} {a k : Nat} {x : Int32} (ha : a ∈ bs) : Fr3 bs h (si h a k x) := ⟨fun b hb => by rw [rI_si, if_neg (fun q => hb (by rw [q]; exact ha))], fun b => rO_si, fun b => rR_si, si_n, si_s⟩
def PostsC (h : AH) (br : Nat → Nat → Nat) (nd : Nat → Nat) (bg : Int32) : Prop := rO h 10 = some (5, pF bg) ∧ rR h 12 = some (4, 6, brR) ∧ (∀ p, p < 6 → rI h (13 + p) = some (100, fun d => nI (br p d))) ∧ rI h 11 = some (6, fun p => nI (nd p)) ∧ (∀ p d, br p d ≤ 2000) ∧ ∀ p, nd p < 10
section CP
variable {h : AH} {br : Nat → Nat → Nat} {nd : Nat → Nat} {bg : Int32}
theorem br_ga (PC : PostsC h br nd bg) {p : Nat} (hp : p < 6) : ga h 12 (nI p) = some (.ref (13 + p)) := by
  rw [ga_nI (by decide) PC.2.1 hp (by decide)]
  unfold brR
  rw [if_pos hp]
  rfl
theorem c_dayOut_loop {post : Nat} {n0 : Int32} (PC : PostsC h br nd bg) (hp : post < 6) : ∀ k day has, day + k = 100 → has ≤ 20000 + 2000 * day → run 70 (17, [some (.ref 10), some (.int (nI post)), some (.int n0), some (.int (nI has)), some (.int (nI day))], [], h) = some (some (.int (outR (outF (br post) (nd post) k day has))), h) := by
  obtain ⟨p1, p2, p3, p4, p5, p6⟩ := id PC
  intro k
  induction k with
  | zero =>
    intro day has hday hh
    have hb : day = 100 := by omega
    subst hb
    have c1 : (100 : Int32) ≤ nI 100 := by decide
    simp only [uX6_dayOut_0, uX6_dayOut_1, uX6_dayOut_3, uX6_dayOut_6, uX6_dayOut_9, uX6_dayOut_11, uX6_dayOut_12, uX6_dayOut_13, uX6_dayOut_14, uX6_dayOut_15, uX6_dayOut_17, uX6_dayOut_19, uX6_dayOut_21, uX6_dayOut_24, uX6_dayOut_25, uX6_dayOut_26, uX6_dayOut_29, uX6_dayOut_30, uX6_dayOut_31, uX6_dayOut_33, uX6_dayOut_34, uX6_dayOut_35, uX6_dayOut_36, uX6_dayOut_37, uX6_dayOut_38, uX6_dayOut_41, uX6_dayOut_42, uX6_dayOut_43, uX6_dayOut_46, uX6_dayOut_48, uX6_dayOut_49, uX6_dayOut_50, uX6_dayOut_51, uX6_dayOut_54, uX6_dayOut_55, uX6_dayOut_56, uX6_dayOut_57, uX6_dayOut_58, uX6_dayOut_61, uX6_dayOut_64, uX6_dayOut_66, c1, Option.bind_some, Option.toList_some, Option.toList_none, List.cons_append, List.nil_append, if_true, if_false, and_self, and_true, true_and, or_self, or_true, true_or, false_or, or_false, i10, i00, i01, i11]
    rfl
  | succ k ih =>
    intro day has hday hh
    have c1 : ¬ (100 : Int32) ≤ nI day := nI_ge (a := day) (b := 100) (by omega) (by decide)
    have hcl := p5 post day
    have hnd := p6 post
    have q1 : gi h 11 (nI post) = some (nI (nd post)) := gi_nI p4 hp (by decide)
    have q2 : gi h (13 + post) (nI day) = some (nI (br post day)) := gi_nI (p3 post hp) (by omega) (by decide)
    rw [uX6_dayOut_17]
    unfold outF
    by_cases hz : has + br post day < nd post
    · have c2 : ¬ nI (nd post) ≤ nI (has + br post day) := nI_ge hz (by omega)
      have e9 : outR day = nI day := by unfold outR; rw [if_neg (by omega)]
      simp only [uX6_dayOut_0, uX6_dayOut_1, uX6_dayOut_3, uX6_dayOut_6, uX6_dayOut_9, uX6_dayOut_11, uX6_dayOut_12, uX6_dayOut_13, uX6_dayOut_14, uX6_dayOut_15, uX6_dayOut_19, uX6_dayOut_21, uX6_dayOut_24, uX6_dayOut_25, uX6_dayOut_26, uX6_dayOut_29, uX6_dayOut_30, uX6_dayOut_31, uX6_dayOut_33, uX6_dayOut_34, uX6_dayOut_35, uX6_dayOut_36, uX6_dayOut_37, uX6_dayOut_38, uX6_dayOut_41, uX6_dayOut_42, uX6_dayOut_43, uX6_dayOut_46, uX6_dayOut_48, uX6_dayOut_49, uX6_dayOut_50, uX6_dayOut_51, uX6_dayOut_54, uX6_dayOut_55, uX6_dayOut_56, uX6_dayOut_57, uX6_dayOut_58, uX6_dayOut_61, uX6_dayOut_64, uX6_dayOut_66, gP0 p1, gP1 p1, br_ga PC hp, q1, q2, c1, nI_add, c2, hz, e9, Option.bind_some, Option.toList_some, Option.toList_none, List.cons_append, List.nil_append, if_true, if_false, and_self, and_true, true_and, or_self, or_true, true_or, false_or, or_false, i10, i00, i01, i11, Nat.reduceAdd, st1_0, st1_c, st1_1i, st1_1r, st1_1n, st1_1u, st1_1J, st2_0, st2_c, st2_1i, st2_1r, st2_1n, st2_1u, st2_1J]
    · have c2 : nI (nd post) ≤ nI (has + br post day) := nI_le (by omega) (by omega)
      have ih1 := ih (day + 1) (has + br post day - nd post) (by omega) (by omega)
      simp only [uX6_dayOut_0, uX6_dayOut_1, uX6_dayOut_3, uX6_dayOut_6, uX6_dayOut_9, uX6_dayOut_11, uX6_dayOut_12, uX6_dayOut_13, uX6_dayOut_14, uX6_dayOut_15, uX6_dayOut_19, uX6_dayOut_21, uX6_dayOut_24, uX6_dayOut_25, uX6_dayOut_26, uX6_dayOut_29, uX6_dayOut_30, uX6_dayOut_31, uX6_dayOut_33, uX6_dayOut_34, uX6_dayOut_35, uX6_dayOut_36, uX6_dayOut_37, uX6_dayOut_38, uX6_dayOut_41, uX6_dayOut_42, uX6_dayOut_43, uX6_dayOut_46, uX6_dayOut_48, uX6_dayOut_49, uX6_dayOut_50, uX6_dayOut_51, uX6_dayOut_54, uX6_dayOut_55, uX6_dayOut_56, uX6_dayOut_57, uX6_dayOut_58, uX6_dayOut_61, uX6_dayOut_64, uX6_dayOut_66, gP0 p1, gP1 p1, br_ga PC hp, q1, q2, c1, nI_add, c2, hz, pk_sub (show nd post ≤ has + br post day by omega), nI_1, Option.bind_some, Option.toList_some, Option.toList_none, List.cons_append, List.nil_append, if_true, if_false, and_self, and_true, true_and, or_self, or_true, true_or, false_or, or_false, i10, i00, i01, i11, Nat.reduceAdd, st1_0, st1_c, st1_1i, st1_1r, st1_1n, st1_1u, st1_1J, st2_0, st2_c, st2_1i, st2_1r, st2_1n, st2_1u, st2_1J]
      exact ih1
theorem c_out_u {w n : Int32} (hw : ¬ (0 ≤ w.toInt ∧ w.toInt ≤ 5)) : run 113 (0, [some (.ref 4), some (.int w), some (.int n)], [], h) = some (some (.int (-1)), h) := by
  simp only [uX11_out_0, uX11_out_1, uX11_out_3, uX11_out_6, uX11_out_9, uX11_out_10, uX11_out_11, uX11_out_12, uX11_out_15, uX11_out_16, uX11_out_19, uX11_out_22, uX11_out_24, uX11_out_25, uX11_out_26, uX11_out_29, uX11_out_30, uX11_out_31, uX11_out_34, c_bl6, hw, Option.bind_some, Option.toList_some, Option.toList_none, List.cons_append, List.nil_append, if_true, if_false, and_self, and_true, true_and, or_self, or_true, true_or, false_or, or_false, i10, i00, i01, i11]
theorem c_out_o {n : Int32} {k : Nat} (hk : k < 6) (hn : ¬ (0 ≤ n.toInt ∧ n.toInt ≤ 9999)) : run 113 (0, [some (.ref 4), some (.int (nI k)), some (.int n)], [], h) = some (some (.int (-2)), h) := by
  have h1 : 0 ≤ (nI k).toInt ∧ (nI k).toInt ≤ 5 := nI_rng (by omega) (by omega)
  by_cases h2 : n.toInt < 0
  · simp only [uX11_out_0, uX11_out_1, uX11_out_3, uX11_out_6, uX11_out_9, uX11_out_10, uX11_out_11, uX11_out_12, uX11_out_15, uX11_out_16, uX11_out_19, uX11_out_22, uX11_out_24, uX11_out_25, uX11_out_26, uX11_out_29, uX11_out_30, uX11_out_31, uX11_out_34, c_bl6, h1, lt0I, h2, Option.bind_some, Option.toList_some, Option.toList_none, List.cons_append, List.nil_append, if_true, if_false, and_self, and_true, true_and, or_self, or_true, true_or, false_or, or_false, i10, i00, i01, i11]
  · have h3 : ¬ n.toInt ≤ 9999 := fun q => hn ⟨by omega, q⟩
    simp only [uX11_out_0, uX11_out_1, uX11_out_3, uX11_out_6, uX11_out_9, uX11_out_10, uX11_out_11, uX11_out_12, uX11_out_15, uX11_out_16, uX11_out_19, uX11_out_22, uX11_out_24, uX11_out_25, uX11_out_26, uX11_out_29, uX11_out_30, uX11_out_31, uX11_out_34, c_bl6, h1, lt0I, h2, leI (show (9999 : Int32).toInt = 9999 by decide), h3, Option.bind_some, Option.toList_some, Option.toList_none, List.cons_append, List.nil_append, if_true, if_false, and_self, and_true, true_and, or_self, or_true, true_or, false_or, or_false, i10, i00, i01, i11]
theorem c_out {k n dr : Nat} {pc lc lf : Int32} (PC : PostsC h br nd bg) (hX : rO h 4 = some (10, xF dr pc lc lf)) (hk : k < 6) (hn : n < 10000) : run 113 (0, [some (.ref 4), some (.int (nI k)), some (.int (nI n))], [], h) = some (some (.int (outR (outF (br k) (nd k) 100 0 n))), h) := by
  have h1 : 0 ≤ (nI k).toInt ∧ (nI k).toInt ≤ 5 := nI_rng (by omega) (by omega)
  have h2 := nI_rng (k := n) (b := 9999) (by omega) (by omega)
  have h3 : ¬ (nI n).toInt < 0 := by omega
  have hl := c_dayOut_loop (n0 := nI n) PC hk 100 0 n rfl (by omega)
  have hd : run 70 (0, [some (.ref 10), some (.int (nI k)), some (.int (nI n)), none, none], [], h) = some (some (.int (outR (outF (br k) (nd k) 100 0 n))), h) := by
    simp only [uX6_dayOut_0, uX6_dayOut_1, uX6_dayOut_3, uX6_dayOut_6, uX6_dayOut_9, uX6_dayOut_11, uX6_dayOut_12, uX6_dayOut_13, uX6_dayOut_14, uX6_dayOut_15, uX6_dayOut_19, uX6_dayOut_21, uX6_dayOut_24, uX6_dayOut_25, uX6_dayOut_26, uX6_dayOut_29, uX6_dayOut_30, uX6_dayOut_31, uX6_dayOut_33, uX6_dayOut_34, uX6_dayOut_35, uX6_dayOut_36, uX6_dayOut_37, uX6_dayOut_38, uX6_dayOut_41, uX6_dayOut_42, uX6_dayOut_43, uX6_dayOut_46, uX6_dayOut_48, uX6_dayOut_49, uX6_dayOut_50, uX6_dayOut_51, uX6_dayOut_54, uX6_dayOut_55, uX6_dayOut_56, uX6_dayOut_57, uX6_dayOut_58, uX6_dayOut_61, uX6_dayOut_64, uX6_dayOut_66, c_bl6, h1, Option.bind_some, Option.toList_some, Option.toList_none, List.cons_append, List.nil_append, if_true, if_false, and_self, and_true, true_and, or_self, or_true, true_or, false_or, or_false, i10, i00, i01, i11, Nat.reduceAdd, st1_0, st1_c, st1_1i, st1_1r, st1_1n, st1_1u, st1_1J, st2_0, st2_c, st2_1i, st2_1r, st2_1n, st2_1u, st2_1J]
    exact hl
  simp only [uX11_out_0, uX11_out_1, uX11_out_3, uX11_out_6, uX11_out_9, uX11_out_10, uX11_out_11, uX11_out_12, uX11_out_15, uX11_out_16, uX11_out_19, uX11_out_22, uX11_out_24, uX11_out_25, uX11_out_26, uX11_out_29, uX11_out_30, uX11_out_31, uX11_out_34, c_bl6, h1, lt0I, h3, leI (show (9999 : Int32).toInt = 9999 by decide), h2.2, gX1 hX, vX PC.1, hd, Option.bind_some, Option.toList_some, Option.toList_none, List.cons_append, List.nil_append, if_true, if_false, and_self, and_true, true_and, or_self, or_true, true_or, false_or, or_false, i10, i00, i01, i11]
theorem c_addBag {k dd : Nat} {x : Int32} (PC : PostsC h br nd bg) (hk : k < 6) (hd : dd < 100) : run 69 (0, [some (.ref 10), some (.int (nI k)), some (.int (nI dd)), some (.int x)], [], h) = some (none, sf (si h (13 + k) dd (nI (br k dd) + x)) 10 5 (.int (bg + 1))) := by
  obtain ⟨p1, p2, p3, p4, p5, p6⟩ := id PC
  have h1 : 0 ≤ (nI k).toInt ∧ (nI k).toInt ≤ 5 := nI_rng (by omega) (by omega)
  have h2 : 0 ≤ (nI dd).toInt ∧ (nI dd).toInt ≤ 99 := nI_rng (by omega) (by omega)
  have q2 : gi h (13 + k) (nI dd) = some (nI (br k dd)) := gi_nI (p3 k hk) (by omega) (by decide)
  have w2 : pi h (13 + k) (nI dd) (nI (br k dd) + x) = _ := pi_si (by omega) (p3 k hk) hd (by decide)
  have p1b : rO (si h (13 + k) dd (nI (br k dd) + x)) 10 = some (5, pF bg) := by rw [rO_si, p1]
  have w3 : pf (si h (13 + k) dd (nI (br k dd) + x)) [(5, 5)] 10 (.int (bg + 1)) = some (sf (si h (13 + k) dd (nI (br k dd) + x)) 10 5 (.int (bg + 1))) := pf_sf (by decide) p1b rfl rfl (Nat.le_of_ble_eq_true rfl) rfl
  simp only [uX6_addBag_0, uX6_addBag_1, uX6_addBag_3, uX6_addBag_6, uX6_addBag_9, uX6_addBag_10, uX6_addBag_12, uX6_addBag_15, uX6_addBag_18, uX6_addBag_19, uX6_addBag_22, uX6_addBag_23, uX6_addBag_24, uX6_addBag_25, uX6_addBag_26, uX6_addBag_27, uX6_addBag_28, uX6_addBag_29, uX6_addBag_30, uX6_addBag_31, uX6_addBag_32, uX6_addBag_35, uX6_addBag_36, uX6_addBag_37, uX6_addBag_40, c_bl6, c_bl100, h1, h2, gP1 p1, gP5 p1b, br_ga PC hk, q2, w2, w3, Option.bind_some, Option.toList_some, Option.toList_none, List.cons_append, List.nil_append, if_true, if_false, and_self, and_true, true_and, or_self, or_true, true_or, false_or, or_false, i10, i00, i01, i11]
theorem c_bag_u {w d n : Int32} (hw : ¬ (0 ≤ w.toInt ∧ w.toInt ≤ 5)) : run 112 (0, [some (.ref 4), some (.int w), some (.int d), some (.int n)], [], h) = some (some (.int (-1)), h) := by
  simp only [uX11_bag_0, uX11_bag_1, uX11_bag_3, uX11_bag_6, uX11_bag_9, uX11_bag_10, uX11_bag_11, uX11_bag_12, uX11_bag_14, uX11_bag_17, uX11_bag_20, uX11_bag_21, uX11_bag_22, uX11_bag_25, uX11_bag_26, uX11_bag_28, uX11_bag_31, uX11_bag_33, uX11_bag_34, uX11_bag_35, uX11_bag_38, uX11_bag_41, uX11_bag_43, uX11_bag_46, uX11_bag_48, uX11_bag_49, uX11_bag_50, uX11_bag_53, uX11_bag_54, uX11_bag_55, uX11_bag_56, uX11_bag_59, uX11_bag_60, uX11_bag_63, uX11_bag_66, c_bl6, hw, Option.bind_some, Option.toList_some, Option.toList_none, List.cons_append, List.nil_append, if_true, if_false, and_self, and_true, true_and, or_self, or_true, true_or, false_or, or_false, i10, i00, i01, i11]
theorem c_bag_o {k : Nat} {d n : Int32} (hk : k < 6) (hd : ¬ (0 ≤ d.toInt ∧ d.toInt ≤ 99) ∨ ¬ (1 ≤ n.toInt ∧ n.toInt ≤ 99)) : run 112 (0, [some (.ref 4), some (.int (nI k)), some (.int d), some (.int n)], [], h) = some (some (.int (-2)), h) := by
  have h1 : 0 ≤ (nI k).toInt ∧ (nI k).toInt ≤ 5 := nI_rng (by omega) (by omega)
  by_cases hd1 : 0 ≤ d.toInt ∧ d.toInt ≤ 99
  · have hn : ¬ (1 ≤ n.toInt ∧ n.toInt ≤ 99) := hd.resolve_left (fun q => q hd1)
    by_cases h2 : n.toInt < 1
    · simp only [uX11_bag_0, uX11_bag_1, uX11_bag_3, uX11_bag_6, uX11_bag_9, uX11_bag_10, uX11_bag_11, uX11_bag_12, uX11_bag_14, uX11_bag_17, uX11_bag_20, uX11_bag_21, uX11_bag_22, uX11_bag_25, uX11_bag_26, uX11_bag_28, uX11_bag_31, uX11_bag_33, uX11_bag_34, uX11_bag_35, uX11_bag_38, uX11_bag_41, uX11_bag_43, uX11_bag_46, uX11_bag_48, uX11_bag_49, uX11_bag_50, uX11_bag_53, uX11_bag_54, uX11_bag_55, uX11_bag_56, uX11_bag_59, uX11_bag_60, uX11_bag_63, uX11_bag_66, c_bl6, c_bl100, h1, hd1, ltI (show (1 : Int32).toInt = 1 by decide), h2, Option.bind_some, Option.toList_some, Option.toList_none, List.cons_append, List.nil_append, if_true, if_false, and_self, and_true, true_and, or_self, or_true, true_or, false_or, or_false, i10, i00, i01, i11]
    · have h3 : ¬ n.toInt ≤ 99 := fun q => hn ⟨by omega, q⟩
      simp only [uX11_bag_0, uX11_bag_1, uX11_bag_3, uX11_bag_6, uX11_bag_9, uX11_bag_10, uX11_bag_11, uX11_bag_12, uX11_bag_14, uX11_bag_17, uX11_bag_20, uX11_bag_21, uX11_bag_22, uX11_bag_25, uX11_bag_26, uX11_bag_28, uX11_bag_31, uX11_bag_33, uX11_bag_34, uX11_bag_35, uX11_bag_38, uX11_bag_41, uX11_bag_43, uX11_bag_46, uX11_bag_48, uX11_bag_49, uX11_bag_50, uX11_bag_53, uX11_bag_54, uX11_bag_55, uX11_bag_56, uX11_bag_59, uX11_bag_60, uX11_bag_63, uX11_bag_66, c_bl6, c_bl100, h1, hd1, ltI (show (1 : Int32).toInt = 1 by decide), h2, leI (show (99 : Int32).toInt = 99 by decide), h3, Option.bind_some, Option.toList_some, Option.toList_none, List.cons_append, List.nil_append, if_true, if_false, and_self, and_true, true_and, or_self, or_true, true_or, false_or, or_false, i10, i00, i01, i11]
  · simp only [uX11_bag_0, uX11_bag_1, uX11_bag_3, uX11_bag_6, uX11_bag_9, uX11_bag_10, uX11_bag_11, uX11_bag_12, uX11_bag_14, uX11_bag_17, uX11_bag_20, uX11_bag_21, uX11_bag_22, uX11_bag_25, uX11_bag_26, uX11_bag_28, uX11_bag_31, uX11_bag_33, uX11_bag_34, uX11_bag_35, uX11_bag_38, uX11_bag_41, uX11_bag_43, uX11_bag_46, uX11_bag_48, uX11_bag_49, uX11_bag_50, uX11_bag_53, uX11_bag_54, uX11_bag_55, uX11_bag_56, uX11_bag_59, uX11_bag_60, uX11_bag_63, uX11_bag_66, c_bl6, c_bl100, h1, hd1, Option.bind_some, Option.toList_some, Option.toList_none, List.cons_append, List.nil_append, if_true, if_false, and_self, and_true, true_and, or_self, or_true, true_or, false_or, or_false, i10, i00, i01, i11]
theorem c_bag_f {k dd nn dr : Nat} {pc lc lf : Int32} (PC : PostsC h br nd (nI 20)) (hX : rO h 4 = some (10, xF dr pc lc lf)) (hk : k < 6) (hd : dd < 100) (hn : 1 ≤ nn ∧ nn < 100) : run 112 (0, [some (.ref 4), some (.int (nI k)), some (.int (nI dd)), some (.int (nI nn))], [], h) = some (some (.int (-4)), h) := by
  have h1 : 0 ≤ (nI k).toInt ∧ (nI k).toInt ≤ 5 := nI_rng (by omega) (by omega)
  have h2 : 0 ≤ (nI dd).toInt ∧ (nI dd).toInt ≤ 99 := nI_rng (by omega) (by omega)
  have h3 := nI_rng1 (k := nn) (a := 1) (b := 99) (by omega) (by omega) (by omega)
  have h5 : ¬ (nI nn).toInt < 1 := by omega
  have h4 : ¬ nI 20 < 20 := by decide
  simp only [uX11_bag_0, uX11_bag_1, uX11_bag_3, uX11_bag_6, uX11_bag_9, uX11_bag_10, uX11_bag_11, uX11_bag_12, uX11_bag_14, uX11_bag_17, uX11_bag_20, uX11_bag_21, uX11_bag_22, uX11_bag_25, uX11_bag_26, uX11_bag_28, uX11_bag_31, uX11_bag_33, uX11_bag_34, uX11_bag_35, uX11_bag_38, uX11_bag_41, uX11_bag_43, uX11_bag_46, uX11_bag_48, uX11_bag_49, uX11_bag_50, uX11_bag_53, uX11_bag_54, uX11_bag_55, uX11_bag_56, uX11_bag_59, uX11_bag_60, uX11_bag_63, uX11_bag_66, c_bl6, c_bl100, h1, h2, ltI (show (1 : Int32).toInt = 1 by decide), h5, leI (show (99 : Int32).toInt = 99 by decide), h3.2, gX1 hX, vX PC.1, c_bagCount PC.1, h4, Option.bind_some, Option.toList_some, Option.toList_none, List.cons_append, List.nil_append, if_true, if_false, and_self, and_true, true_and, or_self, or_true, true_or, false_or, or_false, i10, i00, i01, i11]
theorem c_bag {k dd nn nb dr : Nat} {pc lc lf : Int32} (PC : PostsC h br nd (nI nb)) (hb : nb < 20) (hX : rO h 4 = some (10, xF dr pc lc lf)) (hk : k < 6) (hd : dd < 100) (hn : 1 ≤ nn ∧ nn < 100) : run 112 (0, [some (.ref 4), some (.int (nI k)), some (.int (nI dd)), some (.int (nI nn))], [], h) = some (some (.int (nI (nb + 1))), sf (si h (13 + k) dd (nI (br k dd) + nI nn)) 10 5 (.int (nI (nb + 1)))) := by
  have h1 : 0 ≤ (nI k).toInt ∧ (nI k).toInt ≤ 5 := nI_rng (by omega) (by omega)
  have h2 : 0 ≤ (nI dd).toInt ∧ (nI dd).toInt ≤ 99 := nI_rng (by omega) (by omega)
  have h3 := nI_rng1 (k := nn) (a := 1) (b := 99) (by omega) (by omega) (by omega)
  have h5 : ¬ (nI nn).toInt < 1 := by omega
  have h4 : nI nb < 20 := nI_lt (a := nb) (b := 20) hb (by decide)
  have ha := c_addBag (x := nI nn) PC hk hd
  have hX2 : rO (sf (si h (13 + k) dd (nI (br k dd) + nI nn)) 10 5 (.int (nI nb + 1))) 4 = some (10, xF dr pc lc lf) := by rw [rO_sf, if_neg (by decide), rO_si, hX]
  have hP2 : rO (sf (si h (13 + k) dd (nI (br k dd) + nI nn)) 10 5 (.int (nI nb + 1))) 10 = some (5, pF (nI nb + 1)) := by rw [rO_sf, if_pos rfl, rO_si, PC.1]; rfl
  simp only [uX11_bag_0, uX11_bag_1, uX11_bag_3, uX11_bag_6, uX11_bag_9, uX11_bag_10, uX11_bag_11, uX11_bag_12, uX11_bag_14, uX11_bag_17, uX11_bag_20, uX11_bag_21, uX11_bag_22, uX11_bag_25, uX11_bag_26, uX11_bag_28, uX11_bag_31, uX11_bag_33, uX11_bag_34, uX11_bag_35, uX11_bag_38, uX11_bag_41, uX11_bag_43, uX11_bag_46, uX11_bag_48, uX11_bag_49, uX11_bag_50, uX11_bag_53, uX11_bag_54, uX11_bag_55, uX11_bag_56, uX11_bag_59, uX11_bag_60, uX11_bag_63, uX11_bag_66, c_bl6, c_bl100, h1, h2, ltI (show (1 : Int32).toInt = 1 by decide), h5, leI (show (99 : Int32).toInt = 99 by decide), h3.2, gX1 hX, gX1 hX2, vX PC.1, vX hP2, c_bagCount PC.1, c_bagCount hP2, ha, h4, Option.bind_some, Option.toList_some, Option.toList_none, List.cons_append, List.nil_append, if_true, if_false, and_self, and_true, true_and, or_self, or_true, true_or, false_or, or_false, i10, i00, i01, i11]
  rw [nI_1]
end CP
