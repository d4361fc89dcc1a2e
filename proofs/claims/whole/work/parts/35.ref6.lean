theorem iA (a b : Int) : Int32.ofInt a + Int32.ofInt b = Int32.ofInt (a + b) := (Int32.ofInt_add a b).symm
theorem iS (a b : Int) : Int32.ofInt a - Int32.ofInt b = Int32.ofInt (a - b) := (Int32.ofInt_sub a b).symm
theorem iMu (a b : Int) : Int32.ofInt a * Int32.ofInt b = Int32.ofInt (a * b) := (Int32.ofInt_mul a b).symm
theorem iNg (a : Int) : -Int32.ofInt a = Int32.ofInt (-a) := (Int32.ofInt_neg a).symm
theorem nIi (n : Nat) : nI n = Int32.ofInt (n : Int) := (Int32.ofInt_eq_ofNat).symm
theorem iT {a : Int} (h : -2147483648 ≤ a ∧ a ≤ 2147483647) : (Int32.ofInt a).toInt = a := Int32.toInt_ofInt_of_le (by omega) (by omega)
theorem iLe0 {a : Int} (h : -2147483648 ≤ a ∧ a ≤ 2147483647) : ((0 : Int32) ≤ Int32.ofInt a) = (0 ≤ a) := by
  rw [Int32.le_iff_toInt_le, iT h]
  rfl
theorem iLe {a b : Int} (ha : -2147483648 ≤ a ∧ a ≤ 2147483647) (hb : -2147483648 ≤ b ∧ b ≤ 2147483647) : (Int32.ofInt a ≤ Int32.ofInt b) = (a ≤ b) := by
  rw [Int32.le_iff_toInt_le, iT ha, iT hb]
theorem iLt {a b : Int} (ha : -2147483648 ≤ a ∧ a ≤ 2147483647) (hb : -2147483648 ≤ b ∧ b ≤ 2147483647) : (Int32.ofInt a < Int32.ofInt b) = (a < b) := by
  rw [Int32.lt_iff_toInt_lt, iT ha, iT hb]
def arF (cm : Nat → Nat) : Nat → Nat
  | 0 => 0
  | d + 1 => arF cm d + cm d
def tkF (cm : Nat → Nat) (nd : Nat) : Nat → Int
  | 0 => 0
  | d + 1 => if tkF cm nd d < (nd * (d + 1) : Nat) - (arF cm (d + 1) : Int) then (nd * (d + 1) : Nat) - (arF cm (d + 1) : Int) else tkF cm nd d
theorem arF_le {cm : Nat → Nat} (hc : ∀ d, cm d ≤ 2000) : ∀ d, arF cm d ≤ 2000 * d
  | 0 => Nat.le_refl _
  | d + 1 => by
    have h1 := arF_le hc d
    have h2 := hc d
    unfold arF
    omega
theorem tkF_le {cm : Nat → Nat} {nd : Nat} (hn : nd < 10) : ∀ d, 0 ≤ tkF cm nd d ∧ tkF cm nd d ≤ 9 * d
  | 0 => ⟨Int.le_refl _, Int.le_refl _⟩
  | d + 1 => by
    have h1 := tkF_le (cm := cm) hn d
    have h2 : nd * (d + 1) ≤ 9 * (d + 1) := Nat.mul_le_mul_right _ (by omega)
    unfold tkF
    split <;> omega
section RT
variable {h : AH} {bp bd bm nd : Nat → Nat} {nb : Nat}
theorem com_le (PM : PostsM h bp bd bm nd nb) (post d : Nat) : comF bp bd bm post d nb ≤ 2000 := by
  have h1 := comF_le (bp := bp) (bd := bd) (post := post) (day := d) PM.2.2.2.1 nb
  have h2 := PM.1
  omega
theorem r_takesFor_loop {post day : Nat} (PM : PostsM h bp bd bm nd nb) (hp : post < 6) (hday : day ≤ 100) : ∀ k d, d + k = day → run 185 (8, [some (.ref 36), some (.int (nI post)), some (.int (nI day)), some (.int (Int32.ofInt (tkF (fun d => comF bp bd bm post d nb) (nd post) d))), some (.int (Int32.ofInt ((arF (fun d => comF bp bd bm post d nb) d : Int) - (nd post * d : Nat)))), some (.int (nI d))], [], h) = some (some (.int (Int32.ofInt (tkF (fun d => comF bp bd bm post d nb) (nd post) day))), h) := by
  obtain ⟨p1, p2, p3, p4, p5, p6, p7, p8, p9, p10, p11, p12, p13, p14, p15⟩ := id PM
  intro k
  induction k with
  | zero =>
    intro d hd
    have hd : d = day := by omega
    subst hd
    have c1 : nI d ≤ nI d := nI_le (Nat.le_refl _) (by omega)
    simp only [uX12_takesFor_0, uX12_takesFor_1, uX12_takesFor_2, uX12_takesFor_3, uX12_takesFor_5, uX12_takesFor_6, uX12_takesFor_8, uX12_takesFor_10, uX12_takesFor_11, uX12_takesFor_14, uX12_takesFor_16, uX12_takesFor_17, uX12_takesFor_18, uX12_takesFor_20, uX12_takesFor_23, uX12_takesFor_24, uX12_takesFor_27, uX12_takesFor_28, uX12_takesFor_29, uX12_takesFor_30, uX12_takesFor_31, uX12_takesFor_33, uX12_takesFor_35, uX12_takesFor_36, uX12_takesFor_37, uX12_takesFor_40, uX12_takesFor_42, uX12_takesFor_43, uX12_takesFor_46, uX12_takesFor_47, uX12_takesFor_48, uX12_takesFor_51, uX12_takesFor_54, uX12_takesFor_55, c1, Option.bind_some, Option.toList_some, Option.toList_none, List.cons_append, List.nil_append, if_true, if_false, and_self, and_true, true_and, or_self, or_true, true_or, false_or, or_false, i10, i00, i01, i11]
  | succ k ih =>
    intro d hd
    have c1 : ¬ nI day ≤ nI d := nI_ge (by omega) (by omega)
    have hc := r_comesOn PM hp (show d < 100 by omega)
    have hcl := com_le PM post d
    have hnd := p5 post
    have q1 : gi h 51 (nI post) = some (nI (nd post)) := gi_nI p14 hp (by decide)
    have ih1 := ih (d + 1) (by omega)
    have hal := arF_le (com_le PM post) d
    have htl := tkF_le (cm := fun d => comF bp bd bm post d nb) hnd d
    have hmul : nd post * d ≤ 9 * d := Nat.mul_le_mul_right _ (by omega)
    have e1 : (arF (fun d => comF bp bd bm post d nb) d : Int) - (nd post * d : Nat) + ((comF bp bd bm post d nb : Int) - (nd post : Int)) = (arF (fun d => comF bp bd bm post d nb) (d + 1) : Int) - (nd post * (d + 1) : Nat) := by
      rw [Nat.mul_succ]
      show _ = ((arF (fun d => comF bp bd bm post d nb) d + comF bp bd bm post d nb : Nat) : Int) - _
      omega
    have hal2 : (arF (fun d => comF bp bd bm post d nb) (d + 1) : Int) ≤ 2000 * (d + 1) := by
      have := arF_le (com_le PM post) (d + 1)
      omega
    have hmul2 : nd post * (d + 1) ≤ 9 * (d + 1) := Nat.mul_le_mul_right _ (by omega)
    have e0 : Int32.ofInt ((arF (fun d => comF bp bd bm post d nb) d : Int) - (nd post * d : Nat)) + (nI (comF bp bd bm post d nb) - nI (nd post)) = Int32.ofInt ((arF (fun d => comF bp bd bm post d nb) (d + 1) : Int) - (nd post * (d + 1) : Nat)) := by
      rw [nIi, nIi, iS, iA, e1]
    have c2 := iLe0 (a := (arF (fun d => comF bp bd bm post d nb) (d + 1) : Int) - (nd post * (d + 1) : Nat) + tkF (fun d => comF bp bd bm post d nb) (nd post) d) (by omega)
    rw [uX12_takesFor_8]
    by_cases hz : 0 ≤ (arF (fun d => comF bp bd bm post d nb) (d + 1) : Int) - (nd post * (d + 1) : Nat) + tkF (fun d => comF bp bd bm post d nb) (nd post) d
    · have e2 : tkF (fun d => comF bp bd bm post d nb) (nd post) (d + 1) = tkF (fun d => comF bp bd bm post d nb) (nd post) d := by
        conv => lhs; unfold tkF
        rw [if_neg (by omega)]
      rw [e2] at ih1
      simp only [uX12_takesFor_0, uX12_takesFor_1, uX12_takesFor_2, uX12_takesFor_3, uX12_takesFor_5, uX12_takesFor_6, uX12_takesFor_10, uX12_takesFor_11, uX12_takesFor_14, uX12_takesFor_16, uX12_takesFor_17, uX12_takesFor_18, uX12_takesFor_20, uX12_takesFor_23, uX12_takesFor_24, uX12_takesFor_27, uX12_takesFor_28, uX12_takesFor_29, uX12_takesFor_30, uX12_takesFor_31, uX12_takesFor_33, uX12_takesFor_35, uX12_takesFor_36, uX12_takesFor_37, uX12_takesFor_40, uX12_takesFor_42, uX12_takesFor_43, uX12_takesFor_46, uX12_takesFor_47, uX12_takesFor_48, uX12_takesFor_51, uX12_takesFor_54, uX12_takesFor_55, p15, hc, p10, q1, c1, e0, iA, c2, hz, nI_1, Option.bind_some, Option.toList_some, Option.toList_none, List.cons_append, List.nil_append, if_true, if_false, and_self, and_true, true_and, or_self, or_true, true_or, false_or, or_false, i10, i00, i01, i11, Nat.reduceAdd, st1_0, st1_c, st1_1i, st1_1r, st1_1n, st1_1u, st1_1J, st2_0, st2_c, st2_1i, st2_1r, st2_1n, st2_1u, st2_1J]
      exact ih1
    · have e2 : tkF (fun d => comF bp bd bm post d nb) (nd post) (d + 1) = -((arF (fun d => comF bp bd bm post d nb) (d + 1) : Int) - (nd post * (d + 1) : Nat)) := by
        conv => lhs; unfold tkF
        rw [if_pos (by omega)]
        omega
      rw [e2] at ih1
      simp only [uX12_takesFor_0, uX12_takesFor_1, uX12_takesFor_2, uX12_takesFor_3, uX12_takesFor_5, uX12_takesFor_6, uX12_takesFor_10, uX12_takesFor_11, uX12_takesFor_14, uX12_takesFor_16, uX12_takesFor_17, uX12_takesFor_18, uX12_takesFor_20, uX12_takesFor_23, uX12_takesFor_24, uX12_takesFor_27, uX12_takesFor_28, uX12_takesFor_29, uX12_takesFor_30, uX12_takesFor_31, uX12_takesFor_33, uX12_takesFor_35, uX12_takesFor_36, uX12_takesFor_37, uX12_takesFor_40, uX12_takesFor_42, uX12_takesFor_43, uX12_takesFor_46, uX12_takesFor_47, uX12_takesFor_48, uX12_takesFor_51, uX12_takesFor_54, uX12_takesFor_55, p15, hc, p10, q1, c1, e0, iA, c2, hz, iNg, nI_1, Option.bind_some, Option.toList_some, Option.toList_none, List.cons_append, List.nil_append, if_true, if_false, and_self, and_true, true_and, or_self, or_true, true_or, false_or, or_false, i10, i00, i01, i11, Nat.reduceAdd, st1_0, st1_c, st1_1i, st1_1r, st1_1n, st1_1u, st1_1J, st2_0, st2_c, st2_1i, st2_1r, st2_1n, st2_1u, st2_1J]
      exact ih1
theorem r_takesFor {post day : Nat} (PM : PostsM h bp bd bm nd nb) (hp : post < 6) (hday : day ≤ 100) : run 185 (0, [some (.ref 36), some (.int (nI post)), some (.int (nI day)), none, none, none], [], h) = some (some (.int (Int32.ofInt (tkF (fun d => comF bp bd bm post d nb) (nd post) day))), h) := by
  simp only [uX12_takesFor_0, uX12_takesFor_1, uX12_takesFor_2, uX12_takesFor_3, uX12_takesFor_5, uX12_takesFor_6, uX12_takesFor_10, uX12_takesFor_11, uX12_takesFor_14, uX12_takesFor_16, uX12_takesFor_17, uX12_takesFor_18, uX12_takesFor_20, uX12_takesFor_23, uX12_takesFor_24, uX12_takesFor_27, uX12_takesFor_28, uX12_takesFor_29, uX12_takesFor_30, uX12_takesFor_31, uX12_takesFor_33, uX12_takesFor_35, uX12_takesFor_36, uX12_takesFor_37, uX12_takesFor_40, uX12_takesFor_42, uX12_takesFor_43, uX12_takesFor_46, uX12_takesFor_47, uX12_takesFor_48, uX12_takesFor_51, uX12_takesFor_54, uX12_takesFor_55, Option.bind_some, Option.toList_some, Option.toList_none, List.cons_append, List.nil_append, Nat.reduceAdd, st1_0, st1_c, st1_1i, st1_1r, st1_1n, st1_1u, st1_1J, st2_0, st2_c, st2_1i, st2_1r, st2_1n, st2_1u, st2_1J]
  exact r_takesFor_loop PM hp hday day 0 (by omega)
def sumT (t : Nat → Int) : Nat → Int
  | 0 => 0
  | p + 1 => sumT t p + t p
theorem sumT_le {t : Nat → Int} {b : Int} (ht : ∀ p, 0 ≤ t p ∧ t p ≤ b) : ∀ n : Nat, 0 ≤ sumT t n ∧ sumT t n ≤ n * b
  | 0 => ⟨Int.le_refl _, by show (0 : Int) ≤ ((0 : Nat) : Int) * b; simp⟩
  | n + 1 => by
    have h1 := sumT_le ht n
    have h2 := ht n
    unfold sumT
    refine ⟨by omega, ?_⟩
    have : ((n + 1 : Nat) : Int) * b = (n : Int) * b + b := by
      rw [Int.natCast_succ, Int.add_mul, Int.one_mul]
    omega
def tkP (bp bd bm nd : Nat → Nat) (nb d p : Nat) : Int := tkF (fun d => comF bp bd bm p d nb) (nd p) d
theorem r_last_inner {n post : Int32} {lst d : Nat} (PM : PostsM h bp bd bm nd nb) (hd : d ≤ 100) : ∀ k p, p + k = 6 → run 186 (55, [some (.ref 36), some (.int n), some (.int post), some (.int (nI lst)), some (.int 1), some (.int (nI d)), some (.int (Int32.ofInt (sumT (tkP bp bd bm nd nb d) p))), some (.int (nI p))], [], h) = run 186 (81, [some (.ref 36), some (.int n), some (.int post), some (.int (nI lst)), some (.int 1), some (.int (nI d)), some (.int (Int32.ofInt (sumT (tkP bp bd bm nd nb d) 6))), some (.int (nI 6))], [], h) := by
  intro k
  induction k with
  | zero =>
    intro p hp
    have hp : p = 6 := by omega
    subst hp
    have c1 : (6 : Int32) ≤ nI 6 := by decide
    rw [uX12_last_55]
    simp only [uX12_last_57, uX12_last_59, c1, if_true, if_false, and_self, and_true, true_and, or_self, or_true, true_or, false_or, or_false, i10, i00, i01, i11]
  | succ k ih =>
    intro p hp
    have c1 : ¬ (6 : Int32) ≤ nI p := nI_ge (a := p) (b := 6) (by omega) (by decide)
    have ht := r_takesFor PM (show p < 6 by omega) hd
    have ih1 := ih (p + 1) (by omega)
    rw [uX12_last_55]
    simp only [uX12_last_0, uX12_last_1, uX12_last_2, uX12_last_3, uX12_last_6, uX12_last_9, uX12_last_12, uX12_last_14, uX12_last_15, uX12_last_16, uX12_last_17, uX12_last_20, uX12_last_21, uX12_last_24, uX12_last_27, uX12_last_28, uX12_last_29, uX12_last_30, uX12_last_31, uX12_last_32, uX12_last_34, uX12_last_35, uX12_last_39, uX12_last_41, uX12_last_44, uX12_last_46, uX12_last_49, uX12_last_50, uX12_last_52, uX12_last_53, uX12_last_57, uX12_last_59, uX12_last_62, uX12_last_64, uX12_last_65, uX12_last_67, uX12_last_69, uX12_last_72, uX12_last_73, uX12_last_75, uX12_last_78, uX12_last_83, uX12_last_84, uX12_last_87, uX12_last_88, uX12_last_91, uX12_last_92, uX12_last_94, uX12_last_96, uX12_last_99, uX12_last_101, uX12_last_104, uX12_last_105, uX12_last_106, uX12_last_109, uX12_last_112, uX12_last_113, uX12_last_116, uX12_last_117, uX12_last_120, uX12_last_121, uX12_last_122, uX12_last_123, uX12_last_126, PM.2.2.2.2.2.2.2.2.2.2.2.2.2.2, ht, c1, iA, nI_1, Option.bind_some, Option.toList_some, Option.toList_none, List.cons_append, List.nil_append, if_true, if_false, and_self, and_true, true_and, or_self, or_true, true_or, false_or, or_false, i10, i00, i01, i11, Nat.reduceAdd, st1_0, st1_c, st1_1i, st1_1r, st1_1n, st1_1u, st1_1J, st2_0, st2_c, st2_1i, st2_1r, st2_1n, st2_1u, st2_1J]
    exact ih1
def lastF (S : Nat → Int) (n : Int) : Nat → Nat → Nat
  | 0, d => d - 1
  | k + 1, d => if S d ≤ n then lastF S n k (d + 1) else d - 1
theorem lastF_le (S : Nat → Int) (n : Int) : ∀ k d, lastF S n k d ≤ d - 1 + k
  | 0, d => Nat.le_refl _
  | k + 1, d => by
    have := lastF_le S n k (d + 1)
    unfold lastF
    split <;> omega
def sum6 (bp bd bm nd : Nat → Nat) (nb d : Nat) : Int := sumT (tkP bp bd bm nd nb d) 6
theorem sum6_le (PM : PostsM h bp bd bm nd nb) (d : Nat) : 0 ≤ sum6 bp bd bm nd nb d ∧ sum6 bp bd bm nd nb d ≤ 6 * (9 * d) := by
  have := sumT_le (t := tkP bp bd bm nd nb d) (b := 9 * d) (fun p => tkF_le (PM.2.2.2.2.1 p) d) 6
  unfold sum6
  omega
theorem r_last_outer {post : Int32} {n : Nat} {Rz : Nat → Rs} (PM : PostsM h bp bd bm nd nb) (hn : n < 10000) (hend : ∀ (lst : Nat) (l4 l5 l6 l7 : Option Value), lst ≤ 100 → run 186 (112, [some (.ref 36), some (.int (nI n)), some (.int post), some (.int (nI lst)), l4, l5, l6, l7], [], h) = some (Rz lst)) : ∀ k d, d + k = 101 → 1 ≤ d → ∀ l6 l7 : Option Value, run 186 (37, [some (.ref 36), some (.int (nI n)), some (.int post), some (.int (nI (d - 1))), some (.int 1), some (.int (nI d)), l6, l7], [], h) = some (Rz (lastF (sum6 bp bd bm nd nb) n k d)) := by
  intro k
  induction k with
  | zero =>
    intro d hd h1 l6 l7
    have hd : d = 101 := by omega
    subst hd
    have c1 : (100 : Int32) < nI 101 := by decide
    rw [uX12_last_37]
    simp only [uX12_last_39, uX12_last_41, c1, if_true, if_false, and_self, and_true, true_and, or_self, or_true, true_or, false_or, or_false, i10, i00, i01, i11]
    exact hend 100 _ _ _ _ (by omega)
  | succ k ih =>
    intro d hd h1 l6 l7
    have c1 : ¬ (100 : Int32) < nI d := nI_nlt (a := 100) (b := d) (by omega) (by decide) |> fun q => q
    have hs := sum6_le PM d
    have hin := r_last_inner (n := nI n) (post := post) (lst := d - 1) PM (show d ≤ 100 by omega) 6 0 rfl
    have c2 : (nI n < Int32.ofInt (sumT (tkP bp bd bm nd nb d) 6)) = ((n : Int) < sumT (tkP bp bd bm nd nb d) 6) := by
      rw [nIi]
      exact iLt (by omega) (by unfold sum6 at hs; omega)
    rw [uX12_last_37]
    simp only [uX12_last_0, uX12_last_1, uX12_last_2, uX12_last_3, uX12_last_6, uX12_last_9, uX12_last_12, uX12_last_14, uX12_last_15, uX12_last_16, uX12_last_17, uX12_last_20, uX12_last_21, uX12_last_24, uX12_last_27, uX12_last_28, uX12_last_29, uX12_last_30, uX12_last_31, uX12_last_32, uX12_last_34, uX12_last_35, uX12_last_39, uX12_last_41, uX12_last_44, uX12_last_46, uX12_last_49, uX12_last_50, uX12_last_52, uX12_last_53, uX12_last_57, uX12_last_59, uX12_last_62, uX12_last_64, uX12_last_65, uX12_last_67, uX12_last_69, uX12_last_72, uX12_last_73, uX12_last_75, uX12_last_78, uX12_last_83, uX12_last_84, uX12_last_87, uX12_last_88, uX12_last_91, uX12_last_92, uX12_last_94, uX12_last_96, uX12_last_99, uX12_last_101, uX12_last_104, uX12_last_105, uX12_last_106, uX12_last_109, uX12_last_113, uX12_last_116, uX12_last_117, uX12_last_120, uX12_last_121, uX12_last_122, uX12_last_123, uX12_last_126, c1, Option.bind_some, Option.toList_some, Option.toList_none, List.cons_append, List.nil_append, if_true, if_false, and_self, and_true, true_and, or_self, or_true, true_or, false_or, or_false, i10, i00, i01, i11, Nat.reduceAdd, st1_0, st1_c, st1_1i, st1_1r, st1_1n, st1_1u, st1_1J, st2_0, st2_c, st2_1i, st2_1r, st2_1n, st2_1u, st2_1J]
    rw [show (run 186 (55, [some (.ref 36), some (.int (nI n)), some (.int post), some (.int (nI (d - 1))), some (.int 1), some (.int (nI d)), some (.int 0), some (.int 0)], [], h)) = _ from hin]
    rw [uX12_last_81]
    unfold lastF
    by_cases hz : sum6 bp bd bm nd nb d ≤ n
    · have hz2 : ¬ ((n : Int) < sumT (tkP bp bd bm nd nb d) 6) := by unfold sum6 at hz; omega
      have ih1 := ih (d + 1) (by omega) (by omega)
      have e3 : d + 1 - 1 = d := by omega
      rw [e3] at ih1
      simp only [uX12_last_0, uX12_last_1, uX12_last_2, uX12_last_3, uX12_last_6, uX12_last_9, uX12_last_12, uX12_last_14, uX12_last_15, uX12_last_16, uX12_last_17, uX12_last_20, uX12_last_21, uX12_last_24, uX12_last_27, uX12_last_28, uX12_last_29, uX12_last_30, uX12_last_31, uX12_last_32, uX12_last_34, uX12_last_35, uX12_last_39, uX12_last_41, uX12_last_44, uX12_last_46, uX12_last_49, uX12_last_50, uX12_last_52, uX12_last_53, uX12_last_57, uX12_last_59, uX12_last_62, uX12_last_64, uX12_last_65, uX12_last_67, uX12_last_69, uX12_last_72, uX12_last_73, uX12_last_75, uX12_last_78, uX12_last_83, uX12_last_84, uX12_last_87, uX12_last_88, uX12_last_91, uX12_last_92, uX12_last_94, uX12_last_96, uX12_last_99, uX12_last_101, uX12_last_104, uX12_last_105, uX12_last_106, uX12_last_109, uX12_last_113, uX12_last_116, uX12_last_117, uX12_last_120, uX12_last_121, uX12_last_122, uX12_last_123, uX12_last_126, c2, hz2, hz, nI_1, Option.bind_some, Option.toList_some, Option.toList_none, List.cons_append, List.nil_append, if_true, if_false, and_self, and_true, true_and, or_self, or_true, true_or, false_or, or_false, i10, i00, i01, i11, Nat.reduceAdd, st1_0, st1_c, st1_1i, st1_1r, st1_1n, st1_1u, st1_1J, st2_0, st2_c, st2_1i, st2_1r, st2_1n, st2_1u, st2_1J]
      exact ih1 _ _
    · have hz2 : (n : Int) < sumT (tkP bp bd bm nd nb d) 6 := by unfold sum6 at hz; omega
      simp only [uX12_last_0, uX12_last_1, uX12_last_2, uX12_last_3, uX12_last_6, uX12_last_9, uX12_last_12, uX12_last_14, uX12_last_15, uX12_last_16, uX12_last_17, uX12_last_20, uX12_last_21, uX12_last_24, uX12_last_27, uX12_last_28, uX12_last_29, uX12_last_30, uX12_last_31, uX12_last_32, uX12_last_34, uX12_last_35, uX12_last_39, uX12_last_41, uX12_last_44, uX12_last_46, uX12_last_49, uX12_last_50, uX12_last_52, uX12_last_53, uX12_last_57, uX12_last_59, uX12_last_62, uX12_last_64, uX12_last_65, uX12_last_67, uX12_last_69, uX12_last_72, uX12_last_73, uX12_last_75, uX12_last_78, uX12_last_83, uX12_last_84, uX12_last_87, uX12_last_88, uX12_last_91, uX12_last_92, uX12_last_94, uX12_last_96, uX12_last_99, uX12_last_101, uX12_last_104, uX12_last_105, uX12_last_106, uX12_last_109, uX12_last_113, uX12_last_116, uX12_last_117, uX12_last_120, uX12_last_121, uX12_last_122, uX12_last_123, uX12_last_126, c2, hz2, hz, nI_1, Option.bind_some, Option.toList_some, Option.toList_none, List.cons_append, List.nil_append, if_true, if_false, and_self, and_true, true_and, or_self, or_true, true_or, false_or, or_false, i10, i00, i01, i11, Nat.reduceAdd, st1_0, st1_c, st1_1i, st1_1r, st1_1n, st1_1u, st1_1J, st2_0, st2_c, st2_1i, st2_1r, st2_1n, st2_1u, st2_1J]
      have hend2 := hend (d - 1)
      rw [uX12_last_37]
      by_cases hd9 : (100 : Int32) < nI (d + 1)
      · simp only [uX12_last_39, uX12_last_41, hd9, if_true, if_false, and_self, and_true, true_and, or_self, or_true, true_or, false_or, or_false, i10, i00, i01, i11]
        exact hend2 _ _ _ _ (by omega)
      · simp only [uX12_last_39, uX12_last_41, uX12_last_44, uX12_last_46, hd9, if_true, if_false, and_self, and_true, true_and, or_self, or_true, true_or, false_or, or_false, i10, i00, i01, i11]
        exact hend2 _ _ _ _ (by omega)
theorem r_last_o {n post : Int32} (hn : ¬ (0 ≤ n.toInt ∧ n.toInt ≤ 9999)) : run 186 (0, [some (.ref 36), some (.int n), some (.int post), none, none, none, none, none], [], h) = some (some (.int (-2)), h) := by
  simp only [uX12_last_0, uX12_last_1, uX12_last_2, uX12_last_3, uX12_last_6, uX12_last_9, uX12_last_12, uX12_last_14, uX12_last_15, uX12_last_16, uX12_last_17, uX12_last_20, uX12_last_21, uX12_last_24, uX12_last_27, uX12_last_28, uX12_last_29, uX12_last_30, uX12_last_31, uX12_last_32, uX12_last_34, uX12_last_35, uX12_last_39, uX12_last_41, uX12_last_44, uX12_last_46, uX12_last_49, uX12_last_50, uX12_last_52, uX12_last_53, uX12_last_57, uX12_last_59, uX12_last_62, uX12_last_64, uX12_last_65, uX12_last_67, uX12_last_69, uX12_last_72, uX12_last_73, uX12_last_75, uX12_last_78, uX12_last_81, uX12_last_83, uX12_last_84, uX12_last_87, uX12_last_88, uX12_last_91, uX12_last_92, uX12_last_94, uX12_last_96, uX12_last_99, uX12_last_101, uX12_last_104, uX12_last_105, uX12_last_106, uX12_last_109, uX12_last_112, uX12_last_113, uX12_last_116, uX12_last_117, uX12_last_120, uX12_last_121, uX12_last_122, uX12_last_123, uX12_last_126, r_in_0_9999, hn, Option.bind_some, Option.toList_some, Option.toList_none, List.cons_append, List.nil_append, if_true, if_false, and_self, and_true, true_and, or_self, or_true, true_or, false_or, or_false, i10, i00, i01, i11]
theorem r_last_u {n : Nat} {post : Int32} (hn : n < 10000) (hp : ¬ (0 ≤ post.toInt ∧ post.toInt ≤ 5)) (hp1 : ¬ post = -1) : run 186 (0, [some (.ref 36), some (.int (nI n)), some (.int post), none, none, none, none, none], [], h) = some (some (.int (-1)), h) := by
  have h2 : 0 ≤ (nI n).toInt ∧ (nI n).toInt ≤ 9999 := nI_rng (by omega) (by omega)
  simp only [uX12_last_0, uX12_last_1, uX12_last_2, uX12_last_3, uX12_last_6, uX12_last_9, uX12_last_12, uX12_last_14, uX12_last_15, uX12_last_16, uX12_last_17, uX12_last_20, uX12_last_21, uX12_last_24, uX12_last_27, uX12_last_28, uX12_last_29, uX12_last_30, uX12_last_31, uX12_last_32, uX12_last_34, uX12_last_35, uX12_last_39, uX12_last_41, uX12_last_44, uX12_last_46, uX12_last_49, uX12_last_50, uX12_last_52, uX12_last_53, uX12_last_57, uX12_last_59, uX12_last_62, uX12_last_64, uX12_last_65, uX12_last_67, uX12_last_69, uX12_last_72, uX12_last_73, uX12_last_75, uX12_last_78, uX12_last_81, uX12_last_83, uX12_last_84, uX12_last_87, uX12_last_88, uX12_last_91, uX12_last_92, uX12_last_94, uX12_last_96, uX12_last_99, uX12_last_101, uX12_last_104, uX12_last_105, uX12_last_106, uX12_last_109, uX12_last_112, uX12_last_113, uX12_last_116, uX12_last_117, uX12_last_120, uX12_last_121, uX12_last_122, uX12_last_123, uX12_last_126, r_in_0_9999, h2, hp, hp1, r_noPost, Option.bind_some, Option.toList_some, Option.toList_none, List.cons_append, List.nil_append, if_true, if_false, and_self, and_true, true_and, or_self, or_true, true_or, false_or, or_false, i10, i00, i01, i11]
theorem r_last_all {n : Nat} (PM : PostsM h bp bd bm nd nb) (hn : n < 10000) : run 186 (0, [some (.ref 36), some (.int (nI n)), some (.int (-1)), none, none, none, none, none], [], h) = some (some (.int (nI (lastF (sum6 bp bd bm nd nb) n 100 1))), h) := by
  have h2 : 0 ≤ (nI n).toInt ∧ (nI n).toInt ≤ 9999 := nI_rng (by omega) (by omega)
  have e2 : ¬ (0 : Int32) ≤ -1 := by decide
  have ho := r_last_outer (post := -1) (Rz := fun l => (some (.int (nI l)), h)) PM hn (fun l l4 l5 l6 l7 _ => by
    simp only [uX12_last_0, uX12_last_1, uX12_last_2, uX12_last_3, uX12_last_6, uX12_last_9, uX12_last_12, uX12_last_14, uX12_last_15, uX12_last_16, uX12_last_17, uX12_last_20, uX12_last_21, uX12_last_24, uX12_last_27, uX12_last_28, uX12_last_29, uX12_last_30, uX12_last_31, uX12_last_32, uX12_last_34, uX12_last_35, uX12_last_39, uX12_last_41, uX12_last_44, uX12_last_46, uX12_last_49, uX12_last_50, uX12_last_52, uX12_last_53, uX12_last_57, uX12_last_59, uX12_last_62, uX12_last_64, uX12_last_65, uX12_last_67, uX12_last_69, uX12_last_72, uX12_last_73, uX12_last_75, uX12_last_78, uX12_last_81, uX12_last_83, uX12_last_84, uX12_last_87, uX12_last_88, uX12_last_91, uX12_last_92, uX12_last_94, uX12_last_96, uX12_last_99, uX12_last_101, uX12_last_104, uX12_last_105, uX12_last_106, uX12_last_109, uX12_last_112, uX12_last_113, uX12_last_116, uX12_last_117, uX12_last_120, uX12_last_121, uX12_last_122, uX12_last_123, uX12_last_126, e2, Option.bind_some, Option.toList_some, Option.toList_none, List.cons_append, List.nil_append, if_true, if_false, and_self, and_true, true_and, or_self, or_true, true_or, false_or, or_false, i10, i00, i01, i11]) 100 1 rfl (by omega) none none
  simp only [uX12_last_0, uX12_last_1, uX12_last_2, uX12_last_3, uX12_last_6, uX12_last_9, uX12_last_12, uX12_last_14, uX12_last_15, uX12_last_16, uX12_last_17, uX12_last_20, uX12_last_21, uX12_last_24, uX12_last_27, uX12_last_28, uX12_last_29, uX12_last_30, uX12_last_31, uX12_last_32, uX12_last_34, uX12_last_35, uX12_last_39, uX12_last_41, uX12_last_44, uX12_last_46, uX12_last_49, uX12_last_50, uX12_last_52, uX12_last_53, uX12_last_57, uX12_last_59, uX12_last_62, uX12_last_64, uX12_last_65, uX12_last_67, uX12_last_69, uX12_last_72, uX12_last_73, uX12_last_75, uX12_last_78, uX12_last_81, uX12_last_83, uX12_last_84, uX12_last_87, uX12_last_88, uX12_last_91, uX12_last_92, uX12_last_94, uX12_last_96, uX12_last_99, uX12_last_101, uX12_last_104, uX12_last_105, uX12_last_106, uX12_last_109, uX12_last_112, uX12_last_113, uX12_last_116, uX12_last_117, uX12_last_120, uX12_last_121, uX12_last_122, uX12_last_123, uX12_last_126, r_in_0_9999, h2, Option.bind_some, Option.toList_some, Option.toList_none, List.cons_append, List.nil_append, if_true, if_false, and_self, and_true, true_and, or_self, or_true, true_or, false_or, or_false, i10, i00, i01, i11, Nat.reduceAdd, st1_0, st1_c, st1_1i, st1_1r, st1_1n, st1_1u, st1_1J, st2_0, st2_c, st2_1i, st2_1r, st2_1n, st2_1u, st2_1J]
  exact ho
theorem r_last {n k : Nat} (PM : PostsM h bp bd bm nd nb) (hn : n < 10000) (hk : k < 6) : run 186 (0, [some (.ref 36), some (.int (nI n)), some (.int (nI k)), none, none, none, none, none], [], h) = some (some (.int (Int32.ofInt (tkP bp bd bm nd nb (lastF (sum6 bp bd bm nd nb) n 100 1) k))), h) := by
  have h2 : 0 ≤ (nI n).toInt ∧ (nI n).toInt ≤ 9999 := nI_rng (by omega) (by omega)
  have h3 : 0 ≤ (nI k).toInt ∧ (nI k).toInt ≤ 5 := nI_rng (by omega) (by omega)
  have h4 : ¬ nI k = -1 := fun q => by
    rw [← Int32.toInt_inj, nI_toInt (by omega)] at q
    have : (-1 : Int32).toInt = -1 := by decide
    omega
  have e2 : (0 : Int32) ≤ nI k := nI_pos' (by omega)
  have ho := r_last_outer (post := nI k) (Rz := fun l => (some (.int (Int32.ofInt (tkP bp bd bm nd nb l k))), h)) PM hn (fun l l4 l5 l6 l7 hl => by
    have ht := r_takesFor PM hk hl
    simp only [uX12_last_0, uX12_last_1, uX12_last_2, uX12_last_3, uX12_last_6, uX12_last_9, uX12_last_12, uX12_last_14, uX12_last_15, uX12_last_16, uX12_last_17, uX12_last_20, uX12_last_21, uX12_last_24, uX12_last_27, uX12_last_28, uX12_last_29, uX12_last_30, uX12_last_31, uX12_last_32, uX12_last_34, uX12_last_35, uX12_last_39, uX12_last_41, uX12_last_44, uX12_last_46, uX12_last_49, uX12_last_50, uX12_last_52, uX12_last_53, uX12_last_57, uX12_last_59, uX12_last_62, uX12_last_64, uX12_last_65, uX12_last_67, uX12_last_69, uX12_last_72, uX12_last_73, uX12_last_75, uX12_last_78, uX12_last_81, uX12_last_83, uX12_last_84, uX12_last_87, uX12_last_88, uX12_last_91, uX12_last_92, uX12_last_94, uX12_last_96, uX12_last_99, uX12_last_101, uX12_last_104, uX12_last_105, uX12_last_106, uX12_last_109, uX12_last_112, uX12_last_113, uX12_last_116, uX12_last_117, uX12_last_120, uX12_last_121, uX12_last_122, uX12_last_123, uX12_last_126, PM.2.2.2.2.2.2.2.2.2.2.2.2.2.2, ht, e2, Option.bind_some, Option.toList_some, Option.toList_none, List.cons_append, List.nil_append, if_true, if_false, and_self, and_true, true_and, or_self, or_true, true_or, false_or, or_false, i10, i00, i01, i11]
    rfl) 100 1 rfl (by omega) none none
  simp only [uX12_last_0, uX12_last_1, uX12_last_2, uX12_last_3, uX12_last_6, uX12_last_9, uX12_last_12, uX12_last_14, uX12_last_15, uX12_last_16, uX12_last_17, uX12_last_20, uX12_last_21, uX12_last_24, uX12_last_27, uX12_last_28, uX12_last_29, uX12_last_30, uX12_last_31, uX12_last_32, uX12_last_34, uX12_last_35, uX12_last_39, uX12_last_41, uX12_last_44, uX12_last_46, uX12_last_49, uX12_last_50, uX12_last_52, uX12_last_53, uX12_last_57, uX12_last_59, uX12_last_62, uX12_last_64, uX12_last_65, uX12_last_67, uX12_last_69, uX12_last_72, uX12_last_73, uX12_last_75, uX12_last_78, uX12_last_81, uX12_last_83, uX12_last_84, uX12_last_87, uX12_last_88, uX12_last_91, uX12_last_92, uX12_last_94, uX12_last_96, uX12_last_99, uX12_last_101, uX12_last_104, uX12_last_105, uX12_last_106, uX12_last_109, uX12_last_112, uX12_last_113, uX12_last_116, uX12_last_117, uX12_last_120, uX12_last_121, uX12_last_122, uX12_last_123, uX12_last_126, r_in_0_9999, h2, h3, h4, r_noPost, Option.bind_some, Option.toList_some, Option.toList_none, List.cons_append, List.nil_append, if_true, if_false, and_self, and_true, true_and, or_self, or_true, true_or, false_or, or_false, i10, i00, i01, i11, Nat.reduceAdd, st1_0, st1_c, st1_1i, st1_1r, st1_1n, st1_1u, st1_1J, st2_0, st2_c, st2_1i, st2_1r, st2_1n, st2_1u, st2_1J]
  exact ho
end RT
