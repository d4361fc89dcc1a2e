def oN (o : Option Nat) : Int32 := match o with
  | none => -9
  | some g => nI g
theorem oN_some {g : Nat} : oN (some g) = nI g := rfl
theorem oN_none : oN none = -9 := rfl
theorem oN_lt {o : Option Nat} (hg : ∀ g, o = some g → g < 2 ^ 31) : oN o < 0 ↔ o = none := by
  cases o with
  | none => exact ⟨fun _ => rfl, fun _ => by decide⟩
  | some g => exact ⟨fun q => absurd q (nI_pos (hg g rfl)), fun q => by cases q⟩
theorem restI {a : Int} (ha : -1000000 ≤ a ∧ a ≤ 1000000) : ∀ x : Int32, x.toInt = a → x - x / 100 * 100 + 100 - (x - x / 100 * 100 + 100) / 100 * 100 = nI (a % 100).toNat := by
  intro x hx
  have e : x = Int32.ofInt a := by rw [← hx, Int32.ofInt_toInt]
  have hd : ∀ b : Int, -2000000 ≤ b ∧ b ≤ 2000000 → (Int32.ofInt b / 100 : Int32) = Int32.ofInt (b.tdiv 100) := by
    intro b hb
    have h100 : (100 : Int32) = Int32.ofInt 100 := by decide
    rw [h100]
    exact (Int32.ofInt_tdiv (by show -2147483648 ≤ b; omega) (by show b ≤ 2147483647; omega) (by decide) (by decide)).symm
  have h100 : (100 : Int32) = Int32.ofInt 100 := by decide
  have hm : ∀ b : Int, -2000000 ≤ b ∧ b ≤ 2000000 → (Int32.ofInt b - Int32.ofInt b / 100 * 100 : Int32) = Int32.ofInt (b.tmod 100) := by
    intro b hb
    rw [hd b hb]
    conv => lhs; rw [h100]
    rw [← Int32.ofInt_mul, ← Int32.ofInt_sub]
    congr 1
    have := Int.mul_tdiv_add_tmod b 100
    omega
  rw [e, hm a (by omega)]
  have hb : -100 < a.tmod 100 ∧ a.tmod 100 < 100 := ⟨by have := Int.tmod_lt_of_pos (-a) (b := 100) (by decide); rw [Int.neg_tmod] at this; omega, Int.tmod_lt_of_pos a (by decide)⟩
  have e2 : (Int32.ofInt (a.tmod 100) + 100 : Int32) = Int32.ofInt (a.tmod 100 + 100) := by
    conv => lhs; rw [h100]
    rw [← Int32.ofInt_add]
  rw [e2, hm _ (by omega)]
  have e3 : (a.tmod 100 + 100).tmod 100 = ((a % 100).toNat : Int) := by
    rw [Int.tmod_eq_emod_of_nonneg (by omega)]
    have hx2 : a.tmod 100 = a - 100 * a.tdiv 100 := by have := Int.mul_tdiv_add_tmod a 100; omega
    omega
  rw [e3, Int32.ofInt_eq_ofNat]
  rfl
def cnt (p : Nat → Bool) : Nat → Nat
  | 0 => 0
  | n + 1 => cnt p n + if p n then 1 else 0
theorem cnt_le (p : Nat → Bool) : ∀ n, cnt p n ≤ n
  | 0 => Nat.le_refl _
  | n + 1 => by
    have := cnt_le p n
    unfold cnt
    split <;> omega
def bookOK (c w : Nat → Option Nat) : Prop := (∀ u g, c u = some g → g < 100) ∧ (∀ g u, w g = some u → u < 30)
def subm (g b : Nat) : Nat := (((g : Int) - b) % 100).toNat
theorem subm_lt (g b : Nat) : subm g b < 100 := by
  unfold subm
  omega
def fitP (c w : Nat → Option Nat) (b u : Nat) : Bool := match c u with
  | none => false
  | some g => (w (subm g b)).isSome
theorem nI_subI {a b : Nat} (ha : a < 2 ^ 30) (hb : b < 2 ^ 30) : (nI a - nI b).toInt = (a : Int) - b := pk_sub_toInt ha hb
theorem r_rest_sub {g b : Nat} {h : AH} (hg : g < 100) (hb : b < 100) : run 150 (0, [some (.int (nI g - nI b))], [], h) = some (some (.int (nI (subm g b))), h) := by
  rw [r_rest, restI (a := (g : Int) - b) (by omega) _ (nI_subI (by omega) (by omega))]
  rfl
theorem r_pairsBy_loop {h : AH} {c w : Nat → Option Nat} {b : Nat} (hok : bookOK c w) (hb : b < 100) (g1 : gf h [(11, 1)] 36 = some (.ref 37)) (g3 : gf h [(11, 3)] 36 = some (.ref 39)) (a1 : rI h 37 = some (30, fun k => oN (c k))) (a3 : rI h 39 = some (100, fun k => oN (w k))) :
    ∀ d u, u + d = 30 → run 189 (4, [some (.ref 36), some (.int (nI b)), some (.int (nI (cnt (fitP c w b) u))), some (.int (nI u))], [], h) = some (some (.int (nI (cnt (fitP c w b) 30))), h) := by
  intro d
  induction d with
  | zero =>
    intro u hu
    have hu : u = 30 := by omega
    subst hu
    have c1 : (30 : Int32) ≤ nI 30 := by decide
    simp only [uX12_pairsBy_0, uX12_pairsBy_1, uX12_pairsBy_2, uX12_pairsBy_3, uX12_pairsBy_4, uX12_pairsBy_5, uX12_pairsBy_7, uX12_pairsBy_10, uX12_pairsBy_11, uX12_pairsBy_12, uX12_pairsBy_15, uX12_pairsBy_16, uX12_pairsBy_17, uX12_pairsBy_20, uX12_pairsBy_21, uX12_pairsBy_24, uX12_pairsBy_25, uX12_pairsBy_28, uX12_pairsBy_29, uX12_pairsBy_30, uX12_pairsBy_31, uX12_pairsBy_32, uX12_pairsBy_35, uX12_pairsBy_36, uX12_pairsBy_39, uX12_pairsBy_40, uX12_pairsBy_43, uX12_pairsBy_44, uX12_pairsBy_45, uX12_pairsBy_46, uX12_pairsBy_49, uX12_pairsBy_52, uX12_pairsBy_53, c1, if_true]
  | succ d ih =>
    intro u hu
    have c1 : ¬ (30 : Int32) ≤ nI u := nI_ge (a := u) (b := 30) (by omega) (by decide)
    have hg1 : gi h 37 (nI u) = some (oN (c u)) := gi_nI a1 (by omega) (by decide)
    have ih1 := ih (u + 1) (by omega)
    cases hc : c u with
    | none =>
      have e0 : nI (cnt (fitP c w b) u) + 0 = nI (cnt (fitP c w b) (u + 1)) := by
        have : cnt (fitP c w b) (u + 1) = cnt (fitP c w b) u := by
          show cnt _ u + (if fitP c w b u then 1 else 0) = _
          unfold fitP
          rw [hc]
          rfl
        rw [this]
        exact nI_add _ 0
      have c2 : oN none < 0 := by decide
      rw [hc] at hg1
      rw [uX12_pairsBy_4]
      simp only [uX12_pairsBy_0, uX12_pairsBy_1, uX12_pairsBy_2, uX12_pairsBy_3, uX12_pairsBy_5, uX12_pairsBy_7, uX12_pairsBy_10, uX12_pairsBy_11, uX12_pairsBy_12, uX12_pairsBy_15, uX12_pairsBy_16, uX12_pairsBy_17, uX12_pairsBy_20, uX12_pairsBy_21, uX12_pairsBy_24, uX12_pairsBy_25, uX12_pairsBy_28, uX12_pairsBy_29, uX12_pairsBy_30, uX12_pairsBy_31, uX12_pairsBy_32, uX12_pairsBy_35, uX12_pairsBy_36, uX12_pairsBy_39, uX12_pairsBy_40, uX12_pairsBy_43, uX12_pairsBy_44, uX12_pairsBy_45, uX12_pairsBy_46, uX12_pairsBy_49, uX12_pairsBy_52, uX12_pairsBy_53, Option.bind_some, Option.toList_some, Option.toList_none, List.cons_append, List.nil_append, Nat.reduceAdd, st1_0, st1_c, st1_1i, st1_1r, st1_1n, st1_1u, st1_1J, st2_0, st2_c, st2_1i, st2_1r, st2_1n, st2_1u, st2_1J, c1, if_false, g1, g3, hg1, c2, if_true, nI_1, e0]
      exact ih1
    | some g =>
      have hg := hok.1 u g hc
      have c2 : ¬ nI g < 0 := nI_pos (by omega)
      rw [hc, oN_some] at hg1
      have hs := subm_lt g b
      have hg3 : gi h 39 (nI (subm g b)) = some (oN (w (subm g b))) := gi_nI a3 (by omega) (by decide)
      cases hw : w (subm g b) with
      | none =>
        have e0 : nI (cnt (fitP c w b) u) + 0 = nI (cnt (fitP c w b) (u + 1)) := by
          have : cnt (fitP c w b) (u + 1) = cnt (fitP c w b) u := by
            show cnt _ u + (if fitP c w b u then 1 else 0) = _
            unfold fitP
            rw [hc]
            show cnt _ u + (if (w (subm g b)).isSome then 1 else 0) = _
            rw [hw]
            rfl
          rw [this]
          exact nI_add _ 0
        have c3 : oN none < 0 := by decide
        rw [hw] at hg3
        rw [uX12_pairsBy_4]
        simp only [uX12_pairsBy_0, uX12_pairsBy_1, uX12_pairsBy_2, uX12_pairsBy_3, uX12_pairsBy_5, uX12_pairsBy_7, uX12_pairsBy_10, uX12_pairsBy_11, uX12_pairsBy_12, uX12_pairsBy_15, uX12_pairsBy_16, uX12_pairsBy_17, uX12_pairsBy_20, uX12_pairsBy_21, uX12_pairsBy_24, uX12_pairsBy_25, uX12_pairsBy_28, uX12_pairsBy_29, uX12_pairsBy_30, uX12_pairsBy_31, uX12_pairsBy_32, uX12_pairsBy_35, uX12_pairsBy_36, uX12_pairsBy_39, uX12_pairsBy_40, uX12_pairsBy_43, uX12_pairsBy_44, uX12_pairsBy_45, uX12_pairsBy_46, uX12_pairsBy_49, uX12_pairsBy_52, uX12_pairsBy_53, Option.bind_some, Option.toList_some, Option.toList_none, List.cons_append, List.nil_append, Nat.reduceAdd, st1_0, st1_c, st1_1i, st1_1r, st1_1n, st1_1u, st1_1J, st2_0, st2_c, st2_1i, st2_1r, st2_1n, st2_1u, st2_1J, c1, if_false, g1, g3, hg1, hg3, c2, c3, if_true, r_rest_sub hg hb, nI_1, e0]
        exact ih1
      | some x =>
        have e0 : nI (cnt (fitP c w b) u) + 1 = nI (cnt (fitP c w b) (u + 1)) := by
          have : cnt (fitP c w b) (u + 1) = cnt (fitP c w b) u + 1 := by
            show cnt _ u + (if fitP c w b u then 1 else 0) = _
            unfold fitP
            rw [hc]
            show cnt _ u + (if (w (subm g b)).isSome then 1 else 0) = _
            rw [hw]
            rfl
          rw [this]
          exact nI_1 _
        have hx := hok.2 _ _ hw
        have c3 : ¬ oN (some x) < 0 := nI_pos (by omega)
        rw [hw] at hg3
        rw [uX12_pairsBy_4]
        simp only [uX12_pairsBy_0, uX12_pairsBy_1, uX12_pairsBy_2, uX12_pairsBy_3, uX12_pairsBy_5, uX12_pairsBy_7, uX12_pairsBy_10, uX12_pairsBy_11, uX12_pairsBy_12, uX12_pairsBy_15, uX12_pairsBy_16, uX12_pairsBy_17, uX12_pairsBy_20, uX12_pairsBy_21, uX12_pairsBy_24, uX12_pairsBy_25, uX12_pairsBy_28, uX12_pairsBy_29, uX12_pairsBy_30, uX12_pairsBy_31, uX12_pairsBy_32, uX12_pairsBy_35, uX12_pairsBy_36, uX12_pairsBy_39, uX12_pairsBy_40, uX12_pairsBy_43, uX12_pairsBy_44, uX12_pairsBy_45, uX12_pairsBy_46, uX12_pairsBy_49, uX12_pairsBy_52, uX12_pairsBy_53, Option.bind_some, Option.toList_some, Option.toList_none, List.cons_append, List.nil_append, Nat.reduceAdd, st1_0, st1_c, st1_1i, st1_1r, st1_1n, st1_1u, st1_1J, st2_0, st2_c, st2_1i, st2_1r, st2_1n, st2_1u, st2_1J, c1, if_false, g1, g3, hg1, hg3, c2, c3, r_rest_sub hg hb, e0, nI_1]
        exact ih1
theorem r_pairsBy {h : AH} {c w : Nat → Option Nat} {b : Nat} (hok : bookOK c w) (hb : b < 100) (g1 : gf h [(11, 1)] 36 = some (.ref 37)) (g3 : gf h [(11, 3)] 36 = some (.ref 39)) (a1 : rI h 37 = some (30, fun k => oN (c k))) (a3 : rI h 39 = some (100, fun k => oN (w k))) : run 189 (0, [some (.ref 36), some (.int (nI b)), none, none], [], h) = some (some (.int (nI (cnt (fitP c w b) 30))), h) := by
  simp only [uX12_pairsBy_0, uX12_pairsBy_1, uX12_pairsBy_2, uX12_pairsBy_3, uX12_pairsBy_5, uX12_pairsBy_7, uX12_pairsBy_10, uX12_pairsBy_11, uX12_pairsBy_12, uX12_pairsBy_15, uX12_pairsBy_16, uX12_pairsBy_17, uX12_pairsBy_20, uX12_pairsBy_21, uX12_pairsBy_24, uX12_pairsBy_25, uX12_pairsBy_28, uX12_pairsBy_29, uX12_pairsBy_30, uX12_pairsBy_31, uX12_pairsBy_32, uX12_pairsBy_35, uX12_pairsBy_36, uX12_pairsBy_39, uX12_pairsBy_40, uX12_pairsBy_43, uX12_pairsBy_44, uX12_pairsBy_45, uX12_pairsBy_46, uX12_pairsBy_49, uX12_pairsBy_52, uX12_pairsBy_53, Option.bind_some, Option.toList_some, Option.toList_none, List.cons_append, List.nil_append, Nat.reduceAdd, st1_0, st1_c, st1_1i, st1_1r, st1_1n, st1_1u, st1_1J, st2_0, st2_c, st2_1i, st2_1r, st2_1n, st2_1u, st2_1J]
  exact r_pairsBy_loop hok hb g1 g3 a1 a3 30 0 rfl
