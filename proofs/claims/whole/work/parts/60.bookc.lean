theorem xor_neg (x : Int32) : (0 ≤ x ^^^ 100) = (0 ≤ x.toInt) := by
  rw [ge0I]
  have h1 : ∀ z : Int32, (0 ≤ z.toInt) = (z.toBitVec.msb = false) := by
    intro z
    rw [BitVec.msb_eq_toInt]
    show (0 ≤ z.toBitVec.toInt) = _
    rw [decide_eq_false_iff_not, Int.not_lt]
  rw [h1, h1]
  show ((x.toBitVec ^^^ (100 : Int32).toBitVec).msb = false) = _
  rw [BitVec.msb_xor, show (100 : Int32).toBitVec.msb = false by decide, Bool.xor_false]
theorem j_floorMod {x : Int32} {a : Int} {h : AH} (hx : x.toInt = a) : run 223 (0, [some (.int x), some (.int 100), none], [], h) = some (some (.int (nI (a % 100).toNat)), h) := by
  have hr := i64r x
  have e : x = Int32.ofInt a := by rw [← hx, Int32.ofInt_toInt]
  have h100 : (100 : Int32) = Int32.ofInt 100 := by decide
  have hd : (x / 100 : Int32) = Int32.ofInt (a.tdiv 100) := by
    rw [e, h100]
    exact (Int32.ofInt_tdiv (by show -2147483648 ≤ a; omega) (by show a ≤ 2147483647; omega) (by decide) (by decide)).symm
  have hm : (x - x / 100 * 100 : Int32) = Int32.ofInt (a.tmod 100) := by
    rw [hd]
    conv => lhs; rw [h100]
    rw [e, ← Int32.ofInt_mul, ← Int32.ofInt_sub]
    congr 1
    have := Int.mul_tdiv_add_tmod a 100
    omega
  have z : ¬ (100 : Int32) = 0 := by decide
  have hb : -100 < a.tmod 100 ∧ a.tmod 100 < 100 := ⟨by have := Int.tmod_lt_of_pos (-a) (b := 100) (by decide); rw [Int.neg_tmod] at this; omega, Int.tmod_lt_of_pos a (by decide)⟩
  have hx2 : a.tmod 100 = a - 100 * a.tdiv 100 := by have := Int.mul_tdiv_add_tmod a 100; omega
  have hi : ∀ y : Int, -2147483648 ≤ y ∧ y ≤ 2147483647 → (Int32.ofInt y).toInt = y := fun y hy => Int32.toInt_ofInt_of_le (by show -2147483648 ≤ y; omega) (by show y < 2147483648; omega)
  by_cases q : 0 ≤ a
  · have q1 : 0 ≤ x.toInt := by omega
    have e3 : Int32.ofInt (a.tmod 100) = nI (a % 100).toNat := by
      rw [Int.tmod_eq_emod_of_nonneg q, nIi]
      congr 1
      omega
    simp only [uJ9_floorMod_7cf53_0, uJ9_floorMod_7cf53_1, uJ9_floorMod_7cf53_2, uJ9_floorMod_7cf53_3, uJ9_floorMod_7cf53_4, uJ9_floorMod_7cf53_5, uJ9_floorMod_7cf53_6, uJ9_floorMod_7cf53_7, uJ9_floorMod_7cf53_10, uJ9_floorMod_7cf53_11, uJ9_floorMod_7cf53_14, uJ9_floorMod_7cf53_15, uJ9_floorMod_7cf53_16, uJ9_floorMod_7cf53_17, uJ9_floorMod_7cf53_18, uJ9_floorMod_7cf53_19, z, hm, xor_neg, q1, e3, Option.bind_some, Option.toList_some, Option.toList_none, List.cons_append, List.nil_append, if_true, if_false, and_self, and_true, true_and, or_self, or_true, true_or, false_or, or_false, i10, i00, i01, i11, Nat.reduceAdd, st1_0, st1_c, st1_1i, st1_1r, st1_1n, st1_1u, st1_1J, st2_0, st2_c, st2_1i, st2_1r, st2_1n, st2_1u, st2_1J]
  · have q1 : ¬ 0 ≤ x.toInt := by omega
    have h3 : a.tmod 100 ≤ 0 := by
      have := Int.tmod_nonneg 100 (show 0 ≤ -a by omega)
      rw [Int.neg_tmod] at this
      omega
    by_cases q2 : a.tmod 100 = 0
    · have e3 : nI (a % 100).toNat = 0 := by
        rw [show (a % 100).toNat = 0 by omega]
        rfl
      have e4 : Int32.ofInt (a.tmod 100) = 0 := by rw [q2]; rfl
      simp only [uJ9_floorMod_7cf53_0, uJ9_floorMod_7cf53_1, uJ9_floorMod_7cf53_2, uJ9_floorMod_7cf53_3, uJ9_floorMod_7cf53_4, uJ9_floorMod_7cf53_5, uJ9_floorMod_7cf53_6, uJ9_floorMod_7cf53_7, uJ9_floorMod_7cf53_10, uJ9_floorMod_7cf53_11, uJ9_floorMod_7cf53_14, uJ9_floorMod_7cf53_15, uJ9_floorMod_7cf53_16, uJ9_floorMod_7cf53_17, uJ9_floorMod_7cf53_18, uJ9_floorMod_7cf53_19, z, hm, xor_neg, q1, e4, e3, Option.bind_some, Option.toList_some, Option.toList_none, List.cons_append, List.nil_append, if_true, if_false, and_self, and_true, true_and, or_self, or_true, true_or, false_or, or_false, i10, i00, i01, i11, Nat.reduceAdd, st1_0, st1_c, st1_1i, st1_1r, st1_1n, st1_1u, st1_1J, st2_0, st2_c, st2_1i, st2_1r, st2_1n, st2_1u, st2_1J]
    · have e3 : Int32.ofInt (a.tmod 100) + 100 = nI (a % 100).toNat := by
        conv => lhs; rw [h100]
        rw [← Int32.ofInt_add, nIi]
        congr 1
        omega
      have c1 : ¬ Int32.ofInt (a.tmod 100) = 0 := fun r => by
        have := congrArg Int32.toInt r
        rw [hi _ (by omega)] at this
        exact q2 this
      simp only [uJ9_floorMod_7cf53_0, uJ9_floorMod_7cf53_1, uJ9_floorMod_7cf53_2, uJ9_floorMod_7cf53_3, uJ9_floorMod_7cf53_4, uJ9_floorMod_7cf53_5, uJ9_floorMod_7cf53_6, uJ9_floorMod_7cf53_7, uJ9_floorMod_7cf53_10, uJ9_floorMod_7cf53_11, uJ9_floorMod_7cf53_14, uJ9_floorMod_7cf53_15, uJ9_floorMod_7cf53_16, uJ9_floorMod_7cf53_17, uJ9_floorMod_7cf53_18, uJ9_floorMod_7cf53_19, z, hm, xor_neg, q1, c1, e3, Option.bind_some, Option.toList_some, Option.toList_none, List.cons_append, List.nil_append, if_true, if_false, and_self, and_true, true_and, or_self, or_true, true_or, false_or, or_false, i10, i00, i01, i11, Nat.reduceAdd, st1_0, st1_c, st1_1i, st1_1r, st1_1n, st1_1u, st1_1J, st2_0, st2_c, st2_1i, st2_1r, st2_1n, st2_1u, st2_1J]
theorem j_subm {g b : Nat} {h : AH} (hg : g < 2 ^ 30) (hb : b < 2 ^ 30) : run 223 (0, [some (.int (nI g - nI b)), some (.int 100), none], [], h) = some (some (.int (nI (subm g b))), h) := j_floorMod (nI_subI hg hb)
def bkI (c w : Nat → Option Nat) : Prop := ∀ u g, u < 30 → g < 100 → (c u = some g ↔ w g = some u)
def BookC (h : AH) (c w : Nat → Option Nat) (wt : Nat → Nat) : Prop := rO h 5 = some (0, bF (nI (cnt (isS c) 30))) ∧ rI h 6 = some (30, fun u => oN (c u)) ∧ rI h 7 = some (30, fun u => nI (wt u)) ∧ rI h 8 = some (100, fun g => oN (w g)) ∧ (∃ pr : Nat → Nat, rI h 9 = some (100, fun b => nI (pr b)) ∧ (∀ b, b < 100 → pr b = PB c w b) ∧ ∀ b, pr b < 1000) ∧ bookOK c w ∧ (∀ u, wt u < 100) ∧ bkI c w
theorem cnt_congr {p q : Nat → Bool} : ∀ n, (∀ u, u < n → p u = q u) → cnt p n = cnt q n
  | 0, _ => rfl
  | n + 1, h => by
    show cnt p n + (if p n then 1 else 0) = cnt q n + if q n then 1 else 0
    rw [cnt_congr n (fun u hu => h u (by omega)), h n (by omega)]
def b2 (p : Bool) : Nat := if p then 1 else 0
theorem cnt_s (p : Nat → Bool) (n : Nat) : cnt p (n + 1) = cnt p n + b2 (p n) := rfl
theorem cnt_at {o : Option Nat} : ∀ n, cnt (fun v => decide (o = some v)) n = b2 (match o with
  | none => false
  | some v => decide (v < n))
  | 0 => by cases o with
    | none => rfl
    | some v => show 0 = b2 (decide (v < 0)); rw [decide_eq_false (by omega)]; rfl
  | n + 1 => by
    rw [cnt_s, cnt_at n]
    cases o with
    | none => rfl
    | some v =>
      show b2 (decide (v < n)) + b2 (decide (some v = some n)) = b2 (decide (v < n + 1))
      by_cases h1 : v < n
      · rw [decide_eq_true h1, decide_eq_true (show v < n + 1 by omega), decide_eq_false (fun q => by cases q; omega)]
        rfl
      · by_cases h2 : v = n
        · rw [h2, decide_eq_true (show n < n + 1 by omega), decide_eq_false (show ¬ n < n by omega), decide_eq_true rfl]
          rfl
        · rw [decide_eq_false h1, decide_eq_false (show ¬ v < n + 1 by omega), decide_eq_false (fun q => by cases q; exact h2 rfl)]
          rfl
def chA (c : Nat → Option Nat) (g b v : Nat) : Bool := match c v with
  | none => false
  | some x => decide (subm g x = b)
def chB (c : Nat → Option Nat) (g b v : Nat) : Bool := match c v with
  | none => false
  | some x => decide (subm x g = b)
def chD (c : Nat → Option Nat) (g b n : Nat) : Nat := b2 (decide (b = 0)) + cnt (chA c g b) n + cnt (chB c g b) n
theorem subm_eq {x b g : Nat} (hx : x < 100) (hb : b < 100) (hg : g < 100) : subm g x = b ↔ x = subm g b := by
  unfold subm
  exact ⟨fun q => by omega, fun q => by omega⟩
theorem PB_add {c w c2 w2 : Nat → Option Nat} {k g b : Nat} (hok : bookOK c w) (hI : bkI c w) (hk : k < 30) (hg : g < 100) (hb : b < 100) (hc : c k = none) (hw : w g = none) (h2 : ∀ u, u < 30 → c2 u = if u = k then some g else c u) (h3 : ∀ x, x < 100 → w2 x = if x = g then some k else w x) : PB c2 w2 b = PB c w b + chD c g b 30 := by
  have hL : ∀ n, n ≤ 30 → cnt (fitP c2 w2 b) n = cnt (fitP c w b) n + cnt (chB c g b) n + if k < n then b2 (fitP c2 w2 b k) else 0 := by
    intro n
    induction n with
    | zero => intro _; rfl
    | succ n ih =>
      intro hn
      have ih := ih (by omega)
      rw [cnt_s, cnt_s, cnt_s]
      by_cases e : n = k
      · subst e
        have e1 : fitP c w b n = false := by unfold fitP; rw [hc]
        have e2 : chB c g b n = false := by unfold chB; rw [hc]
        rw [if_neg (by omega)] at ih
        rw [if_pos (by omega), e1, e2, ih]
        show _ = cnt _ n + 0 + (cnt _ n + 0) + _
        omega
      · have hif : (if k < n + 1 then b2 (fitP c2 w2 b k) else 0) = if k < n then b2 (fitP c2 w2 b k) else 0 := by
          by_cases q : k < n
          · rw [if_pos q, if_pos (by omega)]
          · rw [if_neg q, if_neg (by omega)]
        have hs : b2 (fitP c2 w2 b n) = b2 (fitP c w b n) + b2 (chB c g b n) := by
          unfold fitP chB
          rw [h2 n (by omega), if_neg e]
          cases hcn : c n with
          | none => rfl
          | some x =>
            have hx := hok.1 n x hcn
            simp only
            rw [h3 _ (subm_lt x b)]
            by_cases q : subm x b = g
            · rw [if_pos q, decide_eq_true ((subm_eq hg hb hx).mpr q.symm), q, hw]
              rfl
            · rw [if_neg q, decide_eq_false (fun r => q ((subm_eq hg hb hx).mp r).symm)]
              rfl
        rw [hif, hs, ih]
        omega
  have hA : b2 (fitP c2 w2 b k) = b2 (decide (b = 0)) + cnt (chA c g b) 30 := by
    have e1 : cnt (chA c g b) 30 = cnt (fun v => decide (w (subm g b) = some v)) 30 := by
      refine cnt_congr 30 (fun v hv => ?_)
      unfold chA
      cases hcv : c v with
      | none =>
        simp only
        symm
        refine decide_eq_false (fun r => ?_)
        rw [(hI v _ hv (subm_lt g b)).mpr r] at hcv
        cases hcv
      | some x =>
        have hx := hok.1 v x hcv
        simp only
        refine decide_eq_decide.mpr ((subm_eq hx hb hg).trans ⟨fun r => ?_, fun r => ?_⟩)
        · rw [← r]
          exact (hI v x hv hx).mp hcv
        · rw [(hI v _ hv (subm_lt g b)).mpr r] at hcv
          cases hcv
          rfl
    rw [e1, cnt_at]
    unfold fitP
    rw [h2 k hk, if_pos rfl]
    simp only
    rw [h3 _ (subm_lt g b)]
    by_cases q : b = 0
    · have e2 : subm g b = g := by rw [q]; unfold subm; omega
      rw [e2, if_pos rfl, decide_eq_true q, hw]
      rfl
    · have e2 : ¬ subm g b = g := by unfold subm; omega
      rw [if_neg e2, decide_eq_false q]
      cases hv : w (subm g b) with
      | none => rfl
      | some v =>
        have := hok.2 _ _ hv
        simp only
        rw [decide_eq_true this]
        rfl
  have := hL 30 (Nat.le_refl _)
  rw [if_pos hk, hA] at this
  show cnt (fitP c2 w2 b) 30 = cnt (fitP c w b) 30 + (_ + _ + _)
  omega
section CBK
variable {h : AH} {cn : Int32} {c w : Nat → Option Nat} {wt : Nat → Nat}
theorem c_changePairs {g : Nat} {s : Int32} {f : Nat → Int32} (hB : rO h 5 = some (0, bF cn)) (a6 : rI h 6 = some (30, fun u => oN (c u))) (hc : ∀ u x, c u = some x → x < 100) (a9 : rI h 9 = some (100, f)) (hg : g < 100) : ∃ h1, run 7 (0, [some (.ref 5), some (.int (nI g)), some (.int s), none], [], h) = some (none, h1) ∧ Dif [9] h h1 ∧ rI h1 9 = some (100, fun b => f b + s * nI (chD c g b 30)) := by
  have m1 : ∀ {d : Nat} {x : Int32}, x + s * nI d + s = x + s * nI (d + 1) := by
    intro d x
    rw [← nI_add d 1, show nI 1 = 1 from rfl, Int32.mul_add, Int32.mul_one, Int32.add_assoc]
  have m2 : ∀ {x : Int32}, x + s * nI 0 = x := by
    intro x
    rw [show nI 0 = 0 from rfl, Int32.mul_zero, Int32.add_zero]
  have p0 : pi h 9 0 (f 0 + s) = some (si h 9 0 (f 0 + s)) := pi_si (k := 0) (by decide) a9 (by decide) (by decide)
  have g0 : gi h 9 0 = some (f 0) := gi_nI (k := 0) a9 (by decide) (by decide)
  have i0 : Dif [9] h (si h 9 0 (f 0 + s)) ∧ rI (si h 9 0 (f 0 + s)) 9 = some (100, fun b => f b + s * nI (chD c g b 0)) := by
    refine ⟨difSi (by decide), ?_⟩
    rw [rI_siA a9]
    congr 2
    funext b
    rw [updP]
    show _ = f b + s * nI (b2 (decide (b = 0)) + 0 + 0)
    by_cases e : b = 0
    · rw [if_pos e, e, decide_eq_true rfl]
      show _ = f 0 + s * 1
      rw [Int32.mul_one]
    · rw [if_neg e, decide_eq_false e]
      exact m2.symm
  obtain ⟨h1, lp, D1, e1⟩ := loopE (F := fun v h1 => run 7 (12, [some (.ref 5), some (.int (nI g)), some (.int s), some (.int (nI v))], [], h1)) (I := fun v h1 => Dif [9] h h1 ∧ rI h1 9 = some (100, fun b => f b + s * nI (chD c g b v))) 30 _ i0 (fun v h1 hv I => by
    obtain ⟨D1, e1⟩ := I
    have hB1 : rO h1 5 = some (0, bF cn) := by rw [difO D1 (by decide), hB]
    have b6 : rI h1 6 = some (30, fun u => oN (c u)) := by rw [difI D1 (by decide), a6]
    have c1 : ¬ (30 : Int32) ≤ nI v := nI_ge (a := v) (b := 30) hv (by decide)
    have g1 : gi h1 6 (nI v) = some (oN (c v)) := gi_nI b6 hv (by decide)
    cases hcv : c v with
    | none =>
      refine ⟨h1, ?_, D1, ?_⟩
      · rw [hcv, oN_none] at g1
        show run 7 (12, _) = run 7 (12, _)
        rw [uX0_changePairs_12]
        simp only [uX0_changePairs_0, uX0_changePairs_1, uX0_changePairs_4, uX0_changePairs_5, uX0_changePairs_6, uX0_changePairs_7, uX0_changePairs_8, uX0_changePairs_9, uX0_changePairs_10, uX0_changePairs_11, uX0_changePairs_13, uX0_changePairs_15, uX0_changePairs_18, uX0_changePairs_19, uX0_changePairs_22, uX0_changePairs_23, uX0_changePairs_24, uX0_changePairs_26, uX0_changePairs_29, uX0_changePairs_30, uX0_changePairs_33, uX0_changePairs_34, uX0_changePairs_35, uX0_changePairs_38, uX0_changePairs_39, uX0_changePairs_40, uX0_changePairs_41, uX0_changePairs_43, uX0_changePairs_46, uX0_changePairs_47, uX0_changePairs_48, uX0_changePairs_49, uX0_changePairs_50, uX0_changePairs_51, uX0_changePairs_52, uX0_changePairs_55, uX0_changePairs_56, uX0_changePairs_59, uX0_changePairs_60, uX0_changePairs_61, uX0_changePairs_62, uX0_changePairs_63, uX0_changePairs_65, uX0_changePairs_68, uX0_changePairs_69, uX0_changePairs_70, uX0_changePairs_71, uX0_changePairs_72, uX0_changePairs_73, uX0_changePairs_76, uX0_changePairs_79, c1, gB0 hB1, g1, nI_1, Option.bind_some, Option.toList_some, Option.toList_none, List.cons_append, List.nil_append, if_true, if_false, and_self, and_true, true_and, or_self, or_true, true_or, false_or, or_false, i10, i00, i01, i11, Nat.reduceAdd, st1_0, st1_c, st1_1i, st1_1r, st1_1n, st1_1u, st1_1J, st2_0, st2_c, st2_1i, st2_1r, st2_1n, st2_1u, st2_1J]
      · rw [e1]
        congr 2
        funext b
        unfold chD
        rw [cnt_s, cnt_s, show chA c g b v = false by unfold chA; rw [hcv], show chB c g b v = false by unfold chB; rw [hcv]]
        rfl
    | some x =>
      have hx := hc v x hcv
      rw [hcv, oN_some] at g1
      have ne9 : ¬ nI x = -9 := fun q => by
        have := congrArg Int32.toInt q
        rw [nI_toInt (by omega), show (-9 : Int32).toInt = -9 by decide] at this
        omega
      have j1 := fun h => j_subm (h := h) (show g < 2 ^ 30 by omega) (show x < 2 ^ 30 by omega)
      have j2 := fun h => j_subm (h := h) (show x < 2 ^ 30 by omega) (show g < 2 ^ 30 by omega)
      have q1 : gi h1 9 (nI (subm g x)) = some (f (subm g x) + s * nI (chD c g (subm g x) v)) := gi_nI e1 (subm_lt _ _) (by decide)
      have p1 : ∀ y, pi h1 9 (nI (subm g x)) y = some (si h1 9 (subm g x) y) := fun y => pi_si (by decide) e1 (subm_lt _ _) (by decide)
      generalize hh2 : si h1 9 (subm g x) (f (subm g x) + s * nI (chD c g (subm g x) v) + s) = h2
      have D2 : Dif [9] h h2 := by rw [← hh2]; exact difT D1 (difSi (by decide))
      have hB2 : rO h2 5 = some (0, bF cn) := by rw [difO D2 (by decide), hB]
      have d6 : rI h2 6 = some (30, fun u => oN (c u)) := by rw [difI D2 (by decide), a6]
      have g2 : gi h2 6 (nI v) = some (nI x) := by rw [gi_nI d6 hv (by decide), hcv]; rfl
      have e2 : rI h2 9 = some (100, upd (fun b => f b + s * nI (chD c g b v)) (subm g x) (f (subm g x) + s * nI (chD c g (subm g x) v) + s)) := by rw [← hh2, rI_siA e1]
      have q2 : gi h2 9 (nI (subm x g)) = some (upd (fun b => f b + s * nI (chD c g b v)) (subm g x) (f (subm g x) + s * nI (chD c g (subm g x) v) + s) (subm x g)) := gi_nI e2 (subm_lt _ _) (by decide)
      have p2 : ∀ y, pi h2 9 (nI (subm x g)) y = some (si h2 9 (subm x g) y) := fun y => pi_si (by decide) e2 (subm_lt _ _) (by decide)
      refine ⟨_, ?_, difT D2 (difSi (a := 9) (k := subm x g) (x := (upd (fun b => f b + s * nI (chD c g b v)) (subm g x) (f (subm g x) + s * nI (chD c g (subm g x) v) + s) (subm x g)) + s) (by decide)), ?_⟩
      · show run 7 (12, _) = run 7 (12, _)
        rw [uX0_changePairs_12]
        simp only [uX0_changePairs_0, uX0_changePairs_1, uX0_changePairs_4, uX0_changePairs_5, uX0_changePairs_6, uX0_changePairs_7, uX0_changePairs_8, uX0_changePairs_9, uX0_changePairs_10, uX0_changePairs_11, uX0_changePairs_13, uX0_changePairs_15, uX0_changePairs_18, uX0_changePairs_19, uX0_changePairs_22, uX0_changePairs_23, uX0_changePairs_24, uX0_changePairs_26, uX0_changePairs_29, uX0_changePairs_30, uX0_changePairs_33, uX0_changePairs_34, uX0_changePairs_35, uX0_changePairs_38, uX0_changePairs_39, uX0_changePairs_40, uX0_changePairs_41, uX0_changePairs_43, uX0_changePairs_46, uX0_changePairs_47, uX0_changePairs_48, uX0_changePairs_49, uX0_changePairs_50, uX0_changePairs_51, uX0_changePairs_52, uX0_changePairs_55, uX0_changePairs_56, uX0_changePairs_59, uX0_changePairs_60, uX0_changePairs_61, uX0_changePairs_62, uX0_changePairs_63, uX0_changePairs_65, uX0_changePairs_68, uX0_changePairs_69, uX0_changePairs_70, uX0_changePairs_71, uX0_changePairs_72, uX0_changePairs_73, uX0_changePairs_76, uX0_changePairs_79, c1, gB0 hB1, gB3 hB1, gB0 hB2, gB3 hB2, g1, ne9, j1, j2, q1, p1, hh2, g2, q2, p2, nI_1, Option.bind_some, Option.toList_some, Option.toList_none, List.cons_append, List.nil_append, if_true, if_false, and_self, and_true, true_and, or_self, or_true, true_or, false_or, or_false, i10, i00, i01, i11, Nat.reduceAdd, st1_0, st1_c, st1_1i, st1_1r, st1_1n, st1_1u, st1_1J, st2_0, st2_c, st2_1i, st2_1r, st2_1n, st2_1u, st2_1J]
      · rw [rI_siA e2]
        congr 2
        funext b
        rw [updP, updP, updP]
        have es : chD c g b (v + 1) = chD c g b v + b2 (decide (subm g x = b)) + b2 (decide (subm x g = b)) := by
          unfold chD
          rw [cnt_s, cnt_s, show chA c g b v = decide (subm g x = b) by unfold chA; rw [hcv], show chB c g b v = decide (subm x g = b) by unfold chB; rw [hcv]]
          omega
        rw [es]
        by_cases w1 : b = subm x g
        · rw [if_pos w1, decide_eq_true (show subm x g = b from w1.symm)]
          by_cases w2 : subm x g = subm g x
          · rw [if_pos w2, w1, w2, decide_eq_true (show subm g x = subm g x from rfl)]
            show f _ + s * nI _ + s + s = f _ + s * nI (_ + 1 + 1)
            rw [m1, m1]
          · rw [if_neg w2, w1, decide_eq_false (show ¬ subm g x = subm x g from fun r => w2 r.symm)]
            exact m1
        · rw [if_neg w1, decide_eq_false (show ¬ subm x g = b from fun r => w1 r.symm)]
          by_cases w2 : b = subm g x
          · rw [if_pos w2, w2, decide_eq_true (show subm g x = subm g x from rfl)]
            exact m1
          · rw [if_neg w2, decide_eq_false (show ¬ subm g x = b from fun r => w2 r.symm)]
            rfl)
  have c1 : (30 : Int32) ≤ nI 30 := by decide
  refine ⟨h1, ?_, D1, e1⟩
  simp only [uX0_changePairs_0, uX0_changePairs_1, uX0_changePairs_4, uX0_changePairs_5, uX0_changePairs_6, uX0_changePairs_7, uX0_changePairs_8, uX0_changePairs_9, uX0_changePairs_10, uX0_changePairs_11, uX0_changePairs_13, uX0_changePairs_15, uX0_changePairs_18, uX0_changePairs_19, uX0_changePairs_22, uX0_changePairs_23, uX0_changePairs_24, uX0_changePairs_26, uX0_changePairs_29, uX0_changePairs_30, uX0_changePairs_33, uX0_changePairs_34, uX0_changePairs_35, uX0_changePairs_38, uX0_changePairs_39, uX0_changePairs_40, uX0_changePairs_41, uX0_changePairs_43, uX0_changePairs_46, uX0_changePairs_47, uX0_changePairs_48, uX0_changePairs_49, uX0_changePairs_50, uX0_changePairs_51, uX0_changePairs_52, uX0_changePairs_55, uX0_changePairs_56, uX0_changePairs_59, uX0_changePairs_60, uX0_changePairs_61, uX0_changePairs_62, uX0_changePairs_63, uX0_changePairs_65, uX0_changePairs_68, uX0_changePairs_69, uX0_changePairs_70, uX0_changePairs_71, uX0_changePairs_72, uX0_changePairs_73, uX0_changePairs_76, uX0_changePairs_79, gB3 hB, g0, p0, Option.bind_some, Option.toList_some, Option.toList_none, List.cons_append, List.nil_append, if_true, if_false, and_self, and_true, true_and, or_self, or_true, true_or, false_or, or_false, i10, i00, i01, i11, Nat.reduceAdd, st1_0, st1_c, st1_1i, st1_1r, st1_1n, st1_1u, st1_1J, st2_0, st2_c, st2_1i, st2_1r, st2_1n, st2_1u, st2_1J]
  refine Eq.trans lp ?_
  show run 7 (12, _) = _
  rw [uX0_changePairs_12]
  simp only [uX0_changePairs_0, uX0_changePairs_1, uX0_changePairs_4, uX0_changePairs_5, uX0_changePairs_6, uX0_changePairs_7, uX0_changePairs_8, uX0_changePairs_9, uX0_changePairs_10, uX0_changePairs_11, uX0_changePairs_13, uX0_changePairs_15, uX0_changePairs_18, uX0_changePairs_19, uX0_changePairs_22, uX0_changePairs_23, uX0_changePairs_24, uX0_changePairs_26, uX0_changePairs_29, uX0_changePairs_30, uX0_changePairs_33, uX0_changePairs_34, uX0_changePairs_35, uX0_changePairs_38, uX0_changePairs_39, uX0_changePairs_40, uX0_changePairs_41, uX0_changePairs_43, uX0_changePairs_46, uX0_changePairs_47, uX0_changePairs_48, uX0_changePairs_49, uX0_changePairs_50, uX0_changePairs_51, uX0_changePairs_52, uX0_changePairs_55, uX0_changePairs_56, uX0_changePairs_59, uX0_changePairs_60, uX0_changePairs_61, uX0_changePairs_62, uX0_changePairs_63, uX0_changePairs_65, uX0_changePairs_68, uX0_changePairs_69, uX0_changePairs_70, uX0_changePairs_71, uX0_changePairs_72, uX0_changePairs_73, uX0_changePairs_76, uX0_changePairs_79, c1, Option.bind_some, Option.toList_some, Option.toList_none, List.cons_append, List.nil_append, if_true, if_false, and_self, and_true, true_and, or_self, or_true, true_or, false_or, or_false, i10, i00, i01, i11, Nat.reduceAdd, st1_0, st1_c, st1_1i, st1_1r, st1_1n, st1_1u, st1_1J, st2_0, st2_c, st2_1i, st2_1r, st2_1n, st2_1u, st2_1J]
end CBK
