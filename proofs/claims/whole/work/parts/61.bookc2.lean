def cU (c : Nat → Option Nat) (k : Nat) (o : Option Nat) : Nat → Option Nat := fun u => if u = k then o else c u
def wU (c w : Nat → Option Nat) (k : Nat) (o : Option Nat) : Nat → Option Nat := fun x => if o = some x then some k else if c k = some x then none else w x
theorem chD_ge {c : Nat → Option Nat} {g b n : Nat} (hb : 100 ≤ b) : chD c g b n = 0 := by
  unfold chD
  have hz : ∀ p : Nat → Bool, (∀ u, p u = false) → cnt p n = 0 := by
    intro p hp
    have : cnt p n = cnt (fun v => decide (none = some v)) n := cnt_congr n (fun u _ => by rw [hp u]; exact (decide_eq_false (fun q => by cases q)).symm)
    rw [this, cnt_at]
    rfl
  rw [decide_eq_false (show ¬ b = 0 by omega), hz, hz]
  · rfl
  · intro u
    unfold chB
    split
    · rfl
    · rename_i x _
      exact decide_eq_false (fun q => by have := subm_lt x g; omega)
  · intro u
    unfold chA
    split
    · rfl
    · rename_i x _
      exact decide_eq_false (fun q => by have := subm_lt g x; omega)
theorem wU_ns {c w : Nat → Option Nat} {k g0 x : Nat} (hc : c k = some g0) : wU c w k none x = if x = g0 then none else w x := by
  unfold wU
  rw [if_neg (show ¬ (none : Option Nat) = some x from (fun q => by cases q)), hc]
  by_cases q : x = g0
  · rw [if_pos q, if_pos (by rw [q])]
  · rw [if_neg q, if_neg (show ¬ some g0 = some x from (fun r => by cases r; exact q rfl))]
theorem wU_sn {c w : Nat → Option Nat} {k g x : Nat} (hc : c k = none) : wU c w k (some g) x = if x = g then some k else w x := by
  unfold wU
  by_cases q : x = g
  · rw [if_pos q, if_pos (by rw [q])]
  · rw [if_neg q, if_neg (show ¬ some g = some x from (fun r => by cases r; exact q rfl)), hc, if_neg (show ¬ (none : Option Nat) = some x from (fun r => by cases r))]
theorem bk_rm {c w : Nat → Option Nat} {k g0 : Nat} (hok : bookOK c w) (hI : bkI c w) (hk : k < 30) (hc : c k = some g0) : bookOK (cU c k none) (wU c w k none) ∧ bkI (cU c k none) (wU c w k none) ∧ cU c k none k = none ∧ wU c w k none g0 = none := by
  have hg := hok.1 k g0 hc
  have e1 : ∀ x, wU c w k none x = if x = g0 then none else w x := fun x => wU_ns hc
  refine ⟨⟨fun u g h => ?_, fun g u h => ?_⟩, fun u g hu hg2 => ?_, if_pos rfl, by rw [e1, if_pos rfl]⟩
  · unfold cU at h
    split at h
    · cases h
    · exact hok.1 u g h
  · rw [e1] at h
    split at h
    · cases h
    · exact hok.2 g u h
  · rw [e1]
    unfold cU
    by_cases q : u = k
    · rw [if_pos q]
      refine ⟨(fun r => by cases r), fun r => ?_⟩
      split at r
      · cases r
      · rename_i w1
        have := (hI u g hu hg2).mpr r
        rw [q, hc] at this
        cases this
        exact absurd rfl w1
    · rw [if_neg q, hI u g hu hg2]
      by_cases w1 : g = g0
      · rw [if_pos w1]
        refine ⟨fun r => ?_, (fun r => by cases r)⟩
        have := (hI k g0 hk hg).mp hc
        rw [w1] at r
        rw [r] at this
        cases this
        exact absurd rfl q
      · rw [if_neg w1]
theorem bk_ad {c w : Nat → Option Nat} {k g : Nat} (hok : bookOK c w) (hI : bkI c w) (hk : k < 30) (hg : g < 100) (hc : c k = none) (hw : w g = none) : bookOK (cU c k (some g)) (wU c w k (some g)) ∧ bkI (cU c k (some g)) (wU c w k (some g)) := by
  have e1 : ∀ x, wU c w k (some g) x = if x = g then some k else w x := fun x => wU_sn hc
  refine ⟨⟨fun u x h => ?_, fun x u h => ?_⟩, fun u x hu hx => ?_⟩
  · unfold cU at h
    split at h
    · cases h; exact hg
    · exact hok.1 u x h
  · rw [e1] at h
    split at h
    · cases h; exact hk
    · exact hok.2 x u h
  · rw [e1]
    unfold cU
    by_cases q : u = k
    · rw [if_pos q]
      by_cases w1 : x = g
      · rw [if_pos w1, w1, q]
        exact ⟨fun _ => rfl, fun _ => rfl⟩
      · rw [if_neg w1]
        refine ⟨(fun r => by cases r; exact absurd rfl w1), fun r => ?_⟩
        have := (hI u x hu hx).mpr r
        rw [q, hc] at this
        cases this
    · rw [if_neg q]
      by_cases w1 : x = g
      · rw [if_pos w1]
        refine ⟨fun r => ?_, (fun r => by cases r; exact absurd rfl q)⟩
        have := (hI u x hu hx).mp r
        rw [w1, hw] at this
        cases this
      · rw [if_neg w1]
        exact hI u x hu hx
section CBK
variable {h : AH} {c w : Nat → Option Nat} {wt : Nat → Nat} {k : Nat}
theorem pB4 {h : AH} {cn x : Int32} (hB : rO h 5 = some (0, bF cn)) : pf h [(0, 4)] 5 (.int x) = some (sf h 5 4 (.int x)) := pf_sf (by decide) hB rfl rfl (Nat.le_of_ble_eq_true rfl) rfl
theorem sB4 {h : AH} {cn x : Int32} (hB : rO h 5 = some (0, bF cn)) : rO (sf h 5 4 (.int x)) 5 = some (0, bF x) := by rw [rO_sf, if_pos rfl, hB]; rfl
theorem nI_s1 {n : Nat} : nI (n + 1) - 1 = nI n := by
  rw [← nI_add n 1, show nI 1 = 1 from rfl, Int32.add_sub_cancel]
theorem nI_sd {n d : Nat} (h : d ≤ n) : nI n + -1 * nI d = nI (n - d) := by
  conv => lhs; rw [show n = (n - d) + d by omega]
  rw [← nI_add (n - d) d, Int32.neg_mul, Int32.one_mul, Int32.add_assoc, Int32.add_right_neg, Int32.add_zero]
theorem c_give_n {x : Int32} (B : BookC h c w wt) (hk : k < 30) (hc : c k = none) : run 5 (0, [some (.ref 5), some (.int (nI k)), some (.int x), none], [], h) = run 5 (58, [some (.ref 5), some (.int (nI k)), some (.int x), some (.int (-9))], [], h) := by
  have h1 : 0 ≤ (nI k).toInt ∧ (nI k).toInt ≤ 29 := nI_rng (by omega) (by omega)
  have g1 : gi h 6 (nI k) = some (-9) := by rw [gi_nI B.2.1 hk (by decide), hc]; rfl
  have h2 : ¬ (0 ≤ (-9 : Int32).toInt ∧ (-9 : Int32).toInt ≤ 99) := by decide
  simp only [uX0_giveCode_0, uX0_giveCode_1, uX0_giveCode_3, uX0_giveCode_6, uX0_giveCode_9, uX0_giveCode_10, uX0_giveCode_11, uX0_giveCode_14, uX0_giveCode_15, uX0_giveCode_16, uX0_giveCode_17, uX0_giveCode_18, uX0_giveCode_20, uX0_giveCode_23, uX0_giveCode_26, uX0_giveCode_27, uX0_giveCode_30, uX0_giveCode_31, uX0_giveCode_33, uX0_giveCode_34, uX0_giveCode_35, uX0_giveCode_38, uX0_giveCode_39, uX0_giveCode_41, uX0_giveCode_42, uX0_giveCode_43, uX0_giveCode_44, uX0_giveCode_47, uX0_giveCode_48, uX0_giveCode_49, uX0_giveCode_52, uX0_giveCode_53, uX0_giveCode_54, uX0_giveCode_55, uX0_giveCode_59, uX0_giveCode_61, uX0_giveCode_64, uX0_giveCode_67, uX0_giveCode_68, uX0_giveCode_69, uX0_giveCode_70, uX0_giveCode_73, uX0_giveCode_74, uX0_giveCode_77, uX0_giveCode_78, uX0_giveCode_79, uX0_giveCode_80, uX0_giveCode_81, uX0_giveCode_84, uX0_giveCode_85, uX0_giveCode_86, uX0_giveCode_87, uX0_giveCode_88, uX0_giveCode_89, uX0_giveCode_92, uX0_giveCode_93, uX0_giveCode_94, uX0_giveCode_97, c_bl30, c_bl100, h1, gB0 B.1, g1, if_neg h2, Option.bind_some, Option.toList_some, Option.toList_none, List.cons_append, List.nil_append, if_true, if_false, and_self, and_true, true_and, or_self, or_true, true_or, false_or, or_false, i10, i00, i01, i11, Nat.reduceAdd, st1_0, st1_c, st1_1i, st1_1r, st1_1n, st1_1u, st1_1J, st2_0, st2_c, st2_1i, st2_1r, st2_1n, st2_1u, st2_1J]
theorem c_give_s {x : Int32} {g0 : Nat} (B : BookC h c w wt) (hk : k < 30) (hc : c k = some g0) : ∃ h1, run 5 (0, [some (.ref 5), some (.int (nI k)), some (.int x), none], [], h) = run 5 (58, [some (.ref 5), some (.int (nI k)), some (.int x), some (.int (nI g0))], [], h1) ∧ Dif [5, 6, 8, 9] h h1 ∧ BookC h1 (cU c k none) (wU c w k none) wt := by
  obtain ⟨hB, a6, a7, a8, ⟨pr, a9, hpr, hpb⟩, hok, hwt, hI⟩ := B
  have hg := hok.1 k g0 hc
  obtain ⟨ok0, I0, c0k, w0g⟩ := bk_rm hok hI hk hc
  have hr1 : 0 ≤ (nI k).toInt ∧ (nI k).toInt ≤ 29 := nI_rng (by omega) (by omega)
  have hr2 : 0 ≤ (nI g0).toInt ∧ (nI g0).toInt ≤ 99 := nI_rng (by omega) (by omega)
  have g1 : gi h 6 (nI k) = some (nI g0) := by rw [gi_nI a6 hk (by decide), hc]; rfl
  have p1 : pi h 6 (nI k) (-9) = some (si h 6 k (-9)) := pi_si (by decide) a6 hk (by decide)
  generalize hh1 : si h 6 k (-9) = h1 at p1
  have D1 : Dif [5, 6, 8, 9] h h1 := by rw [← hh1]; exact difSi (by decide)
  have hB1 : rO h1 5 = some (0, bF (nI (cnt (isS c) 30))) := by rw [← hh1, rO_si, hB]
  have b8 : rI h1 8 = some (100, fun g => oN (w g)) := by rw [← hh1, rI_siN (by decide), a8]
  have b6 : rI h1 6 = some (30, fun u => oN (cU c k none u)) := by
    rw [← hh1, rI_siA a6]
    congr 2
    funext u
    rw [updP]
    unfold cU
    split <;> rfl
  have b7 : rI h1 7 = some (30, fun u => nI (wt u)) := by rw [← hh1, rI_siN (by decide), a7]
  have b9 : rI h1 9 = some (100, fun b => nI (pr b)) := by rw [← hh1, rI_siN (by decide), a9]
  have p2 : pi h1 8 (nI g0) (-9) = some (si h1 8 g0 (-9)) := pi_si (by decide) b8 hg (by decide)
  generalize hh2 : si h1 8 g0 (-9) = h2x at p2
  have D2 : Dif [5, 6, 8, 9] h h2x := difT D1 (by rw [← hh2]; exact difSi (by decide))
  have hB2 : rO h2x 5 = some (0, bF (nI (cnt (isS c) 30))) := by rw [← hh2, rO_si, hB1]
  have d8 : rI h2x 8 = some (100, fun x => oN (wU c w k none x)) := by
    rw [← hh2, rI_siA b8]
    congr 2
    funext y
    rw [updP, wU_ns hc]
    by_cases q : y = g0
    · rw [if_pos q, if_pos q]; rfl
    · rw [if_neg q, if_neg q]
  have d6 := (show rI h2x 6 = rI h1 6 by rw [← hh2, rI_siN (by decide)]).trans b6
  have d7 := (show rI h2x 7 = rI h1 7 by rw [← hh2, rI_siN (by decide)]).trans b7
  have d9 := (show rI h2x 9 = rI h1 9 by rw [← hh2, rI_siN (by decide)]).trans b9
  have ec : cnt (isS c) 30 = cnt (isS (cU c k none)) 30 + 1 := by
    have := cnt_upd (t := cU c k none) (l := k) (v := g0) c0k 30
    rw [if_pos hk] at this
    rw [← this]
    congr 2
    funext u
    unfold updO cU
    by_cases q : u = k
    · rw [if_pos q, q, hc]
    · rw [if_neg q, if_neg q]
  have p3 := pB4 (x := nI (cnt (isS (cU c k none)) 30)) hB2
  have sB := sB4 (x := nI (cnt (isS (cU c k none)) 30)) hB2
  generalize hh3 : sf h2x 5 4 (.int (nI (cnt (isS (cU c k none)) 30))) = h3 at p3 sB
  have D3 : Dif [5, 6, 8, 9] h h3 := difT D2 (by rw [← hh3]; exact difSf (by decide))
  have e6 := (show rI h3 6 = rI h2x 6 by rw [← hh3, rI_sf]).trans d6
  have e7 := (show rI h3 7 = rI h2x 7 by rw [← hh3, rI_sf]).trans d7
  have e8 := (show rI h3 8 = rI h2x 8 by rw [← hh3, rI_sf]).trans d8
  have e9 := (show rI h3 9 = rI h2x 9 by rw [← hh3, rI_sf]).trans d9
  obtain ⟨h4, r4, D4, f9⟩ := c_changePairs (s := -1) sB e6 (fun u x hx => ok0.1 u x hx) e9 hg
  have eS : nI (cnt (isS c) 30) - 1 = nI (cnt (isS (cU c k none)) 30) := by rw [ec, nI_s1]
  have hP : ∀ b, b < 100 → pr b = PB (cU c k none) (wU c w k none) b + chD (cU c k none) g0 b 30 := by
    intro b hb
    rw [hpr b hb]
    refine PB_add ok0 I0 hk hg hb c0k w0g (fun u hu => ?_) (fun x hx => ?_)
    · unfold cU
      by_cases q : u = k
      · rw [if_pos q, q, hc]
      · rw [if_neg q, if_neg q]
    · rw [wU_ns hc]
      by_cases q : x = g0
      · rw [if_pos q, q]
        exact (hI k g0 hk hg).mp hc
      · rw [if_neg q, if_neg q]
  refine ⟨h4, ?_, difT D3 ⟨fun b hb => D4.1 b (fun q => hb (by simp only [List.mem_singleton] at q; rw [q]; decide)), D4.2⟩, ?_, ?_, ?_, ?_, ⟨fun b => pr b - chD (cU c k none) g0 b 30, ?_, fun b hb => ?_, fun b => ?_⟩, ok0, hwt, I0⟩
  · simp only [uX0_giveCode_0, uX0_giveCode_1, uX0_giveCode_3, uX0_giveCode_6, uX0_giveCode_9, uX0_giveCode_10, uX0_giveCode_11, uX0_giveCode_14, uX0_giveCode_15, uX0_giveCode_16, uX0_giveCode_17, uX0_giveCode_18, uX0_giveCode_20, uX0_giveCode_23, uX0_giveCode_26, uX0_giveCode_27, uX0_giveCode_30, uX0_giveCode_31, uX0_giveCode_33, uX0_giveCode_34, uX0_giveCode_35, uX0_giveCode_38, uX0_giveCode_39, uX0_giveCode_41, uX0_giveCode_42, uX0_giveCode_43, uX0_giveCode_44, uX0_giveCode_47, uX0_giveCode_48, uX0_giveCode_49, uX0_giveCode_52, uX0_giveCode_53, uX0_giveCode_54, uX0_giveCode_55, uX0_giveCode_59, uX0_giveCode_61, uX0_giveCode_64, uX0_giveCode_67, uX0_giveCode_68, uX0_giveCode_69, uX0_giveCode_70, uX0_giveCode_73, uX0_giveCode_74, uX0_giveCode_77, uX0_giveCode_78, uX0_giveCode_79, uX0_giveCode_80, uX0_giveCode_81, uX0_giveCode_84, uX0_giveCode_85, uX0_giveCode_86, uX0_giveCode_87, uX0_giveCode_88, uX0_giveCode_89, uX0_giveCode_92, uX0_giveCode_93, uX0_giveCode_94, uX0_giveCode_97, c_bl30, c_bl100, hr1, hr2, gB0 hB, gB2 hB1, gB4 hB2, vX sB, g1, p1, p2, eS, p3, r4, Option.bind_some, Option.toList_some, Option.toList_none, List.cons_append, List.nil_append, if_true, if_false, and_self, and_true, true_and, or_self, or_true, true_or, false_or, or_false, i10, i00, i01, i11, Nat.reduceAdd, st1_0, st1_c, st1_1i, st1_1r, st1_1n, st1_1u, st1_1J, st2_0, st2_c, st2_1i, st2_1r, st2_1n, st2_1u, st2_1J]
  · rw [difO D4 (by decide), sB]
  · rw [difI D4 (by decide), e6]
  · rw [difI D4 (by decide), e7]
  · rw [difI D4 (by decide), e8]
  · rw [f9]
    congr 2
    funext b
    refine nI_sd ?_
    by_cases q : b < 100
    · rw [hP b q]; omega
    · rw [chD_ge (by omega)]; omega
  · show pr b - chD (cU c k none) g0 b 30 = _
    rw [hP b hb]; omega
  · show pr b - chD (cU c k none) g0 b 30 < 1000
    have := hpb b; omega
theorem c_give_e {x : Int32} (hk : ¬ (0 ≤ x.toInt ∧ x.toInt ≤ 99)) (y z : Int32) : run 5 (58, [some (.ref 5), some (.int y), some (.int x), some (.int z)], [], h) = some (none, h) := by
  simp only [uX0_giveCode_0, uX0_giveCode_1, uX0_giveCode_3, uX0_giveCode_6, uX0_giveCode_9, uX0_giveCode_10, uX0_giveCode_11, uX0_giveCode_14, uX0_giveCode_15, uX0_giveCode_16, uX0_giveCode_17, uX0_giveCode_18, uX0_giveCode_20, uX0_giveCode_23, uX0_giveCode_26, uX0_giveCode_27, uX0_giveCode_30, uX0_giveCode_31, uX0_giveCode_33, uX0_giveCode_34, uX0_giveCode_35, uX0_giveCode_38, uX0_giveCode_39, uX0_giveCode_41, uX0_giveCode_42, uX0_giveCode_43, uX0_giveCode_44, uX0_giveCode_47, uX0_giveCode_48, uX0_giveCode_49, uX0_giveCode_52, uX0_giveCode_53, uX0_giveCode_54, uX0_giveCode_55, uX0_giveCode_58, uX0_giveCode_59, uX0_giveCode_61, uX0_giveCode_64, uX0_giveCode_67, uX0_giveCode_68, uX0_giveCode_69, uX0_giveCode_70, uX0_giveCode_73, uX0_giveCode_74, uX0_giveCode_77, uX0_giveCode_78, uX0_giveCode_79, uX0_giveCode_80, uX0_giveCode_81, uX0_giveCode_84, uX0_giveCode_85, uX0_giveCode_86, uX0_giveCode_87, uX0_giveCode_88, uX0_giveCode_89, uX0_giveCode_92, uX0_giveCode_93, uX0_giveCode_94, uX0_giveCode_97, c_bl100, if_neg hk, Option.bind_some, Option.toList_some, Option.toList_none, List.cons_append, List.nil_append, if_true, if_false, and_self, and_true, true_and, or_self, or_true, true_or, false_or, or_false, i10, i00, i01, i11, Nat.reduceAdd, st1_0, st1_c, st1_1i, st1_1r, st1_1n, st1_1u, st1_1J, st2_0, st2_c, st2_1i, st2_1r, st2_1n, st2_1u, st2_1J]
theorem c_give_a {g : Nat} {z : Int32} (B : BookC h c w wt) (hk : k < 30) (hg : g < 100) (hc : c k = none) (hw : w g = none) : ∃ h1, run 5 (58, [some (.ref 5), some (.int (nI k)), some (.int (nI g)), some (.int z)], [], h) = some (none, h1) ∧ Dif [5, 6, 8, 9] h h1 ∧ BookC h1 (cU c k (some g)) (wU c w k (some g)) wt := by
  obtain ⟨hB, a6, a7, a8, ⟨pr, a9, hpr, hpb⟩, hok, hwt, hI⟩ := B
  obtain ⟨ok2, I2⟩ := bk_ad hok hI hk hg hc hw
  have h2 : 0 ≤ (nI g).toInt ∧ (nI g).toInt ≤ 99 := nI_rng (by omega) (by omega)
  obtain ⟨h1, r1, D1, e9⟩ := c_changePairs (s := 1) hB a6 (fun u x hx => hok.1 u x hx) a9 hg
  have hB1 : rO h1 5 = some (0, bF (nI (cnt (isS c) 30))) := by rw [difO D1 (by decide), hB]
  have b6 := (difI D1 (b := 6) (by decide)).trans a6
  have b7 := (difI D1 (b := 7) (by decide)).trans a7
  have b8 := (difI D1 (b := 8) (by decide)).trans a8
  have p1 : pi h1 6 (nI k) (nI g) = some (si h1 6 k (nI g)) := pi_si (by decide) b6 hk (by decide)
  generalize hh2 : si h1 6 k (nI g) = h2x at p1
  have hB2 : rO h2x 5 = some (0, bF (nI (cnt (isS c) 30))) := by rw [← hh2, rO_si, hB1]
  have d6 : rI h2x 6 = some (30, fun u => oN (cU c k (some g) u)) := by
    rw [← hh2, rI_siA b6]
    congr 2
    funext u
    rw [updP]
    unfold cU
    split <;> rfl
  have d7 := (show rI h2x 7 = rI h1 7 by rw [← hh2, rI_siN (by decide)]).trans b7
  have d8 := (show rI h2x 8 = rI h1 8 by rw [← hh2, rI_siN (by decide)]).trans b8
  have d9 := (show rI h2x 9 = rI h1 9 by rw [← hh2, rI_siN (by decide)]).trans e9
  have p2 : pi h2x 8 (nI g) (nI k) = some (si h2x 8 g (nI k)) := pi_si (by decide) d8 hg (by decide)
  generalize hh3 : si h2x 8 g (nI k) = h3 at p2
  have hB3 : rO h3 5 = some (0, bF (nI (cnt (isS c) 30))) := by rw [← hh3, rO_si, hB2]
  have f8 : rI h3 8 = some (100, fun x => oN (wU c w k (some g) x)) := by
    rw [← hh3, rI_siA d8]
    congr 2
    funext y
    rw [updP, wU_sn hc]
    by_cases q : y = g
    · rw [if_pos q, if_pos q]; rfl
    · rw [if_neg q, if_neg q]
  have f6 := (show rI h3 6 = rI h2x 6 by rw [← hh3, rI_siN (by decide)]).trans d6
  have f7 := (show rI h3 7 = rI h2x 7 by rw [← hh3, rI_siN (by decide)]).trans d7
  have f9 := (show rI h3 9 = rI h2x 9 by rw [← hh3, rI_siN (by decide)]).trans d9
  have ec : cnt (isS (cU c k (some g))) 30 = cnt (isS c) 30 + 1 := by
    have := cnt_upd (t := c) (l := k) (v := g) hc 30
    rw [if_pos hk] at this
    rw [← this]
    congr 2
  have eS : nI (cnt (isS c) 30) + 1 = nI (cnt (isS (cU c k (some g))) 30) := by rw [ec, nI_1]
  have p3 := pB4 (x := nI (cnt (isS (cU c k (some g))) 30)) hB3
  have sB := sB4 (x := nI (cnt (isS (cU c k (some g))) 30)) hB3
  have D3 : Dif [5, 6, 8, 9] h (sf h3 5 4 (.int (nI (cnt (isS (cU c k (some g))) 30)))) := by
    have Da : Dif [5, 6, 8, 9] h h1 := ⟨fun b hb => D1.1 b (fun q => hb (by simp only [List.mem_singleton] at q; rw [q]; decide)), D1.2⟩
    have Db : Dif [5, 6, 8, 9] h1 h2x := by rw [← hh2]; exact difSi (by decide)
    have Dc : Dif [5, 6, 8, 9] h2x h3 := by rw [← hh3]; exact difSi (by decide)
    exact difT (difT (difT Da Db) Dc) (difSf (by decide))
  have hP : ∀ b, b < 100 → PB (cU c k (some g)) (wU c w k (some g)) b = PB c w b + chD c g b 30 := by
    intro b hb
    exact PB_add hok hI hk hg hb hc hw (fun u hu => rfl) (fun x hx => wU_sn hc)
  refine ⟨_, ?_, D3, sB, ?_, ?_, ?_, ⟨fun b => pr b + chD c g b 30, ?_, fun b hb => ?_, fun b => ?_⟩, ok2, hwt, I2⟩
  · simp only [uX0_giveCode_0, uX0_giveCode_1, uX0_giveCode_3, uX0_giveCode_6, uX0_giveCode_9, uX0_giveCode_10, uX0_giveCode_11, uX0_giveCode_14, uX0_giveCode_15, uX0_giveCode_16, uX0_giveCode_17, uX0_giveCode_18, uX0_giveCode_20, uX0_giveCode_23, uX0_giveCode_26, uX0_giveCode_27, uX0_giveCode_30, uX0_giveCode_31, uX0_giveCode_33, uX0_giveCode_34, uX0_giveCode_35, uX0_giveCode_38, uX0_giveCode_39, uX0_giveCode_41, uX0_giveCode_42, uX0_giveCode_43, uX0_giveCode_44, uX0_giveCode_47, uX0_giveCode_48, uX0_giveCode_49, uX0_giveCode_52, uX0_giveCode_53, uX0_giveCode_54, uX0_giveCode_55, uX0_giveCode_58, uX0_giveCode_59, uX0_giveCode_61, uX0_giveCode_64, uX0_giveCode_67, uX0_giveCode_68, uX0_giveCode_69, uX0_giveCode_70, uX0_giveCode_73, uX0_giveCode_74, uX0_giveCode_77, uX0_giveCode_78, uX0_giveCode_79, uX0_giveCode_80, uX0_giveCode_81, uX0_giveCode_84, uX0_giveCode_85, uX0_giveCode_86, uX0_giveCode_87, uX0_giveCode_88, uX0_giveCode_89, uX0_giveCode_92, uX0_giveCode_93, uX0_giveCode_94, uX0_giveCode_97, c_bl100, h2, vX hB, r1, gB0 hB1, gB2 hB2, gB4 hB3, p1, p2, eS, p3, Option.bind_some, Option.toList_some, Option.toList_none, List.cons_append, List.nil_append, if_true, if_false, and_self, and_true, true_and, or_self, or_true, true_or, false_or, or_false, i10, i00, i01, i11, Nat.reduceAdd, st1_0, st1_c, st1_1i, st1_1r, st1_1n, st1_1u, st1_1J, st2_0, st2_c, st2_1i, st2_1r, st2_1n, st2_1u, st2_1J]
  · rw [rI_sf, f6]
  · rw [rI_sf, f7]
  · rw [rI_sf, f8]
  · rw [rI_sf, f9]
    congr 2
    funext b
    rw [Int32.one_mul, nI_add]
  · show pr b + chD c g b 30 = _
    rw [hP b hb, hpr b hb]
  · show pr b + chD c g b 30 < 1000
    by_cases q : b < 100
    · have h1 := PB_le (c := cU c k (some g)) (w := wU c w k (some g)) (b := b)
      rw [hP b q] at h1
      rw [hpr b q]
      omega
    · have := hpb b
      rw [chD_ge (by omega)]
      omega
theorem c_code_u {x n : Int32} (hw : ¬ (0 ≤ x.toInt ∧ x.toInt ≤ 29)) : run 102 (0, [some (.ref 4), some (.int x), some (.int n), none, none], [], h) = some (some (.int (-1)), h) := by
  simp only [uX11_code_0, uX11_code_1, uX11_code_3, uX11_code_6, uX11_code_9, uX11_code_10, uX11_code_11, uX11_code_12, uX11_code_13, uX11_code_16, uX11_code_17, uX11_code_19, uX11_code_22, uX11_code_25, uX11_code_27, uX11_code_28, uX11_code_29, uX11_code_32, uX11_code_33, uX11_code_36, uX11_code_37, uX11_code_38, uX11_code_40, uX11_code_43, uX11_code_44, uX11_code_45, uX11_code_48, uX11_code_50, uX11_code_51, uX11_code_52, uX11_code_55, uX11_code_56, uX11_code_59, uX11_code_61, uX11_code_62, uX11_code_65, uX11_code_66, uX11_code_67, uX11_code_70, uX11_code_72, c_bl30, hw, Option.bind_some, Option.toList_some, Option.toList_none, List.cons_append, List.nil_append, if_true, if_false, and_self, and_true, true_and, or_self, or_true, true_or, false_or, or_false, i10, i00, i01, i11]
theorem c_code_o {n : Int32} (hk : k < 30) (hn : ¬ (-1 ≤ n.toInt ∧ n.toInt ≤ 99)) : run 102 (0, [some (.ref 4), some (.int (nI k)), some (.int n), none, none], [], h) = some (some (.int (-2)), h) := by
  have h1 : 0 ≤ (nI k).toInt ∧ (nI k).toInt ≤ 29 := nI_rng (by omega) (by omega)
  have h2 : ¬ (0 ≤ n.toInt ∧ n.toInt ≤ 99) := by omega
  have h3 : ¬ n = -1 := fun q => hn (by rw [q]; decide)
  simp only [uX11_code_0, uX11_code_1, uX11_code_3, uX11_code_6, uX11_code_9, uX11_code_10, uX11_code_11, uX11_code_12, uX11_code_13, uX11_code_16, uX11_code_17, uX11_code_19, uX11_code_22, uX11_code_25, uX11_code_27, uX11_code_28, uX11_code_29, uX11_code_32, uX11_code_33, uX11_code_36, uX11_code_37, uX11_code_38, uX11_code_40, uX11_code_43, uX11_code_44, uX11_code_45, uX11_code_48, uX11_code_50, uX11_code_51, uX11_code_52, uX11_code_55, uX11_code_56, uX11_code_59, uX11_code_61, uX11_code_62, uX11_code_65, uX11_code_66, uX11_code_67, uX11_code_70, uX11_code_72, c_bl30, c_bl100, h1, h3, if_neg h2, Option.bind_some, Option.toList_some, Option.toList_none, List.cons_append, List.nil_append, if_true, if_false, and_self, and_true, true_and, or_self, or_true, true_or, false_or, or_false, i10, i00, i01, i11]
theorem ne9 {x : Nat} (hx : x < 2 ^ 31) : ¬ nI x = -9 := fun q => by
  have := congrArg Int32.toInt q
  rw [nI_toInt hx, show (-9 : Int32).toInt = -9 by decide] at this
  omega
theorem ne1 {x : Nat} (hx : x < 2 ^ 31) : ¬ nI x = -1 := fun q => by
  have := congrArg Int32.toInt q
  rw [nI_toInt hx, show (-1 : Int32).toInt = -1 by decide] at this
  omega
theorem c_code_s {g k2 : Nat} {dr : Nat} {xp xl xf : Int32} (hX : rO h 4 = some (10, xF dr xp xl xf)) (B : BookC h c w wt) (hk : k < 30) (hg : g < 100) (hw : w g = some k2) (hne : k2 ≠ k) : run 102 (0, [some (.ref 4), some (.int (nI k)), some (.int (nI g)), none, none], [], h) = some (some (.int (-3)), h) := by
  have h1 : 0 ≤ (nI k).toInt ∧ (nI k).toInt ≤ 29 := nI_rng (by omega) (by omega)
  have h2 : 0 ≤ (nI g).toInt ∧ (nI g).toInt ≤ 99 := nI_rng (by omega) (by omega)
  have hk2 := B.2.2.2.2.2.1.2 g k2 hw
  have r1 := c_wordOf hg B.1 B.2.2.2.1
  rw [hw, oN_some] at r1
  have c1 := nI_ne hne (by omega) (by omega)
  simp only [uX11_code_0, uX11_code_1, uX11_code_3, uX11_code_6, uX11_code_9, uX11_code_10, uX11_code_11, uX11_code_12, uX11_code_13, uX11_code_16, uX11_code_17, uX11_code_19, uX11_code_22, uX11_code_25, uX11_code_27, uX11_code_28, uX11_code_29, uX11_code_32, uX11_code_33, uX11_code_36, uX11_code_37, uX11_code_38, uX11_code_40, uX11_code_43, uX11_code_44, uX11_code_45, uX11_code_48, uX11_code_50, uX11_code_51, uX11_code_52, uX11_code_55, uX11_code_56, uX11_code_59, uX11_code_61, uX11_code_62, uX11_code_65, uX11_code_66, uX11_code_67, uX11_code_70, uX11_code_72, c_bl30, c_bl100, h1, h2, ne1 (show g < 2 ^ 31 by omega), gX0 hX, vX B.1, r1, ne9 (show k2 < 2 ^ 31 by omega), c1, Option.bind_some, Option.toList_some, Option.toList_none, List.cons_append, List.nil_append, if_true, if_false, and_self, and_true, true_and, or_self, or_true, true_or, false_or, or_false, i10, i00, i01, i11, Nat.reduceAdd, st1_0, st1_c, st1_1i, st1_1r, st1_1n, st1_1u, st1_1J, st2_0, st2_c, st2_1i, st2_1r, st2_1n, st2_1u, st2_1J]
theorem c_codeK (B : BookC h c w wt) (hk : k < 30) : run 1 (0, [some (.ref 5), some (.int (nI k))], [], h) = some (some (.int (oN (c k))), h) := c_codeOf hk B.1 B.2.1
theorem c_code_none {dr : Nat} {xp xl xf : Int32} (hX : rO h 4 = some (10, xF dr xp xl xf)) (B : BookC h c w wt) (hk : k < 30) : ∃ h1, run 102 (0, [some (.ref 4), some (.int (nI k)), some (.int (-1)), none, none], [], h) = some (some (.int (oN (c k))), h1) ∧ Dif [5, 6, 8, 9] h h1 ∧ BookC h1 (cU c k none) (wU c w k none) wt := by
  have h1 : 0 ≤ (nI k).toInt ∧ (nI k).toInt ≤ 29 := nI_rng (by omega) (by omega)
  have m1 : ¬ (0 ≤ (-1 : Int32).toInt ∧ (-1 : Int32).toInt ≤ 99) := by decide
  have r1 := c_wordOf_o (h := h) m1
  have r2 := c_codeK B hk
  cases hc : c k with
  | none =>
    have e1 : cU c k none = c := by
      funext u
      unfold cU
      by_cases q : u = k
      · rw [if_pos q, q, hc]
      · rw [if_neg q]
    have e2 : wU c w k none = w := by
      funext u
      unfold wU
      rw [if_neg (show ¬ (none : Option Nat) = some u from (fun q => by cases q)), hc, if_neg (show ¬ (none : Option Nat) = some u from (fun q => by cases q))]
    rw [e1, e2]
    rw [hc] at r2
    have r3 := (c_give_n (x := -1) B hk hc).trans (c_give_e m1 (nI k) (-9))
    refine ⟨h, ?_, difR, B⟩
    simp only [uX11_code_0, uX11_code_1, uX11_code_3, uX11_code_6, uX11_code_9, uX11_code_10, uX11_code_11, uX11_code_12, uX11_code_13, uX11_code_16, uX11_code_17, uX11_code_19, uX11_code_22, uX11_code_25, uX11_code_27, uX11_code_28, uX11_code_29, uX11_code_32, uX11_code_33, uX11_code_36, uX11_code_37, uX11_code_38, uX11_code_40, uX11_code_43, uX11_code_44, uX11_code_45, uX11_code_48, uX11_code_50, uX11_code_51, uX11_code_52, uX11_code_55, uX11_code_56, uX11_code_59, uX11_code_61, uX11_code_62, uX11_code_65, uX11_code_66, uX11_code_67, uX11_code_70, uX11_code_72, c_bl30, h1, gX0 hX, vX B.1, r1, r2, r3, Option.bind_some, Option.toList_some, Option.toList_none, List.cons_append, List.nil_append, if_true, if_false, and_self, and_true, true_and, or_self, or_true, true_or, false_or, or_false, i10, i00, i01, i11, Nat.reduceAdd, st1_0, st1_c, st1_1i, st1_1r, st1_1n, st1_1u, st1_1J, st2_0, st2_c, st2_1i, st2_1r, st2_1n, st2_1u, st2_1J]
  | some g0 =>
    rw [hc] at r2
    obtain ⟨h2, r3, D2, B2⟩ := c_give_s (x := -1) B hk hc
    refine ⟨h2, ?_, D2, B2⟩
    have r4 := r3.trans (c_give_e m1 (nI k) (nI g0))
    simp only [uX11_code_0, uX11_code_1, uX11_code_3, uX11_code_6, uX11_code_9, uX11_code_10, uX11_code_11, uX11_code_12, uX11_code_13, uX11_code_16, uX11_code_17, uX11_code_19, uX11_code_22, uX11_code_25, uX11_code_27, uX11_code_28, uX11_code_29, uX11_code_32, uX11_code_33, uX11_code_36, uX11_code_37, uX11_code_38, uX11_code_40, uX11_code_43, uX11_code_44, uX11_code_45, uX11_code_48, uX11_code_50, uX11_code_51, uX11_code_52, uX11_code_55, uX11_code_56, uX11_code_59, uX11_code_61, uX11_code_62, uX11_code_65, uX11_code_66, uX11_code_67, uX11_code_70, uX11_code_72, c_bl30, h1, gX0 hX, vX B.1, r1, r2, r4, Option.bind_some, Option.toList_some, Option.toList_none, List.cons_append, List.nil_append, if_true, if_false, and_self, and_true, true_and, or_self, or_true, true_or, false_or, or_false, i10, i00, i01, i11, Nat.reduceAdd, st1_0, st1_c, st1_1i, st1_1r, st1_1n, st1_1u, st1_1J, st2_0, st2_c, st2_1i, st2_1r, st2_1n, st2_1u, st2_1J]
theorem c_code_some {g : Nat} {dr : Nat} {xp xl xf : Int32} (hX : rO h 4 = some (10, xF dr xp xl xf)) (B : BookC h c w wt) (hk : k < 30) (hg : g < 100) (hw : ∀ k2, w g = some k2 → k2 = k) : ∃ h1, run 102 (0, [some (.ref 4), some (.int (nI k)), some (.int (nI g)), none, none], [], h) = some (some (.int (oN (c k))), h1) ∧ Dif [5, 6, 8, 9] h h1 ∧ BookC h1 (cU c k (some g)) (wU c w k (some g)) wt := by
  have h1 : 0 ≤ (nI k).toInt ∧ (nI k).toInt ≤ 29 := nI_rng (by omega) (by omega)
  have h2 : 0 ≤ (nI g).toInt ∧ (nI g).toInt ≤ 99 := nI_rng (by omega) (by omega)
  have r1 := c_wordOf hg B.1 B.2.2.2.1
  have r2 := c_codeK B hk
  have hI := B.2.2.2.2.2.2.2
  cases hc : c k with
  | none =>
    have hwn : w g = none := by
      cases hwg : w g with
      | none => rfl
      | some k2 =>
        have := hw k2 hwg
        rw [this] at hwg
        rw [(hI k g hk hg).mpr hwg] at hc
        cases hc
    rw [hc] at r2
    rw [hwn, oN_none] at r1
    have r3 := c_give_n (x := nI g) B hk hc
    obtain ⟨h3, r4, D4, B4⟩ := c_give_a (z := -9) B hk hg hc hwn
    have r5 := r3.trans r4
    refine ⟨h3, ?_, D4, B4⟩
    simp only [uX11_code_0, uX11_code_1, uX11_code_3, uX11_code_6, uX11_code_9, uX11_code_10, uX11_code_11, uX11_code_12, uX11_code_13, uX11_code_16, uX11_code_17, uX11_code_19, uX11_code_22, uX11_code_25, uX11_code_27, uX11_code_28, uX11_code_29, uX11_code_32, uX11_code_33, uX11_code_36, uX11_code_37, uX11_code_38, uX11_code_40, uX11_code_43, uX11_code_44, uX11_code_45, uX11_code_48, uX11_code_50, uX11_code_51, uX11_code_52, uX11_code_55, uX11_code_56, uX11_code_59, uX11_code_61, uX11_code_62, uX11_code_65, uX11_code_66, uX11_code_67, uX11_code_70, uX11_code_72, c_bl30, c_bl100, h1, h2, ne1 (show g < 2 ^ 31 by omega), gX0 hX, vX B.1, r1, r2, r5, Option.bind_some, Option.toList_some, Option.toList_none, List.cons_append, List.nil_append, if_true, if_false, and_self, and_true, true_and, or_self, or_true, true_or, false_or, or_false, i10, i00, i01, i11, Nat.reduceAdd, st1_0, st1_c, st1_1i, st1_1r, st1_1n, st1_1u, st1_1J, st2_0, st2_c, st2_1i, st2_1r, st2_1n, st2_1u, st2_1J]
  | some g0 =>
    rw [hc] at r2
    obtain ⟨h3, r3, D3, B3⟩ := c_give_s (x := nI g) B hk hc
    have w0 : wU c w k none g = none := by
      rw [wU_ns hc]
      by_cases q : g = g0
      · rw [if_pos q]
      · rw [if_neg q]
        cases hwg : w g with
        | none => rfl
        | some k2 =>
          rw [hw k2 hwg] at hwg
          rw [(hI k g hk hg).mpr hwg] at hc
          cases hc
          exact absurd rfl q
    obtain ⟨h4, r4, D4, B4⟩ := c_give_a (z := nI g0) B3 hk hg (if_pos rfl) w0
    have r5 := r3.trans r4
    have e1 : cU (cU c k none) k (some g) = cU c k (some g) := by
      funext u
      unfold cU
      by_cases q : u = k
      · rw [if_pos q, if_pos q]
      · rw [if_neg q, if_neg q, if_neg q]
    have e2 : wU (cU c k none) (wU c w k none) k (some g) = wU c w k (some g) := by
      funext y
      unfold wU
      by_cases q : some g = some y
      · rw [if_pos q, if_pos q]
      · rw [if_neg q, if_neg q, if_neg (show ¬ cU c k none k = some y by unfold cU; rw [if_pos rfl]; exact (fun r => by cases r)), if_neg (show ¬ (none : Option Nat) = some y from (fun r => by cases r))]
    rw [e1, e2] at B4
    refine ⟨h4, ?_, difT D3 D4, B4⟩
    cases hwg : w g with
    | none =>
      rw [hwg, oN_none] at r1
      simp only [uX11_code_0, uX11_code_1, uX11_code_3, uX11_code_6, uX11_code_9, uX11_code_10, uX11_code_11, uX11_code_12, uX11_code_13, uX11_code_16, uX11_code_17, uX11_code_19, uX11_code_22, uX11_code_25, uX11_code_27, uX11_code_28, uX11_code_29, uX11_code_32, uX11_code_33, uX11_code_36, uX11_code_37, uX11_code_38, uX11_code_40, uX11_code_43, uX11_code_44, uX11_code_45, uX11_code_48, uX11_code_50, uX11_code_51, uX11_code_52, uX11_code_55, uX11_code_56, uX11_code_59, uX11_code_61, uX11_code_62, uX11_code_65, uX11_code_66, uX11_code_67, uX11_code_70, uX11_code_72, c_bl30, c_bl100, h1, h2, ne1 (show g < 2 ^ 31 by omega), gX0 hX, vX B.1, r1, r2, r5, Option.bind_some, Option.toList_some, Option.toList_none, List.cons_append, List.nil_append, if_true, if_false, and_self, and_true, true_and, or_self, or_true, true_or, false_or, or_false, i10, i00, i01, i11, Nat.reduceAdd, st1_0, st1_c, st1_1i, st1_1r, st1_1n, st1_1u, st1_1J, st2_0, st2_c, st2_1i, st2_1r, st2_1n, st2_1u, st2_1J]
    | some k2 =>
      rw [hwg, hw k2 hwg, oN_some] at r1
      simp only [uX11_code_0, uX11_code_1, uX11_code_3, uX11_code_6, uX11_code_9, uX11_code_10, uX11_code_11, uX11_code_12, uX11_code_13, uX11_code_16, uX11_code_17, uX11_code_19, uX11_code_22, uX11_code_25, uX11_code_27, uX11_code_28, uX11_code_29, uX11_code_32, uX11_code_33, uX11_code_36, uX11_code_37, uX11_code_38, uX11_code_40, uX11_code_43, uX11_code_44, uX11_code_45, uX11_code_48, uX11_code_50, uX11_code_51, uX11_code_52, uX11_code_55, uX11_code_56, uX11_code_59, uX11_code_61, uX11_code_62, uX11_code_65, uX11_code_66, uX11_code_67, uX11_code_70, uX11_code_72, c_bl30, c_bl100, h1, h2, ne1 (show g < 2 ^ 31 by omega), gX0 hX, vX B.1, r1, r2, r5, ne9 (show k < 2 ^ 31 by omega), Option.bind_some, Option.toList_some, Option.toList_none, List.cons_append, List.nil_append, if_true, if_false, and_self, and_true, true_and, or_self, or_true, true_or, false_or, or_false, i10, i00, i01, i11, Nat.reduceAdd, st1_0, st1_c, st1_1i, st1_1r, st1_1n, st1_1u, st1_1J, st2_0, st2_c, st2_1i, st2_1r, st2_1n, st2_1u, st2_1J]
end CBK
