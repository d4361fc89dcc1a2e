theorem numL_le {T : Nat → Int32} {n p : Nat} (hp : p ≤ n) : p + numL T n p ≤ n := by
  unfold numL
  split
  · rename_i h1
    split
    · rename_i h2
      have := h2.1
      omega
    · have := h1.1
      omega
  · omega
theorem numV_lt {T : Nat → Int32} {n p : Nat} : numV T n p < 100 := by
  unfold numV
  split
  · rename_i h1
    have e1 := (dg_val h1).2
    split
    · rename_i h2
      have e2 := (dg_val h2).2
      omega
    · omega
  · omega
section DM
variable {h : AH} {fa dB dL dC dR rd pg lt lm bg tr : Int32}
theorem r_readsNumber {l fr p n : Nat} {f ft : Nat → Int32} (hM : rO h 36 = some (11, mF fa dB dL dC dR (nI p) pg lt lm bg tr)) (a : rI h 57 = some (240, f)) (a4 : rI h 40 = some (4, ft)) (hl : l = 0 ∨ l = 1 ∨ l = 3) (hfr : fr + n ≤ 240) (hp : p ≤ n) : ∃ h1, Dif [36, 40] h h1 ∧ run 161 (0, [some (.ref 36), some (.int (nI l)), some (.int (nI fr)), some (.int (nI n)), none, none, none], [], h) = some (some (.int (if 0 < numL (fun x => f (fr + x)) n p ∧ okN l (numV (fun x => f (fr + x)) n p) then 1 else 0)), h1) ∧ rO h1 36 = some (11, mF fa dB dL dC dR (nI (if 0 < numL (fun x => f (fr + x)) n p ∧ okN l (numV (fun x => f (fr + x)) n p) then p + numL (fun x => f (fr + x)) n p else p)) pg lt lm bg tr) ∧ rI h1 40 = some (4, upd ft l (nI (numV (fun x => f (fr + x)) n p))) := by
  have st : run 161 (0, [some (.ref 36), some (.int (nI l)), some (.int (nI fr)), some (.int (nI n)), none, none, none], [], h) = run 161 (9, [some (.ref 36), some (.int (nI l)), some (.int (nI fr)), some (.int (nI n)), some (.int (nI p)), some (.int (nI 0)), none], [], h) := by
    simp only [uX12_readsNumber_0, uX12_readsNumber_1, uX12_readsNumber_4, uX12_readsNumber_6, uX12_readsNumber_7, uX12_readsNumber_10, uX12_readsNumber_13, uX12_readsNumber_14, uX12_readsNumber_17, uX12_readsNumber_18, uX12_readsNumber_21, uX12_readsNumber_23, uX12_readsNumber_24, uX12_readsNumber_25, uX12_readsNumber_28, uX12_readsNumber_29, uX12_readsNumber_32, uX12_readsNumber_33, uX12_readsNumber_34, uX12_readsNumber_37, uX12_readsNumber_38, uX12_readsNumber_39, uX12_readsNumber_40, uX12_readsNumber_43, uX12_readsNumber_46, uX12_readsNumber_49, uX12_readsNumber_52, uX12_readsNumber_54, uX12_readsNumber_56, uX12_readsNumber_57, uX12_readsNumber_58, uX12_readsNumber_61, uX12_readsNumber_62, uX12_readsNumber_63, uX12_readsNumber_66, uX12_readsNumber_67, uX12_readsNumber_68, uX12_readsNumber_69, uX12_readsNumber_71, uX12_readsNumber_72, uX12_readsNumber_74, uX12_readsNumber_75, uX12_readsNumber_76, uX12_readsNumber_79, uX12_readsNumber_80, uX12_readsNumber_81, uX12_readsNumber_84, uX12_readsNumber_87, uX12_readsNumber_88, uX12_readsNumber_91, uX12_readsNumber_92, uX12_readsNumber_93, uX12_readsNumber_96, uX12_readsNumber_98, uX12_readsNumber_99, uX12_readsNumber_100, uX12_readsNumber_103, uX12_readsNumber_106, uX12_readsNumber_109, uX12_readsNumber_112, uX12_readsNumber_114, uX12_readsNumber_115, uX12_readsNumber_118, uX12_readsNumber_119, uX12_readsNumber_122, uX12_readsNumber_123, uX12_readsNumber_125, uX12_readsNumber_126, uX12_readsNumber_129, uX12_readsNumber_131, uX12_readsNumber_134, uX12_readsNumber_136, uX12_readsNumber_139, uX12_readsNumber_140, uX12_readsNumber_142, uX12_readsNumber_145, uX12_readsNumber_146, uX12_readsNumber_149, uX12_readsNumber_150, uX12_readsNumber_152, uX12_readsNumber_153, uX12_readsNumber_154, uX12_readsNumber_157, uX12_readsNumber_159, uX12_readsNumber_162, uX12_readsNumber_163, uX12_readsNumber_166, uX12_readsNumber_167, gM0 hM, gM1 hM, gM2 hM, gM3 hM, gM4 hM, gM5 hM, gM6 hM, gM7 hM, gM8 hM, gM9 hM, gM10 hM, gM11 hM, gM12 hM, gM13 hM, gM14 hM, gM15 hM, gM16 hM, gM17 hM, gM18 hM, gM19 hM, gM20 hM, gM21 hM, gM22 hM, gM23 hM, gM24 hM, gM25 hM, gM26 hM, gM27 hM, gM28 hM, gM29 hM, gM30 hM, gM31 hM, gM32 hM, vM hM, Option.bind_some, Option.toList_some, Option.toList_none, List.cons_append, List.nil_append, Nat.reduceAdd, st1_0, st1_c, st1_1i, st1_1r, st1_1n, st1_1u, st1_1J, st2_0, st2_c, st2_1i, st2_1r, st2_1n, st2_1u, st2_1J]
    rfl
  have e2 : nI p + 2 = nI (p + 2) := nI_add p 2
  rw [st]
  by_cases d1 : dg (fun x => f (fr + x)) n p
  · have s1 := r_rn_go (l := nI l) (s := nI p) (v := 0) hM a hfr (by omega) (by rw [e2]; exact nI_lt (by omega) (by omega)) d1 none
    have hM1 : rO (sf h 36 9 (.int (nI (p + 1)))) 36 = some (11, mF fa dB dL dC dR (nI (p + 1)) pg lt lm bg tr) := sM9 hM
    have a1 : rI (sf h 36 9 (.int (nI (p + 1)))) 57 = some (240, f) := by rw [rI_sf, a]
    have a41 : rI (sf h 36 9 (.int (nI (p + 1)))) 40 = some (4, ft) := by rw [rI_sf, a4]
    have b1 := (dg_val d1).2
    rw [s1]
    by_cases d2 : dg (fun x => f (fr + x)) n (p + 1)
    · have b2 := (dg_val d2).2
      have s2 := r_rn_go (l := nI l) (s := nI p) (v := 10 * 0 + dvN (f (fr + p))) hM1 a1 hfr (by omega) (by rw [e2]; exact nI_lt (by omega) (by omega)) d2 none
      have hM2 : rO (sf (sf h 36 9 (.int (nI (p + 1)))) 36 9 (.int (nI (p + 1 + 1)))) 36 = some (11, mF fa dB dL dC dR (nI (p + 1 + 1)) pg lt lm bg tr) := sM9 hM1
      have a2 : rI (sf (sf h 36 9 (.int (nI (p + 1)))) 36 9 (.int (nI (p + 1 + 1)))) 57 = some (240, f) := by rw [rI_sf, a1]
      have a42 : rI (sf (sf h 36 9 (.int (nI (p + 1)))) 36 9 (.int (nI (p + 1 + 1)))) 40 = some (4, ft) := by rw [rI_sf, a41]
      have s3 := r_rn_stop (l := nI l) (n0 := nI n) (s := nI p) (v := nI (10 * (10 * 0 + dvN (f (fr + p))) + dvN (f (fr + (p + 1))))) hM2 a2 hfr rfl (by omega) (fun q => absurd q (by rw [e2]; exact nI_nlt (by omega) (by omega))) none
      rw [s2, s3]
      have b1' : dvN (f (fr + p)) ≤ 9 := b1
      have b2' : dvN (f (fr + (p + 1))) ≤ 9 := b2
      obtain ⟨h1, D, e, o, r⟩ := r_rn_tail (fr := nI fr) (n := nI n) (l := l) (s := p) (r := p + 1 + 1) (v := 10 * (10 * 0 + dvN (f (fr + p))) + dvN (f (fr + (p + 1)))) hM2 a42 hl (by omega) (by omega) (by omega) none
      have E1 : numL (fun x => f (fr + x)) n p = 2 := by unfold numL; rw [if_pos d1, if_pos d2]
      have E2 : numV (fun x => f (fr + x)) n p = 10 * (10 * 0 + dvN (f (fr + p))) + dvN (f (fr + (p + 1))) := by unfold numV; rw [if_pos d1, if_pos d2]; simp only; omega
      refine ⟨h1, difT (difSf (by decide)) (difT (difSf (by decide)) D), ?_⟩
      rw [E1, E2]
      have ec : (p < p + 1 + 1 ∧ okN l (10 * (10 * 0 + dvN (f (fr + p))) + dvN (f (fr + (p + 1))))) ↔ (0 < 2 ∧ okN l (10 * (10 * 0 + dvN (f (fr + p))) + dvN (f (fr + (p + 1))))) := ⟨fun q => ⟨by omega, q.2⟩, fun q => ⟨by omega, q.2⟩⟩
      simp only [ec] at e o
      exact ⟨e, o, r⟩
    · have s3 := r_rn_stop (l := nI l) (n0 := nI n) (s := nI p) (v := nI (10 * 0 + dvN (f (fr + p)))) hM1 a1 hfr rfl (by omega) (fun _ => d2) none
      rw [s3]
      have b1' : dvN (f (fr + p)) ≤ 9 := b1
      obtain ⟨h1, D, e, o, r⟩ := r_rn_tail (fr := nI fr) (n := nI n) (l := l) (s := p) (r := p + 1) (v := 10 * 0 + dvN (f (fr + p))) hM1 a41 hl (by omega) (by omega) (by omega) none
      have E1 : numL (fun x => f (fr + x)) n p = 1 := by unfold numL; rw [if_pos d1, if_neg d2]
      have E2 : numV (fun x => f (fr + x)) n p = 10 * 0 + dvN (f (fr + p)) := by unfold numV; rw [if_pos d1, if_neg d2]; simp only; omega
      refine ⟨h1, difT (difSf (by decide)) D, ?_⟩
      rw [E1, E2]
      have ec : (p < p + 1 ∧ okN l (10 * 0 + dvN (f (fr + p)))) ↔ (0 < 1 ∧ okN l (10 * 0 + dvN (f (fr + p)))) := ⟨fun q => ⟨by omega, q.2⟩, fun q => ⟨by omega, q.2⟩⟩
      simp only [ec] at e o
      exact ⟨e, o, r⟩
  · have s3 := r_rn_stop (l := nI l) (n0 := nI n) (s := nI p) (v := nI 0) hM a hfr rfl (by omega) (fun _ => d1) none
    rw [s3]
    obtain ⟨h1, D, e, o, r⟩ := r_rn_tail (fr := nI fr) (n := nI n) (l := l) (s := p) (r := p) (v := 0) hM a4 hl (by omega) (by omega) (by omega) none
    have E1 : numL (fun x => f (fr + x)) n p = 0 := by unfold numL; rw [if_neg d1]
    have E2 : numV (fun x => f (fr + x)) n p = 0 := by unfold numV; rw [if_neg d1]
    refine ⟨h1, D, ?_⟩
    rw [E1, E2]
    have ec : ¬ (p < p ∧ okN l 0) := fun q => absurd q.1 (by omega)
    have ec2 : ¬ (0 < 0 ∧ okN l 0) := fun q => absurd q.1 (by omega)
    rw [if_neg ec] at e o
    rw [if_neg ec2, if_neg ec2]
    exact ⟨e, o, r⟩
def letF (x : Int32) : Option Nat := if x = 98 then some 0 else if x = 108 then some 1 else if x = 99 then some 2 else if x = 114 then some 3 else none
theorem letF_lt {x : Int32} {l : Nat} (hl : letF x = some l) : l < 4 := by
  unfold letF at hl
  split at hl
  · cases hl; decide
  · split at hl
    · cases hl; decide
    · split at hl
      · cases hl; decide
      · split at hl
        · cases hl; decide
        · cases hl
theorem r_letterOf {x : Int32} : run 160 (0, [some (.int x)], [], h) = some (some (.int (szI (letF x))), h) := by
  unfold letF
  by_cases h1 : x = 98
  · simp only [uX12_letterOf_0, uX12_letterOf_1, uX12_letterOf_3, uX12_letterOf_6, uX12_letterOf_7, uX12_letterOf_10, uX12_letterOf_11, uX12_letterOf_13, uX12_letterOf_16, uX12_letterOf_17, uX12_letterOf_20, uX12_letterOf_21, uX12_letterOf_23, uX12_letterOf_26, uX12_letterOf_27, uX12_letterOf_30, uX12_letterOf_31, uX12_letterOf_33, uX12_letterOf_36, uX12_letterOf_37, uX12_letterOf_40, uX12_letterOf_41, h1, szI, Option.bind_some, Option.toList_some, Option.toList_none, List.cons_append, List.nil_append, if_true, if_false, and_self, and_true, true_and, or_self, or_true, true_or, false_or, or_false, i10, i00, i01, i11]
    rfl
  · by_cases h2 : x = 108
    · have e1 : ((108 : Int32) = 98) = False := eq_false (by decide)
      simp only [uX12_letterOf_0, uX12_letterOf_1, uX12_letterOf_3, uX12_letterOf_6, uX12_letterOf_7, uX12_letterOf_10, uX12_letterOf_11, uX12_letterOf_13, uX12_letterOf_16, uX12_letterOf_17, uX12_letterOf_20, uX12_letterOf_21, uX12_letterOf_23, uX12_letterOf_26, uX12_letterOf_27, uX12_letterOf_30, uX12_letterOf_31, uX12_letterOf_33, uX12_letterOf_36, uX12_letterOf_37, uX12_letterOf_40, uX12_letterOf_41, h2, e1, szI, Option.bind_some, Option.toList_some, Option.toList_none, List.cons_append, List.nil_append, if_true, if_false, and_self, and_true, true_and, or_self, or_true, true_or, false_or, or_false, i10, i00, i01, i11]
      rfl
    · by_cases h3 : x = 99
      · have e1 : ((99 : Int32) = 98) = False := eq_false (by decide)
        have e2 : ((99 : Int32) = 108) = False := eq_false (by decide)
        simp only [uX12_letterOf_0, uX12_letterOf_1, uX12_letterOf_3, uX12_letterOf_6, uX12_letterOf_7, uX12_letterOf_10, uX12_letterOf_11, uX12_letterOf_13, uX12_letterOf_16, uX12_letterOf_17, uX12_letterOf_20, uX12_letterOf_21, uX12_letterOf_23, uX12_letterOf_26, uX12_letterOf_27, uX12_letterOf_30, uX12_letterOf_31, uX12_letterOf_33, uX12_letterOf_36, uX12_letterOf_37, uX12_letterOf_40, uX12_letterOf_41, h3, e1, e2, szI, Option.bind_some, Option.toList_some, Option.toList_none, List.cons_append, List.nil_append, if_true, if_false, and_self, and_true, true_and, or_self, or_true, true_or, false_or, or_false, i10, i00, i01, i11]
        rfl
      · by_cases h4 : x = 114
        · have e1 : ((114 : Int32) = 98) = False := eq_false (by decide)
          have e2 : ((114 : Int32) = 108) = False := eq_false (by decide)
          have e3 : ((114 : Int32) = 99) = False := eq_false (by decide)
          simp only [uX12_letterOf_0, uX12_letterOf_1, uX12_letterOf_3, uX12_letterOf_6, uX12_letterOf_7, uX12_letterOf_10, uX12_letterOf_11, uX12_letterOf_13, uX12_letterOf_16, uX12_letterOf_17, uX12_letterOf_20, uX12_letterOf_21, uX12_letterOf_23, uX12_letterOf_26, uX12_letterOf_27, uX12_letterOf_30, uX12_letterOf_31, uX12_letterOf_33, uX12_letterOf_36, uX12_letterOf_37, uX12_letterOf_40, uX12_letterOf_41, h4, e1, e2, e3, szI, Option.bind_some, Option.toList_some, Option.toList_none, List.cons_append, List.nil_append, if_true, if_false, and_self, and_true, true_and, or_self, or_true, true_or, false_or, or_false, i10, i00, i01, i11]
          rfl
        · simp only [uX12_letterOf_0, uX12_letterOf_1, uX12_letterOf_3, uX12_letterOf_6, uX12_letterOf_7, uX12_letterOf_10, uX12_letterOf_11, uX12_letterOf_13, uX12_letterOf_16, uX12_letterOf_17, uX12_letterOf_20, uX12_letterOf_21, uX12_letterOf_23, uX12_letterOf_26, uX12_letterOf_27, uX12_letterOf_30, uX12_letterOf_31, uX12_letterOf_33, uX12_letterOf_36, uX12_letterOf_37, uX12_letterOf_40, uX12_letterOf_41, h1, h2, h3, h4, szI, Option.bind_some, Option.toList_some, Option.toList_none, List.cons_append, List.nil_append, if_true, if_false, and_self, and_true, true_and, or_self, or_true, true_or, false_or, or_false, i10, i00, i01, i11]
def itF (T : Nat → Int32) (n : Nat) (t : Nat → Option Nat) (p : Nat) : Nat ⊕ (Nat × Nat × Nat) := if p < n then (match letF (T p) with
    | none => .inl p
    | some l => if (t l).isSome then .inl p else if l = 2 then .inr (p + 1, 2, 1) else if 0 < numL T n (p + 1) ∧ okN l (numV T n (p + 1)) then .inr (p + 1 + numL T n (p + 1), l, numV T n (p + 1)) else .inl (p + 1)) else .inl p
def updO (t : Nat → Option Nat) (l v : Nat) : Nat → Option Nat := fun q => if q = l then some v else t q
theorem r_rd_item {fr n p : Nat} {f ft : Nat → Int32} {t : Nat → Option Nat} (hM : rO h 36 = some (11, mF fa dB dL dC dR (nI p) pg lt lm bg tr)) (a : rI h 57 = some (240, f)) (a4 : rI h 40 = some (4, ft)) (ht : ∀ l, l < 4 → ft l = oN (t l)) (htb : ∀ l v, t l = some v → v < 100) (hfr : fr + n ≤ 240) (hp : p ≤ n) (L4 : Option Value) : ∃ h1 ft1, Dif [36, 40] h h1 ∧ rI h1 40 = some (4, ft1) ∧ match itF (fun x => f (fr + x)) n t p with
    | .inl q => run 162 (36, [some (.ref 36), some (.int (nI fr)), some (.int (nI n)), some (.int 1), L4], [], h) = some (some (.int (nI q)), h1) ∧ rO h1 36 = some (11, mF fa dB dL dC dR (nI q) pg lt lm bg tr)
    | .inr q => run 162 (36, [some (.ref 36), some (.int (nI fr)), some (.int (nI n)), some (.int 1), L4], [], h) = run 162 (130, [some (.ref 36), some (.int (nI fr)), some (.int (nI n)), some (.int 1), some (.int (nI q.2.1))], [], h1) ∧ rO h1 36 = some (11, mF fa dB dL dC dR (nI q.1) pg lt lm bg tr) ∧ (∀ l, l < 4 → ft1 l = oN (updO t q.2.1 q.2.2 l)) ∧ q.1 ≤ n ∧ q.2.2 < 100 ∧ q.2.1 < 4 ∧ t q.2.1 = none := by
  unfold itF
  have m1 : (-1 : Int32) < 0 := by decide
  by_cases hpn : p < n
  · rw [if_pos hpn]
    have c1 : ¬ nI n ≤ nI p := nI_ge hpn (by omega)
    have g1 : gi h 57 (nI (fr + p)) = some (f (fr + p)) := gi_nI a (by omega) (by decide)
    cases hl : letF (f (fr + p)) with
    | none =>
      refine ⟨h, ft, difR, a4, ?_, hM⟩
      rw [uX12_readDrill_36]
      simp only [uX12_readDrill_0, uX12_readDrill_1, uX12_readDrill_2, uX12_readDrill_5, uX12_readDrill_6, uX12_readDrill_7, uX12_readDrill_8, uX12_readDrill_9, uX12_readDrill_12, uX12_readDrill_13, uX12_readDrill_16, uX12_readDrill_17, uX12_readDrill_19, uX12_readDrill_20, uX12_readDrill_23, uX12_readDrill_26, uX12_readDrill_27, uX12_readDrill_30, uX12_readDrill_31, uX12_readDrill_34, uX12_readDrill_35, uX12_readDrill_37, uX12_readDrill_40, uX12_readDrill_41, uX12_readDrill_44, uX12_readDrill_45, uX12_readDrill_48, uX12_readDrill_49, uX12_readDrill_52, uX12_readDrill_53, uX12_readDrill_54, uX12_readDrill_57, uX12_readDrill_58, uX12_readDrill_59, uX12_readDrill_62, uX12_readDrill_65, uX12_readDrill_66, uX12_readDrill_68, uX12_readDrill_70, uX12_readDrill_73, uX12_readDrill_74, uX12_readDrill_77, uX12_readDrill_79, uX12_readDrill_80, uX12_readDrill_83, uX12_readDrill_84, uX12_readDrill_87, uX12_readDrill_88, uX12_readDrill_89, uX12_readDrill_90, uX12_readDrill_93, uX12_readDrill_94, uX12_readDrill_95, uX12_readDrill_98, uX12_readDrill_100, uX12_readDrill_101, uX12_readDrill_104, uX12_readDrill_105, uX12_readDrill_108, uX12_readDrill_109, uX12_readDrill_110, uX12_readDrill_111, uX12_readDrill_114, uX12_readDrill_115, uX12_readDrill_117, uX12_readDrill_118, uX12_readDrill_119, uX12_readDrill_122, uX12_readDrill_125, uX12_readDrill_126, uX12_readDrill_129, uX12_readDrill_131, uX12_readDrill_134, uX12_readDrill_135, uX12_readDrill_138, uX12_readDrill_139, uX12_readDrill_142, uX12_readDrill_143, uX12_readDrill_144, uX12_readDrill_145, uX12_readDrill_148, uX12_readDrill_149, uX12_readDrill_152, uX12_readDrill_153, uX12_readDrill_154, uX12_readDrill_157, uX12_readDrill_158, uX12_readDrill_159, uX12_readDrill_161, uX12_readDrill_164, uX12_readDrill_165, uX12_readDrill_168, uX12_readDrill_169, uX12_readDrill_170, uX12_readDrill_173, uX12_readDrill_174, uX12_readDrill_177, uX12_readDrill_178, uX12_readDrill_179, uX12_readDrill_182, uX12_readDrill_183, uX12_readDrill_186, uX12_readDrill_187, uX12_readDrill_188, uX12_readDrill_191, uX12_readDrill_192, uX12_readDrill_195, uX12_readDrill_196, uX12_readDrill_197, uX12_readDrill_200, uX12_readDrill_201, uX12_readDrill_204, uX12_readDrill_205, uX12_readDrill_206, uX12_readDrill_207, uX12_readDrill_210, uX12_readDrill_211, uX12_readDrill_212, uX12_readDrill_215, uX12_readDrill_218, uX12_readDrill_219, gM0 hM, gM1 hM, gM2 hM, gM3 hM, gM4 hM, gM5 hM, gM6 hM, gM7 hM, gM8 hM, gM9 hM, gM10 hM, gM11 hM, gM12 hM, gM13 hM, gM14 hM, gM15 hM, gM16 hM, gM17 hM, gM18 hM, gM19 hM, gM20 hM, gM21 hM, gM22 hM, gM23 hM, gM24 hM, gM25 hM, gM26 hM, gM27 hM, gM28 hM, gM29 hM, gM30 hM, gM31 hM, gM32 hM, vM hM, c1, nI_add, g1, r_letterOf, hl, szI, m1, Option.bind_some, Option.toList_some, Option.toList_none, List.cons_append, List.nil_append, if_true, if_false, and_self, and_true, true_and, or_self, or_true, true_or, false_or, or_false, i10, i00, i01, i11, Nat.reduceAdd, st1_0, st1_c, st1_1i, st1_1r, st1_1n, st1_1u, st1_1J, st2_0, st2_c, st2_1i, st2_1r, st2_1n, st2_1u, st2_1J]
    | some l =>
      have hl4 := letF_lt hl
      have c2 : ¬ nI l < 0 := nI_pos (by omega)
      have g2 : gi h 40 (nI l) = some (oN (t l)) := by rw [gi_nI a4 hl4 (by decide), ht l hl4]
      by_cases htl : (t l).isSome
      · show ∃ h1 ft1, _ ∧ _ ∧ match (if (t l).isSome then _ else _ : Nat ⊕ (Nat × Nat × Nat)) with | .inl q => _ | .inr q => _
        simp only [if_pos htl]
        obtain ⟨v, hv⟩ := Option.isSome_iff_exists.mp htl
        have hvb := htb l v hv
        have c3 : ¬ oN (some v) < 0 := nI_pos (by omega)
        rw [hv] at g2
        refine ⟨h, ft, difR, a4, ?_, hM⟩
        rw [uX12_readDrill_36]
        simp only [uX12_readDrill_0, uX12_readDrill_1, uX12_readDrill_2, uX12_readDrill_5, uX12_readDrill_6, uX12_readDrill_7, uX12_readDrill_8, uX12_readDrill_9, uX12_readDrill_12, uX12_readDrill_13, uX12_readDrill_16, uX12_readDrill_17, uX12_readDrill_19, uX12_readDrill_20, uX12_readDrill_23, uX12_readDrill_26, uX12_readDrill_27, uX12_readDrill_30, uX12_readDrill_31, uX12_readDrill_34, uX12_readDrill_35, uX12_readDrill_37, uX12_readDrill_40, uX12_readDrill_41, uX12_readDrill_44, uX12_readDrill_45, uX12_readDrill_48, uX12_readDrill_49, uX12_readDrill_52, uX12_readDrill_53, uX12_readDrill_54, uX12_readDrill_57, uX12_readDrill_58, uX12_readDrill_59, uX12_readDrill_62, uX12_readDrill_65, uX12_readDrill_66, uX12_readDrill_68, uX12_readDrill_70, uX12_readDrill_73, uX12_readDrill_74, uX12_readDrill_77, uX12_readDrill_79, uX12_readDrill_80, uX12_readDrill_83, uX12_readDrill_84, uX12_readDrill_87, uX12_readDrill_88, uX12_readDrill_89, uX12_readDrill_90, uX12_readDrill_93, uX12_readDrill_94, uX12_readDrill_95, uX12_readDrill_98, uX12_readDrill_100, uX12_readDrill_101, uX12_readDrill_104, uX12_readDrill_105, uX12_readDrill_108, uX12_readDrill_109, uX12_readDrill_110, uX12_readDrill_111, uX12_readDrill_114, uX12_readDrill_115, uX12_readDrill_117, uX12_readDrill_118, uX12_readDrill_119, uX12_readDrill_122, uX12_readDrill_125, uX12_readDrill_126, uX12_readDrill_129, uX12_readDrill_131, uX12_readDrill_134, uX12_readDrill_135, uX12_readDrill_138, uX12_readDrill_139, uX12_readDrill_142, uX12_readDrill_143, uX12_readDrill_144, uX12_readDrill_145, uX12_readDrill_148, uX12_readDrill_149, uX12_readDrill_152, uX12_readDrill_153, uX12_readDrill_154, uX12_readDrill_157, uX12_readDrill_158, uX12_readDrill_159, uX12_readDrill_161, uX12_readDrill_164, uX12_readDrill_165, uX12_readDrill_168, uX12_readDrill_169, uX12_readDrill_170, uX12_readDrill_173, uX12_readDrill_174, uX12_readDrill_177, uX12_readDrill_178, uX12_readDrill_179, uX12_readDrill_182, uX12_readDrill_183, uX12_readDrill_186, uX12_readDrill_187, uX12_readDrill_188, uX12_readDrill_191, uX12_readDrill_192, uX12_readDrill_195, uX12_readDrill_196, uX12_readDrill_197, uX12_readDrill_200, uX12_readDrill_201, uX12_readDrill_204, uX12_readDrill_205, uX12_readDrill_206, uX12_readDrill_207, uX12_readDrill_210, uX12_readDrill_211, uX12_readDrill_212, uX12_readDrill_215, uX12_readDrill_218, uX12_readDrill_219, gM0 hM, gM1 hM, gM2 hM, gM3 hM, gM4 hM, gM5 hM, gM6 hM, gM7 hM, gM8 hM, gM9 hM, gM10 hM, gM11 hM, gM12 hM, gM13 hM, gM14 hM, gM15 hM, gM16 hM, gM17 hM, gM18 hM, gM19 hM, gM20 hM, gM21 hM, gM22 hM, gM23 hM, gM24 hM, gM25 hM, gM26 hM, gM27 hM, gM28 hM, gM29 hM, gM30 hM, gM31 hM, gM32 hM, vM hM, c1, nI_add, g1, r_letterOf, hl, szI, c2, g2, c3, Option.bind_some, Option.toList_some, Option.toList_none, List.cons_append, List.nil_append, if_true, if_false, and_self, and_true, true_and, or_self, or_true, true_or, false_or, or_false, i10, i00, i01, i11, Nat.reduceAdd, st1_0, st1_c, st1_1i, st1_1r, st1_1n, st1_1u, st1_1J, st2_0, st2_c, st2_1i, st2_1r, st2_1n, st2_1u, st2_1J]
      · show ∃ h1 ft1, _ ∧ _ ∧ match (if (t l).isSome then _ else _ : Nat ⊕ (Nat × Nat × Nat)) with | .inl q => _ | .inr q => _
        simp only [if_neg htl]
        have hv : t l = none := by simpa using htl
        have c3 : oN none < 0 := by decide
        rw [hv] at g2
        have hM1 : rO (sf h 36 9 (.int (nI (p + 1)))) 36 = some (11, mF fa dB dL dC dR (nI (p + 1)) pg lt lm bg tr) := sM9 hM
        have a1 : rI (sf h 36 9 (.int (nI (p + 1)))) 57 = some (240, f) := by rw [rI_sf, a]
        have a41 : rI (sf h 36 9 (.int (nI (p + 1)))) 40 = some (4, ft) := by rw [rI_sf, a4]
        by_cases hl2 : l = 2
        · subst hl2
          simp only [if_pos rfl]
          have p1 : pi (sf h 36 9 (.int (nI (p + 1)))) 40 2 1 = some (si (sf h 36 9 (.int (nI (p + 1)))) 40 2 1) := pi_si (k := 2) (by decide) a41 (by decide) (by decide)
          have z : (nI 2 = 2) = True := eq_true (by decide)
          refine ⟨si (sf h 36 9 (.int (nI (p + 1)))) 40 2 1, upd ft 2 1, difT (difSf (by decide)) (difSi (by decide)), by rw [rI_si, if_pos rfl, a41]; rfl, ?_, by rw [rO_si, hM1], ?_, by omega, (show (1 : Nat) < 100 by decide), (show (2 : Nat) < 4 by decide), hv⟩
          · rw [uX12_readDrill_36]
            simp only [uX12_readDrill_0, uX12_readDrill_1, uX12_readDrill_2, uX12_readDrill_5, uX12_readDrill_6, uX12_readDrill_7, uX12_readDrill_8, uX12_readDrill_9, uX12_readDrill_12, uX12_readDrill_13, uX12_readDrill_16, uX12_readDrill_17, uX12_readDrill_19, uX12_readDrill_20, uX12_readDrill_23, uX12_readDrill_26, uX12_readDrill_27, uX12_readDrill_30, uX12_readDrill_31, uX12_readDrill_34, uX12_readDrill_35, uX12_readDrill_37, uX12_readDrill_40, uX12_readDrill_41, uX12_readDrill_44, uX12_readDrill_45, uX12_readDrill_48, uX12_readDrill_49, uX12_readDrill_52, uX12_readDrill_53, uX12_readDrill_54, uX12_readDrill_57, uX12_readDrill_58, uX12_readDrill_59, uX12_readDrill_62, uX12_readDrill_65, uX12_readDrill_66, uX12_readDrill_68, uX12_readDrill_70, uX12_readDrill_73, uX12_readDrill_74, uX12_readDrill_77, uX12_readDrill_79, uX12_readDrill_80, uX12_readDrill_83, uX12_readDrill_84, uX12_readDrill_87, uX12_readDrill_88, uX12_readDrill_89, uX12_readDrill_90, uX12_readDrill_93, uX12_readDrill_94, uX12_readDrill_95, uX12_readDrill_98, uX12_readDrill_100, uX12_readDrill_101, uX12_readDrill_104, uX12_readDrill_105, uX12_readDrill_108, uX12_readDrill_109, uX12_readDrill_110, uX12_readDrill_111, uX12_readDrill_114, uX12_readDrill_115, uX12_readDrill_117, uX12_readDrill_118, uX12_readDrill_119, uX12_readDrill_122, uX12_readDrill_125, uX12_readDrill_126, uX12_readDrill_129, uX12_readDrill_131, uX12_readDrill_134, uX12_readDrill_135, uX12_readDrill_138, uX12_readDrill_139, uX12_readDrill_142, uX12_readDrill_143, uX12_readDrill_144, uX12_readDrill_145, uX12_readDrill_148, uX12_readDrill_149, uX12_readDrill_152, uX12_readDrill_153, uX12_readDrill_154, uX12_readDrill_157, uX12_readDrill_158, uX12_readDrill_159, uX12_readDrill_161, uX12_readDrill_164, uX12_readDrill_165, uX12_readDrill_168, uX12_readDrill_169, uX12_readDrill_170, uX12_readDrill_173, uX12_readDrill_174, uX12_readDrill_177, uX12_readDrill_178, uX12_readDrill_179, uX12_readDrill_182, uX12_readDrill_183, uX12_readDrill_186, uX12_readDrill_187, uX12_readDrill_188, uX12_readDrill_191, uX12_readDrill_192, uX12_readDrill_195, uX12_readDrill_196, uX12_readDrill_197, uX12_readDrill_200, uX12_readDrill_201, uX12_readDrill_204, uX12_readDrill_205, uX12_readDrill_206, uX12_readDrill_207, uX12_readDrill_210, uX12_readDrill_211, uX12_readDrill_212, uX12_readDrill_215, uX12_readDrill_218, uX12_readDrill_219, gM0 hM, gM1 hM, gM2 hM, gM3 hM, gM4 hM, gM5 hM, gM6 hM, gM7 hM, gM8 hM, gM9 hM, gM10 hM, gM11 hM, gM12 hM, gM13 hM, gM14 hM, gM15 hM, gM16 hM, gM17 hM, gM18 hM, gM19 hM, gM20 hM, gM21 hM, gM22 hM, gM23 hM, gM24 hM, gM25 hM, gM26 hM, gM27 hM, gM28 hM, gM29 hM, gM30 hM, gM31 hM, gM32 hM, vM hM, gM0 hM1, gM1 hM1, gM2 hM1, gM3 hM1, gM4 hM1, gM5 hM1, gM6 hM1, gM7 hM1, gM8 hM1, gM9 hM1, gM10 hM1, gM11 hM1, gM12 hM1, gM13 hM1, gM14 hM1, gM15 hM1, gM16 hM1, gM17 hM1, gM18 hM1, gM19 hM1, gM20 hM1, gM21 hM1, gM22 hM1, gM23 hM1, gM24 hM1, gM25 hM1, gM26 hM1, gM27 hM1, gM28 hM1, gM29 hM1, gM30 hM1, gM31 hM1, gM32 hM1, vM hM1, c1, nI_add, g1, r_letterOf, hl, szI, c2, g2, c3, nI_1, pM9 hM, z, p1, Option.bind_some, Option.toList_some, Option.toList_none, List.cons_append, List.nil_append, if_true, if_false, and_self, and_true, true_and, or_self, or_true, true_or, false_or, or_false, i10, i00, i01, i11, Nat.reduceAdd, st1_0, st1_c, st1_1i, st1_1r, st1_1n, st1_1u, st1_1J, st2_0, st2_c, st2_1i, st2_1r, st2_1n, st2_1u, st2_1J]
          · intro q hq
            show (if q = 2 then (1 : Int32) else ft q) = oN (if q = 2 then some 1 else t q)
            by_cases e : q = 2
            · rw [if_pos e, if_pos e]
              rfl
            · rw [if_neg e, if_neg e, ht q hq]
        · simp only [if_neg hl2]
          have hl3 : l = 0 ∨ l = 1 ∨ l = 3 := by omega
          have z : (nI l = 2) = False := eq_false (fun q => hl2 ((nI_eq (b := 2) (by omega) (by decide)).mp q))
          obtain ⟨h1, D, e, o, r⟩ := r_readsNumber hM1 a1 a41 hl3 hfr (show p + 1 ≤ n by omega)
          have hle := numL_le (T := fun x => f (fr + x)) (show p + 1 ≤ n by omega)
          have hvl := numV_lt (T := fun x => f (fr + x)) (n := n) (p := p + 1)
          by_cases hg : 0 < numL (fun x => f (fr + x)) n (p + 1) ∧ okN l (numV (fun x => f (fr + x)) n (p + 1))
          · rw [if_pos hg] at e o
            simp only [if_pos hg]
            refine ⟨h1, _, difT (difSf (by decide)) D, r, ?_, o, ?_, hle, hvl, hl4, hv⟩
            · rw [uX12_readDrill_36]
              simp only [uX12_readDrill_0, uX12_readDrill_1, uX12_readDrill_2, uX12_readDrill_5, uX12_readDrill_6, uX12_readDrill_7, uX12_readDrill_8, uX12_readDrill_9, uX12_readDrill_12, uX12_readDrill_13, uX12_readDrill_16, uX12_readDrill_17, uX12_readDrill_19, uX12_readDrill_20, uX12_readDrill_23, uX12_readDrill_26, uX12_readDrill_27, uX12_readDrill_30, uX12_readDrill_31, uX12_readDrill_34, uX12_readDrill_35, uX12_readDrill_37, uX12_readDrill_40, uX12_readDrill_41, uX12_readDrill_44, uX12_readDrill_45, uX12_readDrill_48, uX12_readDrill_49, uX12_readDrill_52, uX12_readDrill_53, uX12_readDrill_54, uX12_readDrill_57, uX12_readDrill_58, uX12_readDrill_59, uX12_readDrill_62, uX12_readDrill_65, uX12_readDrill_66, uX12_readDrill_68, uX12_readDrill_70, uX12_readDrill_73, uX12_readDrill_74, uX12_readDrill_77, uX12_readDrill_79, uX12_readDrill_80, uX12_readDrill_83, uX12_readDrill_84, uX12_readDrill_87, uX12_readDrill_88, uX12_readDrill_89, uX12_readDrill_90, uX12_readDrill_93, uX12_readDrill_94, uX12_readDrill_95, uX12_readDrill_98, uX12_readDrill_100, uX12_readDrill_101, uX12_readDrill_104, uX12_readDrill_105, uX12_readDrill_108, uX12_readDrill_109, uX12_readDrill_110, uX12_readDrill_111, uX12_readDrill_114, uX12_readDrill_115, uX12_readDrill_117, uX12_readDrill_118, uX12_readDrill_119, uX12_readDrill_122, uX12_readDrill_125, uX12_readDrill_126, uX12_readDrill_129, uX12_readDrill_131, uX12_readDrill_134, uX12_readDrill_135, uX12_readDrill_138, uX12_readDrill_139, uX12_readDrill_142, uX12_readDrill_143, uX12_readDrill_144, uX12_readDrill_145, uX12_readDrill_148, uX12_readDrill_149, uX12_readDrill_152, uX12_readDrill_153, uX12_readDrill_154, uX12_readDrill_157, uX12_readDrill_158, uX12_readDrill_159, uX12_readDrill_161, uX12_readDrill_164, uX12_readDrill_165, uX12_readDrill_168, uX12_readDrill_169, uX12_readDrill_170, uX12_readDrill_173, uX12_readDrill_174, uX12_readDrill_177, uX12_readDrill_178, uX12_readDrill_179, uX12_readDrill_182, uX12_readDrill_183, uX12_readDrill_186, uX12_readDrill_187, uX12_readDrill_188, uX12_readDrill_191, uX12_readDrill_192, uX12_readDrill_195, uX12_readDrill_196, uX12_readDrill_197, uX12_readDrill_200, uX12_readDrill_201, uX12_readDrill_204, uX12_readDrill_205, uX12_readDrill_206, uX12_readDrill_207, uX12_readDrill_210, uX12_readDrill_211, uX12_readDrill_212, uX12_readDrill_215, uX12_readDrill_218, uX12_readDrill_219, gM0 hM, gM1 hM, gM2 hM, gM3 hM, gM4 hM, gM5 hM, gM6 hM, gM7 hM, gM8 hM, gM9 hM, gM10 hM, gM11 hM, gM12 hM, gM13 hM, gM14 hM, gM15 hM, gM16 hM, gM17 hM, gM18 hM, gM19 hM, gM20 hM, gM21 hM, gM22 hM, gM23 hM, gM24 hM, gM25 hM, gM26 hM, gM27 hM, gM28 hM, gM29 hM, gM30 hM, gM31 hM, gM32 hM, vM hM, gM0 hM1, gM1 hM1, gM2 hM1, gM3 hM1, gM4 hM1, gM5 hM1, gM6 hM1, gM7 hM1, gM8 hM1, gM9 hM1, gM10 hM1, gM11 hM1, gM12 hM1, gM13 hM1, gM14 hM1, gM15 hM1, gM16 hM1, gM17 hM1, gM18 hM1, gM19 hM1, gM20 hM1, gM21 hM1, gM22 hM1, gM23 hM1, gM24 hM1, gM25 hM1, gM26 hM1, gM27 hM1, gM28 hM1, gM29 hM1, gM30 hM1, gM31 hM1, gM32 hM1, vM hM1, c1, nI_add, g1, r_letterOf, hl, szI, c2, g2, c3, nI_1, pM9 hM, z, e, Option.bind_some, Option.toList_some, Option.toList_none, List.cons_append, List.nil_append, if_true, if_false, and_self, and_true, true_and, or_self, or_true, true_or, false_or, or_false, i10, i00, i01, i11, Nat.reduceAdd, st1_0, st1_c, st1_1i, st1_1r, st1_1n, st1_1u, st1_1J, st2_0, st2_c, st2_1i, st2_1r, st2_1n, st2_1u, st2_1J]
            · intro q hq
              show (if q = l then _ else ft q) = oN (if q = l then _ else t q)
              by_cases e : q = l
              · rw [if_pos e, if_pos e]
                rfl
              · rw [if_neg e, if_neg e, ht q hq]
          · rw [if_neg hg] at e o
            simp only [if_neg hg]
            refine ⟨h1, _, difT (difSf (by decide)) D, r, ?_, o⟩
            rw [uX12_readDrill_36]
            simp only [uX12_readDrill_0, uX12_readDrill_1, uX12_readDrill_2, uX12_readDrill_5, uX12_readDrill_6, uX12_readDrill_7, uX12_readDrill_8, uX12_readDrill_9, uX12_readDrill_12, uX12_readDrill_13, uX12_readDrill_16, uX12_readDrill_17, uX12_readDrill_19, uX12_readDrill_20, uX12_readDrill_23, uX12_readDrill_26, uX12_readDrill_27, uX12_readDrill_30, uX12_readDrill_31, uX12_readDrill_34, uX12_readDrill_35, uX12_readDrill_37, uX12_readDrill_40, uX12_readDrill_41, uX12_readDrill_44, uX12_readDrill_45, uX12_readDrill_48, uX12_readDrill_49, uX12_readDrill_52, uX12_readDrill_53, uX12_readDrill_54, uX12_readDrill_57, uX12_readDrill_58, uX12_readDrill_59, uX12_readDrill_62, uX12_readDrill_65, uX12_readDrill_66, uX12_readDrill_68, uX12_readDrill_70, uX12_readDrill_73, uX12_readDrill_74, uX12_readDrill_77, uX12_readDrill_79, uX12_readDrill_80, uX12_readDrill_83, uX12_readDrill_84, uX12_readDrill_87, uX12_readDrill_88, uX12_readDrill_89, uX12_readDrill_90, uX12_readDrill_93, uX12_readDrill_94, uX12_readDrill_95, uX12_readDrill_98, uX12_readDrill_100, uX12_readDrill_101, uX12_readDrill_104, uX12_readDrill_105, uX12_readDrill_108, uX12_readDrill_109, uX12_readDrill_110, uX12_readDrill_111, uX12_readDrill_114, uX12_readDrill_115, uX12_readDrill_117, uX12_readDrill_118, uX12_readDrill_119, uX12_readDrill_122, uX12_readDrill_125, uX12_readDrill_126, uX12_readDrill_129, uX12_readDrill_131, uX12_readDrill_134, uX12_readDrill_135, uX12_readDrill_138, uX12_readDrill_139, uX12_readDrill_142, uX12_readDrill_143, uX12_readDrill_144, uX12_readDrill_145, uX12_readDrill_148, uX12_readDrill_149, uX12_readDrill_152, uX12_readDrill_153, uX12_readDrill_154, uX12_readDrill_157, uX12_readDrill_158, uX12_readDrill_159, uX12_readDrill_161, uX12_readDrill_164, uX12_readDrill_165, uX12_readDrill_168, uX12_readDrill_169, uX12_readDrill_170, uX12_readDrill_173, uX12_readDrill_174, uX12_readDrill_177, uX12_readDrill_178, uX12_readDrill_179, uX12_readDrill_182, uX12_readDrill_183, uX12_readDrill_186, uX12_readDrill_187, uX12_readDrill_188, uX12_readDrill_191, uX12_readDrill_192, uX12_readDrill_195, uX12_readDrill_196, uX12_readDrill_197, uX12_readDrill_200, uX12_readDrill_201, uX12_readDrill_204, uX12_readDrill_205, uX12_readDrill_206, uX12_readDrill_207, uX12_readDrill_210, uX12_readDrill_211, uX12_readDrill_212, uX12_readDrill_215, uX12_readDrill_218, uX12_readDrill_219, gM0 hM, gM1 hM, gM2 hM, gM3 hM, gM4 hM, gM5 hM, gM6 hM, gM7 hM, gM8 hM, gM9 hM, gM10 hM, gM11 hM, gM12 hM, gM13 hM, gM14 hM, gM15 hM, gM16 hM, gM17 hM, gM18 hM, gM19 hM, gM20 hM, gM21 hM, gM22 hM, gM23 hM, gM24 hM, gM25 hM, gM26 hM, gM27 hM, gM28 hM, gM29 hM, gM30 hM, gM31 hM, gM32 hM, vM hM, gM0 hM1, gM1 hM1, gM2 hM1, gM3 hM1, gM4 hM1, gM5 hM1, gM6 hM1, gM7 hM1, gM8 hM1, gM9 hM1, gM10 hM1, gM11 hM1, gM12 hM1, gM13 hM1, gM14 hM1, gM15 hM1, gM16 hM1, gM17 hM1, gM18 hM1, gM19 hM1, gM20 hM1, gM21 hM1, gM22 hM1, gM23 hM1, gM24 hM1, gM25 hM1, gM26 hM1, gM27 hM1, gM28 hM1, gM29 hM1, gM30 hM1, gM31 hM1, gM32 hM1, vM hM1, gM0 o, gM1 o, gM2 o, gM3 o, gM4 o, gM5 o, gM6 o, gM7 o, gM8 o, gM9 o, gM10 o, gM11 o, gM12 o, gM13 o, gM14 o, gM15 o, gM16 o, gM17 o, gM18 o, gM19 o, gM20 o, gM21 o, gM22 o, gM23 o, gM24 o, gM25 o, gM26 o, gM27 o, gM28 o, gM29 o, gM30 o, gM31 o, gM32 o, vM o, c1, nI_add, g1, r_letterOf, hl, szI, c2, g2, c3, nI_1, pM9 hM, z, e, Option.bind_some, Option.toList_some, Option.toList_none, List.cons_append, List.nil_append, if_true, if_false, and_self, and_true, true_and, or_self, or_true, true_or, false_or, or_false, i10, i00, i01, i11, Nat.reduceAdd, st1_0, st1_c, st1_1i, st1_1r, st1_1n, st1_1u, st1_1J, st2_0, st2_c, st2_1i, st2_1r, st2_1n, st2_1u, st2_1J]
  · rw [if_neg hpn]
    have c1 : nI n ≤ nI p := nI_le (by omega) (by omega)
    refine ⟨h, ft, difR, a4, ?_, hM⟩
    rw [uX12_readDrill_36]
    simp only [uX12_readDrill_0, uX12_readDrill_1, uX12_readDrill_2, uX12_readDrill_5, uX12_readDrill_6, uX12_readDrill_7, uX12_readDrill_8, uX12_readDrill_9, uX12_readDrill_12, uX12_readDrill_13, uX12_readDrill_16, uX12_readDrill_17, uX12_readDrill_19, uX12_readDrill_20, uX12_readDrill_23, uX12_readDrill_26, uX12_readDrill_27, uX12_readDrill_30, uX12_readDrill_31, uX12_readDrill_34, uX12_readDrill_35, uX12_readDrill_37, uX12_readDrill_40, uX12_readDrill_41, uX12_readDrill_44, uX12_readDrill_45, uX12_readDrill_48, uX12_readDrill_49, uX12_readDrill_52, uX12_readDrill_53, uX12_readDrill_54, uX12_readDrill_57, uX12_readDrill_58, uX12_readDrill_59, uX12_readDrill_62, uX12_readDrill_65, uX12_readDrill_66, uX12_readDrill_68, uX12_readDrill_70, uX12_readDrill_73, uX12_readDrill_74, uX12_readDrill_77, uX12_readDrill_79, uX12_readDrill_80, uX12_readDrill_83, uX12_readDrill_84, uX12_readDrill_87, uX12_readDrill_88, uX12_readDrill_89, uX12_readDrill_90, uX12_readDrill_93, uX12_readDrill_94, uX12_readDrill_95, uX12_readDrill_98, uX12_readDrill_100, uX12_readDrill_101, uX12_readDrill_104, uX12_readDrill_105, uX12_readDrill_108, uX12_readDrill_109, uX12_readDrill_110, uX12_readDrill_111, uX12_readDrill_114, uX12_readDrill_115, uX12_readDrill_117, uX12_readDrill_118, uX12_readDrill_119, uX12_readDrill_122, uX12_readDrill_125, uX12_readDrill_126, uX12_readDrill_129, uX12_readDrill_131, uX12_readDrill_134, uX12_readDrill_135, uX12_readDrill_138, uX12_readDrill_139, uX12_readDrill_142, uX12_readDrill_143, uX12_readDrill_144, uX12_readDrill_145, uX12_readDrill_148, uX12_readDrill_149, uX12_readDrill_152, uX12_readDrill_153, uX12_readDrill_154, uX12_readDrill_157, uX12_readDrill_158, uX12_readDrill_159, uX12_readDrill_161, uX12_readDrill_164, uX12_readDrill_165, uX12_readDrill_168, uX12_readDrill_169, uX12_readDrill_170, uX12_readDrill_173, uX12_readDrill_174, uX12_readDrill_177, uX12_readDrill_178, uX12_readDrill_179, uX12_readDrill_182, uX12_readDrill_183, uX12_readDrill_186, uX12_readDrill_187, uX12_readDrill_188, uX12_readDrill_191, uX12_readDrill_192, uX12_readDrill_195, uX12_readDrill_196, uX12_readDrill_197, uX12_readDrill_200, uX12_readDrill_201, uX12_readDrill_204, uX12_readDrill_205, uX12_readDrill_206, uX12_readDrill_207, uX12_readDrill_210, uX12_readDrill_211, uX12_readDrill_212, uX12_readDrill_215, uX12_readDrill_218, uX12_readDrill_219, gM0 hM, gM1 hM, gM2 hM, gM3 hM, gM4 hM, gM5 hM, gM6 hM, gM7 hM, gM8 hM, gM9 hM, gM10 hM, gM11 hM, gM12 hM, gM13 hM, gM14 hM, gM15 hM, gM16 hM, gM17 hM, gM18 hM, gM19 hM, gM20 hM, gM21 hM, gM22 hM, gM23 hM, gM24 hM, gM25 hM, gM26 hM, gM27 hM, gM28 hM, gM29 hM, gM30 hM, gM31 hM, gM32 hM, vM hM, c1, m1, Option.bind_some, Option.toList_some, Option.toList_none, List.cons_append, List.nil_append, if_true, if_false, and_self, and_true, true_and, or_self, or_true, true_or, false_or, or_false, i10, i00, i01, i11, Nat.reduceAdd, st1_0, st1_c, st1_1i, st1_1r, st1_1n, st1_1u, st1_1J, st2_0, st2_c, st2_1i, st2_1r, st2_1n, st2_1u, st2_1J]
end DM
