theorem lNT {n : Nat} (h : n < 2 ^ 63) : (lN n).toInt = (n : Int) := lg_ofNat_toInt h
theorem lN_eqI {a b : Nat} (ha : a < 2 ^ 63) (hb : b < 2 ^ 63) : (lN a = lN b) = (a = b) := by
  apply propext
  rw [← Int64.toInt_inj, lNT ha, lNT hb]
  omega
theorem lN_ltI {a b : Nat} (ha : a < 2 ^ 63) (hb : b < 2 ^ 63) : (lN a < lN b) = (a < b) := by
  apply propext
  rw [Int64.lt_iff_toInt_lt, lNT ha, lNT hb]
  omega
theorem lN_leI {a b : Nat} (ha : a < 2 ^ 63) (hb : b < 2 ^ 63) : (lN a ≤ lN b) = (a ≤ b) := by
  apply propext
  rw [Int64.le_iff_toInt_le, lNT ha, lNT hb]
  omega
theorem lN_divI {a b : Nat} (ha : a < 2 ^ 63) (hb : b < 2 ^ 63) (h0 : 0 < b) : lN a / lN b = lN (a / b) := by
  rw [← Int64.toInt_inj, lg_ldiv_nonneg (by rw [lNT ha]; omega) (by rw [lNT hb]; omega), lNT ha, lNT hb, lNT (Nat.lt_of_le_of_lt (Nat.div_le_self a b) ha)]
  rfl
theorem lN_remI {a b : Nat} (ha : a < 2 ^ 63) (hb : b < 2 ^ 63) (h0 : 0 < b) : lN a - lN a / lN b * lN b = lN (a % b) := by
  rw [lN_divI ha hb h0, lN_mul, lN_sub (Nat.div_mul_le_self a b)]
  congr 1
  have := Nat.mod_add_div a b
  rw [Nat.mul_comm] at this
  omega
def chF (n : Nat) : Nat → Nat
  | 0 => 1
  | x + 1 => chF n x * (n - x) / (x + 1)
theorem chF_le : ∀ n, n < 9 → ∀ k, k < 10 → chF n k ≤ 70 := by decide
def rwT (n s k : Nat) : Nat := chF n k * s ^ k * (100 - s) ^ (n - k)
def rwS (n s f : Nat) : Nat → Nat
  | 0 => 0
  | t + 1 => rwS n s f t + rwT n s (f + t)
def rwF (n s f : Nat) : Nat := rwS n s f (n + 1 - f)
theorem rwT_le {n s k : Nat} (hn : n ≤ 8) (hs : s ≤ 100) (hk : k ≤ n) : rwT n s k ≤ 70 * 100 ^ n := by
  unfold rwT
  have h1 := chF_le n (by omega) k (by omega)
  have h2 : s ^ k ≤ 100 ^ k := Nat.pow_le_pow_left hs k
  have h3 : (100 - s) ^ (n - k) ≤ 100 ^ (n - k) := Nat.pow_le_pow_left (by omega) _
  have h4 : s ^ k * (100 - s) ^ (n - k) ≤ 100 ^ n := by
    refine Nat.le_trans (Nat.mul_le_mul h2 h3) ?_
    rw [← Nat.pow_add, show k + (n - k) = n by omega]
    exact Nat.le_refl _
  rw [Nat.mul_assoc]
  exact Nat.mul_le_mul h1 h4
theorem rwS_le {n s f : Nat} (hn : n ≤ 8) (hs : s ≤ 100) : ∀ t, f + t ≤ n + 1 → rwS n s f t ≤ t * (70 * 100 ^ n)
  | 0, _ => Nat.zero_le _
  | t + 1, ht => by
    have h1 := rwS_le (f := f) hn hs t (by omega)
    have h2 := rwT_le (k := f + t) hn hs (by omega)
    show rwS n s f t + rwT n s (f + t) ≤ _
    rw [Nat.succ_mul]
    omega
theorem rwF_le {n s f : Nat} (hn : n ≤ 8) (hs : s ≤ 100) (hf : f ≤ n) : rwF n s f ≤ 630 * 100 ^ n := by
  unfold rwF
  have h1 := rwS_le (f := f) hn hs (n + 1 - f) (by omega)
  refine Nat.le_trans h1 ?_
  have h2 : (n + 1 - f) * (70 * 100 ^ n) ≤ 9 * (70 * 100 ^ n) := Nat.mul_le_mul_right _ (by omega)
  omega
theorem p100 {n : Nat} (hn : n ≤ 8) : 100 ^ n ≤ 10000000000000000 ∧ 1 ≤ 100 ^ n := by
  have h : 100 ^ n ≤ 100 ^ 8 := Nat.pow_le_pow_right (by decide) hn
  exact ⟨h, Nat.pow_le_pow_right (n := 100) (i := 0) (by decide) (Nat.zero_le n)⟩
theorem rwF_lt {n s f : Nat} (hn : n ≤ 8) (hs : s ≤ 100) (hf : f ≤ n) : rwF n s f < 2 ^ 63 := by
  have h1 := rwF_le hn hs hf
  have h2 := (p100 hn).1
  have h3 : 630 * 100 ^ n ≤ 630 * 10000000000000000 := Nat.mul_le_mul_left _ h2
  omega
theorem rwV_lt {n s f : Nat} (hn : n ≤ 8) (hs : s ≤ 100) (hf : f ≤ n) : rwF n s f * 100 ^ (8 - n) < 2 ^ 63 := by
  have h1 := rwF_le hn hs hf
  have h2 : rwF n s f * 100 ^ (8 - n) ≤ 630 * 100 ^ n * 100 ^ (8 - n) := Nat.mul_le_mul_right _ h1
  rw [Nat.mul_assoc, ← Nat.pow_add, show n + (8 - n) = 8 by omega] at h2
  have h3 : (630 * 100 ^ 8 : Nat) < 2 ^ 63 := by decide
  omega
section OM
variable {h : AH} {fa dB dL dC dR rd pg lt lm bg tr : Int32} {c w : Nat → Option Nat} {wt : Nat → Nat} {L : Nat} {lp ld ln : Nat → Nat} {lg : Nat → Nat → Nat} {a b : Nat}
theorem r_power {x n : Nat} (hn : n < 1000) : run 194 (0, [some (.long (lN x)), none, some (.int (nI n)), none, none, none], [], h) = some (some (.long (lN (x ^ n))), h) := by
  have lp : run 194 (5, [some (.long (lN x)), none, some (.int (nI n)), some (.long (lN (x ^ 0))), none, some (.int (nI 0))], [], h) = run 194 (5, [some (.long (lN x)), none, some (.int (nI n)), some (.long (lN (x ^ n))), none, some (.int (nI n))], [], h) := by
    refine loopN (F := fun j => run 194 (5, [some (.long (lN x)), none, some (.int (nI n)), some (.long (lN (x ^ j))), none, some (.int (nI j))], [], h)) n (fun j hj => ?_)
    have c1 : ¬ nI n ≤ nI j := nI_ge hj (by omega)
    have e1 : lN (x ^ j) * lN x = lN (x ^ (j + 1)) := by rw [lN_mul, Nat.pow_succ]
    show run 194 (5, _) = run 194 (5, _)
    rw [uX12_power_5]
    simp only [uX12_power_0, uX12_power_1, uX12_power_2, uX12_power_3, uX12_power_7, uX12_power_8, uX12_power_11, uX12_power_12, uX12_power_13, uX12_power_14, uX12_power_15, uX12_power_18, uX12_power_21, uX12_power_22, c1, e1, nI_1, Option.bind_some, Option.toList_some, Option.toList_none, List.cons_append, List.nil_append, if_true, if_false, and_self, and_true, true_and, or_self, or_true, true_or, false_or, or_false, i10, i00, i01, i11, Nat.reduceAdd, st1_0, st1_c, st1_1i, st1_1r, st1_1n, st1_1u, st1_1J, st2_0, st2_c, st2_1i, st2_1r, st2_1n, st2_1u, st2_1J]
  have c1 : nI n ≤ nI n := nI_le (Nat.le_refl _) (by omega)
  simp only [uX12_power_0, uX12_power_1, uX12_power_2, uX12_power_3, uX12_power_7, uX12_power_8, uX12_power_11, uX12_power_12, uX12_power_13, uX12_power_14, uX12_power_15, uX12_power_18, uX12_power_21, uX12_power_22, Option.bind_some, Option.toList_some, Option.toList_none, List.cons_append, List.nil_append, if_true, if_false, and_self, and_true, true_and, or_self, or_true, true_or, false_or, or_false, i10, i00, i01, i11, Nat.reduceAdd, st1_0, st1_c, st1_1i, st1_1r, st1_1n, st1_1u, st1_1J, st2_0, st2_c, st2_1i, st2_1r, st2_1n, st2_1u, st2_1J]
  refine Eq.trans lp ?_
  rw [uX12_power_5]
  simp only [uX12_power_0, uX12_power_1, uX12_power_2, uX12_power_3, uX12_power_7, uX12_power_8, uX12_power_11, uX12_power_12, uX12_power_13, uX12_power_14, uX12_power_15, uX12_power_18, uX12_power_21, uX12_power_22, c1, Option.bind_some, Option.toList_some, Option.toList_none, List.cons_append, List.nil_append, if_true, if_false, and_self, and_true, true_and, or_self, or_true, true_or, false_or, or_false, i10, i00, i01, i11, Nat.reduceAdd, st1_0, st1_c, st1_1i, st1_1r, st1_1n, st1_1u, st1_1J, st2_0, st2_c, st2_1i, st2_1r, st2_1n, st2_1u, st2_1J]
theorem r_choose {n k : Nat} (hn : n ≤ 8) (hk : k ≤ n) : run 195 (0, [some (.int (nI n)), some (.int (nI k)), none, none, none], [], h) = some (some (.long (lN (chF n k))), h) := by
  have lp : run 195 (5, [some (.int (nI n)), some (.int (nI k)), some (.long (lN (chF n 0))), none, some (.int (nI 0))], [], h) = run 195 (5, [some (.int (nI n)), some (.int (nI k)), some (.long (lN (chF n k))), none, some (.int (nI k))], [], h) := by
    refine loopN (F := fun j => run 195 (5, [some (.int (nI n)), some (.int (nI k)), some (.long (lN (chF n j))), none, some (.int (nI j))], [], h)) k (fun j hj => ?_)
    have c1 : ¬ nI k ≤ nI j := nI_ge hj (by omega)
    have hc := chF_le n (by omega) j (by omega)
    have hm : chF n j * (n - j) ≤ 70 * 8 := Nat.mul_le_mul hc (by omega)
    have e0 : nI n - nI j = nI (n - j) := pk_sub (by omega)
    have e1 : lN (chF n j) * (nI (n - j)).toInt64 / (nI (j + 1)).toInt64 = lN (chF n (j + 1)) := by
      rw [nI_l (by omega), nI_l (by omega), lN_mul, lN_divI (by omega) (by omega) (by omega)]
      rfl
    have z : ¬ (nI (j + 1)).toInt64 = 0 := by
      rw [nI_l (by omega), show (0 : Int64) = lN 0 by decide, lN_eqI (by omega) (by omega)]
      omega
    show run 195 (5, _) = run 195 (5, _)
    rw [uX12_choose_5]
    simp only [uX12_choose_0, uX12_choose_1, uX12_choose_2, uX12_choose_3, uX12_choose_7, uX12_choose_8, uX12_choose_11, uX12_choose_12, uX12_choose_13, uX12_choose_15, uX12_choose_16, uX12_choose_17, uX12_choose_18, uX12_choose_20, uX12_choose_21, uX12_choose_22, uX12_choose_23, uX12_choose_24, uX12_choose_25, uX12_choose_28, uX12_choose_31, uX12_choose_32, c1, e0, nI_1, e1, z, Option.bind_some, Option.toList_some, Option.toList_none, List.cons_append, List.nil_append, if_true, if_false, and_self, and_true, true_and, or_self, or_true, true_or, false_or, or_false, i10, i00, i01, i11, Nat.reduceAdd, st1_0, st1_c, st1_1i, st1_1r, st1_1n, st1_1u, st1_1J, st2_0, st2_c, st2_1i, st2_1r, st2_1n, st2_1u, st2_1J]
  have c1 : nI k ≤ nI k := nI_le (Nat.le_refl _) (by omega)
  simp only [uX12_choose_0, uX12_choose_1, uX12_choose_2, uX12_choose_3, uX12_choose_7, uX12_choose_8, uX12_choose_11, uX12_choose_12, uX12_choose_13, uX12_choose_15, uX12_choose_16, uX12_choose_17, uX12_choose_18, uX12_choose_20, uX12_choose_21, uX12_choose_22, uX12_choose_23, uX12_choose_24, uX12_choose_25, uX12_choose_28, uX12_choose_31, uX12_choose_32, Option.bind_some, Option.toList_some, Option.toList_none, List.cons_append, List.nil_append, if_true, if_false, and_self, and_true, true_and, or_self, or_true, true_or, false_or, or_false, i10, i00, i01, i11, Nat.reduceAdd, st1_0, st1_c, st1_1i, st1_1r, st1_1n, st1_1u, st1_1J, st2_0, st2_c, st2_1i, st2_1r, st2_1n, st2_1u, st2_1J]
  refine Eq.trans lp ?_
  rw [uX12_choose_5]
  simp only [uX12_choose_0, uX12_choose_1, uX12_choose_2, uX12_choose_3, uX12_choose_7, uX12_choose_8, uX12_choose_11, uX12_choose_12, uX12_choose_13, uX12_choose_15, uX12_choose_16, uX12_choose_17, uX12_choose_18, uX12_choose_20, uX12_choose_21, uX12_choose_22, uX12_choose_23, uX12_choose_24, uX12_choose_25, uX12_choose_28, uX12_choose_31, uX12_choose_32, c1, Option.bind_some, Option.toList_some, Option.toList_none, List.cons_append, List.nil_append, if_true, if_false, and_self, and_true, true_and, or_self, or_true, true_or, false_or, or_false, i10, i00, i01, i11, Nat.reduceAdd, st1_0, st1_c, st1_1i, st1_1r, st1_1n, st1_1u, st1_1J, st2_0, st2_c, st2_1i, st2_1r, st2_1n, st2_1u, st2_1J]
def spF (c w : Nat → Option Nat) : Nat := cnt (fun b => decide (0 < PB c w b)) 100
theorem spF_le : spF c w ≤ 100 := cnt_le _ _
theorem ftF_le {la lb : Nat → Nat} {n : Nat} : ftF c w la lb n ≤ n := cnt_le _ _
def rwL (c w : Nat → Option Nat) (ln : Nat → Nat) (lg : Nat → Nat → Nat) (a b : Nat) : Nat := rwF (pls (ln a) (ln b)) (spF c w) (ftF c w (lg a) (lg b) (pls (ln a) (ln b)))
theorem r_rowsOf (hM : rO h 36 = some (11, mF fa dB dL dC dR rd pg lt lm bg tr)) (B : BookM h c w wt) (K : LettersM h L lp ld ln lg) (ha : a < 20) (hb : b < 20) : run 196 (0, [some (.ref 36), some (.int (nI a)), some (.int (nI b)), none, none, none, none, none], [], h) = some (some (.long (lN (rwL c w ln lg a b))), h) := by
  have hp8 := pls_le (ln a) (ln b)
  have hpl := r_placesOf hM K ha hb
  have hft := r_fitsOf hM B K ha hb
  have hsp : run 192 (0, [some (.ref 36), none, none], [], h) = some (some (.int (nI (spF c w))), h) := r_spreadB hM B
  have hsl := spF_le (c := c) (w := w)
  have hfl := ftF_le (c := c) (w := w) (la := lg a) (lb := lg b) (n := pls (ln a) (ln b))
  unfold rwL
  generalize hN : pls (ln a) (ln b) = n at hp8 hpl hft hfl
  generalize hS : spF c w = s at hsp hsl
  generalize hF : ftF c w (lg a) (lg b) n = f at hft hfl
  have lp : run 196 (24, [some (.ref 36), some (.int (nI a)), some (.int (nI b)), some (.int (nI n)), some (.int (nI s)), some (.long (lN (rwS n s f 0))), none, some (.int (nI (f + 0)))], [], h) = run 196 (24, [some (.ref 36), some (.int (nI a)), some (.int (nI b)), some (.int (nI n)), some (.int (nI s)), some (.long (lN (rwS n s f (n + 1 - f)))), none, some (.int (nI (f + (n + 1 - f))))], [], h) := by
    refine loopN (F := fun t => run 196 (24, [some (.ref 36), some (.int (nI a)), some (.int (nI b)), some (.int (nI n)), some (.int (nI s)), some (.long (lN (rwS n s f t))), none, some (.int (nI (f + t)))], [], h)) (n + 1 - f) (fun t ht => ?_)
    have c1 : ¬ nI n < nI (f + t) := nI_nlt (by omega) (by omega)
    have h1 := r_choose (h := h) (n := n) (k := f + t) (by omega) (by omega)
    have h2 := r_power (h := h) (x := s) (n := f + t) (by omega)
    have h3 := r_power (h := h) (x := 100 - s) (n := n - (f + t)) (by omega)
    have e0 : nI n - nI (f + t) = nI (n - (f + t)) := pk_sub (by omega)
    have e1 : (nI s).toInt64 = lN s := nI_l (by omega)
    have e2 : (100 : Int64) - lN s = lN (100 - s) := by rw [show (100 : Int64) = lN 100 by decide, lN_sub (by omega)]
    have e3 : lN (rwS n s f t) + lN (chF n (f + t)) * lN (s ^ (f + t)) * lN ((100 - s) ^ (n - (f + t))) = lN (rwS n s f (t + 1)) := by
      rw [lN_mul, lN_mul, lN_add]
      rfl
    show run 196 (24, _) = run 196 (24, _)
    rw [uX12_rowsOf_24]
    simp only [uX12_rowsOf_0, uX12_rowsOf_1, uX12_rowsOf_2, uX12_rowsOf_3, uX12_rowsOf_6, uX12_rowsOf_7, uX12_rowsOf_8, uX12_rowsOf_11, uX12_rowsOf_13, uX12_rowsOf_14, uX12_rowsOf_16, uX12_rowsOf_17, uX12_rowsOf_18, uX12_rowsOf_19, uX12_rowsOf_22, uX12_rowsOf_26, uX12_rowsOf_27, uX12_rowsOf_30, uX12_rowsOf_32, uX12_rowsOf_33, uX12_rowsOf_35, uX12_rowsOf_38, uX12_rowsOf_40, uX12_rowsOf_41, uX12_rowsOf_43, uX12_rowsOf_46, uX12_rowsOf_47, uX12_rowsOf_50, uX12_rowsOf_52, uX12_rowsOf_53, uX12_rowsOf_54, uX12_rowsOf_55, uX12_rowsOf_57, uX12_rowsOf_58, uX12_rowsOf_61, uX12_rowsOf_62, uX12_rowsOf_63, uX12_rowsOf_65, uX12_rowsOf_68, uX12_rowsOf_71, uX12_rowsOf_73, c1, h1, e1, h2, e2, e0, h3, e3, nI_1, Nat.add_assoc, Option.bind_some, Option.toList_some, Option.toList_none, List.cons_append, List.nil_append, if_true, if_false, and_self, and_true, true_and, or_self, or_true, true_or, false_or, or_false, i10, i00, i01, i11, Nat.reduceAdd, st1_0, st1_c, st1_1i, st1_1r, st1_1n, st1_1u, st1_1J, st2_0, st2_c, st2_1i, st2_1r, st2_1n, st2_1u, st2_1J]
  have c1 : nI n < nI (f + (n + 1 - f)) := nI_lt (by omega) (by omega)
  simp only [uX12_rowsOf_0, uX12_rowsOf_1, uX12_rowsOf_2, uX12_rowsOf_3, uX12_rowsOf_6, uX12_rowsOf_7, uX12_rowsOf_8, uX12_rowsOf_11, uX12_rowsOf_13, uX12_rowsOf_14, uX12_rowsOf_16, uX12_rowsOf_17, uX12_rowsOf_18, uX12_rowsOf_19, uX12_rowsOf_22, uX12_rowsOf_26, uX12_rowsOf_27, uX12_rowsOf_30, uX12_rowsOf_32, uX12_rowsOf_33, uX12_rowsOf_35, uX12_rowsOf_38, uX12_rowsOf_40, uX12_rowsOf_41, uX12_rowsOf_43, uX12_rowsOf_46, uX12_rowsOf_47, uX12_rowsOf_50, uX12_rowsOf_52, uX12_rowsOf_53, uX12_rowsOf_54, uX12_rowsOf_55, uX12_rowsOf_57, uX12_rowsOf_58, uX12_rowsOf_61, uX12_rowsOf_62, uX12_rowsOf_63, uX12_rowsOf_65, uX12_rowsOf_68, uX12_rowsOf_71, uX12_rowsOf_73, gM0 hM, gM1 hM, gM2 hM, gM3 hM, gM4 hM, gM5 hM, gM6 hM, gM7 hM, gM8 hM, gM9 hM, gM10 hM, gM11 hM, gM12 hM, gM13 hM, gM14 hM, gM15 hM, gM16 hM, gM17 hM, gM18 hM, gM19 hM, gM20 hM, gM21 hM, gM22 hM, gM23 hM, gM24 hM, gM25 hM, gM26 hM, gM27 hM, gM28 hM, gM29 hM, gM30 hM, gM31 hM, gM32 hM, vM hM, hpl, hsp, hft, Option.bind_some, Option.toList_some, Option.toList_none, List.cons_append, List.nil_append, if_true, if_false, and_self, and_true, true_and, or_self, or_true, true_or, false_or, or_false, i10, i00, i01, i11, Nat.reduceAdd, st1_0, st1_c, st1_1i, st1_1r, st1_1n, st1_1u, st1_1J, st2_0, st2_c, st2_1i, st2_1r, st2_1n, st2_1u, st2_1J]
  refine Eq.trans lp ?_
  rw [uX12_rowsOf_24]
  simp only [uX12_rowsOf_0, uX12_rowsOf_1, uX12_rowsOf_2, uX12_rowsOf_3, uX12_rowsOf_6, uX12_rowsOf_7, uX12_rowsOf_8, uX12_rowsOf_11, uX12_rowsOf_13, uX12_rowsOf_14, uX12_rowsOf_16, uX12_rowsOf_17, uX12_rowsOf_18, uX12_rowsOf_19, uX12_rowsOf_22, uX12_rowsOf_26, uX12_rowsOf_27, uX12_rowsOf_30, uX12_rowsOf_32, uX12_rowsOf_33, uX12_rowsOf_35, uX12_rowsOf_38, uX12_rowsOf_40, uX12_rowsOf_41, uX12_rowsOf_43, uX12_rowsOf_46, uX12_rowsOf_47, uX12_rowsOf_50, uX12_rowsOf_52, uX12_rowsOf_53, uX12_rowsOf_54, uX12_rowsOf_55, uX12_rowsOf_57, uX12_rowsOf_58, uX12_rowsOf_61, uX12_rowsOf_62, uX12_rowsOf_63, uX12_rowsOf_65, uX12_rowsOf_68, uX12_rowsOf_71, uX12_rowsOf_73, c1, Option.bind_some, Option.toList_some, Option.toList_none, List.cons_append, List.nil_append, if_true, if_false, and_self, and_true, true_and, or_self, or_true, true_or, false_or, or_false, i10, i00, i01, i11, Nat.reduceAdd, st1_0, st1_c, st1_1i, st1_1r, st1_1n, st1_1u, st1_1J, st2_0, st2_c, st2_1i, st2_1r, st2_1n, st2_1u, st2_1J]
  rfl
theorem r_share_loop {u d : Int64} {wh : Int32} : ∀ (y x : Nat) (l9 l10 : Option Value), y < 2 ^ 63 → x < 2 ^ 63 → 0 < Nat.gcd x y → run 151 (6, [some (.long u), none, some (.long d), none, some (.int wh), some (.long (lN x)), none, some (.long (lN y)), none, l9, l10], [], h) = some (some (.long ((if wh = 0 then u else d) / lN (Nat.gcd x y))), h) := by
  intro y
  induction y using Nat.strongRecOn with
  | _ y ih =>
    intro x l9 l10 hy hx hg
    rw [uX12_share_6]
    by_cases q : y = 0
    · subst q
      have z0 : (lN 0 = 0) = True := eq_true (by decide)
      rw [Nat.gcd_zero_right] at hg ⊢
      have z1 : ¬ lN x = 0 := by
        rw [show (0 : Int64) = lN 0 by decide, lN_eqI hx (by omega)]
        omega
      by_cases qw : wh = 0
      · simp only [uX12_share_0, uX12_share_1, uX12_share_3, uX12_share_4, uX12_share_8, uX12_share_9, uX12_share_10, uX12_share_13, uX12_share_15, uX12_share_17, uX12_share_18, uX12_share_20, uX12_share_22, uX12_share_24, uX12_share_26, uX12_share_28, uX12_share_31, uX12_share_33, uX12_share_36, uX12_share_37, uX12_share_40, uX12_share_41, uX12_share_43, uX12_share_44, lg_cmp_eq, z0, z1, eq_true qw, Option.bind_some, Option.toList_some, Option.toList_none, List.cons_append, List.nil_append, if_true, if_false, and_self, and_true, true_and, or_self, or_true, true_or, false_or, or_false, i10, i00, i01, i11, Nat.reduceAdd, st1_0, st1_c, st1_1i, st1_1r, st1_1n, st1_1u, st1_1J, st2_0, st2_c, st2_1i, st2_1r, st2_1n, st2_1u, st2_1J]
      · simp only [uX12_share_0, uX12_share_1, uX12_share_3, uX12_share_4, uX12_share_8, uX12_share_9, uX12_share_10, uX12_share_13, uX12_share_15, uX12_share_17, uX12_share_18, uX12_share_20, uX12_share_22, uX12_share_24, uX12_share_26, uX12_share_28, uX12_share_31, uX12_share_33, uX12_share_36, uX12_share_37, uX12_share_40, uX12_share_41, uX12_share_43, uX12_share_44, lg_cmp_eq, z0, z1, eq_false qw, Option.bind_some, Option.toList_some, Option.toList_none, List.cons_append, List.nil_append, if_true, if_false, and_self, and_true, true_and, or_self, or_true, true_or, false_or, or_false, i10, i00, i01, i11, Nat.reduceAdd, st1_0, st1_c, st1_1i, st1_1r, st1_1n, st1_1u, st1_1J, st2_0, st2_c, st2_1i, st2_1r, st2_1n, st2_1u, st2_1J]
    · have z0 : (lN y = 0) = False := by
        rw [show (0 : Int64) = lN 0 by decide, lN_eqI hy (by omega)]
        exact eq_false q
      have e1 : lN x - lN x / lN y * lN y = lN (x % y) := lN_remI hx hy (by omega)
      have hlt := Nat.mod_lt x (show 0 < y by omega)
      have eg : Nat.gcd x y = Nat.gcd y (x % y) := by rw [Nat.gcd_comm x y, Nat.gcd_rec y x, Nat.gcd_comm]
      have ih1 := ih (x % y) hlt y (some (.long (lN (x % y)))) none (by omega) hy (by rw [← eg]; exact hg)
      rw [eg]
      simp only [uX12_share_0, uX12_share_1, uX12_share_3, uX12_share_4, uX12_share_8, uX12_share_9, uX12_share_10, uX12_share_13, uX12_share_15, uX12_share_17, uX12_share_18, uX12_share_20, uX12_share_22, uX12_share_24, uX12_share_26, uX12_share_28, uX12_share_31, uX12_share_33, uX12_share_36, uX12_share_37, uX12_share_40, uX12_share_41, uX12_share_43, uX12_share_44, lg_cmp_eq, z0, e1, Option.bind_some, Option.toList_some, Option.toList_none, List.cons_append, List.nil_append, if_true, if_false, and_self, and_true, true_and, or_self, or_true, true_or, false_or, or_false, i10, i00, i01, i11, Nat.reduceAdd, st1_0, st1_c, st1_1i, st1_1r, st1_1n, st1_1u, st1_1J, st2_0, st2_c, st2_1i, st2_1r, st2_1n, st2_1u, st2_1J]
      exact ih1
theorem r_share {x y : Nat} {wh : Int32} (hx : x < 2 ^ 63) (hy : y < 2 ^ 63) (h0 : 0 < y) : run 151 (0, [some (.long (lN x)), none, some (.long (lN y)), none, some (.int wh), none, none, none, none, none, none], [], h) = some (some (.long (lN ((if wh = 0 then x else y) / Nat.gcd x y))), h) := by
  have hg : 0 < Nat.gcd x y := Nat.gcd_pos_of_pos_right x h0
  have hgl : Nat.gcd x y ≤ y := Nat.gcd_le_right x h0
  simp only [uX12_share_0, uX12_share_1, uX12_share_3, uX12_share_4, uX12_share_8, uX12_share_9, uX12_share_10, uX12_share_13, uX12_share_15, uX12_share_17, uX12_share_18, uX12_share_20, uX12_share_22, uX12_share_24, uX12_share_26, uX12_share_28, uX12_share_31, uX12_share_33, uX12_share_36, uX12_share_37, uX12_share_40, uX12_share_41, uX12_share_43, uX12_share_44, Option.bind_some, Option.toList_some, Option.toList_none, List.cons_append, List.nil_append, if_true, if_false, and_self, and_true, true_and, or_self, or_true, true_or, false_or, or_false, i10, i00, i01, i11, Nat.reduceAdd, st1_0, st1_c, st1_1i, st1_1r, st1_1n, st1_1u, st1_1J, st2_0, st2_c, st2_1i, st2_1r, st2_1n, st2_1u, st2_1J]
  rw [r_share_loop y x none none hy hx hg]
  congr 4
  by_cases q : wh = 0
  · rw [if_pos q, if_pos q, lN_divI hx (by omega) hg]
  · rw [if_neg q, if_neg q, lN_divI hy (by omega) hg]
theorem r_chance_u {x y z : Int32} (hM : rO h 36 = some (11, mF fa dB dL dC dR rd pg (nI L) lm bg tr)) (hL : L ≤ 20) (hx : ¬ (0 ≤ x.toInt ∧ x.toInt ≤ (L : Int) - 1) ∨ ¬ (0 ≤ y.toInt ∧ y.toInt ≤ (L : Int) - 1) ∨ ¬ (0 ≤ z.toInt ∧ z.toInt ≤ 1) ∨ x = y) : run 197 (0, [some (.ref 36), some (.int x), some (.int y), some (.int z)], [], h) = some (some (.long (-9223372036854775808)), h) := by
  by_cases h1 : 0 ≤ x.toInt ∧ x.toInt ≤ (L : Int) - 1
  · by_cases h2 : 0 ≤ y.toInt ∧ y.toInt ≤ (L : Int) - 1
    · by_cases h3 : 0 ≤ z.toInt ∧ z.toInt ≤ 1
      · have h4 := ((hx.resolve_left (fun q => q h1)).resolve_left (fun q => q h2)).resolve_left (fun q => q h3)
        subst h4
        simp only [uX12_chance_0, uX12_chance_1, uX12_chance_2, uX12_chance_5, uX12_chance_8, uX12_chance_9, uX12_chance_10, uX12_chance_13, uX12_chance_16, uX12_chance_17, uX12_chance_18, uX12_chance_19, uX12_chance_20, uX12_chance_23, uX12_chance_26, uX12_chance_27, uX12_chance_28, uX12_chance_31, uX12_chance_34, uX12_chance_35, uX12_chance_36, uX12_chance_37, uX12_chance_38, uX12_chance_41, uX12_chance_44, uX12_chance_45, uX12_chance_46, uX12_chance_47, uX12_chance_50, uX12_chance_53, uX12_chance_54, uX12_chance_57, gM0 hM, gM1 hM, gM2 hM, gM3 hM, gM4 hM, gM5 hM, gM6 hM, gM7 hM, gM8 hM, gM9 hM, gM10 hM, gM11 hM, gM12 hM, gM13 hM, gM14 hM, gM15 hM, gM16 hM, gM17 hM, gM18 hM, gM19 hM, gM20 hM, gM21 hM, gM22 hM, gM23 hM, gM24 hM, gM25 hM, gM26 hM, gM27 hM, gM28 hM, gM29 hM, gM30 hM, gM31 hM, gM32 hM, vM hM, r_noL2 (y := x) hM hL h1, r_in_0_1, if_pos h3, r_lost, Option.bind_some, Option.toList_some, Option.toList_none, List.cons_append, List.nil_append, if_true, if_false, and_self, and_true, true_and, or_self, or_true, true_or, false_or, or_false, i10, i00, i01, i11]
      · simp only [uX12_chance_0, uX12_chance_1, uX12_chance_2, uX12_chance_5, uX12_chance_8, uX12_chance_9, uX12_chance_10, uX12_chance_13, uX12_chance_16, uX12_chance_17, uX12_chance_18, uX12_chance_19, uX12_chance_20, uX12_chance_23, uX12_chance_26, uX12_chance_27, uX12_chance_28, uX12_chance_31, uX12_chance_34, uX12_chance_35, uX12_chance_36, uX12_chance_37, uX12_chance_38, uX12_chance_41, uX12_chance_44, uX12_chance_45, uX12_chance_46, uX12_chance_47, uX12_chance_50, uX12_chance_53, uX12_chance_54, uX12_chance_57, gM0 hM, gM1 hM, gM2 hM, gM3 hM, gM4 hM, gM5 hM, gM6 hM, gM7 hM, gM8 hM, gM9 hM, gM10 hM, gM11 hM, gM12 hM, gM13 hM, gM14 hM, gM15 hM, gM16 hM, gM17 hM, gM18 hM, gM19 hM, gM20 hM, gM21 hM, gM22 hM, gM23 hM, gM24 hM, gM25 hM, gM26 hM, gM27 hM, gM28 hM, gM29 hM, gM30 hM, gM31 hM, gM32 hM, vM hM, r_noL2 (y := x) hM hL h1, r_noL2 (y := x) hM hL h2, r_in_0_1, if_neg h3, r_lost, Option.bind_some, Option.toList_some, Option.toList_none, List.cons_append, List.nil_append, if_true, if_false, and_self, and_true, true_and, or_self, or_true, true_or, false_or, or_false, i10, i00, i01, i11]
    · simp only [uX12_chance_0, uX12_chance_1, uX12_chance_2, uX12_chance_5, uX12_chance_8, uX12_chance_9, uX12_chance_10, uX12_chance_13, uX12_chance_16, uX12_chance_17, uX12_chance_18, uX12_chance_19, uX12_chance_20, uX12_chance_23, uX12_chance_26, uX12_chance_27, uX12_chance_28, uX12_chance_31, uX12_chance_34, uX12_chance_35, uX12_chance_36, uX12_chance_37, uX12_chance_38, uX12_chance_41, uX12_chance_44, uX12_chance_45, uX12_chance_46, uX12_chance_47, uX12_chance_50, uX12_chance_53, uX12_chance_54, uX12_chance_57, gM0 hM, gM1 hM, gM2 hM, gM3 hM, gM4 hM, gM5 hM, gM6 hM, gM7 hM, gM8 hM, gM9 hM, gM10 hM, gM11 hM, gM12 hM, gM13 hM, gM14 hM, gM15 hM, gM16 hM, gM17 hM, gM18 hM, gM19 hM, gM20 hM, gM21 hM, gM22 hM, gM23 hM, gM24 hM, gM25 hM, gM26 hM, gM27 hM, gM28 hM, gM29 hM, gM30 hM, gM31 hM, gM32 hM, vM hM, r_noL2 (y := y) hM hL h1, noLetter_no hL hM h2, r_lost, Option.bind_some, Option.toList_some, Option.toList_none, List.cons_append, List.nil_append, if_true, if_false, and_self, and_true, true_and, or_self, or_true, true_or, false_or, or_false, i10, i00, i01, i11]
  · simp only [uX12_chance_0, uX12_chance_1, uX12_chance_2, uX12_chance_5, uX12_chance_8, uX12_chance_9, uX12_chance_10, uX12_chance_13, uX12_chance_16, uX12_chance_17, uX12_chance_18, uX12_chance_19, uX12_chance_20, uX12_chance_23, uX12_chance_26, uX12_chance_27, uX12_chance_28, uX12_chance_31, uX12_chance_34, uX12_chance_35, uX12_chance_36, uX12_chance_37, uX12_chance_38, uX12_chance_41, uX12_chance_44, uX12_chance_45, uX12_chance_46, uX12_chance_47, uX12_chance_50, uX12_chance_53, uX12_chance_54, uX12_chance_57, gM0 hM, gM1 hM, gM2 hM, gM3 hM, gM4 hM, gM5 hM, gM6 hM, gM7 hM, gM8 hM, gM9 hM, gM10 hM, gM11 hM, gM12 hM, gM13 hM, gM14 hM, gM15 hM, gM16 hM, gM17 hM, gM18 hM, gM19 hM, gM20 hM, gM21 hM, gM22 hM, gM23 hM, gM24 hM, gM25 hM, gM26 hM, gM27 hM, gM28 hM, gM29 hM, gM30 hM, gM31 hM, gM32 hM, vM hM, noLetter_no hL hM h1, r_lost, Option.bind_some, Option.toList_some, Option.toList_none, List.cons_append, List.nil_append, if_true, if_false, and_self, and_true, true_and, or_self, or_true, true_or, false_or, or_false, i10, i00, i01, i11]
theorem rwL_le : rwL c w ln lg a b < 2 ^ 63 := rwF_lt (pls_le _ _) spF_le ftF_le
theorem r_chance {z : Nat} (hM : rO h 36 = some (11, mF fa dB dL dC dR rd pg (nI L) lm bg tr)) (B : BookM h c w wt) (K : LettersM h L lp ld ln lg) (ha : a < L) (hb : b < L) (hz : z < 2) (hab : a ≠ b) : run 197 (0, [some (.ref 36), some (.int (nI a)), some (.int (nI b)), some (.int (nI z))], [], h) = some (some (.long (lN ((if nI z = 0 then rwL c w ln lg a b else 100 ^ pls (ln a) (ln b)) / Nat.gcd (rwL c w ln lg a b) (100 ^ pls (ln a) (ln b))))), h) := by
  have hL := K.2.2.2.2.1
  have h1 : 0 ≤ (nI z).toInt ∧ (nI z).toInt ≤ 1 := nI_rng (by omega) (by omega)
  have e : (nI a = nI b) = False := eq_false (fun q => hab ((nI_eq (by omega) (by omega)).mp q))
  have hp8 := pls_le (ln a) (ln b)
  have hpl := r_placesOf (a := a) (b := b) hM K (by omega) (by omega)
  have hrw := r_rowsOf (a := a) (b := b) hM B K (by omega) (by omega)
  have hpw := r_power (h := h) (x := 100) (n := pls (ln a) (ln b)) (by omega)
  have e100 : (100 : Int64) = lN 100 := by decide
  have hq := p100 hp8
  have hsh := r_share (h := h) (wh := nI z) (rwL_le (c := c) (w := w) (ln := ln) (lg := lg) (a := a) (b := b)) (show 100 ^ pls (ln a) (ln b) < 2 ^ 63 by omega) (by omega)
  simp only [uX12_chance_0, uX12_chance_1, uX12_chance_2, uX12_chance_5, uX12_chance_8, uX12_chance_9, uX12_chance_10, uX12_chance_13, uX12_chance_16, uX12_chance_17, uX12_chance_18, uX12_chance_19, uX12_chance_20, uX12_chance_23, uX12_chance_26, uX12_chance_27, uX12_chance_28, uX12_chance_31, uX12_chance_34, uX12_chance_35, uX12_chance_36, uX12_chance_37, uX12_chance_38, uX12_chance_41, uX12_chance_44, uX12_chance_45, uX12_chance_46, uX12_chance_47, uX12_chance_50, uX12_chance_53, uX12_chance_54, uX12_chance_57, gM0 hM, gM1 hM, gM2 hM, gM3 hM, gM4 hM, gM5 hM, gM6 hM, gM7 hM, gM8 hM, gM9 hM, gM10 hM, gM11 hM, gM12 hM, gM13 hM, gM14 hM, gM15 hM, gM16 hM, gM17 hM, gM18 hM, gM19 hM, gM20 hM, gM21 hM, gM22 hM, gM23 hM, gM24 hM, gM25 hM, gM26 hM, gM27 hM, gM28 hM, gM29 hM, gM30 hM, gM31 hM, gM32 hM, vM hM, noLetter_ok hL hM ha, noLetter_ok hL hM hb, r_in_0_1, if_pos h1, e, hpl, hrw, e100, hpw, hsh, Option.bind_some, Option.toList_some, Option.toList_none, List.cons_append, List.nil_append, if_true, if_false, and_self, and_true, true_and, or_self, or_true, true_or, false_or, or_false, i10, i00, i01, i11]
end OM
