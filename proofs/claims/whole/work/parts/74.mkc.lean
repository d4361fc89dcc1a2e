def bO (g : Nat → Nat) (a : Nat) : Nat := subm (g 1) (a * g 0)
def adI (g : Nat → Nat) (n a : Nat) : Int32 := if n < 2 then -1 else if dmF g n a (bO g a) then nI (bO g a) else -9
def adH (g : Nat → Nat) (n a : Nat) : Bool := decide (n < 2) || dmF g n a (bO g a)
theorem bO_lt (g : Nat → Nat) (a : Nat) : bO g a < 100 := subm_lt _ _
theorem dm_one {g : Nat → Nat} {n a b : Nat} (h : n < 2) : dmF g n a b = true := by
  unfold dmF
  rw [show n - 1 = 0 by omega]
  rfl
theorem dm_b {g : Nat → Nat} {n a b : Nat} (hn : 2 ≤ n) (hg : g 1 < 100) (hb : b < 100) (hd : dmF g n a b = true) : b = bO g a := by
  have h0 := allB_iff.mp hd 0 (by omega)
  have h1 : g 1 = (a * g 0 + b) % 100 := of_decide_eq_true h0
  unfold bO subm
  omega
theorem dm_0 {g : Nat → Nat} {a : Nat} (hg : g 1 < 100) : dmB g a (bO g a) 0 = true := by
  refine decide_eq_true ?_
  show g 1 = (a * g 0 + bO g a) % 100
  unfold bO subm
  omega
theorem adI_9 {g : Nat → Nat} {n a : Nat} : (adI g n a = -9) = (adH g n a = false) := by
  unfold adI adH
  have := bO_lt g a
  by_cases h1 : n < 2
  · rw [if_pos h1, decide_eq_true h1, Bool.true_or]
    exact (eq_false (by decide)).trans (eq_false (by decide)).symm
  · rw [if_neg h1, decide_eq_false h1, Bool.false_or]
    rcases bcase (dmF g n a (bO g a)) with q | q
    · rw [q, if_pos rfl]
      exact (eq_false (ne9 (by omega))).trans (eq_false (by decide)).symm
    · rw [q, if_neg (by decide)]
      exact (eq_true rfl).trans (eq_true rfl).symm
theorem adI_1 {g : Nat → Nat} {n a : Nat} : (adI g n a = -1) = (n < 2) := by
  unfold adI
  have := bO_lt g a
  by_cases h1 : n < 2
  · rw [if_pos h1]
    exact (eq_true rfl).trans (eq_true h1).symm
  · rw [if_neg h1]
    rcases bcase (dmF g n a (bO g a)) with q | q
    · rw [q, if_pos rfl]
      exact (eq_false (ne1 (by omega))).trans (eq_false h1).symm
    · rw [q, if_neg (by decide)]
      exact (eq_false (by decide)).trans (eq_false h1).symm
theorem adI_b {g : Nat → Nat} {n a : Nat} (h1 : ¬ n < 2) (h2 : adH g n a = true) : adI g n a = nI (bO g a) := by
  unfold adH at h2
  rw [decide_eq_false h1, Bool.false_or] at h2
  unfold adI
  rw [if_neg h1, if_pos h2]
theorem mk_row {g : Nat → Nat} {n m : Nat} (hn : 1 ≤ n) (hg : ∀ j, g j < 100) (hq : mkQ g n m = true) : adH g n (m / 100) = true ∧ (2 ≤ n → m % 100 = bO g (m / 100)) := by
  unfold adH
  by_cases h1 : n < 2
  · rw [decide_eq_true h1, Bool.true_or]
    exact ⟨rfl, fun z => by omega⟩
  · have e := dm_b (by omega) (hg 1) (show m % 100 < 100 by omega) hq
    rw [decide_eq_false h1, Bool.false_or]
    refine ⟨?_, fun _ => e⟩
    rw [← e]
    exact hq
theorem mk_of {g : Nat → Nat} {n a : Nat} (h : adH g n a = true) : mkQ g n (100 * a + bO g a) = true := by
  have := bO_lt g a
  unfold mkQ
  rw [show (100 * a + bO g a) / 100 = a by omega, show (100 * a + bO g a) % 100 = bO g a by omega]
  unfold adH at h
  by_cases h1 : n < 2
  · exact dm_one h1
  · rw [decide_eq_false h1, Bool.false_or] at h
    exact h
theorem cnt_add {q : Nat → Bool} {m : Nat} : ∀ j, cnt q (m + j) = cnt q m + cnt (fun i => q (m + i)) j
  | 0 => rfl
  | j + 1 => by
    show cnt q (m + j + 1) = _
    rw [cnt_s, cnt_s, cnt_add j]
    omega
def adC (g : Nat → Nat) (n a : Nat) : Nat := if n < 2 then 100 else b2 (dmF g n a (bO g a))
def adS (g : Nat → Nat) (n : Nat) : Nat → Nat
  | 0 => 0
  | a + 1 => adS g n a + adC g n a
theorem adS_cnt {g : Nat → Nat} {n : Nat} (hg : ∀ j, g j < 100) : ∀ a, adS g n a = cnt (mkQ g n) (100 * a)
  | 0 => rfl
  | a + 1 => by
    have ih := adS_cnt (n := n) hg a
    show adS g n a + adC g n a = _
    rw [show 100 * (a + 1) = 100 * a + 100 by omega, cnt_add, ← ih]
    congr 1
    have e0 : cnt (fun i => mkQ g n (100 * a + i)) 100 = cnt (fun i => dmF g n a i) 100 := cnt_congr 100 (fun u hu => by
      unfold mkQ
      rw [show (100 * a + u) / 100 = a by omega, show (100 * a + u) % 100 = u by omega])
    rw [e0]
    unfold adC
    by_cases h1 : n < 2
    · rw [if_pos h1]
      have e1 : cnt (fun i => dmF g n a i) 100 = cnt (fun _ => true) 100 := cnt_congr 100 (fun u _ => dm_one h1)
      rw [e1]
      rfl
    · rw [if_neg h1]
      have hb := bO_lt g a
      rcases bcase (dmF g n a (bO g a)) with q | q
      · have e1 : cnt (fun i => dmF g n a i) 100 = cnt (fun v => decide (some (bO g a) = some v)) 100 := cnt_congr 100 (fun u hu => by
          by_cases z : u = bO g a
          · rw [z, q, decide_eq_true rfl]
          · rw [decide_eq_false (fun r => z (by cases r; rfl))]
            rcases bcase (dmF g n a u) with w | w
            · exact absurd (dm_b (by omega) (hg 1) hu w) z
            · exact w)
        rw [e1, cnt_at, q]
        show _ = b2 (decide (bO g a < 100))
        rw [decide_eq_true hb]
      · have e1 : cnt (fun i => dmF g n a i) 100 = cnt (fun v => decide (none = some v)) 100 := cnt_congr 100 (fun u hu => by
          rw [decide_eq_false (fun r => by cases r)]
          rcases bcase (dmF g n a u) with w | w
          · have := dm_b (by omega) (hg 1) hu w
            rw [this, q] at w
            cases w
          · exact w)
        rw [e1, cnt_at, q]
theorem adS_le {g : Nat → Nat} {n : Nat} : ∀ a, adS g n a ≤ 100 * a
  | 0 => Nat.le_refl _
  | a + 1 => by
    have := adS_le (g := g) (n := n) a
    show adS g n a + adC g n a ≤ _
    unfold adC b2
    split
    · omega
    · split <;> omega
theorem mk_none {g : Nat → Nat} {n : Nat} (hn : 1 ≤ n) (hg : ∀ j, g j < 100) (h : fstF (adH g n) 100 0 = none) : fstF (mkQ g n) 10000 0 = none := by
  rcases fst_cases (q := adH g n) 100 0 with ⟨h1, h2⟩ | ⟨t, h1, h2, h3, h4, h5⟩
  · refine fst_none 10000 0 (fun x h3 h4 => ?_)
    rcases bcase (mkQ g n x) with z | z
    · have := (mk_row hn hg z).1
      rw [h2 (x / 100) (by omega) (by omega)] at this
      cases this
    · exact z
  · rw [h5] at h
    cases h
theorem mk_some {g : Nat → Nat} {n a : Nat} (hn : 1 ≤ n) (hg : ∀ j, g j < 100) (h : fstF (adH g n) 100 0 = some a) : a < 100 ∧ adH g n a = true ∧ fstF (mkQ g n) 10000 0 = some (100 * a + if n < 2 then 0 else bO g a) := by
  rcases fst_cases (q := adH g n) 100 0 with ⟨h1, h2⟩ | ⟨t, h1, h2, h3, h4, h5⟩
  · rw [h1] at h
    cases h
  · rw [h5] at h
    have e := Option.some.inj h
    subst e
    have hb := bO_lt g t
    refine ⟨by omega, h4, fst_some 10000 0 _ (by omega) ?_ (fun x _ hx => ?_) ?_⟩
    · split <;> omega
    · rcases bcase (mkQ g n x) with z | z
      · obtain ⟨w1, w2⟩ := mk_row hn hg z
        by_cases e : x / 100 = t
        · by_cases h6 : n < 2
          · rw [if_pos h6] at hx
            omega
          · rw [if_neg h6] at hx
            have := w2 (by omega)
            rw [e] at this
            omega
        · have : x / 100 < t := by split at hx <;> omega
          rw [h3 (x / 100) (by omega) this] at w1
          cases w1
      · exact z
    · by_cases h6 : n < 2
      · rw [if_pos h6]
        exact dm_one h6
      · rw [if_neg h6]
        exact mk_of h4
theorem lk_spec {q r : Nat → Bool} : ∀ e m s, lkR q r e m s = true ↔ (∀ x, m ≤ x → x < m + e → q x = true → r x = true) ∧ (s = true ∨ ∃ x, m ≤ x ∧ x < m + e ∧ q x = true)
  | 0, m, s => by
    show s = true ↔ _
    exact ⟨fun h => ⟨fun x h1 h2 => by omega, Or.inl h⟩, fun h => h.2.elim (fun z => z) (fun ⟨x, h1, h2, _⟩ => by omega)⟩
  | e + 1, m, s => by
    have ih := fun s => lk_spec (q := q) (r := r) e (m + 1) s
    show (if q m then (if r m then lkR q r e (m + 1) true else false) else lkR q r e (m + 1) s) = true ↔ _
    rcases bcase (q m) with h1 | h1
    · rw [h1, if_pos rfl]
      rcases bcase (r m) with h2 | h2
      · rw [h2, if_pos rfl, ih]
        constructor
        · intro z
          refine ⟨fun x a1 a2 a3 => ?_, Or.inr ⟨m, Nat.le_refl _, by omega, h1⟩⟩
          by_cases w : x = m
          · rw [w]; exact h2
          · exact z.1 x (by omega) (by omega) a3
        · intro z
          exact ⟨fun x a1 a2 a3 => z.1 x (by omega) (by omega) a3, Or.inl rfl⟩
      · rw [h2, if_neg (by decide)]
        constructor
        · intro z; cases z
        · intro z
          have := z.1 m (Nat.le_refl _) (by omega) h1
          rw [h2] at this
          cases this
    · rw [h1, if_neg (by decide), ih]
      constructor
      · intro z
        refine ⟨fun x a1 a2 a3 => ?_, z.2.elim (fun w => Or.inl w) (fun ⟨x, a1, a2, a3⟩ => Or.inr ⟨x, by omega, by omega, a3⟩)⟩
        by_cases w : x = m
        · rw [w, h1] at a3; cases a3
        · exact z.1 x (by omega) (by omega) a3
      · intro z
        refine ⟨fun x a1 a2 a3 => z.1 x (by omega) (by omega) a3, z.2.elim (fun w => Or.inl w) (fun ⟨x, a1, a2, a3⟩ => Or.inr ⟨x, ?_, by omega, a3⟩)⟩
        by_cases w : x = m
        · rw [w, h1] at a3; cases a3
        · omega
theorem nx_spec {q : Nat → Bool} {V : Nat → Nat} {v : Nat} : ∀ e m s, nxR q V e m s = some v ↔ (s = none ∨ s = some v) ∧ (∀ x, m ≤ x → x < m + e → q x = true → V x = v) ∧ (s = some v ∨ ∃ x, m ≤ x ∧ x < m + e ∧ q x = true)
  | 0, m, s => by
    have e0 : nxR q V 0 m s = s := by cases s <;> rfl
    rw [e0]
    exact ⟨fun h => ⟨Or.inr h, fun x h1 h2 => by omega, Or.inl h⟩, fun h => h.2.2.elim (fun z => z) (fun ⟨x, h1, h2, _⟩ => by omega)⟩
  | e + 1, m, s => by
    have ih := fun s => nx_spec (q := q) (V := V) (v := v) e (m + 1) s
    rcases bcase (q m) with h1 | h1
    · cases s with
      | none =>
        rw [nxR_0 h1, ih]
        constructor
        · intro z
          have hv : V m = v := z.1.elim (fun w => by cases w) (fun w => by cases w; rfl)
          refine ⟨Or.inl rfl, fun x a1 a2 a3 => ?_, Or.inr ⟨m, Nat.le_refl _, by omega, h1⟩⟩
          by_cases w : x = m
          · rw [w]; exact hv
          · exact z.2.1 x (by omega) (by omega) a3
        · intro z
          have hv := z.2.1 m (Nat.le_refl _) (by omega) h1
          exact ⟨Or.inr (by rw [hv]), fun x a1 a2 a3 => z.2.1 x (by omega) (by omega) a3, Or.inl (by rw [hv])⟩
      | some u =>
        rw [nxR_s h1]
        by_cases h2 : V m = u
        · rw [if_pos h2, ih]
          constructor
          · intro z
            have hv : V m = v := z.1.elim (fun w => by cases w) (fun w => by cases w; rfl)
            refine ⟨Or.inr (by rw [← h2, hv]), fun x a1 a2 a3 => ?_, Or.inl (by rw [← h2, hv])⟩
            by_cases w : x = m
            · rw [w]; exact hv
            · exact z.2.1 x (by omega) (by omega) a3
          · intro z
            have hv := z.2.1 m (Nat.le_refl _) (by omega) h1
            exact ⟨Or.inr (by rw [hv]), fun x a1 a2 a3 => z.2.1 x (by omega) (by omega) a3, Or.inl (by rw [hv])⟩
        · rw [if_neg h2]
          constructor
          · intro z; cases z
          · intro z
            have hv := z.2.1 m (Nat.le_refl _) (by omega) h1
            have hu : u = v := z.1.elim (fun w => by cases w) (fun w => by cases w; rfl)
            exact absurd (hv.trans hu.symm) h2
    · rw [nxR_n h1, ih]
      constructor
      · intro z
        refine ⟨z.1, fun x a1 a2 a3 => ?_, z.2.2.elim (fun w => Or.inl w) (fun ⟨x, a1, a2, a3⟩ => Or.inr ⟨x, by omega, by omega, a3⟩)⟩
        by_cases w : x = m
        · rw [w, h1] at a3; cases a3
        · exact z.2.1 x (by omega) (by omega) a3
      · intro z
        refine ⟨z.1, fun x a1 a2 a3 => z.2.1 x (by omega) (by omega) a3, z.2.2.elim (fun w => Or.inl w) (fun ⟨x, a1, a2, a3⟩ => Or.inr ⟨x, ?_, by omega, a3⟩)⟩
        by_cases w : x = m
        · rw [w, h1] at a3; cases a3
        · omega
theorem nx_eq {g : Nat → Nat} {n y : Nat} (hn : 2 ≤ n) (hg : ∀ j, g j < 100) : nxR (adH g n) (fun a => (a * y + bO g a) % 100) 100 0 none = nxR (mkQ g n) (fun m => (m / 100 * y + m % 100) % 100) 10000 0 none := by
  refine Option.ext (fun v => ?_)
  rw [nx_spec, nx_spec]
  have hb := fun a => bO_lt g a
  constructor
  · rintro ⟨_, h2, h3⟩
    refine ⟨Or.inl rfl, fun x a1 a2 a3 => ?_, ?_⟩
    · obtain ⟨w1, w2⟩ := mk_row (by omega) hg a3
      have := h2 (x / 100) (by omega) (by omega) w1
      show (x / 100 * y + x % 100) % 100 = v
      rw [w2 hn]
      exact this
    · rcases h3 with z | ⟨x, a1, a2, a3⟩
      · cases z
      · have := hb x
        exact Or.inr ⟨100 * x + bO g x, by omega, by omega, mk_of a3⟩
  · rintro ⟨_, h2, h3⟩
    refine ⟨Or.inl rfl, fun x a1 a2 a3 => ?_, ?_⟩
    · have hx := hb x
      have := h2 (100 * x + bO g x) (by omega) (by omega) (mk_of a3)
      have this : ((100 * x + bO g x) / 100 * y + (100 * x + bO g x) % 100) % 100 = v := this
      rw [show (100 * x + bO g x) / 100 = x by omega, show (100 * x + bO g x) % 100 = bO g x by omega] at this
      exact this
    · rcases h3 with z | ⟨x, a1, a2, a3⟩
      · cases z
      · exact Or.inr ⟨x / 100, by omega, by omega, (mk_row (by omega) hg a3).1⟩
theorem nx_one {g : Nat → Nat} {n y : Nat} (hn : n < 2) : nxR (mkQ g n) (fun m => (m / 100 * y + m % 100) % 100) 10000 0 none = none := by
  cases hv : nxR (mkQ g n) (fun m => (m / 100 * y + m % 100) % 100) 10000 0 none with
  | none => rfl
  | some v =>
    obtain ⟨_, h2, _⟩ := (nx_spec 10000 0 none).mp hv
    have e0 := h2 0 (by omega) (by omega) (dm_one hn)
    have e1 := h2 1 (by omega) (by omega) (dm_one hn)
    have e0 : (0 / 100 * y + 0 % 100) % 100 = v := e0
    have e1 : (1 / 100 * y + 1 % 100) % 100 = v := e1
    rw [show 0 / 100 = 0 by decide, Nat.zero_mul] at e0
    rw [show 1 / 100 = 0 by decide, Nat.zero_mul] at e1
    omega
def lkB (g : Nat → Nat) (n : Nat) (g2 : Nat → Nat) (n2 a : Nat) : Bool := decide (adI g2 n2 a = -1) || decide (adI g2 n2 a = adI g n a)
theorem lk_eq {g : Nat → Nat} {n : Nat} {g2 : Nat → Nat} {n2 : Nat} (hn : 1 ≤ n) (hn2 : 1 ≤ n2) (hg : ∀ j, g j < 100) (hg2 : ∀ j, g2 j < 100) : lkR (adH g n) (lkB g n g2 n2) 100 0 false = lkR (mkQ g n) (mkQ g2 n2) 10000 0 false := by
  have hb := fun a => bO_lt g a
  have hb2 := fun a => bO_lt g2 a
  have key : lkR (adH g n) (lkB g n g2 n2) 100 0 false = true ↔ lkR (mkQ g n) (mkQ g2 n2) 10000 0 false = true := by
    rw [lk_spec, lk_spec]
    constructor
    · rintro ⟨h2, h3⟩
      refine ⟨fun x a1 a2 a3 => ?_, ?_⟩
      · obtain ⟨w1, w2⟩ := mk_row hn hg a3
        have h4 := h2 (x / 100) (by omega) (by omega) w1
        unfold lkB at h4
        rw [Bool.or_eq_true, decide_eq_true_iff, decide_eq_true_iff, adI_1] at h4
        by_cases z2 : n2 < 2
        · exact dm_one z2
        · have h5 := h4.resolve_left z2
          by_cases z : n < 2
          · have : adI g2 n2 (x / 100) = -1 := by rw [h5]; exact if_pos z
            rw [adI_1] at this
            exact absurd this z2
          · rw [adI_b z w1] at h5
            have h6 : adH g2 n2 (x / 100) = true := by
              rcases bcase (adH g2 n2 (x / 100)) with q | q
              · exact q
              · rw [← adI_9] at q
                rw [q] at h5
                exact absurd h5.symm (ne9 (by have := hb (x / 100); omega))
            rw [adI_b z2 h6] at h5
            have h7 := (nI_eq (by have := hb2 (x / 100); omega) (by have := hb (x / 100); omega)).mp h5
            have h8 := mk_of h6
            rw [h7, ← w2 (by omega), show 100 * (x / 100) + x % 100 = x by omega] at h8
            exact h8
      · rcases h3 with z | ⟨x, a1, a2, a3⟩
        · cases z
        · have := hb x
          exact Or.inr ⟨100 * x + bO g x, by omega, by omega, mk_of a3⟩
    · rintro ⟨h2, h3⟩
      refine ⟨fun x a1 a2 a3 => ?_, ?_⟩
      · unfold lkB
        rw [Bool.or_eq_true, decide_eq_true_iff, decide_eq_true_iff, adI_1]
        by_cases z2 : n2 < 2
        · exact Or.inl z2
        · refine Or.inr ?_
          by_cases z : n < 2
          · have e0 := h2 (100 * x + 0) (by omega) (by omega) (dm_one z)
            have e1 := h2 (100 * x + 1) (by omega) (by omega) (dm_one z)
            have f0 := (mk_row hn2 hg2 e0).2 (by omega)
            have f1 := (mk_row hn2 hg2 e1).2 (by omega)
            rw [show (100 * x + 0) / 100 = x by omega] at f0
            rw [show (100 * x + 1) / 100 = x by omega] at f1
            omega
          · have hx := hb x
            have e0 := h2 (100 * x + bO g x) (by omega) (by omega) (mk_of a3)
            obtain ⟨f0, f1⟩ := mk_row hn2 hg2 e0
            have f1 := f1 (by omega)
            rw [show (100 * x + bO g x) / 100 = x by omega] at f0 f1
            rw [show (100 * x + bO g x) % 100 = bO g x by omega] at f1
            rw [adI_b z a3, adI_b z2 f0, f1]
      · rcases h3 with z | ⟨x, a1, a2, a3⟩
        · cases z
        · exact Or.inr ⟨x / 100, by omega, by omega, (mk_row hn hg a3).1⟩
  rcases bcase (lkR (adH g n) (lkB g n g2 n2) 100 0 false) with z | z
  · rw [z, key.mp z]
  · rcases bcase (lkR (mkQ g n) (mkQ g2 n2) 10000 0 false) with z2 | z2
    · rw [key.mpr z2] at z
      cases z
    · rw [z, z2]
section MKX
variable {h : AH} {dr : Nat} {xp xl xf : Int32} {P : Nat} {pk pp pn pl : Nat → Nat} {gr : Nat → Nat → Nat} {pa qa : Nat → Nat} {p : Nat}
theorem c_addendOf {a : Nat} (G : PagesC h P pk pp pn pl gr pa qa) (hp : p < P) (ha : a < 100) : run 60 (0, [some (.ref (pa p)), some (.int (nI a)), none, none], [], h) = some (some (.int (adI (gr p) (pn p) a)), h) := by
  obtain ⟨c1, ⟨f, c2, ce⟩, c3, _⟩ := G.2.1 p hp
  have hk := G.2.2.2.1 p
  have hn := G.2.2.2.2.2.1 p
  have hg := G.2.2.2.2.2.2.2.1 p
  have hn1 := G.2.2.2.2.2.2.2.2 p hp
  have g2 := gPg2 c1 hk (show 4 ≤ pa p by omega)
  have gl := gl_nI c2
  unfold adI
  by_cases w : pn p < 2
  · have q1 : ¬ (2 : Int32) ≤ nI (pn p) := nI_ge (b := 2) w (by decide)
    rw [if_pos w]
    simp only [uX5_addendOf_0, uX5_addendOf_1, uX5_addendOf_4, uX5_addendOf_5, uX5_addendOf_6, uX5_addendOf_9, uX5_addendOf_10, uX5_addendOf_11, uX5_addendOf_12, uX5_addendOf_15, uX5_addendOf_16, uX5_addendOf_17, uX5_addendOf_18, uX5_addendOf_19, uX5_addendOf_22, uX5_addendOf_23, uX5_addendOf_24, uX5_addendOf_25, uX5_addendOf_26, uX5_addendOf_28, uX5_addendOf_31, uX5_addendOf_32, uX5_addendOf_33, uX5_addendOf_35, uX5_addendOf_36, uX5_addendOf_39, uX5_addendOf_40, uX5_addendOf_43, uX5_addendOf_44, uX5_addendOf_45, uX5_addendOf_48, uX5_addendOf_49, uX5_addendOf_50, uX5_addendOf_51, uX5_addendOf_52, uX5_addendOf_53, uX5_addendOf_54, uX5_addendOf_55, uX5_addendOf_57, uX5_addendOf_58, uX5_addendOf_59, uX5_addendOf_62, uX5_addendOf_63, uX5_addendOf_64, uX5_addendOf_67, uX5_addendOf_69, uX5_addendOf_70, uX5_addendOf_73, uX5_addendOf_76, uX5_addendOf_77, g2, gl, q1, Option.bind_some, Option.toList_some, Option.toList_none, List.cons_append, List.nil_append, if_true, if_false, and_self, and_true, true_and, or_self, or_true, true_or, false_or, or_false, i10, i00, i01, i11, Nat.reduceAdd, st1_0, st1_c, st1_1i, st1_1r, st1_1n, st1_1u, st1_1J, st2_0, st2_c, st2_1i, st2_1r, st2_1n, st2_1u, st2_1J]
  · have q1 : (2 : Int32) ≤ nI (pn p) := nI_le (a := 2) (by omega) (by omega)
    rw [if_neg w]
    have i1 : gi h (qa p) 1 = some (nI (gr p 1)) := by rw [show (1 : Int32) = nI 1 from rfl, gi_nI c2 (by omega) (by omega), ce 1 (by omega)]
    have i0 : gi h (qa p) 0 = some (nI (gr p 0)) := by rw [show (0 : Int32) = nI 0 from rfl, gi_nI c2 (by omega) (by omega), ce 0 (by omega)]
    have h0 := hg 0
    have h1 := hg 1
    have hm0 : a * gr p 0 ≤ 99 * 99 := Nat.mul_le_mul (by omega) (by omega)
    have rj := j_subm (h := h) (show gr p 1 < 2 ^ 30 by omega) (show a * gr p 0 < 2 ^ 30 by omega)
    have lp : ∀ e x, x + 1 + e = pn p → run 60 (34, [some (.ref (pa p)), some (.int (nI a)), some (.int (nI (bO (gr p) a))), some (.int (nI (x + 1)))], [], h) = some (some (.int (if allB (fun i => dmB (gr p) a (bO (gr p) a) (x + i)) e then nI (bO (gr p) a) else -9)), h) := by
      intro e
      induction e with
      | zero =>
        intro x hx
        have q2 : nI (pn p) ≤ nI (x + 1) := nI_le (by omega) (by omega)
        show _ = some (some (Value.int (if true = true then nI (bO (gr p) a) else -9)), h)
        rw [uX5_addendOf_34]
        simp only [uX5_addendOf_0, uX5_addendOf_1, uX5_addendOf_4, uX5_addendOf_5, uX5_addendOf_6, uX5_addendOf_9, uX5_addendOf_10, uX5_addendOf_11, uX5_addendOf_12, uX5_addendOf_15, uX5_addendOf_16, uX5_addendOf_17, uX5_addendOf_18, uX5_addendOf_19, uX5_addendOf_22, uX5_addendOf_23, uX5_addendOf_24, uX5_addendOf_25, uX5_addendOf_26, uX5_addendOf_28, uX5_addendOf_31, uX5_addendOf_32, uX5_addendOf_33, uX5_addendOf_35, uX5_addendOf_36, uX5_addendOf_39, uX5_addendOf_40, uX5_addendOf_43, uX5_addendOf_44, uX5_addendOf_45, uX5_addendOf_48, uX5_addendOf_49, uX5_addendOf_50, uX5_addendOf_51, uX5_addendOf_52, uX5_addendOf_53, uX5_addendOf_54, uX5_addendOf_55, uX5_addendOf_57, uX5_addendOf_58, uX5_addendOf_59, uX5_addendOf_62, uX5_addendOf_63, uX5_addendOf_64, uX5_addendOf_67, uX5_addendOf_69, uX5_addendOf_70, uX5_addendOf_73, uX5_addendOf_76, uX5_addendOf_77, g2, gl, q2, Option.bind_some, Option.toList_some, Option.toList_none, List.cons_append, List.nil_append, if_true, if_false, and_self, and_true, true_and, or_self, or_true, true_or, false_or, or_false, i10, i00, i01, i11, Nat.reduceAdd, st1_0, st1_c, st1_1i, st1_1r, st1_1n, st1_1u, st1_1J, st2_0, st2_c, st2_1i, st2_1r, st2_1n, st2_1u, st2_1J]
      | succ e ih =>
        intro x hx
        have ih1 := ih (x + 1) (by omega)
        have q2 : ¬ nI (pn p) ≤ nI (x + 1) := nI_ge (by omega) (by omega)
        have e1 : nI (x + 1) - 1 = nI x := nI_s1
        have ix : gi h (qa p) (nI x) = some (nI (gr p x)) := by rw [gi_nI c2 (by omega) (by omega), ce x (by omega)]
        have ix1 : gi h (qa p) (nI (x + 1)) = some (nI (gr p (x + 1))) := by rw [gi_nI c2 (by omega) (by omega), ce (x + 1) (by omega)]
        have hx0 := hg x
        have hx1 := hg (x + 1)
        have hb := bO_lt (gr p) a
        have hm : a * gr p x ≤ 99 * 99 := Nat.mul_le_mul (by omega) (by omega)
        have er := pk_rem100 (n := a * gr p x + bO (gr p) a) (by omega)
        have z : ¬ (100 : Int32) = 0 := by decide
        have es : allB (fun i => dmB (gr p) a (bO (gr p) a) (x + i)) (e + 1) = (dmB (gr p) a (bO (gr p) a) x && allB (fun i => dmB (gr p) a (bO (gr p) a) (x + 1 + i)) e) := by
          rw [allB_cons]
          show (dmB (gr p) a (bO (gr p) a) x && _) = _
          congr 2
          funext i
          congr 1
          omega
        rw [es, uX5_addendOf_34]
        by_cases q : gr p (x + 1) = (a * gr p x + bO (gr p) a) % 100
        · have eb : dmB (gr p) a (bO (gr p) a) x = true := decide_eq_true q
          rw [q] at ix1
          rw [eb]
          simp only [uX5_addendOf_0, uX5_addendOf_1, uX5_addendOf_4, uX5_addendOf_5, uX5_addendOf_6, uX5_addendOf_9, uX5_addendOf_10, uX5_addendOf_11, uX5_addendOf_12, uX5_addendOf_15, uX5_addendOf_16, uX5_addendOf_17, uX5_addendOf_18, uX5_addendOf_19, uX5_addendOf_22, uX5_addendOf_23, uX5_addendOf_24, uX5_addendOf_25, uX5_addendOf_26, uX5_addendOf_28, uX5_addendOf_31, uX5_addendOf_32, uX5_addendOf_33, uX5_addendOf_35, uX5_addendOf_36, uX5_addendOf_39, uX5_addendOf_40, uX5_addendOf_43, uX5_addendOf_44, uX5_addendOf_45, uX5_addendOf_48, uX5_addendOf_49, uX5_addendOf_50, uX5_addendOf_51, uX5_addendOf_52, uX5_addendOf_53, uX5_addendOf_54, uX5_addendOf_55, uX5_addendOf_57, uX5_addendOf_58, uX5_addendOf_59, uX5_addendOf_62, uX5_addendOf_63, uX5_addendOf_64, uX5_addendOf_67, uX5_addendOf_69, uX5_addendOf_70, uX5_addendOf_73, uX5_addendOf_76, uX5_addendOf_77, g2, gl, q2, e1, ix, pk_mul, nI_add, z, er, ix1, nI_1, Bool.true_and, Option.bind_some, Option.toList_some, Option.toList_none, List.cons_append, List.nil_append, if_true, if_false, and_self, and_true, true_and, or_self, or_true, true_or, false_or, or_false, i10, i00, i01, i11, Nat.reduceAdd, st1_0, st1_c, st1_1i, st1_1r, st1_1n, st1_1u, st1_1J, st2_0, st2_c, st2_1i, st2_1r, st2_1n, st2_1u, st2_1J]
          exact ih1
        · have eb : dmB (gr p) a (bO (gr p) a) x = false := decide_eq_false q
          have q3 : ¬ nI ((a * gr p x + bO (gr p) a) % 100) = nI (gr p (x + 1)) := nI_ne (fun r => q r.symm) (by omega) (by omega)
          rw [eb]
          simp only [uX5_addendOf_0, uX5_addendOf_1, uX5_addendOf_4, uX5_addendOf_5, uX5_addendOf_6, uX5_addendOf_9, uX5_addendOf_10, uX5_addendOf_11, uX5_addendOf_12, uX5_addendOf_15, uX5_addendOf_16, uX5_addendOf_17, uX5_addendOf_18, uX5_addendOf_19, uX5_addendOf_22, uX5_addendOf_23, uX5_addendOf_24, uX5_addendOf_25, uX5_addendOf_26, uX5_addendOf_28, uX5_addendOf_31, uX5_addendOf_32, uX5_addendOf_33, uX5_addendOf_35, uX5_addendOf_36, uX5_addendOf_39, uX5_addendOf_40, uX5_addendOf_43, uX5_addendOf_44, uX5_addendOf_45, uX5_addendOf_48, uX5_addendOf_49, uX5_addendOf_50, uX5_addendOf_51, uX5_addendOf_52, uX5_addendOf_53, uX5_addendOf_54, uX5_addendOf_55, uX5_addendOf_57, uX5_addendOf_58, uX5_addendOf_59, uX5_addendOf_62, uX5_addendOf_63, uX5_addendOf_64, uX5_addendOf_67, uX5_addendOf_69, uX5_addendOf_70, uX5_addendOf_73, uX5_addendOf_76, uX5_addendOf_77, g2, gl, q2, e1, ix, pk_mul, nI_add, z, er, ix1, q3, nI_1, Bool.false_and, Bool.false_eq_true, Option.bind_some, Option.toList_some, Option.toList_none, List.cons_append, List.nil_append, if_true, if_false, and_self, and_true, true_and, or_self, or_true, true_or, false_or, or_false, i10, i00, i01, i11, Nat.reduceAdd, st1_0, st1_c, st1_1i, st1_1r, st1_1n, st1_1u, st1_1J, st2_0, st2_c, st2_1i, st2_1r, st2_1n, st2_1u, st2_1J]
    have lp1 := lp (pn p - 2) 1 (by omega)
    have ed : dmF (gr p) (pn p) a (bO (gr p) a) = allB (fun i => dmB (gr p) a (bO (gr p) a) (1 + i)) (pn p - 2) := by
      unfold dmF
      rw [show pn p - 1 = (pn p - 2) + 1 by omega, allB_cons, dm_0 h1, Bool.true_and]
      congr 1
      funext i
      rw [Nat.add_comm]
    rw [ed]
    simp only [uX5_addendOf_0, uX5_addendOf_1, uX5_addendOf_4, uX5_addendOf_5, uX5_addendOf_6, uX5_addendOf_9, uX5_addendOf_10, uX5_addendOf_11, uX5_addendOf_12, uX5_addendOf_15, uX5_addendOf_16, uX5_addendOf_17, uX5_addendOf_18, uX5_addendOf_19, uX5_addendOf_22, uX5_addendOf_23, uX5_addendOf_24, uX5_addendOf_25, uX5_addendOf_26, uX5_addendOf_28, uX5_addendOf_31, uX5_addendOf_32, uX5_addendOf_33, uX5_addendOf_35, uX5_addendOf_36, uX5_addendOf_39, uX5_addendOf_40, uX5_addendOf_43, uX5_addendOf_44, uX5_addendOf_45, uX5_addendOf_48, uX5_addendOf_49, uX5_addendOf_50, uX5_addendOf_51, uX5_addendOf_52, uX5_addendOf_53, uX5_addendOf_54, uX5_addendOf_55, uX5_addendOf_57, uX5_addendOf_58, uX5_addendOf_59, uX5_addendOf_62, uX5_addendOf_63, uX5_addendOf_64, uX5_addendOf_67, uX5_addendOf_69, uX5_addendOf_70, uX5_addendOf_73, uX5_addendOf_76, uX5_addendOf_77, g2, gl, q1, i1, i0, pk_mul, rj, Option.bind_some, Option.toList_some, Option.toList_none, List.cons_append, List.nil_append, if_true, if_false, and_self, and_true, true_and, or_self, or_true, true_or, false_or, or_false, i10, i00, i01, i11, Nat.reduceAdd, st1_0, st1_c, st1_1i, st1_1r, st1_1n, st1_1u, st1_1J, st2_0, st2_c, st2_1i, st2_1r, st2_1n, st2_1u, st2_1J]
    exact lp1
theorem c_countMakers (G : PagesC h P pk pp pn pl gr pa qa) (hp : p < P) : run 61 (0, [some (.ref (pa p)), none, none, none], [], h) = some (some (.int (nI (cnt (mkQ (gr p) (pn p)) 10000))), h) := by
  obtain ⟨c1, _⟩ := G.2.1 p hp
  have hk := G.2.2.2.1 p
  have hg := G.2.2.2.2.2.2.2.1 p
  have gen : ∀ t, t ≤ 100 → ∃ l3, run 61 (4, [some (.ref (pa p)), some (.int (nI 0)), some (.int (nI 0)), none], [], h) = run 61 (4, [some (.ref (pa p)), some (.int (nI (adS (gr p) (pn p) t))), some (.int (nI t)), l3], [], h) := by
    intro t
    induction t with
    | zero => exact fun _ => ⟨_, rfl⟩
    | succ t ih =>
      intro ht
      obtain ⟨l3, e0⟩ := ih (by omega)
      refine ⟨some (.int (adI (gr p) (pn p) t)), e0.trans ?_⟩
      have q1 : ¬ (100 : Int32) ≤ nI t := nI_ge (a := t) (b := 100) (by omega) (by decide)
      have r1 := c_addendOf (a := t) G hp (by omega)
      have es : adS (gr p) (pn p) (t + 1) = adS (gr p) (pn p) t + adC (gr p) (pn p) t := rfl
      rw [es, uX5_countMakers_4]
      unfold adC
      by_cases w : pn p < 2
      · have q2 : adI (gr p) (pn p) t = -1 := by rw [adI_1]; exact w
        have e1 : nI (adS (gr p) (pn p) t) + 100 = nI (adS (gr p) (pn p) t + 100) := nI_add _ 100
        rw [if_pos w]
        simp only [uX5_countMakers_0, uX5_countMakers_1, uX5_countMakers_2, uX5_countMakers_3, uX5_countMakers_5, uX5_countMakers_7, uX5_countMakers_10, uX5_countMakers_11, uX5_countMakers_12, uX5_countMakers_15, uX5_countMakers_16, uX5_countMakers_17, uX5_countMakers_18, uX5_countMakers_21, uX5_countMakers_24, uX5_countMakers_27, uX5_countMakers_28, uX5_countMakers_30, uX5_countMakers_33, uX5_countMakers_36, uX5_countMakers_39, uX5_countMakers_42, uX5_countMakers_43, q1, vPg c1 hk, r1, q2, e1, nI_1, Option.bind_some, Option.toList_some, Option.toList_none, List.cons_append, List.nil_append, if_true, if_false, and_self, and_true, true_and, or_self, or_true, true_or, false_or, or_false, i10, i00, i01, i11, Nat.reduceAdd, st1_0, st1_c, st1_1i, st1_1r, st1_1n, st1_1u, st1_1J, st2_0, st2_c, st2_1i, st2_1r, st2_1n, st2_1u, st2_1J]
      · have q2 : ¬ adI (gr p) (pn p) t = -1 := by rw [adI_1]; exact w
        rw [if_neg w]
        rcases bcase (dmF (gr p) (pn p) t (bO (gr p) t)) with z | z
        · have q3 : ¬ adI (gr p) (pn p) t = -9 := by
            rw [adI_9]
            unfold adH
            rw [z, Bool.or_true]
            decide
          rw [z]
          simp only [uX5_countMakers_0, uX5_countMakers_1, uX5_countMakers_2, uX5_countMakers_3, uX5_countMakers_5, uX5_countMakers_7, uX5_countMakers_10, uX5_countMakers_11, uX5_countMakers_12, uX5_countMakers_15, uX5_countMakers_16, uX5_countMakers_17, uX5_countMakers_18, uX5_countMakers_21, uX5_countMakers_24, uX5_countMakers_27, uX5_countMakers_28, uX5_countMakers_30, uX5_countMakers_33, uX5_countMakers_36, uX5_countMakers_39, uX5_countMakers_42, uX5_countMakers_43, q1, vPg c1 hk, r1, q2, q3, nI_1, Option.bind_some, Option.toList_some, Option.toList_none, List.cons_append, List.nil_append, if_true, if_false, and_self, and_true, true_and, or_self, or_true, true_or, false_or, or_false, i10, i00, i01, i11, Nat.reduceAdd, st1_0, st1_c, st1_1i, st1_1r, st1_1n, st1_1u, st1_1J, st2_0, st2_c, st2_1i, st2_1r, st2_1n, st2_1u, st2_1J]
          rfl
        · have q3 : adI (gr p) (pn p) t = -9 := by
            rw [adI_9]
            unfold adH
            rw [z, decide_eq_false w]
            rfl
          have q4 : ¬ (-9 : Int32) = -1 := by decide
          rw [z]
          simp only [uX5_countMakers_0, uX5_countMakers_1, uX5_countMakers_2, uX5_countMakers_3, uX5_countMakers_5, uX5_countMakers_7, uX5_countMakers_10, uX5_countMakers_11, uX5_countMakers_12, uX5_countMakers_15, uX5_countMakers_16, uX5_countMakers_17, uX5_countMakers_18, uX5_countMakers_21, uX5_countMakers_24, uX5_countMakers_27, uX5_countMakers_28, uX5_countMakers_30, uX5_countMakers_33, uX5_countMakers_36, uX5_countMakers_39, uX5_countMakers_42, uX5_countMakers_43, q1, vPg c1 hk, r1, q3, q4, nI_1, Option.bind_some, Option.toList_some, Option.toList_none, List.cons_append, List.nil_append, if_true, if_false, and_self, and_true, true_and, or_self, or_true, true_or, false_or, or_false, i10, i00, i01, i11, Nat.reduceAdd, st1_0, st1_c, st1_1i, st1_1r, st1_1n, st1_1u, st1_1J, st2_0, st2_c, st2_1i, st2_1r, st2_1n, st2_1u, st2_1J]
          rfl
  obtain ⟨l3, e⟩ := gen 100 (Nat.le_refl _)
  have q1 : (100 : Int32) ≤ nI 100 := by decide
  rw [show cnt (mkQ (gr p) (pn p)) 10000 = adS (gr p) (pn p) 100 from (adS_cnt hg 100).symm]
  simp only [uX5_countMakers_0, uX5_countMakers_1, uX5_countMakers_2, uX5_countMakers_3, uX5_countMakers_5, uX5_countMakers_7, uX5_countMakers_10, uX5_countMakers_11, uX5_countMakers_12, uX5_countMakers_15, uX5_countMakers_16, uX5_countMakers_17, uX5_countMakers_18, uX5_countMakers_21, uX5_countMakers_24, uX5_countMakers_27, uX5_countMakers_28, uX5_countMakers_30, uX5_countMakers_33, uX5_countMakers_36, uX5_countMakers_39, uX5_countMakers_42, uX5_countMakers_43, Option.bind_some, Option.toList_some, Option.toList_none, List.cons_append, List.nil_append, if_true, if_false, and_self, and_true, true_and, or_self, or_true, true_or, false_or, or_false, i10, i00, i01, i11, Nat.reduceAdd, st1_0, st1_c, st1_1i, st1_1r, st1_1n, st1_1u, st1_1J, st2_0, st2_c, st2_1i, st2_1r, st2_1n, st2_1u, st2_1J]
  refine Eq.trans e ?_
  rw [uX5_countMakers_4]
  simp only [uX5_countMakers_0, uX5_countMakers_1, uX5_countMakers_2, uX5_countMakers_3, uX5_countMakers_5, uX5_countMakers_7, uX5_countMakers_10, uX5_countMakers_11, uX5_countMakers_12, uX5_countMakers_15, uX5_countMakers_16, uX5_countMakers_17, uX5_countMakers_18, uX5_countMakers_21, uX5_countMakers_24, uX5_countMakers_27, uX5_countMakers_28, uX5_countMakers_30, uX5_countMakers_33, uX5_countMakers_36, uX5_countMakers_39, uX5_countMakers_42, uX5_countMakers_43, q1, Option.bind_some, Option.toList_some, Option.toList_none, List.cons_append, List.nil_append, if_true, if_false, and_self, and_true, true_and, or_self, or_true, true_or, false_or, or_false, i10, i00, i01, i11, Nat.reduceAdd, st1_0, st1_c, st1_1i, st1_1r, st1_1n, st1_1u, st1_1J, st2_0, st2_c, st2_1i, st2_1r, st2_1n, st2_1u, st2_1J]
theorem c_leastFactor (G : PagesC h P pk pp pn pl gr pa qa) (hp : p < P) : run 62 (0, [some (.ref (pa p)), none], [], h) = some (some (.int (oN (fstF (adH (gr p) (pn p)) 100 0))), h) := by
  obtain ⟨c1, _⟩ := G.2.1 p hp
  have hk := G.2.2.2.1 p
  have lp : ∀ e a, a + e = 100 → run 62 (2, [some (.ref (pa p)), some (.int (nI a))], [], h) = some (some (.int (oN (fstF (adH (gr p) (pn p)) e a))), h) := by
    intro e
    induction e with
    | zero =>
      intro a ha
      have q1 : (100 : Int32) ≤ nI a := by rw [show a = 100 by omega]; decide
      show _ = some (some (Value.int (-9)), h)
      rw [uX5_leastFactor_2]
      simp only [uX5_leastFactor_0, uX5_leastFactor_1, uX5_leastFactor_3, uX5_leastFactor_5, uX5_leastFactor_8, uX5_leastFactor_9, uX5_leastFactor_10, uX5_leastFactor_13, uX5_leastFactor_15, uX5_leastFactor_18, uX5_leastFactor_19, uX5_leastFactor_20, uX5_leastFactor_23, uX5_leastFactor_26, uX5_leastFactor_28, q1, Option.bind_some, Option.toList_some, Option.toList_none, List.cons_append, List.nil_append, if_true, if_false, and_self, and_true, true_and, or_self, or_true, true_or, false_or, or_false, i10, i00, i01, i11, Nat.reduceAdd, st1_0, st1_c, st1_1i, st1_1r, st1_1n, st1_1u, st1_1J, st2_0, st2_c, st2_1i, st2_1r, st2_1n, st2_1u, st2_1J]
    | succ e ih =>
      intro a ha
      have q1 : ¬ (100 : Int32) ≤ nI a := nI_ge (a := a) (b := 100) (by omega) (by decide)
      have r1 := c_addendOf (a := a) G hp (by omega)
      have ih1 := ih (a + 1) (by omega)
      show _ = some (some (Value.int (oN (if adH (gr p) (pn p) a then some a else fstF (adH (gr p) (pn p)) e (a + 1)))), h)
      rw [uX5_leastFactor_2]
      rcases bcase (adH (gr p) (pn p) a) with z | z
      · have q3 : ¬ adI (gr p) (pn p) a = -9 := by
          rw [adI_9, z]
          decide
        rw [z, if_pos rfl, oN_some]
        simp only [uX5_leastFactor_0, uX5_leastFactor_1, uX5_leastFactor_3, uX5_leastFactor_5, uX5_leastFactor_8, uX5_leastFactor_9, uX5_leastFactor_10, uX5_leastFactor_13, uX5_leastFactor_15, uX5_leastFactor_18, uX5_leastFactor_19, uX5_leastFactor_20, uX5_leastFactor_23, uX5_leastFactor_26, uX5_leastFactor_28, q1, vPg c1 hk, r1, q3, Option.bind_some, Option.toList_some, Option.toList_none, List.cons_append, List.nil_append, if_true, if_false, and_self, and_true, true_and, or_self, or_true, true_or, false_or, or_false, i10, i00, i01, i11, Nat.reduceAdd, st1_0, st1_c, st1_1i, st1_1r, st1_1n, st1_1u, st1_1J, st2_0, st2_c, st2_1i, st2_1r, st2_1n, st2_1u, st2_1J]
      · have q3 : adI (gr p) (pn p) a = -9 := by
          rw [adI_9, z]
        rw [z, if_neg (by decide)]
        simp only [uX5_leastFactor_0, uX5_leastFactor_1, uX5_leastFactor_3, uX5_leastFactor_5, uX5_leastFactor_8, uX5_leastFactor_9, uX5_leastFactor_10, uX5_leastFactor_13, uX5_leastFactor_15, uX5_leastFactor_18, uX5_leastFactor_19, uX5_leastFactor_20, uX5_leastFactor_23, uX5_leastFactor_26, uX5_leastFactor_28, q1, vPg c1 hk, r1, q3, nI_1, Option.bind_some, Option.toList_some, Option.toList_none, List.cons_append, List.nil_append, if_true, if_false, and_self, and_true, true_and, or_self, or_true, true_or, false_or, or_false, i10, i00, i01, i11, Nat.reduceAdd, st1_0, st1_c, st1_1i, st1_1r, st1_1n, st1_1u, st1_1J, st2_0, st2_c, st2_1i, st2_1r, st2_1n, st2_1u, st2_1J]
        exact ih1
  have lp1 := lp 100 0 (by omega)
  simp only [uX5_leastFactor_0, uX5_leastFactor_1, uX5_leastFactor_3, uX5_leastFactor_5, uX5_leastFactor_8, uX5_leastFactor_9, uX5_leastFactor_10, uX5_leastFactor_13, uX5_leastFactor_15, uX5_leastFactor_18, uX5_leastFactor_19, uX5_leastFactor_20, uX5_leastFactor_23, uX5_leastFactor_26, uX5_leastFactor_28, Option.bind_some, Option.toList_some, Option.toList_none, List.cons_append, List.nil_append, if_true, if_false, and_self, and_true, true_and, or_self, or_true, true_or, false_or, or_false, i10, i00, i01, i11, Nat.reduceAdd, st1_0, st1_c, st1_1i, st1_1r, st1_1n, st1_1u, st1_1J, st2_0, st2_c, st2_1i, st2_1r, st2_1n, st2_1u, st2_1J]
  exact lp1
theorem c_leastAddend (G : PagesC h P pk pp pn pl gr pa qa) (hp : p < P) : run 63 (0, [some (.ref (pa p)), none, none], [], h) = some (some (.int (match fstF (adH (gr p) (pn p)) 100 0 with
    | none => -9
    | some a => if pn p < 2 then 0 else nI (bO (gr p) a))), h) := by
  obtain ⟨c1, _⟩ := G.2.1 p hp
  have hk := G.2.2.2.1 p
  have hg := G.2.2.2.2.2.2.2.1 p
  have hn1 := G.2.2.2.2.2.2.2.2 p hp
  have r1 := c_leastFactor G hp
  cases hf : fstF (adH (gr p) (pn p)) 100 0 with
  | none =>
    rw [hf, oN_none] at r1
    simp only [uX5_leastAddend_0, uX5_leastAddend_1, uX5_leastAddend_4, uX5_leastAddend_5, uX5_leastAddend_6, uX5_leastAddend_8, uX5_leastAddend_11, uX5_leastAddend_13, uX5_leastAddend_14, uX5_leastAddend_15, uX5_leastAddend_16, uX5_leastAddend_19, uX5_leastAddend_20, uX5_leastAddend_21, uX5_leastAddend_22, uX5_leastAddend_25, uX5_leastAddend_26, uX5_leastAddend_29, uX5_leastAddend_30, vPg c1 hk, r1, Option.bind_some, Option.toList_some, Option.toList_none, List.cons_append, List.nil_append, if_true, if_false, and_self, and_true, true_and, or_self, or_true, true_or, false_or, or_false, i10, i00, i01, i11, Nat.reduceAdd, st1_0, st1_c, st1_1i, st1_1r, st1_1n, st1_1u, st1_1J, st2_0, st2_c, st2_1i, st2_1r, st2_1n, st2_1u, st2_1J]
  | some a =>
    obtain ⟨a1, a2, _⟩ := mk_some hn1 hg hf
    rw [hf, oN_some] at r1
    have r2 := c_addendOf (a := a) G hp a1
    simp only
    by_cases w : pn p < 2
    · have q2 : adI (gr p) (pn p) a = -1 := by rw [adI_1]; exact w
      rw [if_pos w]
      simp only [uX5_leastAddend_0, uX5_leastAddend_1, uX5_leastAddend_4, uX5_leastAddend_5, uX5_leastAddend_6, uX5_leastAddend_8, uX5_leastAddend_11, uX5_leastAddend_13, uX5_leastAddend_14, uX5_leastAddend_15, uX5_leastAddend_16, uX5_leastAddend_19, uX5_leastAddend_20, uX5_leastAddend_21, uX5_leastAddend_22, uX5_leastAddend_25, uX5_leastAddend_26, uX5_leastAddend_29, uX5_leastAddend_30, vPg c1 hk, r1, ne9 (show a < 2 ^ 31 by omega), r2, q2, Option.bind_some, Option.toList_some, Option.toList_none, List.cons_append, List.nil_append, if_true, if_false, and_self, and_true, true_and, or_self, or_true, true_or, false_or, or_false, i10, i00, i01, i11, Nat.reduceAdd, st1_0, st1_c, st1_1i, st1_1r, st1_1n, st1_1u, st1_1J, st2_0, st2_c, st2_1i, st2_1r, st2_1n, st2_1u, st2_1J]
    · have q2 : ¬ adI (gr p) (pn p) a = -1 := by rw [adI_1]; exact w
      have q3 := adI_b w a2
      rw [q3] at q2 r2
      rw [if_neg w]
      simp only [uX5_leastAddend_0, uX5_leastAddend_1, uX5_leastAddend_4, uX5_leastAddend_5, uX5_leastAddend_6, uX5_leastAddend_8, uX5_leastAddend_11, uX5_leastAddend_13, uX5_leastAddend_14, uX5_leastAddend_15, uX5_leastAddend_16, uX5_leastAddend_19, uX5_leastAddend_20, uX5_leastAddend_21, uX5_leastAddend_22, uX5_leastAddend_25, uX5_leastAddend_26, uX5_leastAddend_29, uX5_leastAddend_30, vPg c1 hk, r1, ne9 (show a < 2 ^ 31 by omega), r2, q2, Option.bind_some, Option.toList_some, Option.toList_none, List.cons_append, List.nil_append, if_true, if_false, and_self, and_true, true_and, or_self, or_true, true_or, false_or, or_false, i10, i00, i01, i11, Nat.reduceAdd, st1_0, st1_c, st1_1i, st1_1r, st1_1n, st1_1u, st1_1J, st2_0, st2_c, st2_1i, st2_1r, st2_1n, st2_1u, st2_1J]
theorem c_isLike {r : Nat} (G : PagesC h P pk pp pn pl gr pa qa) (hp : p < P) (hr : r < P) : run 64 (0, [some (.ref (pa p)), some (.ref (pa r)), none, none, none, none], [], h) = some (some (.int (bI (lkR (mkQ (gr p) (pn p)) (mkQ (gr r) (pn r)) 10000 0 false))), h) := by
  obtain ⟨c1, _⟩ := G.2.1 p hp
  obtain ⟨d1, _⟩ := G.2.1 r hr
  have hk := G.2.2.2.1 p
  have hk2 := G.2.2.2.1 r
  have hg := G.2.2.2.2.2.2.2.1 p
  have hg2 := G.2.2.2.2.2.2.2.1 r
  have hn1 := G.2.2.2.2.2.2.2.2 p hp
  have hn2 := G.2.2.2.2.2.2.2.2 r hr
  have lp : ∀ e a s (l4 l5 : Option Value), a + e = 100 → run 64 (4, [some (.ref (pa p)), some (.ref (pa r)), some (.int (bI s)), some (.int (nI a)), l4, l5], [], h) = some (some (.int (bI (lkR (adH (gr p) (pn p)) (lkB (gr p) (pn p) (gr r) (pn r)) e a s))), h) := by
    intro e
    induction e with
    | zero =>
      intro a s l4 l5 ha
      have q1 : (100 : Int32) ≤ nI a := by rw [show a = 100 by omega]; decide
      show _ = some (some (Value.int (bI s)), h)
      rw [uX5_isLike_4]
      cases s with
      | true =>
        have b1 : bI true = 1 := rfl
        simp only [uX5_isLike_0, uX5_isLike_1, uX5_isLike_2, uX5_isLike_3, uX5_isLike_5, uX5_isLike_7, uX5_isLike_10, uX5_isLike_11, uX5_isLike_12, uX5_isLike_15, uX5_isLike_17, uX5_isLike_19, uX5_isLike_21, uX5_isLike_24, uX5_isLike_25, uX5_isLike_26, uX5_isLike_26N, uX5_isLike_27, uX5_isLike_28, uX5_isLike_31, uX5_isLike_33, uX5_isLike_35, uX5_isLike_36, uX5_isLike_39, uX5_isLike_41, uX5_isLike_43, uX5_isLike_46, uX5_isLike_47, uX5_isLike_48, uX5_isLike_51, uX5_isLike_54, uX5_isLike_55, q1, b1, Option.bind_some, Option.toList_some, Option.toList_none, List.cons_append, List.nil_append, if_true, if_false, and_self, and_true, true_and, or_self, or_true, true_or, false_or, or_false, i10, i00, i01, i11, Nat.reduceAdd, st1_0, st1_c, st1_1i, st1_1r, st1_1n, st1_1u, st1_1J, st2_0, st2_c, st2_1i, st2_1r, st2_1n, st2_1u, st2_1J]
      | false =>
        have b1 : bI false = 0 := rfl
        simp only [uX5_isLike_0, uX5_isLike_1, uX5_isLike_2, uX5_isLike_3, uX5_isLike_5, uX5_isLike_7, uX5_isLike_10, uX5_isLike_11, uX5_isLike_12, uX5_isLike_15, uX5_isLike_17, uX5_isLike_19, uX5_isLike_21, uX5_isLike_24, uX5_isLike_25, uX5_isLike_26, uX5_isLike_26N, uX5_isLike_27, uX5_isLike_28, uX5_isLike_31, uX5_isLike_33, uX5_isLike_35, uX5_isLike_36, uX5_isLike_39, uX5_isLike_41, uX5_isLike_43, uX5_isLike_46, uX5_isLike_47, uX5_isLike_48, uX5_isLike_51, uX5_isLike_54, uX5_isLike_55, q1, b1, Option.bind_some, Option.toList_some, Option.toList_none, List.cons_append, List.nil_append, if_true, if_false, and_self, and_true, true_and, or_self, or_true, true_or, false_or, or_false, i10, i00, i01, i11, Nat.reduceAdd, st1_0, st1_c, st1_1i, st1_1r, st1_1n, st1_1u, st1_1J, st2_0, st2_c, st2_1i, st2_1r, st2_1n, st2_1u, st2_1J]
    | succ e ih =>
      intro a s l4 l5 ha
      have q1 : ¬ (100 : Int32) ≤ nI a := nI_ge (a := a) (b := 100) (by omega) (by decide)
      have r1 := c_addendOf (a := a) G hp (by omega)
      have r2 := c_addendOf (a := a) G hr (by omega)
      show _ = some (some (Value.int (bI (if adH (gr p) (pn p) a then (if lkB (gr p) (pn p) (gr r) (pn r) a then lkR (adH (gr p) (pn p)) (lkB (gr p) (pn p) (gr r) (pn r)) e (a + 1) true else false) else lkR (adH (gr p) (pn p)) (lkB (gr p) (pn p) (gr r) (pn r)) e (a + 1) s))), h)
      rw [uX5_isLike_4]
      have b0 : bI false = 0 := rfl
      rcases bcase (adH (gr p) (pn p) a) with z | z
      · have q3 : ¬ adI (gr p) (pn p) a = -9 := by
          rw [adI_9, z]
          decide
        have ih1 := ih (a + 1) true (some (.int (adI (gr p) (pn p) a))) (some (.int (adI (gr r) (pn r) a))) (by omega)
        have b1 : bI true = 1 := rfl
        rw [b1] at ih1
        rw [z, if_pos rfl]
        unfold lkB at ih1 ⊢
        by_cases w1 : adI (gr r) (pn r) a = -1
        · rw [w1] at ih1 r2
          rw [decide_eq_true w1, Bool.true_or, if_pos rfl]
          simp only [uX5_isLike_0, uX5_isLike_1, uX5_isLike_2, uX5_isLike_3, uX5_isLike_5, uX5_isLike_7, uX5_isLike_10, uX5_isLike_11, uX5_isLike_12, uX5_isLike_15, uX5_isLike_17, uX5_isLike_19, uX5_isLike_21, uX5_isLike_24, uX5_isLike_25, uX5_isLike_26, uX5_isLike_26N, uX5_isLike_27, uX5_isLike_28, uX5_isLike_31, uX5_isLike_33, uX5_isLike_35, uX5_isLike_36, uX5_isLike_39, uX5_isLike_41, uX5_isLike_43, uX5_isLike_46, uX5_isLike_47, uX5_isLike_48, uX5_isLike_51, uX5_isLike_54, uX5_isLike_55, q1, vPg c1 hk, vPg d1 hk2, r1, r2, q3, nI_1, Option.bind_some, Option.toList_some, Option.toList_none, List.cons_append, List.nil_append, if_true, if_false, and_self, and_true, true_and, or_self, or_true, true_or, false_or, or_false, i10, i00, i01, i11, Nat.reduceAdd, st1_0, st1_c, st1_1i, st1_1r, st1_1n, st1_1u, st1_1J, st2_0, st2_c, st2_1i, st2_1r, st2_1n, st2_1u, st2_1J]
          exact ih1
        · rw [decide_eq_false w1, Bool.false_or]
          by_cases w2 : adI (gr r) (pn r) a = adI (gr p) (pn p) a
          · rw [decide_eq_true w2, if_pos rfl]
            rw [w2] at w1 r2 ih1
            simp only [uX5_isLike_0, uX5_isLike_1, uX5_isLike_2, uX5_isLike_3, uX5_isLike_5, uX5_isLike_7, uX5_isLike_10, uX5_isLike_11, uX5_isLike_12, uX5_isLike_15, uX5_isLike_17, uX5_isLike_19, uX5_isLike_21, uX5_isLike_24, uX5_isLike_25, uX5_isLike_26, uX5_isLike_26N, uX5_isLike_27, uX5_isLike_28, uX5_isLike_31, uX5_isLike_33, uX5_isLike_35, uX5_isLike_36, uX5_isLike_39, uX5_isLike_41, uX5_isLike_43, uX5_isLike_46, uX5_isLike_47, uX5_isLike_48, uX5_isLike_51, uX5_isLike_54, uX5_isLike_55, q1, vPg c1 hk, vPg d1 hk2, r1, r2, q3, w1, nI_1, Option.bind_some, Option.toList_some, Option.toList_none, List.cons_append, List.nil_append, if_true, if_false, and_self, and_true, true_and, or_self, or_true, true_or, false_or, or_false, i10, i00, i01, i11, Nat.reduceAdd, st1_0, st1_c, st1_1i, st1_1r, st1_1n, st1_1u, st1_1J, st2_0, st2_c, st2_1i, st2_1r, st2_1n, st2_1u, st2_1J]
            exact ih1
          · rw [decide_eq_false w2, if_neg (by decide), b0]
            simp only [uX5_isLike_0, uX5_isLike_1, uX5_isLike_2, uX5_isLike_3, uX5_isLike_5, uX5_isLike_7, uX5_isLike_10, uX5_isLike_11, uX5_isLike_12, uX5_isLike_15, uX5_isLike_17, uX5_isLike_19, uX5_isLike_21, uX5_isLike_24, uX5_isLike_25, uX5_isLike_26, uX5_isLike_26N, uX5_isLike_27, uX5_isLike_28, uX5_isLike_31, uX5_isLike_33, uX5_isLike_35, uX5_isLike_36, uX5_isLike_39, uX5_isLike_41, uX5_isLike_43, uX5_isLike_46, uX5_isLike_47, uX5_isLike_48, uX5_isLike_51, uX5_isLike_54, uX5_isLike_55, q1, vPg c1 hk, vPg d1 hk2, r1, r2, q3, w1, w2, nI_1, Option.bind_some, Option.toList_some, Option.toList_none, List.cons_append, List.nil_append, if_true, if_false, and_self, and_true, true_and, or_self, or_true, true_or, false_or, or_false, i10, i00, i01, i11, Nat.reduceAdd, st1_0, st1_c, st1_1i, st1_1r, st1_1n, st1_1u, st1_1J, st2_0, st2_c, st2_1i, st2_1r, st2_1n, st2_1u, st2_1J]
      · have q3 : adI (gr p) (pn p) a = -9 := by
          rw [adI_9, z]
        have ih1 := ih (a + 1) s (some (.int (-9))) l5 (by omega)
        rw [z, if_neg (by decide)]
        simp only [uX5_isLike_0, uX5_isLike_1, uX5_isLike_2, uX5_isLike_3, uX5_isLike_5, uX5_isLike_7, uX5_isLike_10, uX5_isLike_11, uX5_isLike_12, uX5_isLike_15, uX5_isLike_17, uX5_isLike_19, uX5_isLike_21, uX5_isLike_24, uX5_isLike_25, uX5_isLike_26, uX5_isLike_26N, uX5_isLike_27, uX5_isLike_28, uX5_isLike_31, uX5_isLike_33, uX5_isLike_35, uX5_isLike_36, uX5_isLike_39, uX5_isLike_41, uX5_isLike_43, uX5_isLike_46, uX5_isLike_47, uX5_isLike_48, uX5_isLike_51, uX5_isLike_54, uX5_isLike_55, q1, vPg c1 hk, r1, q3, nI_1, Option.bind_some, Option.toList_some, Option.toList_none, List.cons_append, List.nil_append, if_true, if_false, and_self, and_true, true_and, or_self, or_true, true_or, false_or, or_false, i10, i00, i01, i11, Nat.reduceAdd, st1_0, st1_c, st1_1i, st1_1r, st1_1n, st1_1u, st1_1J, st2_0, st2_c, st2_1i, st2_1r, st2_1n, st2_1u, st2_1J]
        exact ih1
  have lp1 := lp 100 0 false none none (by omega)
  rw [lk_eq hn1 hn2 hg hg2] at lp1
  simp only [uX5_isLike_0, uX5_isLike_1, uX5_isLike_2, uX5_isLike_3, uX5_isLike_5, uX5_isLike_7, uX5_isLike_10, uX5_isLike_11, uX5_isLike_12, uX5_isLike_15, uX5_isLike_17, uX5_isLike_19, uX5_isLike_21, uX5_isLike_24, uX5_isLike_25, uX5_isLike_26, uX5_isLike_26N, uX5_isLike_27, uX5_isLike_28, uX5_isLike_31, uX5_isLike_33, uX5_isLike_35, uX5_isLike_36, uX5_isLike_39, uX5_isLike_41, uX5_isLike_43, uX5_isLike_46, uX5_isLike_47, uX5_isLike_48, uX5_isLike_51, uX5_isLike_54, uX5_isLike_55, Option.bind_some, Option.toList_some, Option.toList_none, List.cons_append, List.nil_append, if_true, if_false, and_self, and_true, true_and, or_self, or_true, true_or, false_or, or_false, i10, i00, i01, i11, Nat.reduceAdd, st1_0, st1_c, st1_1i, st1_1r, st1_1n, st1_1u, st1_1J, st2_0, st2_c, st2_1i, st2_1r, st2_1n, st2_1u, st2_1J]
  exact lp1
theorem c_groupBehind (G : PagesC h P pk pp pn pl gr pa qa) (hp : p < P) : run 65 (0, [some (.ref (pa p)), none, none, none, none], [], h) = some (some (.int (oN (nxR (mkQ (gr p) (pn p)) (fun m => (m / 100 * gr p (pn p - 1) + m % 100) % 100) 10000 0 none))), h) := by
  obtain ⟨c1, ⟨f, c2, ce⟩, c3, _⟩ := G.2.1 p hp
  have hk := G.2.2.2.1 p
  have hn := G.2.2.2.2.2.1 p
  have hg := G.2.2.2.2.2.2.2.1 p
  have hn1 := G.2.2.2.2.2.2.2.2 p hp
  by_cases w : pn p < 2
  · rw [nx_one w, oN_none]
    have r1 := c_addendOf (a := 0) G hp (by omega)
    have q2 : adI (gr p) (pn p) 0 = -1 := by rw [adI_1]; exact w
    have q1 : ¬ (100 : Int32) ≤ 0 := by decide
    rw [q2, show nI 0 = 0 from rfl] at r1
    have hto : run 65 (0, [some (.ref (pa p)), none, none, none, none], [], h) = run 65 (5, [some (.ref (pa p)), some (.int (-9)), some (.int 0), none, none], [], h) := by
      simp only [uX5_groupBehind_0, uX5_groupBehind_2, uX5_groupBehind_3, uX5_groupBehind_4, uX5_groupBehind_6, uX5_groupBehind_8, uX5_groupBehind_11, uX5_groupBehind_12, uX5_groupBehind_13, uX5_groupBehind_16, uX5_groupBehind_17, uX5_groupBehind_18, uX5_groupBehind_19, uX5_groupBehind_22, uX5_groupBehind_24, uX5_groupBehind_25, uX5_groupBehind_26, uX5_groupBehind_28, uX5_groupBehind_31, uX5_groupBehind_32, uX5_groupBehind_33, uX5_groupBehind_34, uX5_groupBehind_37, uX5_groupBehind_38, uX5_groupBehind_39, uX5_groupBehind_40, uX5_groupBehind_43, uX5_groupBehind_44, uX5_groupBehind_45, uX5_groupBehind_46, uX5_groupBehind_48, uX5_groupBehind_49, uX5_groupBehind_51, uX5_groupBehind_52, uX5_groupBehind_54, uX5_groupBehind_57, uX5_groupBehind_58, uX5_groupBehind_60, uX5_groupBehind_63, uX5_groupBehind_65, uX5_groupBehind_66, uX5_groupBehind_68, uX5_groupBehind_69, uX5_groupBehind_72, uX5_groupBehind_75, uX5_groupBehind_76, Option.bind_some, Option.toList_some, Option.toList_none, List.cons_append, List.nil_append, if_true, if_false, and_self, and_true, true_and, or_self, or_true, true_or, false_or, or_false, i10, i00, i01, i11, Nat.reduceAdd, st1_0, st1_c, st1_1i, st1_1r, st1_1n, st1_1u, st1_1J, st2_0, st2_c, st2_1i, st2_1r, st2_1n, st2_1u, st2_1J]
    rw [hto, uX5_groupBehind_5]
    simp only [uX5_groupBehind_0, uX5_groupBehind_2, uX5_groupBehind_3, uX5_groupBehind_4, uX5_groupBehind_6, uX5_groupBehind_8, uX5_groupBehind_11, uX5_groupBehind_12, uX5_groupBehind_13, uX5_groupBehind_16, uX5_groupBehind_17, uX5_groupBehind_18, uX5_groupBehind_19, uX5_groupBehind_22, uX5_groupBehind_24, uX5_groupBehind_25, uX5_groupBehind_26, uX5_groupBehind_28, uX5_groupBehind_31, uX5_groupBehind_32, uX5_groupBehind_33, uX5_groupBehind_34, uX5_groupBehind_37, uX5_groupBehind_38, uX5_groupBehind_39, uX5_groupBehind_40, uX5_groupBehind_43, uX5_groupBehind_44, uX5_groupBehind_45, uX5_groupBehind_46, uX5_groupBehind_48, uX5_groupBehind_49, uX5_groupBehind_51, uX5_groupBehind_52, uX5_groupBehind_54, uX5_groupBehind_57, uX5_groupBehind_58, uX5_groupBehind_60, uX5_groupBehind_63, uX5_groupBehind_65, uX5_groupBehind_66, uX5_groupBehind_68, uX5_groupBehind_69, uX5_groupBehind_72, uX5_groupBehind_75, uX5_groupBehind_76, q1, vPg c1 hk, r1, Option.bind_some, Option.toList_some, Option.toList_none, List.cons_append, List.nil_append, if_true, if_false, and_self, and_true, true_and, or_self, or_true, true_or, false_or, or_false, i10, i00, i01, i11, Nat.reduceAdd, st1_0, st1_c, st1_1i, st1_1r, st1_1n, st1_1u, st1_1J, st2_0, st2_c, st2_1i, st2_1r, st2_1n, st2_1u, st2_1J]
  · rw [← nx_eq (by omega) hg]
    have em : nI (pn p) - 1 = nI (pn p - 1) := by
      rw [show pn p = pn p - 1 + 1 by omega, nI_s1]
      rfl
    have rg := c_pgroupAt (j := pn p - 1) c1 hk (by omega) c2 (by omega) (by omega)
    rw [ce (pn p - 1) (by omega)] at rg
    have g2 := gPg2 c1 hk (show 4 ≤ pa p by omega)
    have hy := hg (pn p - 1)
    have lp : ∀ e a s (l3 l4 : Option Value), a + e = 100 → (∀ u, s = some u → u < 100) → run 65 (5, [some (.ref (pa p)), some (.int (oN s)), some (.int (nI a)), l3, l4], [], h) = some (some (.int (oN (nxR (adH (gr p) (pn p)) (fun a => (a * gr p (pn p - 1) + bO (gr p) a) % 100) e a s))), h) := by
      intro e
      induction e with
      | zero =>
        intro a s l3 l4 ha hs
        have q1 : (100 : Int32) ≤ nI a := by rw [show a = 100 by omega]; decide
        have e0 : nxR (adH (gr p) (pn p)) (fun a => (a * gr p (pn p - 1) + bO (gr p) a) % 100) 0 a s = s := by cases s <;> rfl
        rw [e0, uX5_groupBehind_5]
        simp only [uX5_groupBehind_0, uX5_groupBehind_2, uX5_groupBehind_3, uX5_groupBehind_4, uX5_groupBehind_6, uX5_groupBehind_8, uX5_groupBehind_11, uX5_groupBehind_12, uX5_groupBehind_13, uX5_groupBehind_16, uX5_groupBehind_17, uX5_groupBehind_18, uX5_groupBehind_19, uX5_groupBehind_22, uX5_groupBehind_24, uX5_groupBehind_25, uX5_groupBehind_26, uX5_groupBehind_28, uX5_groupBehind_31, uX5_groupBehind_32, uX5_groupBehind_33, uX5_groupBehind_34, uX5_groupBehind_37, uX5_groupBehind_38, uX5_groupBehind_39, uX5_groupBehind_40, uX5_groupBehind_43, uX5_groupBehind_44, uX5_groupBehind_45, uX5_groupBehind_46, uX5_groupBehind_48, uX5_groupBehind_49, uX5_groupBehind_51, uX5_groupBehind_52, uX5_groupBehind_54, uX5_groupBehind_57, uX5_groupBehind_58, uX5_groupBehind_60, uX5_groupBehind_63, uX5_groupBehind_65, uX5_groupBehind_66, uX5_groupBehind_68, uX5_groupBehind_69, uX5_groupBehind_72, uX5_groupBehind_75, uX5_groupBehind_76, q1, Option.bind_some, Option.toList_some, Option.toList_none, List.cons_append, List.nil_append, if_true, if_false, and_self, and_true, true_and, or_self, or_true, true_or, false_or, or_false, i10, i00, i01, i11, Nat.reduceAdd, st1_0, st1_c, st1_1i, st1_1r, st1_1n, st1_1u, st1_1J, st2_0, st2_c, st2_1i, st2_1r, st2_1n, st2_1u, st2_1J]
      | succ e ih =>
        intro a s l3 l4 ha hs
        have q1 : ¬ (100 : Int32) ≤ nI a := nI_ge (a := a) (b := 100) (by omega) (by decide)
        have r1 := c_addendOf (a := a) G hp (by omega)
        have q2 : ¬ adI (gr p) (pn p) a = -1 := by rw [adI_1]; exact w
        rcases bcase (adH (gr p) (pn p) a) with z | z
        · have q4 := adI_b w z
          have hb := bO_lt (gr p) a
          rw [q4] at q2 r1
          have q3 : ¬ nI (bO (gr p) a) = -9 := ne9 (by omega)
          have hm : a * gr p (pn p - 1) ≤ 99 * 99 := Nat.mul_le_mul (by omega) (by omega)
          have er := pk_rem100 (n := a * gr p (pn p - 1) + bO (gr p) a) (by omega)
          have z100 : ¬ (100 : Int32) = 0 := by decide
          have ih1 := ih (a + 1) (some ((a * gr p (pn p - 1) + bO (gr p) a) % 100)) (some (.int (nI (bO (gr p) a)))) (some (.int (nI ((a * gr p (pn p - 1) + bO (gr p) a) % 100)))) (by omega) (fun u hu => by cases hu; omega)
          rw [oN_some] at ih1
          cases s with
          | none =>
            rw [nxR_0 z, uX5_groupBehind_5]
            simp only [uX5_groupBehind_0, uX5_groupBehind_2, uX5_groupBehind_3, uX5_groupBehind_4, uX5_groupBehind_6, uX5_groupBehind_8, uX5_groupBehind_11, uX5_groupBehind_12, uX5_groupBehind_13, uX5_groupBehind_16, uX5_groupBehind_17, uX5_groupBehind_18, uX5_groupBehind_19, uX5_groupBehind_22, uX5_groupBehind_24, uX5_groupBehind_25, uX5_groupBehind_26, uX5_groupBehind_28, uX5_groupBehind_31, uX5_groupBehind_32, uX5_groupBehind_33, uX5_groupBehind_34, uX5_groupBehind_37, uX5_groupBehind_38, uX5_groupBehind_39, uX5_groupBehind_40, uX5_groupBehind_43, uX5_groupBehind_44, uX5_groupBehind_45, uX5_groupBehind_46, uX5_groupBehind_48, uX5_groupBehind_49, uX5_groupBehind_51, uX5_groupBehind_52, uX5_groupBehind_54, uX5_groupBehind_57, uX5_groupBehind_58, uX5_groupBehind_60, uX5_groupBehind_63, uX5_groupBehind_65, uX5_groupBehind_66, uX5_groupBehind_68, uX5_groupBehind_69, uX5_groupBehind_72, uX5_groupBehind_75, uX5_groupBehind_76, q1, vPg c1 hk, r1, q2, q3, g2, gl_nI c2, em, rg, pk_mul, nI_add, z100, er, oN_none, nI_1, Option.bind_some, Option.toList_some, Option.toList_none, List.cons_append, List.nil_append, if_true, if_false, and_self, and_true, true_and, or_self, or_true, true_or, false_or, or_false, i10, i00, i01, i11, Nat.reduceAdd, st1_0, st1_c, st1_1i, st1_1r, st1_1n, st1_1u, st1_1J, st2_0, st2_c, st2_1i, st2_1r, st2_1n, st2_1u, st2_1J]
            exact ih1
          | some u =>
            have hu := hs u rfl
            rw [nxR_s z, uX5_groupBehind_5]
            by_cases e3 : (a * gr p (pn p - 1) + bO (gr p) a) % 100 = u
            · subst e3
              rw [if_pos rfl]
              simp only [uX5_groupBehind_0, uX5_groupBehind_2, uX5_groupBehind_3, uX5_groupBehind_4, uX5_groupBehind_6, uX5_groupBehind_8, uX5_groupBehind_11, uX5_groupBehind_12, uX5_groupBehind_13, uX5_groupBehind_16, uX5_groupBehind_17, uX5_groupBehind_18, uX5_groupBehind_19, uX5_groupBehind_22, uX5_groupBehind_24, uX5_groupBehind_25, uX5_groupBehind_26, uX5_groupBehind_28, uX5_groupBehind_31, uX5_groupBehind_32, uX5_groupBehind_33, uX5_groupBehind_34, uX5_groupBehind_37, uX5_groupBehind_38, uX5_groupBehind_39, uX5_groupBehind_40, uX5_groupBehind_43, uX5_groupBehind_44, uX5_groupBehind_45, uX5_groupBehind_46, uX5_groupBehind_48, uX5_groupBehind_49, uX5_groupBehind_51, uX5_groupBehind_52, uX5_groupBehind_54, uX5_groupBehind_57, uX5_groupBehind_58, uX5_groupBehind_60, uX5_groupBehind_63, uX5_groupBehind_65, uX5_groupBehind_66, uX5_groupBehind_68, uX5_groupBehind_69, uX5_groupBehind_72, uX5_groupBehind_75, uX5_groupBehind_76, q1, vPg c1 hk, r1, q2, q3, g2, gl_nI c2, em, rg, pk_mul, nI_add, z100, er, oN_some, ne9 (show (a * gr p (pn p - 1) + bO (gr p) a) % 100 < 2 ^ 31 by omega), nI_1, Option.bind_some, Option.toList_some, Option.toList_none, List.cons_append, List.nil_append, if_true, if_false, and_self, and_true, true_and, or_self, or_true, true_or, false_or, or_false, i10, i00, i01, i11, Nat.reduceAdd, st1_0, st1_c, st1_1i, st1_1r, st1_1n, st1_1u, st1_1J, st2_0, st2_c, st2_1i, st2_1r, st2_1n, st2_1u, st2_1J]
              exact ih1
            · have q5 : ¬ nI u = nI ((a * gr p (pn p - 1) + bO (gr p) a) % 100) := nI_ne (fun r => e3 r.symm) (by omega) (by omega)
              rw [if_neg e3]
              simp only [uX5_groupBehind_0, uX5_groupBehind_2, uX5_groupBehind_3, uX5_groupBehind_4, uX5_groupBehind_6, uX5_groupBehind_8, uX5_groupBehind_11, uX5_groupBehind_12, uX5_groupBehind_13, uX5_groupBehind_16, uX5_groupBehind_17, uX5_groupBehind_18, uX5_groupBehind_19, uX5_groupBehind_22, uX5_groupBehind_24, uX5_groupBehind_25, uX5_groupBehind_26, uX5_groupBehind_28, uX5_groupBehind_31, uX5_groupBehind_32, uX5_groupBehind_33, uX5_groupBehind_34, uX5_groupBehind_37, uX5_groupBehind_38, uX5_groupBehind_39, uX5_groupBehind_40, uX5_groupBehind_43, uX5_groupBehind_44, uX5_groupBehind_45, uX5_groupBehind_46, uX5_groupBehind_48, uX5_groupBehind_49, uX5_groupBehind_51, uX5_groupBehind_52, uX5_groupBehind_54, uX5_groupBehind_57, uX5_groupBehind_58, uX5_groupBehind_60, uX5_groupBehind_63, uX5_groupBehind_65, uX5_groupBehind_66, uX5_groupBehind_68, uX5_groupBehind_69, uX5_groupBehind_72, uX5_groupBehind_75, uX5_groupBehind_76, q1, vPg c1 hk, r1, q2, q3, g2, gl_nI c2, em, rg, pk_mul, nI_add, z100, er, oN_some, ne9 (show u < 2 ^ 31 by omega), q5, oN_none, nI_1, Option.bind_some, Option.toList_some, Option.toList_none, List.cons_append, List.nil_append, if_true, if_false, and_self, and_true, true_and, or_self, or_true, true_or, false_or, or_false, i10, i00, i01, i11, Nat.reduceAdd, st1_0, st1_c, st1_1i, st1_1r, st1_1n, st1_1u, st1_1J, st2_0, st2_c, st2_1i, st2_1r, st2_1n, st2_1u, st2_1J]
        · have q3 : adI (gr p) (pn p) a = -9 := by
            rw [adI_9, z]
          have q4 : ¬ (-9 : Int32) = -1 := by decide
          have ih1 := ih (a + 1) s (some (.int (-9))) l4 (by omega) hs
          rw [nxR_n z, uX5_groupBehind_5]
          simp only [uX5_groupBehind_0, uX5_groupBehind_2, uX5_groupBehind_3, uX5_groupBehind_4, uX5_groupBehind_6, uX5_groupBehind_8, uX5_groupBehind_11, uX5_groupBehind_12, uX5_groupBehind_13, uX5_groupBehind_16, uX5_groupBehind_17, uX5_groupBehind_18, uX5_groupBehind_19, uX5_groupBehind_22, uX5_groupBehind_24, uX5_groupBehind_25, uX5_groupBehind_26, uX5_groupBehind_28, uX5_groupBehind_31, uX5_groupBehind_32, uX5_groupBehind_33, uX5_groupBehind_34, uX5_groupBehind_37, uX5_groupBehind_38, uX5_groupBehind_39, uX5_groupBehind_40, uX5_groupBehind_43, uX5_groupBehind_44, uX5_groupBehind_45, uX5_groupBehind_46, uX5_groupBehind_48, uX5_groupBehind_49, uX5_groupBehind_51, uX5_groupBehind_52, uX5_groupBehind_54, uX5_groupBehind_57, uX5_groupBehind_58, uX5_groupBehind_60, uX5_groupBehind_63, uX5_groupBehind_65, uX5_groupBehind_66, uX5_groupBehind_68, uX5_groupBehind_69, uX5_groupBehind_72, uX5_groupBehind_75, uX5_groupBehind_76, q1, vPg c1 hk, r1, q3, q4, nI_1, Option.bind_some, Option.toList_some, Option.toList_none, List.cons_append, List.nil_append, if_true, if_false, and_self, and_true, true_and, or_self, or_true, true_or, false_or, or_false, i10, i00, i01, i11, Nat.reduceAdd, st1_0, st1_c, st1_1i, st1_1r, st1_1n, st1_1u, st1_1J, st2_0, st2_c, st2_1i, st2_1r, st2_1n, st2_1u, st2_1J]
          exact ih1
    have lp1 := lp 100 0 none none none (by omega) (fun u hu => by cases hu)
    simp only [uX5_groupBehind_0, uX5_groupBehind_2, uX5_groupBehind_3, uX5_groupBehind_4, uX5_groupBehind_6, uX5_groupBehind_8, uX5_groupBehind_11, uX5_groupBehind_12, uX5_groupBehind_13, uX5_groupBehind_16, uX5_groupBehind_17, uX5_groupBehind_18, uX5_groupBehind_19, uX5_groupBehind_22, uX5_groupBehind_24, uX5_groupBehind_25, uX5_groupBehind_26, uX5_groupBehind_28, uX5_groupBehind_31, uX5_groupBehind_32, uX5_groupBehind_33, uX5_groupBehind_34, uX5_groupBehind_37, uX5_groupBehind_38, uX5_groupBehind_39, uX5_groupBehind_40, uX5_groupBehind_43, uX5_groupBehind_44, uX5_groupBehind_45, uX5_groupBehind_46, uX5_groupBehind_48, uX5_groupBehind_49, uX5_groupBehind_51, uX5_groupBehind_52, uX5_groupBehind_54, uX5_groupBehind_57, uX5_groupBehind_58, uX5_groupBehind_60, uX5_groupBehind_63, uX5_groupBehind_65, uX5_groupBehind_66, uX5_groupBehind_68, uX5_groupBehind_69, uX5_groupBehind_72, uX5_groupBehind_75, uX5_groupBehind_76, Option.bind_some, Option.toList_some, Option.toList_none, List.cons_append, List.nil_append, if_true, if_false, and_self, and_true, true_and, or_self, or_true, true_or, false_or, or_false, i10, i00, i01, i11, Nat.reduceAdd, st1_0, st1_c, st1_1i, st1_1r, st1_1n, st1_1u, st1_1J, st2_0, st2_c, st2_1i, st2_1r, st2_1n, st2_1u, st2_1J]
    exact lp1
theorem c_makers_u {x z : Int32} (hX : rO h 4 = some (10, xF dr xp xl xf)) (G : PagesC h P pk pp pn pl gr pa qa) (hx : ¬ (0 ≤ x.toInt ∧ x.toInt ≤ (P : Int) - 1)) : run 123 (0, [some (.ref 4), some (.int x), some (.int z), none], [], h) = some (some (.int (-1)), h) := by
  simp only [uX11_makers_0, uX11_makers_1, uX11_makers_2, uX11_makers_5, uX11_makers_5N, uX11_makers_6, uX11_makers_6N, uX11_makers_7, uX11_makers_7N, uX11_makers_10, uX11_makers_11, uX11_makers_12, uX11_makers_13_0, uX11_makers_13_1, uX11_makers_13_2, uX11_makers_13_d, uX11_makers_40, uX11_makers_40N, uX11_makers_41, uX11_makers_44, uX11_makers_45, uX11_makers_45N, uX11_makers_46, uX11_makers_49, uX11_makers_50, uX11_makers_50N, uX11_makers_51, uX11_makers_54, uX11_makers_55, uX11_makers_57, vX hX, c_pageAt_n hX G hx, Option.bind_some, Option.toList_some, Option.toList_none, List.cons_append, List.nil_append, if_true, if_false, and_self, and_true, true_and, or_self, or_true, true_or, false_or, or_false, i10, i00, i01, i11, Nat.reduceAdd, st1_0, st1_c, st1_1i, st1_1r, st1_1n, st1_1u, st1_1J, st2_0, st2_c, st2_1i, st2_1r, st2_1n, st2_1u, st2_1J]
theorem c_makers_o {z : Int32} (hX : rO h 4 = some (10, xF dr xp xl xf)) (G : PagesC h P pk pp pn pl gr pa qa) (hp : p < P) (hz : ¬ (0 ≤ z.toInt ∧ z.toInt ≤ 2)) : run 123 (0, [some (.ref 4), some (.int (nI p)), some (.int z), none], [], h) = some (some (.int (-2)), h) := by
  have h3 : z.toInt < 0 ∨ 2 < z.toInt := by omega
  simp only [uX11_makers_13_d h3, uX11_makers_0, uX11_makers_1, uX11_makers_2, uX11_makers_5, uX11_makers_5N, uX11_makers_6, uX11_makers_6N, uX11_makers_7, uX11_makers_7N, uX11_makers_10, uX11_makers_11, uX11_makers_12, uX11_makers_40, uX11_makers_40N, uX11_makers_41, uX11_makers_44, uX11_makers_45, uX11_makers_45N, uX11_makers_46, uX11_makers_49, uX11_makers_50, uX11_makers_50N, uX11_makers_51, uX11_makers_54, uX11_makers_55, uX11_makers_57, vX hX, c_pageAt hX G hp, Option.bind_some, Option.toList_some, Option.toList_none, List.cons_append, List.nil_append, if_true, if_false, and_self, and_true, true_and, or_self, or_true, true_or, false_or, or_false, i10, i00, i01, i11, Nat.reduceAdd, st1_0, st1_c, st1_1i, st1_1r, st1_1n, st1_1u, st1_1J, st2_0, st2_c, st2_1i, st2_1r, st2_1n, st2_1u, st2_1J]
theorem c_makers {z : Nat} (hX : rO h 4 = some (10, xF dr xp xl xf)) (G : PagesC h P pk pp pn pl gr pa qa) (hp : p < P) (hz : z < 3) : run 123 (0, [some (.ref 4), some (.int (nI p)), some (.int (nI z)), none], [], h) = some (some (.int (mkR (mkQ (gr p) (pn p)) z)), h) := by
  obtain ⟨c1, _⟩ := G.2.1 p hp
  have hk := G.2.2.2.1 p
  have hg := G.2.2.2.2.2.2.2.1 p
  have hn1 := G.2.2.2.2.2.2.2.2 p hp
  have hb := bO_lt (gr p)
  unfold mkR
  match z, hz with
  | 0, _ =>
    have z0 : nI 0 = 0 := rfl
    rw [if_pos rfl]
    simp only [uX11_makers_0, uX11_makers_1, uX11_makers_2, uX11_makers_5, uX11_makers_5N, uX11_makers_6, uX11_makers_6N, uX11_makers_7, uX11_makers_7N, uX11_makers_10, uX11_makers_11, uX11_makers_12, uX11_makers_13_0, uX11_makers_13_1, uX11_makers_13_2, uX11_makers_13_d, uX11_makers_40, uX11_makers_40N, uX11_makers_41, uX11_makers_44, uX11_makers_45, uX11_makers_45N, uX11_makers_46, uX11_makers_49, uX11_makers_50, uX11_makers_50N, uX11_makers_51, uX11_makers_54, uX11_makers_55, uX11_makers_57, vX hX, c_pageAt hX G hp, z0, vPg c1 hk, c_countMakers G hp, Option.bind_some, Option.toList_some, Option.toList_none, List.cons_append, List.nil_append, if_true, if_false, and_self, and_true, true_and, or_self, or_true, true_or, false_or, or_false, i10, i00, i01, i11, Nat.reduceAdd, st1_0, st1_c, st1_1i, st1_1r, st1_1n, st1_1u, st1_1J, st2_0, st2_c, st2_1i, st2_1r, st2_1n, st2_1u, st2_1J]
  | 1, _ =>
    have z0 : nI 1 = 1 := rfl
    have r1 := c_leastFactor G hp
    rw [if_neg (by decide)]
    cases hf : fstF (adH (gr p) (pn p)) 100 0 with
    | none =>
      rw [hf, oN_none] at r1
      rw [mk_none hn1 hg hf]
      simp only [uX11_makers_0, uX11_makers_1, uX11_makers_2, uX11_makers_5, uX11_makers_5N, uX11_makers_6, uX11_makers_6N, uX11_makers_7, uX11_makers_7N, uX11_makers_10, uX11_makers_11, uX11_makers_12, uX11_makers_13_0, uX11_makers_13_1, uX11_makers_13_2, uX11_makers_13_d, uX11_makers_40, uX11_makers_40N, uX11_makers_41, uX11_makers_44, uX11_makers_45, uX11_makers_45N, uX11_makers_46, uX11_makers_49, uX11_makers_50, uX11_makers_50N, uX11_makers_51, uX11_makers_54, uX11_makers_55, uX11_makers_57, vX hX, c_pageAt hX G hp, z0, vPg c1 hk, r1, Option.bind_some, Option.toList_some, Option.toList_none, List.cons_append, List.nil_append, if_true, if_false, and_self, and_true, true_and, or_self, or_true, true_or, false_or, or_false, i10, i00, i01, i11, Nat.reduceAdd, st1_0, st1_c, st1_1i, st1_1r, st1_1n, st1_1u, st1_1J, st2_0, st2_c, st2_1i, st2_1r, st2_1n, st2_1u, st2_1J]
    | some a =>
      obtain ⟨a1, a2, a3⟩ := mk_some hn1 hg hf
      have h1 := hb a
      have e1 : (100 * a + if pn p < 2 then 0 else bO (gr p) a) / 100 = a := by split <;> omega
      rw [hf, oN_some] at r1
      rw [a3]
      simp only [uX11_makers_0, uX11_makers_1, uX11_makers_2, uX11_makers_5, uX11_makers_5N, uX11_makers_6, uX11_makers_6N, uX11_makers_7, uX11_makers_7N, uX11_makers_10, uX11_makers_11, uX11_makers_12, uX11_makers_13_0, uX11_makers_13_1, uX11_makers_13_2, uX11_makers_13_d, uX11_makers_40, uX11_makers_40N, uX11_makers_41, uX11_makers_44, uX11_makers_45, uX11_makers_45N, uX11_makers_46, uX11_makers_49, uX11_makers_50, uX11_makers_50N, uX11_makers_51, uX11_makers_54, uX11_makers_55, uX11_makers_57, vX hX, c_pageAt hX G hp, z0, vPg c1 hk, r1, e1, Option.bind_some, Option.toList_some, Option.toList_none, List.cons_append, List.nil_append, if_true, if_false, and_self, and_true, true_and, or_self, or_true, true_or, false_or, or_false, i10, i00, i01, i11, Nat.reduceAdd, st1_0, st1_c, st1_1i, st1_1r, st1_1n, st1_1u, st1_1J, st2_0, st2_c, st2_1i, st2_1r, st2_1n, st2_1u, st2_1J]
  | 2, _ =>
    have z0 : nI 2 = 2 := rfl
    have r1 := c_leastAddend G hp
    have n21 : ¬ (2 : Nat) = 1 := by decide
    rw [if_neg (by decide)]
    cases hf : fstF (adH (gr p) (pn p)) 100 0 with
    | none =>
      rw [hf] at r1
      rw [mk_none hn1 hg hf]
      simp only [uX11_makers_0, uX11_makers_1, uX11_makers_2, uX11_makers_5, uX11_makers_5N, uX11_makers_6, uX11_makers_6N, uX11_makers_7, uX11_makers_7N, uX11_makers_10, uX11_makers_11, uX11_makers_12, uX11_makers_13_0, uX11_makers_13_1, uX11_makers_13_2, uX11_makers_13_d, uX11_makers_40, uX11_makers_40N, uX11_makers_41, uX11_makers_44, uX11_makers_45, uX11_makers_45N, uX11_makers_46, uX11_makers_49, uX11_makers_50, uX11_makers_50N, uX11_makers_51, uX11_makers_54, uX11_makers_55, uX11_makers_57, vX hX, c_pageAt hX G hp, z0, vPg c1 hk, r1, Option.bind_some, Option.toList_some, Option.toList_none, List.cons_append, List.nil_append, if_true, if_false, and_self, and_true, true_and, or_self, or_true, true_or, false_or, or_false, i10, i00, i01, i11, Nat.reduceAdd, st1_0, st1_c, st1_1i, st1_1r, st1_1n, st1_1u, st1_1J, st2_0, st2_c, st2_1i, st2_1r, st2_1n, st2_1u, st2_1J]
    | some a =>
      obtain ⟨a1, a2, a3⟩ := mk_some hn1 hg hf
      have h1 := hb a
      have e1 : nI ((100 * a + if pn p < 2 then 0 else bO (gr p) a) % 100) = if pn p < 2 then 0 else nI (bO (gr p) a) := by
        split
        · rw [show (100 * a + 0) % 100 = 0 by omega]; rfl
        · congr 1; omega
      rw [hf] at r1
      rw [a3]
      simp only [uX11_makers_0, uX11_makers_1, uX11_makers_2, uX11_makers_5, uX11_makers_5N, uX11_makers_6, uX11_makers_6N, uX11_makers_7, uX11_makers_7N, uX11_makers_10, uX11_makers_11, uX11_makers_12, uX11_makers_13_0, uX11_makers_13_1, uX11_makers_13_2, uX11_makers_13_d, uX11_makers_40, uX11_makers_40N, uX11_makers_41, uX11_makers_44, uX11_makers_45, uX11_makers_45N, uX11_makers_46, uX11_makers_49, uX11_makers_50, uX11_makers_50N, uX11_makers_51, uX11_makers_54, uX11_makers_55, uX11_makers_57, vX hX, c_pageAt hX G hp, z0, vPg c1 hk, r1, n21, e1, Option.bind_some, Option.toList_some, Option.toList_none, List.cons_append, List.nil_append, if_true, if_false, and_self, and_true, true_and, or_self, or_true, true_or, false_or, or_false, i10, i00, i01, i11, Nat.reduceAdd, st1_0, st1_c, st1_1i, st1_1r, st1_1n, st1_1u, st1_1J, st2_0, st2_c, st2_1i, st2_1r, st2_1n, st2_1u, st2_1J]
theorem c_like_u {x y : Int32} (hX : rO h 4 = some (10, xF dr xp xl xf)) (G : PagesC h P pk pp pn pl gr pa qa) (hx : ¬ (0 ≤ x.toInt ∧ x.toInt ≤ (P : Int) - 1) ∨ ¬ (0 ≤ y.toInt ∧ y.toInt ≤ (P : Int) - 1)) : run 124 (0, [some (.ref 4), some (.int x), some (.int y), none, none], [], h) = some (some (.int (-1)), h) := by
  have hP := G.2.2.1
  by_cases h1 : 0 ≤ x.toInt ∧ x.toInt ≤ (P : Int) - 1
  · have h2 := hx.resolve_left (fun q => q h1)
    obtain ⟨a, q1, q2, q3⟩ := inR h1
    subst q3
    simp only [uX11_like_0, uX11_like_1, uX11_like_2, uX11_like_5, uX11_like_5N, uX11_like_6, uX11_like_7, uX11_like_8, uX11_like_11, uX11_like_11N, uX11_like_13, uX11_like_13N, uX11_like_14, uX11_like_14N, uX11_like_17, uX11_like_17N, uX11_like_19, uX11_like_19N, uX11_like_22, uX11_like_23, uX11_like_24, uX11_like_24N, uX11_like_25, uX11_like_25N, uX11_like_27, uX11_like_30, uX11_like_33, vX hX, c_pageAt hX G (show a < P by omega), c_pageAt_n hX G h2, Option.bind_some, Option.toList_some, Option.toList_none, List.cons_append, List.nil_append, if_true, if_false, and_self, and_true, true_and, or_self, or_true, true_or, false_or, or_false, i10, i00, i01, i11, Nat.reduceAdd, st1_0, st1_c, st1_1i, st1_1r, st1_1n, st1_1u, st1_1J, st2_0, st2_c, st2_1i, st2_1r, st2_1n, st2_1u, st2_1J]
  · by_cases h2 : 0 ≤ y.toInt ∧ y.toInt ≤ (P : Int) - 1
    · obtain ⟨b, q1, q2, q3⟩ := inR h2
      subst q3
      simp only [uX11_like_0, uX11_like_1, uX11_like_2, uX11_like_5, uX11_like_5N, uX11_like_6, uX11_like_7, uX11_like_8, uX11_like_11, uX11_like_11N, uX11_like_13, uX11_like_13N, uX11_like_14, uX11_like_14N, uX11_like_17, uX11_like_17N, uX11_like_19, uX11_like_19N, uX11_like_22, uX11_like_23, uX11_like_24, uX11_like_24N, uX11_like_25, uX11_like_25N, uX11_like_27, uX11_like_30, uX11_like_33, vX hX, c_pageAt hX G (show b < P by omega), c_pageAt_n hX G h1, Option.bind_some, Option.toList_some, Option.toList_none, List.cons_append, List.nil_append, if_true, if_false, and_self, and_true, true_and, or_self, or_true, true_or, false_or, or_false, i10, i00, i01, i11, Nat.reduceAdd, st1_0, st1_c, st1_1i, st1_1r, st1_1n, st1_1u, st1_1J, st2_0, st2_c, st2_1i, st2_1r, st2_1n, st2_1u, st2_1J]
    · simp only [uX11_like_0, uX11_like_1, uX11_like_2, uX11_like_5, uX11_like_5N, uX11_like_6, uX11_like_7, uX11_like_8, uX11_like_11, uX11_like_11N, uX11_like_13, uX11_like_13N, uX11_like_14, uX11_like_14N, uX11_like_17, uX11_like_17N, uX11_like_19, uX11_like_19N, uX11_like_22, uX11_like_23, uX11_like_24, uX11_like_24N, uX11_like_25, uX11_like_25N, uX11_like_27, uX11_like_30, uX11_like_33, vX hX, c_pageAt_n hX G h1, c_pageAt_n hX G h2, Option.bind_some, Option.toList_some, Option.toList_none, List.cons_append, List.nil_append, if_true, if_false, and_self, and_true, true_and, or_self, or_true, true_or, false_or, or_false, i10, i00, i01, i11, Nat.reduceAdd, st1_0, st1_c, st1_1i, st1_1r, st1_1n, st1_1u, st1_1J, st2_0, st2_c, st2_1i, st2_1r, st2_1n, st2_1u, st2_1J]
theorem c_like {r : Nat} (hX : rO h 4 = some (10, xF dr xp xl xf)) (G : PagesC h P pk pp pn pl gr pa qa) (hp : p < P) (hr : r < P) : run 124 (0, [some (.ref 4), some (.int (nI p)), some (.int (nI r)), none, none], [], h) = some (some (.int (bI (lkR (mkQ (gr p) (pn p)) (mkQ (gr r) (pn r)) 10000 0 false))), h) := by
  obtain ⟨c1, _⟩ := G.2.1 p hp
  have hk := G.2.2.2.1 p
  simp only [uX11_like_0, uX11_like_1, uX11_like_2, uX11_like_5, uX11_like_5N, uX11_like_6, uX11_like_7, uX11_like_8, uX11_like_11, uX11_like_11N, uX11_like_13, uX11_like_13N, uX11_like_14, uX11_like_14N, uX11_like_17, uX11_like_17N, uX11_like_19, uX11_like_19N, uX11_like_22, uX11_like_23, uX11_like_24, uX11_like_24N, uX11_like_25, uX11_like_25N, uX11_like_27, uX11_like_30, uX11_like_33, vX hX, c_pageAt hX G hp, c_pageAt hX G hr, vPg c1 hk, c_isLike G hp hr, c_asB, Option.bind_some, Option.toList_some, Option.toList_none, List.cons_append, List.nil_append, if_true, if_false, and_self, and_true, true_and, or_self, or_true, true_or, false_or, or_false, i10, i00, i01, i11, Nat.reduceAdd, st1_0, st1_c, st1_1i, st1_1r, st1_1n, st1_1u, st1_1J, st2_0, st2_c, st2_1i, st2_1r, st2_1n, st2_1u, st2_1J]
theorem c_next_u {x : Int32} (hX : rO h 4 = some (10, xF dr xp xl xf)) (G : PagesC h P pk pp pn pl gr pa qa) (hx : ¬ (0 ≤ x.toInt ∧ x.toInt ≤ (P : Int) - 1)) : run 125 (0, [some (.ref 4), some (.int x), none], [], h) = some (some (.int (-1)), h) := by
  simp only [uX11_next_0, uX11_next_1, uX11_next_2, uX11_next_5, uX11_next_5N, uX11_next_6, uX11_next_6N, uX11_next_7, uX11_next_7N, uX11_next_10, uX11_next_11, uX11_next_14, uX11_next_14N, uX11_next_15, uX11_next_18, vX hX, c_pageAt_n hX G hx, Option.bind_some, Option.toList_some, Option.toList_none, List.cons_append, List.nil_append, if_true, if_false, and_self, and_true, true_and, or_self, or_true, true_or, false_or, or_false, i10, i00, i01, i11, Nat.reduceAdd, st1_0, st1_c, st1_1i, st1_1r, st1_1n, st1_1u, st1_1J, st2_0, st2_c, st2_1i, st2_1r, st2_1n, st2_1u, st2_1J]
theorem c_next (hX : rO h 4 = some (10, xF dr xp xl xf)) (G : PagesC h P pk pp pn pl gr pa qa) (hp : p < P) : run 125 (0, [some (.ref 4), some (.int (nI p)), none], [], h) = some (some (.int (oN (nxR (mkQ (gr p) (pn p)) (fun m => (m / 100 * gr p (pn p - 1) + m % 100) % 100) 10000 0 none))), h) := by
  obtain ⟨c1, _⟩ := G.2.1 p hp
  have hk := G.2.2.2.1 p
  simp only [uX11_next_0, uX11_next_1, uX11_next_2, uX11_next_5, uX11_next_5N, uX11_next_6, uX11_next_6N, uX11_next_7, uX11_next_7N, uX11_next_10, uX11_next_11, uX11_next_14, uX11_next_14N, uX11_next_15, uX11_next_18, vX hX, c_pageAt hX G hp, vPg c1 hk, c_groupBehind G hp, Option.bind_some, Option.toList_some, Option.toList_none, List.cons_append, List.nil_append, if_true, if_false, and_self, and_true, true_and, or_self, or_true, true_or, false_or, or_false, i10, i00, i01, i11, Nat.reduceAdd, st1_0, st1_c, st1_1i, st1_1r, st1_1n, st1_1u, st1_1J, st2_0, st2_c, st2_1i, st2_1r, st2_1n, st2_1u, st2_1J]
end MKX
