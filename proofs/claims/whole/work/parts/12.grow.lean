section GR
variable {i : MI} {pc pc2 len : Nat} {L L2 : AL} {S S2 : List Value} {h h2 : AH} {ins : ClassFile.Instr} {y : Act}
def leH (h h2 : AH) : Prop := h.1 ≤ h2.1 ∧ h.2.1 ≤ h2.2.1
theorem leH.rfl {h : AH} : leH h h := ⟨Nat.le_refl _, Nat.le_refl _⟩
theorem leH.trans {a b c : AH} (h1 : leH a b) (h2 : leH b c) : leH a c := ⟨Nat.le_trans h1.1 h2.1, Nat.le_trans h1.2 h2.2⟩
set_option maxHeartbeats 4000000 in
theorem growA (hs : semA i ins len pc L S h = some y) : ∃ (pc2 : Nat) (L2 : AL) (S2 : List Value) (h2 : AH), y = .inr (.inl (pc2, L2, S2, h2)) ∧ leH h h2 := by
  unfold semA at hs
  split at hs
  all_goals try unfold bin at hs
  all_goals try unfold binL at hs
  all_goals try (first | (have e := Option.some.inj hs; subst e; exact ⟨_, _, _, _, rfl, leH.rfl⟩) | cases hs)
  all_goals try (split at hs)
  all_goals try (first | (have e := Option.some.inj hs; subst e; exact ⟨_, _, _, _, rfl, leH.rfl⟩) | cases hs)
  all_goals try (split at hs)
  all_goals try (first | (have e := Option.some.inj hs; subst e; exact ⟨_, _, _, _, rfl, leH.rfl⟩) | cases hs)
  obtain ⟨k, e1, hs⟩ := Option.bind_eq_some_iff.mp hs
  obtain ⟨v, e2, hs⟩ := Option.bind_eq_some_iff.mp hs
  have e := Option.some.inj hs
  subst e
  exact ⟨_, _, _, _, rfl, leH.rfl⟩
set_option maxHeartbeats 4000000 in
theorem growB (hs : semB ins len pc L S h = some y) : ∃ (pc2 : Nat) (L2 : AL) (S2 : List Value) (h2 : AH), y = .inr (.inl (pc2, L2, S2, h2)) ∧ leH h h2 := by
  have main : ∀ {t1 t2 : Nat} {c : ClassFile.Cond} {x y : Int32} {T : List Value} {w : Act}, cnd c x y (mk t1 L T h) (mk t2 L T h) = some w → ∃ (pc2 : Nat) (L2 : AL) (S2 : List Value) (h2 : AH), w = .inr (.inl (pc2, L2, S2, h2)) ∧ leH h h2 := by
    intro t1 t2 c x y T w hs
    unfold cnd at hs
    split at hs <;> split at hs <;> (have e := Option.some.inj hs; subst e; exact ⟨_, _, _, _, rfl, leH.rfl⟩)
  unfold semB at hs
  split at hs
  · obtain ⟨t, ht, hs⟩ := tg_mk hs
    have e := Option.some.inj hs
    subst e
    exact ⟨_, _, _, _, rfl, leH.rfl⟩
  · split at hs
    · obtain ⟨t, ht, hs⟩ := tg_mk hs
      exact main hs
    · cases hs
  · split at hs
    · obtain ⟨t, ht, hs⟩ := tg_mk hs
      exact main hs
    · cases hs
  · split at hs
    · have e := Option.some.inj hs
      subst e
      exact ⟨_, _, _, _, rfl, leH.rfl⟩
    · obtain ⟨t, ht, hs⟩ := tg_mk hs
      have e := Option.some.inj hs
      subst e
      exact ⟨_, _, _, _, rfl, leH.rfl⟩
    · cases hs
  · split at hs
    · obtain ⟨t, ht, hs⟩ := tg_mk hs
      have e := Option.some.inj hs
      subst e
      exact ⟨_, _, _, _, rfl, leH.rfl⟩
    · have e := Option.some.inj hs
      subst e
      exact ⟨_, _, _, _, rfl, leH.rfl⟩
    · cases hs
  · split at hs
    · split at hs
      · obtain ⟨t, ht, hs⟩ := tg_mk hs
        have e := Option.some.inj hs
        subst e
        exact ⟨_, _, _, _, rfl, leH.rfl⟩
      · obtain ⟨off, ho, hs⟩ := Option.bind_eq_some_iff.mp hs
        obtain ⟨t, ht, hs⟩ := tg_mk hs
        have e := Option.some.inj hs
        subst e
        exact ⟨_, _, _, _, rfl, leH.rfl⟩
    · cases hs
  · split at hs
    · split at hs
      · obtain ⟨t, ht, hs⟩ := tg_mk hs
        have e := Option.some.inj hs
        subst e
        exact ⟨_, _, _, _, rfl, leH.rfl⟩
      · cases hs
    · cases hs
  · cases hs
theorem leH.wr {a : Nat} {x : AE} : leH h (wr h a x) := ⟨Nat.le_refl _, Nat.le_refl _⟩
theorem leH.al {k : Nat} {x : AE} : leH h (al h x k) := ⟨Nat.le_add_right _ _, Nat.le_add_right _ _⟩
theorem leH.al2 {n k : Nat} : leH h (al2 h n k) := ⟨by show h.1 ≤ h.1 + 1 + n; omega, by show h.2.1 ≤ h.2.1 + n + n * k; omega⟩
set_option maxHeartbeats 4000000 in
theorem growC (hs : semC i ins len pc L S h = some y) : ∃ (pc2 : Nat) (L2 : AL) (S2 : List Value) (h2 : AH), y = .inr (.inl (pc2, L2, S2, h2)) ∧ leH h h2 := by
  unfold semC at hs
  split at hs
  · split at hs
    · obtain ⟨q, e1, hs⟩ := Option.bind_eq_some_iff.mp hs
      obtain ⟨k, e2, hs⟩ := Option.bind_eq_some_iff.mp hs
      obtain ⟨v, e3, hs⟩ := Option.bind_eq_some_iff.mp hs
      split at hs
      · cases hs
      · have e := Option.some.inj hs
        subst e
        exact ⟨_, _, _, _, rfl, leH.rfl⟩
    · cases hs
  · split at hs
    · obtain ⟨q, e1, hs⟩ := Option.bind_eq_some_iff.mp hs
      obtain ⟨k, e2, hs⟩ := Option.bind_eq_some_iff.mp hs
      obtain ⟨v, e3, hs⟩ := Option.bind_eq_some_iff.mp hs
      split at hs
      · cases hs
      · have e := Option.some.inj hs
        subst e
        exact ⟨_, _, _, _, rfl, leH.wr⟩
    · cases hs
  · obtain ⟨j, e1, hs⟩ := Option.bind_eq_some_iff.mp hs
    split at hs
    · have e := Option.some.inj hs
      subst e
      exact ⟨_, _, _, _, rfl, leH.rfl⟩
    · cases hs
  · obtain ⟨ci, e1, hs⟩ := Option.bind_eq_some_iff.mp hs
    obtain ⟨fs, e2, hs⟩ := Option.bind_eq_some_iff.mp hs
    have e := Option.some.inj hs
    subst e
    exact ⟨_, _, _, _, rfl, leH.al⟩
  · split at hs
    · split at hs
      · cases hs
      · have e := Option.some.inj hs
        subst e
        exact ⟨_, _, _, _, rfl, leH.al⟩
    · cases hs
  · split at hs
    · obtain ⟨t, e1, hs⟩ := Option.bind_eq_some_iff.mp hs
      split at hs
      · cases hs
      · have e := Option.some.inj hs
        subst e
        exact ⟨_, _, _, _, rfl, leH.al⟩
    · cases hs
  · split at hs
    · obtain ⟨t, e1, hs⟩ := Option.bind_eq_some_iff.mp hs
      split at hs
      · cases hs
      · have e := Option.some.inj hs
        subst e
        exact ⟨_, _, _, _, rfl, leH.al2⟩
    · cases hs
  · split at hs
    · obtain ⟨t, e1, hs⟩ := Option.bind_eq_some_iff.mp hs
      have e := Option.some.inj hs
      subst e
      exact ⟨_, _, _, _, rfl, leH.rfl⟩
    · cases hs
  · split at hs
    · obtain ⟨t, e1, hs⟩ := Option.bind_eq_some_iff.mp hs
      split at hs
      · cases hs
      · have e := Option.some.inj hs
        subst e
        exact ⟨_, _, _, _, rfl, leH.rfl⟩
    · cases hs
  · split at hs
    · obtain ⟨t, e1, hs⟩ := Option.bind_eq_some_iff.mp hs
      split at hs
      · cases hs
      · have e := Option.some.inj hs
        subst e
        exact ⟨_, _, _, _, rfl, leH.wr⟩
    · cases hs
  · split at hs
    · obtain ⟨t, e1, hs⟩ := Option.bind_eq_some_iff.mp hs
      split at hs
      · cases hs
      · have e := Option.some.inj hs
        subst e
        exact ⟨_, _, _, _, rfl, leH.rfl⟩
    · cases hs
  · split at hs
    · obtain ⟨t, e1, hs⟩ := Option.bind_eq_some_iff.mp hs
      obtain ⟨t2, e2, hs⟩ := Option.bind_eq_some_iff.mp hs
      split at hs
      · cases hs
      · have e := Option.some.inj hs
        subst e
        exact ⟨_, _, _, _, rfl, leH.wr⟩
    · cases hs
  · cases hs
theorem callA_call {c np nr : Nat} {y : Act} (hs : callA i pc c np nr L S h = some y) : ∃ j, mtab[c]? = some j ∧ j.2.2.2.2.2.1 + 1 ≤ i.2.2.2.2.2.1 ∧ 19 + j.2.2.1 + j.2.2.2.2.2.2.1 ≤ i.2.2.2.2.2.2.1 ∧ np + nr ≤ S.length ∧ ((S.drop (np + nr)).map Value.category).sum ≤ 8 ∧ ((S.take (np + nr)).reverse.flatMap fun v => if v.category = 2 then [some v, none] else [some v]).length ≤ j.2.2.1 ∧ y = .inr (.inr (c, (S.take (np + nr)).reverse, pc + 3, L, S.drop (np + nr), h)) := by
  unfold callA at hs
  obtain ⟨j, e1, hs⟩ := Option.bind_eq_some_iff.mp hs
  split at hs
  · rename_i hc
    cases hs
    exact ⟨j, e1, hc.1, hc.2.1, hc.2.2.1, hc.2.2.2.1, hc.2.2.2.2, rfl⟩
  · cases hs
end GR
