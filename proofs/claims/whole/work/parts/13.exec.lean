section EX
variable {X : Cx} {i : MI} {p : Program} {l : Launch} {e : Env} {R : Room} {s : State} {m : MethodId} {args : Array Value} {below : List Frame} {meth : Method} {c : Code} {Q : State → Prop} {n0 sl0 pc pc2 len : Nat} {L L2 : AL} {S S2 : List Value} {h h2 : AH} {ins : ClassFile.Instr} {H : Heap} {locs : List Loc} {cells slots : Nat} {ls : Array Slot} {rest : List Value}
def TOK (X : Cx) (i : MI) : Prop := LcOK i ∧ FldOK i ∧ StaOK i ∧ NewOK i ∧ AnwOK i ∧ MnwOK i ∧ CpyOK i ∧ StcOK X i ∧ VrtOK X i ∧ SpcOK X i ∧ ObjOK i
def AOK (X : Cx) : Prop := GC X ∧ ClK ∧ AsOK X ∧ AoA X ∧ GW (.arrayClass .int) ∧ ∀ i ∈ mtab, TOK X i
theorem copyA_go {y : Act} (hs : copyA i pc L S h = some y) : ∃ (n dp sp : Int32) (a1 a0 n1 n2 : Nat) (f g : Nat → Int32), S = [.int n, .int dp, .ref a1, .int sp, .ref a0] ∧ rI h a0 = some (n1, f) ∧ rI h a1 = some (n2, g) ∧ (¬ sp < 0 ∧ ¬ dp < 0 ∧ ¬ n < 0 ∧ sp.toNatClampNeg + n.toNatClampNeg ≤ n1 ∧ dp.toNatClampNeg + n.toNatClampNeg ≤ n2 ∧ 4 ≤ a1 ∧ 4 ≤ a0 ∧ 1 ≤ i.2.2.2.2.2.1 ∧ 20 ≤ i.2.2.2.2.2.2.1) ∧ y = .inr (.inl (pc + 3, L, [], wr h a1 (aI n2 (va_cpy f g sp.toNatClampNeg dp.toNatClampNeg n.toNatClampNeg)))) := by
  unfold copyA at hs
  split at hs
  · split at hs
    · rename_i r0 r1
      split at hs
      · rename_i hc
        have e := Option.some.inj hs
        subst e
        have hz : _ = [] := List.eq_nil_of_length_eq_zero hc.2.2.2.2.2.2.2.1
        subst hz
        exact ⟨_, _, _, _, _, _, _, _, _, rfl, r0, r1, ⟨hc.1, hc.2.1, hc.2.2.1, hc.2.2.2.1, hc.2.2.2.2.1, hc.2.2.2.2.2.1, hc.2.2.2.2.2.2.1, hc.2.2.2.2.2.2.2.2.1, hc.2.2.2.2.2.2.2.2.2⟩, rfl⟩
      · cases hs
    · cases hs
  · cases hs
theorem growD {y : Act} (hs : semD i ins len pc L S h = some y) : (∃ v, y = .inl (v, h)) ∨ (∃ (pc2 : Nat) (L2 : AL) (S2 : List Value) (h2 : AH), y = .inr (.inl (pc2, L2, S2, h2)) ∧ leH h h2) ∨ (∃ (d : Nat) (as : List Value) (pc2 : Nat) (L2 : AL) (S2 : List Value), y = .inr (.inr (d, as, pc2, L2, S2, h))) := by
  unfold semD at hs
  split at hs
  · obtain ⟨np, e1, hs⟩ := Option.bind_eq_some_iff.mp hs
    obtain ⟨d, e2, hs⟩ := Option.bind_eq_some_iff.mp hs
    split at hs
    · obtain ⟨n, dp, sp, a1, a0, n1, n2, f, g, -, -, -, -, rfl⟩ := copyA_go hs
      exact Or.inr (Or.inl ⟨_, _, _, _, rfl, leH.wr⟩)
    · obtain ⟨j, -, -, -, -, -, -, rfl⟩ := callA_call hs
      exact Or.inr (Or.inr ⟨_, _, _, _, _, rfl⟩)
  · obtain ⟨np, e1, hs⟩ := Option.bind_eq_some_iff.mp hs
    obtain ⟨d, e2, hs⟩ := Option.bind_eq_some_iff.mp hs
    split at hs
    · split at hs
      · split at hs
        · have e := Option.some.inj hs
          subst e
          exact Or.inr (Or.inl ⟨_, _, _, _, rfl, leH.rfl⟩)
        · cases hs
      · obtain ⟨q, e3, hs⟩ := Option.bind_eq_some_iff.mp hs
        obtain ⟨z, e4, hs⟩ := Option.bind_eq_some_iff.mp hs
        obtain ⟨j, -, -, -, -, -, -, rfl⟩ := callA_call hs
        exact Or.inr (Or.inr ⟨_, _, _, _, _, rfl⟩)
    · cases hs
  · obtain ⟨np, e1, hs⟩ := Option.bind_eq_some_iff.mp hs
    split at hs
    · obtain ⟨q, e3, hs⟩ := Option.bind_eq_some_iff.mp hs
      obtain ⟨z, e4, hs⟩ := Option.bind_eq_some_iff.mp hs
      obtain ⟨j, -, -, -, -, -, -, rfl⟩ := callA_call hs
      exact Or.inr (Or.inr ⟨_, _, _, _, _, rfl⟩)
    · cases hs
  · split at hs
    · split at hs
      · exact Or.inl ⟨_, (Option.some.inj hs).symm⟩
      · split at hs
        · exact Or.inl ⟨_, (Option.some.inj hs).symm⟩
        · cases hs
      · cases hs
    · cases hs
  · split at hs
    · split at hs
      · exact Or.inl ⟨_, (Option.some.inj hs).symm⟩
      · cases hs
    · cases hs
  · split at hs
    · split at hs
      · exact Or.inl ⟨_, (Option.some.inj hs).symm⟩
      · exact Or.inl ⟨_, (Option.some.inj hs).symm⟩
      · cases hs
    · split at hs
      · exact Or.inl ⟨_, (Option.some.inj hs).symm⟩
      · exact Or.inl ⟨_, (Option.some.inj hs).symm⟩
      · cases hs
    · cases hs
  · split at hs
    · split at hs
      · exact Or.inl ⟨_, (Option.some.inj hs).symm⟩
      · cases hs
    · cases hs
  · cases hs
theorem grow {y : Act} (hs : sem i ins len pc L S h = some y) : (∃ v, y = .inl (v, h)) ∨ (∃ (pc2 : Nat) (L2 : AL) (S2 : List Value) (h2 : AH), y = .inr (.inl (pc2, L2, S2, h2)) ∧ leH h h2) ∨ (∃ (d : Nat) (as : List Value) (pc2 : Nat) (L2 : AL) (S2 : List Value), y = .inr (.inr (d, as, pc2, L2, S2, h))) := by
  unfold sem at hs
  split at hs
  · exact Or.inr (Or.inl (growA hs))
  · exact Or.inr (Or.inl (growB hs))
  · exact Or.inr (Or.inl (growC hs))
  · exact growD hs
theorem stp_sem {m0 : Nat} {f : Fr} {y : Act} (hs : stp m0 f = some y) : ∃ (i : MI) (ins : ClassFile.Instr) (len : Nat), mtab[m0]? = some i ∧ decode i.2.1 f.1 = .ok (ins, len) ∧ sem i ins len f.1 f.2.1 f.2.2.1 f.2.2.2 = some y := by
  unfold stp at hs
  split at hs
  · cases hs
  · rename_i i hi
    split at hs
    · rename_i ins len hd
      exact ⟨i, ins, len, hi, hd, hs⟩
    · cases hs
theorem ent_h (d : Nat) (as : List Value) (h : AH) : (ent d as h).2.2.2 = h := by
  unfold ent
  split <;> rfl
theorem exc_grow : ∀ (k m0 : Nat) (f : Fr) (r : Rs), exc k m0 f = some r → leH f.2.2.2 r.2
  | 0, _, _, _, e => by cases e
  | k + 1, m0, f, r, e => by
    have e : act (exc k) m0 (stp m0 f) = some r := e
    match hy : stp m0 f with
    | none => rw [hy] at e; cases e
    | some y =>
      rw [hy] at e
      obtain ⟨i, ins, len, hi, hd, hs⟩ := stp_sem hy
      rcases grow hs with ⟨v, rfl⟩ | ⟨pc2, L2, S2, h2, rfl, hle⟩ | ⟨d, as, pc2, L2, S2, rfl⟩
      · cases e
        exact leH.rfl
      · exact hle.trans (exc_grow k m0 _ r e)
      · simp only [act] at e
        obtain ⟨q, e1, e2⟩ := Option.bind_eq_some_iff.mp e
        have g1 := exc_grow k d _ q e1
        rw [ent_h] at g1
        exact g1.trans (exc_grow k m0 _ r e2)
theorem enL_args (ρ : Nat → Nat) (n : Nat) : ∀ (as : List Value) (pre : AL) (j : Nat) (v : Value), (pre ++ (as.flatMap fun v => if v.category = 2 then [some v, none] else [some v]) ++ List.replicate n none)[j]? = some (some v) → pre[j]? = some (some v) ∨ (j, cv ρ v) ∈ lv_args pre.length (as.map (cv ρ))
  | [], pre, j, v, hj => by
    simp only [List.flatMap_nil, List.append_nil] at hj
    by_cases hl : j < pre.length
    · rw [List.getElem?_append_left hl] at hj
      exact Or.inl hj
    · rw [List.getElem?_append_right (by omega)] at hj
      have := List.eq_of_mem_replicate (List.mem_of_getElem? hj)
      cases this
  | a :: as, pre, j, v, hj => by
    by_cases hc : a.category = 2
    · have hj2 : ((pre ++ [some a, none]) ++ (as.flatMap fun v => if v.category = 2 then [some v, none] else [some v]) ++ List.replicate n none)[j]? = some (some v) := by
        rw [← hj]
        simp [List.flatMap_cons, hc]
      rcases enL_args ρ n as (pre ++ [some a, none]) j v hj2 with z | z
      · by_cases hl : j < pre.length
        · rw [List.getElem?_append_left hl] at z
          exact Or.inl z
        · rw [List.getElem?_append_right (by omega)] at z
          right
          have : j - pre.length < 2 := (List.getElem?_eq_some_iff.mp z).1
          have hz : j - pre.length = 0 ∨ j - pre.length = 1 := by omega
          rcases hz with hz | hz
          · rw [hz] at z
            cases z
            have : j = pre.length := by omega
            subst this
            simp [lv_args]
          · rw [hz] at z
            cases z
      · right
        simp only [List.map_cons, lv_args, cv_cat, hc, if_true]
        simp only [List.length_append, List.length_cons, List.length_nil] at z
        exact List.mem_cons_of_mem _ z
    · have hj2 : ((pre ++ [some a]) ++ (as.flatMap fun v => if v.category = 2 then [some v, none] else [some v]) ++ List.replicate n none)[j]? = some (some v) := by
        rw [← hj]
        simp [List.flatMap_cons, hc]
      rcases enL_args ρ n as (pre ++ [some a]) j v hj2 with z | z
      · by_cases hl : j < pre.length
        · rw [List.getElem?_append_left hl] at z
          exact Or.inl z
        · rw [List.getElem?_append_right (by omega)] at z
          right
          have : j - pre.length < 1 := (List.getElem?_eq_some_iff.mp z).1
          have hz : j - pre.length = 0 := by omega
          rw [hz] at z
          cases z
          have : j = pre.length := by omega
          subst this
          simp [lv_args]
      · right
        simp only [List.map_cons, lv_args, cv_cat, hc, if_false]
        simp only [List.length_append, List.length_cons, List.length_nil] at z
        exact List.mem_cons_of_mem _ z
theorem fm_len (ρ : Nat → Nat) (as : List Value) : (lg_sl (as.map (cv ρ))).length = (as.flatMap fun v => if v.category = 2 then [some v, none] else [some v]).length := by
  induction as with
  | nil => rfl
  | cons a as ih =>
    unfold lg_sl at ih ⊢
    simp only [List.map_cons, List.flatMap_cons, List.length_append, ih, cv_cat]
    split <;> rfl
theorem ent_LR (ρ : Nat → Nat) (as : List Value) (n : Nat) (hn : (as.flatMap fun v => if v.category = 2 then [some v, none] else [some v]).length ≤ n) : LR ρ ((lg_sl (as.map (cv ρ)) ++ List.replicate (n - (lg_sl (as.map (cv ρ))).length) Slot.unset).toArray) (enL as n) ∧ (enL as n).length = n := by
  have hl : (enL as n).length = n := by
    unfold enL
    rw [List.length_append, List.length_replicate]
    omega
  have hh := lv_entry (as.map (cv ρ)) (n := n) (by rw [fm_len]; exact hn)
  refine ⟨⟨by rw [hh.1, hl], hh.2.1, fun j v hj => ?_⟩, hl⟩
  rcases enL_args ρ (n - (as.flatMap fun v => if v.category = 2 then [some v, none] else [some v]).length) as [] j v (by simpa [enL] using hj) with z | z
  · simp at z
  · exact hh.2.2 (j, cv ρ v) z
end EX
