theorem insK : ∀ z ∈ clL, GW (.instantiable z.1 z.2.2.1) := List.forall_mem_cons.mpr ⟨gw 25 (by decide +kernel) rfl, List.forall_mem_cons.mpr ⟨gw 92 (by decide +kernel) rfl, List.forall_mem_cons.mpr ⟨gw 215 (by decide +kernel) rfl, List.forall_mem_cons.mpr ⟨gw 487 (by decide +kernel) rfl, List.forall_mem_cons.mpr ⟨gw 377 (by decide +kernel) rfl, List.forall_mem_cons.mpr ⟨gw 48 (by decide +kernel) rfl, List.forall_mem_cons.mpr ⟨gw 101 (by decide +kernel) rfl, List.forall_mem_cons.mpr ⟨gw 343 (by decide +kernel) rfl, List.forall_mem_cons.mpr ⟨gw 367 (by decide +kernel) rfl, List.forall_mem_cons.mpr ⟨gw 75 (by decide +kernel) rfl, List.forall_mem_cons.mpr ⟨gw 17 (by decide +kernel) rfl, List.forall_mem_cons.mpr ⟨gw 862 (by decide +kernel) rfl, fun _ h => absurd h List.not_mem_nil⟩⟩⟩⟩⟩⟩⟩⟩⟩⟩⟩⟩
def tvL (k : Nat) : Int32 := match k with
  | 0 => 98
  | 1 => 108
  | 2 => 99
  | _ => 114
def tvM (k : Nat) : Int32 := match k with
  | 0 => 0
  | 1 => 1
  | 2 => 1
  | _ => 0
def tvG (k : Nat) : Int32 := match k with
  | 0 => 99
  | 1 => 6
  | 2 => 1
  | _ => 1
def hOld (L : Nat) (xs : Nat → Int32) (q : Nat) : AE := match q with
  | 0 => aI L xs
  | 1 => aI 4 tvL
  | 2 => aI 4 tvM
  | 3 => aI 4 tvG
  | _ => aDead
def h00 (L : Nat) (xs : Nat → Int32) : AH := (4, 0, hOld L xs)
theorem stat_LETTERS {s : State} {b : Nat} (hts : ∀ w ∈ lw_tbl, w.before #[Value.ref b] s = true) (hgv : (Jvm.Cond.and given_1 narrow_1).before #[Value.ref b] s = true) : ∃ t : Nat, va_Z "BurntPads$Drill" "LETTERS" "[I" (.ref t) (fun q => s.heap.size ≤ q) s s.heap ∧ va_T .int t 4 (fun k => .int (tvL k)) (fun q => s.heap.size ≤ q) s s.heap := by
  have hs := flat_of_before _ hgv
  have hA : ∀ a : Nat, a < s.heap.size → ¬ (fun q => s.heap.size ≤ q) a := fun a h q => by
    have q : s.heap.size ≤ a := q
    omega
  obtain ⟨t, ht, hT⟩ := va_Tof (args := #[Value.ref b]) (tm := .static "BurntPads$Drill" "LETTERS" "[I") (ty := .int) (N := 4) (f := fun k => .int (tvL k)) (A := fun q => s.heap.size ≤ q) (by decide) (hs _ (by decide +kernel)) (va_eqt (hs _ (by decide +kernel))) (fun k hk => by
    match k, hk with
    | 0, _ => exact va_eqt (z := 98) (hs _ (by decide +kernel))
    | 1, _ => exact va_eqt (z := 108) (hs _ (by decide +kernel))
    | 2, _ => exact va_eqt (z := 99) (hs _ (by decide +kernel))
    | 3, _ => exact va_eqt (z := 114) (hs _ (by decide +kernel))) hA
  exact ⟨t, va_Zof (hts _ (List.mem_append_right _ (List.mem_of_getElem? (i := 263) (by decide +kernel)))) (hts _ (List.mem_append_right _ (List.mem_of_getElem? (i := 5) (by decide +kernel)))) ht hA, hT⟩
theorem stat_LEAST {s : State} {b : Nat} (hts : ∀ w ∈ lw_tbl, w.before #[Value.ref b] s = true) (hgv : (Jvm.Cond.and given_1 narrow_1).before #[Value.ref b] s = true) : ∃ t : Nat, va_Z "BurntPads$Drill" "LEAST" "[I" (.ref t) (fun q => s.heap.size ≤ q) s s.heap ∧ va_T .int t 4 (fun k => .int (tvM k)) (fun q => s.heap.size ≤ q) s s.heap := by
  have hs := flat_of_before _ hgv
  have hA : ∀ a : Nat, a < s.heap.size → ¬ (fun q => s.heap.size ≤ q) a := fun a h q => by
    have q : s.heap.size ≤ a := q
    omega
  obtain ⟨t, ht, hT⟩ := va_Tof (args := #[Value.ref b]) (tm := .static "BurntPads$Drill" "LEAST" "[I") (ty := .int) (N := 4) (f := fun k => .int (tvM k)) (A := fun q => s.heap.size ≤ q) (by decide) (hs _ (by decide +kernel)) (va_eqt (hs _ (by decide +kernel))) (fun k hk => by
    match k, hk with
    | 0, _ => exact va_eqt (z := 0) (hs _ (by decide +kernel))
    | 1, _ => exact va_eqt (z := 1) (hs _ (by decide +kernel))
    | 2, _ => exact va_eqt (z := 1) (hs _ (by decide +kernel))
    | 3, _ => exact va_eqt (z := 0) (hs _ (by decide +kernel))) hA
  exact ⟨t, va_Zof (hts _ (List.mem_append_right _ (List.mem_of_getElem? (i := 289) (by decide +kernel)))) (hts _ (List.mem_append_right _ (List.mem_of_getElem? (i := 5) (by decide +kernel)))) ht hA, hT⟩
theorem stat_GREATEST {s : State} {b : Nat} (hts : ∀ w ∈ lw_tbl, w.before #[Value.ref b] s = true) (hgv : (Jvm.Cond.and given_1 narrow_1).before #[Value.ref b] s = true) : ∃ t : Nat, va_Z "BurntPads$Drill" "GREATEST" "[I" (.ref t) (fun q => s.heap.size ≤ q) s s.heap ∧ va_T .int t 4 (fun k => .int (tvG k)) (fun q => s.heap.size ≤ q) s s.heap := by
  have hs := flat_of_before _ hgv
  have hA : ∀ a : Nat, a < s.heap.size → ¬ (fun q => s.heap.size ≤ q) a := fun a h q => by
    have q : s.heap.size ≤ a := q
    omega
  obtain ⟨t, ht, hT⟩ := va_Tof (args := #[Value.ref b]) (tm := .static "BurntPads$Drill" "GREATEST" "[I") (ty := .int) (N := 4) (f := fun k => .int (tvG k)) (A := fun q => s.heap.size ≤ q) (by decide) (hs _ (by decide +kernel)) (va_eqt (hs _ (by decide +kernel))) (fun k hk => by
    match k, hk with
    | 0, _ => exact va_eqt (z := 99) (hs _ (by decide +kernel))
    | 1, _ => exact va_eqt (z := 6) (hs _ (by decide +kernel))
    | 2, _ => exact va_eqt (z := 1) (hs _ (by decide +kernel))
    | 3, _ => exact va_eqt (z := 1) (hs _ (by decide +kernel))) hA
  exact ⟨t, va_Zof (hts _ (List.mem_append_right _ (List.mem_of_getElem? (i := 291) (by decide +kernel)))) (hts _ (List.mem_append_right _ (List.mem_of_getElem? (i := 5) (by decide +kernel)))) ht hA, hT⟩
theorem aoa_moved {u U : State} {a a' : Array Value} (hvm : u.vm.Alike U.vm) (h : (Cond.arrayOver (.array .int)).before a u = true) : (Cond.arrayOver (.array .int)).before a' U = true := by
  obtain ⟨comp, c, k, h1, h2, h3, h4, h5⟩ := arrayOverA_spec h
  obtain ⟨k1, hk1, he⟩ := hvm.2.2 _ _ h3
  have hkind : k1.kind = .array comp (.array .int) := by rw [he]; exact h4
  have f1 : U.vm.findClass (FieldType.array .int).toString = some comp := by rw [hvm.findClass]; exact h1
  have f2 : U.vm.findClass ("[" ++ (FieldType.array .int).toString) = some c := by rw [hvm.findClass]; exact h5
  have f3 : (U.vm.classes.findIdx? fun (x : Class) => match x.kind with | .array component _ => component == comp | _ => false) = some c := by
    rw [hvm.findIdx?_eq _ (fun _ => rfl)]
    exact h2
  simp only [Cond.before, Cond.holds, Cond.value, beq_iff_eq, f1, Option.bind_some, Option.bind_eq_some_iff, Option.map_eq_some_iff]
  exact ⟨c, f3, k1, hk1, by rw [hkind]; simp only [f2, decide_true, Bool.and_self]⟩
theorem tag_ex {s : State} {b : Nat} (hts : ∀ w ∈ lw_tbl, w.before #[Value.ref b] s = true) : ∀ t : Nat, ∃ c : ClassId, ∀ ty, (t, ty) ∈ tagT → ArrOfT s c ty ∧ va_RA s c ty := by
  have uq : ∀ {t : Nat} {ty ty2 : FieldType}, (t, ty) ∈ tagT → (t, ty2) ∈ tagT → ty = ty2 := by
    intro t ty ty2 h1 h2
    unfold tagT at h1 h2
    simp only [List.mem_cons, List.not_mem_nil, or_false, Prod.mk.injEq] at h1 h2
    rcases h1 with ⟨rfl, rfl⟩ | ⟨rfl, rfl⟩ | ⟨rfl, rfl⟩ | ⟨rfl, rfl⟩ | ⟨rfl, rfl⟩ <;> simp at h2 <;> exact h2.symm
  have ob : ∀ C : String, (Cond.arrayOver (.object C)).before #[Value.ref b] s = true → ∃ c : ClassId, ArrOfT s c (.object C) ∧ va_RA s c (.object C) := by
    intro C h
    obtain ⟨comp, c, k, h1, -, h3, h4, h5⟩ := Cond.arrayOver_spec h
    exact ⟨c, fun n z => ⟨(fun q hq => by cases hq), k, h3, comp, h4⟩, k, comp, h3, h4, h1, h5⟩
  intro t
  by_cases ht : ∃ ty, (t, ty) ∈ tagT
  · obtain ⟨ty, hty⟩ := ht
    have fin : ∀ c : ClassId, ArrOfT s c ty ∧ va_RA s c ty → ∃ c : ClassId, ∀ ty2, (t, ty2) ∈ tagT → ArrOfT s c ty2 ∧ va_RA s c ty2 := fun c hc => ⟨c, fun ty2 h2 => by rw [← uq hty h2]; exact hc⟩
    have hm := hty
    unfold tagT at hm
    simp only [List.mem_cons, List.not_mem_nil, or_false, Prod.mk.injEq] at hm
    rcases hm with ⟨rfl, rfl⟩ | ⟨rfl, rfl⟩ | ⟨rfl, rfl⟩ | ⟨rfl, rfl⟩ | ⟨rfl, rfl⟩
    · obtain ⟨c, k, comp, h1, h2, h3⟩ := Cond.arrayClass_spec (hts (.arrayClass .int) (List.mem_append_right _ (List.mem_of_getElem? (i := 46) (by decide +kernel))))
      exact fin c ⟨fun n z => ⟨(fun q hq => by cases hq), k, h2, comp, h3⟩, h1⟩
    · obtain ⟨c, hc⟩ := ob "BurntPads$Page" (hts _ (List.mem_append_right _ (List.mem_of_getElem? (i := 86) (by decide +kernel))))
      exact fin c hc
    · obtain ⟨c, hc⟩ := ob "BurntPads$Letter" (hts _ (List.mem_append_right _ (List.mem_of_getElem? (i := 88) (by decide +kernel))))
      exact fin c hc
    · obtain ⟨c, hc⟩ := ob "BurntPads$Sheet" (hts _ (List.mem_append_right _ (List.mem_of_getElem? (i := 90) (by decide +kernel))))
      exact fin c hc
    · obtain ⟨comp, c, k, h1, -, h3, h4, h5⟩ := arrayOverA_spec (hts (.arrayOver (.array .int)) (List.mem_append_right _ (List.mem_of_getElem? (i := 54) (by decide +kernel))))
      exact fin c ⟨fun n z => ⟨(fun q hq => by cases hq), k, h3, comp, h4⟩, h5⟩
  · exact ⟨0, fun ty h => absurd ⟨ty, h⟩ ht⟩
theorem cls_ex {s : State} {b : Nat} (hts : ∀ w ∈ lw_tbl, w.before #[Value.ref b] s = true) : ∀ k : Nat, ∃ cC : ClassId, ∃ iS : Nat → Nat, ∀ q, cls[k]? = some q → u_Kn s q.1 q.2.1 q.2.2 cC iS := by
  intro k
  cases hz : clL[k]? with
  | none =>
    refine ⟨0, fun _ => 0, fun q hq => ?_⟩
    rw [cls_map, List.getElem?_map, hz] at hq
    cases hq
  | some z =>
    have hm := List.mem_of_getElem? hz
    obtain ⟨cC, iS, h⟩ := u_known (ws := u_ws z.1 z.2.1 z.2.2.1) (C := z.1) (T := z.2.1) (N := z.2.2.1) (fun w hw => hts w ((clK z hm).1 w hw).1) (fun _ h => h) (hts _ (insK z hm).1)
    refine ⟨cC, iS, fun q hq => ?_⟩
    rw [cls_map, List.getElem?_map, hz] at hq
    cases hq
    exact h
theorem as_ok {X : Cx} (G : GC X) : AsOK X := by
  have self : ∀ {k : Nat} {r : vw_C}, cls[k]? = some r → (xs X).vm.assignable ((xD X).1 k) ((xD X).1 k) = true := fun h => va_assign (G.2.1 _ _ h).2
  have cast : ∀ {k j : Nat} {r r2 : vw_C}, cls[k]? = some r → cls[j]? = some r2 → (Cond.castable r.1 r2.1).before (xa X) (xs X) = true → (xs X).vm.assignable ((xD X).1 k) ((xD X).1 j) = true := by
    intro k j r r2 h1 h2 hc
    obtain ⟨c, t, e1, e2, e3⟩ := Cond.castable_spec hc
    cases e1.symm.trans (G.2.1 _ _ h1).2.1
    cases e2.symm.trans (G.2.1 _ _ h2).2.1
    exact e3
  refine List.forall_mem_cons.mpr ⟨⟨_, 4, _, by decide, rfl, rfl, self (r := (RX5, TX5, 4)) rfl⟩, List.forall_mem_cons.mpr ⟨⟨_, 4, _, by decide, rfl, rfl, cast (k := 7) (r := (RX8, TX8, 4)) (r2 := (RX5, TX5, 4)) rfl rfl (G.1 _ (List.mem_append_right _ (List.mem_of_getElem? (i := 1280) (by decide +kernel))))⟩, List.forall_mem_cons.mpr ⟨⟨_, 4, _, by decide, rfl, rfl, cast (k := 8) (r := (RX9, TX9, 4)) (r2 := (RX5, TX5, 4)) rfl rfl (G.1 _ (List.mem_append_right _ (List.mem_of_getElem? (i := 1281) (by decide +kernel))))⟩, List.forall_mem_cons.mpr ⟨⟨_, 3, _, by decide, rfl, rfl, self (r := (RX3, TX3, 3)) rfl⟩, List.forall_mem_cons.mpr ⟨⟨_, 6, _, by decide, rfl, rfl, self (r := (RX7, TX7, 3)) rfl⟩, fun _ h => absurd h List.not_mem_nil⟩⟩⟩⟩⟩
theorem aok_of {X : Cx} (G : GC X) : AOK X := ⟨G, clK, as_ok G, fun s a hW => aoa_moved hW.alike (G.1 _ (List.mem_append_right _ (List.mem_of_getElem? (i := 54) (by decide +kernel)))), gwArr, tkAll G⟩
theorem gc_ex {s : State} {b L : Nat} {xv : Nat → Int32} (hts : ∀ w ∈ lw_tbl, w.before #[Value.ref b] s = true) (hX : va_X b L xv s s.heap) (hbl : b < s.heap.size) (hgv : (Jvm.Cond.and given_1 narrow_1).before #[Value.ref b] s = true) : ∃ X : Cx, xs X = s ∧ xo X 0 = b ∧ xold X = hOld L xv ∧ GC X := by
  obtain ⟨t1, z1, T1⟩ := stat_LETTERS hts hgv
  obtain ⟨t2, z2, T2⟩ := stat_LEAST hts hgv
  obtain ⟨t3, z3, T3⟩ := stat_GREATEST hts hgv
  obtain ⟨dC, hC⟩ := Classical.axiomOfChoice (cls_ex hts)
  obtain ⟨dI, hI⟩ := Classical.axiomOfChoice hC
  obtain ⟨aC, hA⟩ := Classical.axiomOfChoice (tag_ex hts)
  refine ⟨(s, #[Value.ref b], (dC, dI), aC, (fun q => match q with | 0 => b | 1 => t1 | 2 => t2 | _ => t3), hOld L xv), rfl, rfl, rfl, hts, fun k q hq => hI k q hq, fun q hq => hA q.1 q.2 hq, fun q hq => ?_, fun j h1 h4 => ?_⟩
  · have tab : ∀ {t : Nat} {f : Nat → Int32}, va_T .int t 4 (fun k => .int (f k)) (fun q => s.heap.size ≤ q) s s.heap → t < s.heap.size ∧ ∃ (n : Nat) (g : Nat → Int32) (cell : Cell), aI 4 f = aI n g ∧ s.heap[t]? = some cell ∧ s.isArrayOf cell .int ∧ cell.vm ≠ .unknown ∧ n ≤ cell.slots.size ∧ cell.slots.size.toInt32 = Int32.ofNat n ∧ ∀ j : Nat, j < n → cell.slots[j]? = some (.int (g j)) := by
      intro t f hT
      obtain ⟨cell, c1, c2, c3, c4, c5, c6, c7⟩ := hT
      exact ⟨(Array.getElem?_eq_some_iff.mp c1).1, 4, f, cell, rfl, c1, c2, c3, c4, c5, c6⟩
    match q, hq with
    | 0, _ =>
      obtain ⟨cell, c1, c2, c3, c4, c5⟩ := hX
      exact ⟨hbl, L, xv, cell, rfl, c1, c2, c3, Nat.le_of_eq c4.symm, by rw [c4], c5⟩
    | 1, _ => exact tab T1
    | 2, _ => exact tab T2
    | 3, _ => exact tab T3
  · match j, h1, h4 with
    | 1, _, _ => exact z1
    | 2, _, _ => exact z2
    | 3, _, _ => exact z3
def LawOK : Prop := ∀ (L : Nat) (xv : Nat → Int32), L ≤ 4096 → ∃ h1 : AH, run 226 (0, [some (.ref 0), none, none, none], [], h00 L xv) = some (some (.int 1), h1) ∧ h1.1 ≤ 600004 ∧ h1.2.1 ≤ 7302250
