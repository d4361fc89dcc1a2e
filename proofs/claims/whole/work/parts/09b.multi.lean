-- ===== a row of our own for multianewarray with two counts: an int[n][k], laid row by row =====
section MZ
variable {E : CtlPost} {e : Env} {d : Bool} {acts : List Action}
/-- the outer array, its first i places laid: place j holds the address behind it -/
def mz_out (cO : ClassId) (N a i : Nat) : Cell := arrV cO N fun j => va_rf (if j < i then some (a + 1 + j) else none)
/-- one inner array -/
def mz_row (cI : ClassId) (K : Nat) : Cell := { cls := cI, slots := Array.replicate K (.int 0), vm := .none }
/-- the state when i inner arrays are laid -/
def mz_st (U : State) (cO cI : ClassId) (N K : Nat) : Nat → State
  | 0 => U.pushCell (mz_out cO N U.heap.size 0)
  | i + 1 => ((mz_st U cO cI N K i).pushCell (mz_row cI K)).setCell U.heap.size (mz_out cO N U.heap.size (i + 1))
theorem mz_out0 (cO : ClassId) (N a : Nat) : ({ cls := cO, slots := Array.replicate N .null, vm := .none } : Cell) = mz_out cO N a 0 := by
  rw [arrV_new]
  refine congrArg (arrV cO N) (funext fun j => ?_)
  simp [va_rf]
theorem mz_outS (cO : ClassId) (N a i : Nat) : (mz_out cO N a i).setSlot i (.ref (a + 1 + i)) = mz_out cO N a (i + 1) := by
  unfold mz_out
  rw [arrV_store]
  refine congrArg (arrV cO N) (funext fun j => ?_)
  by_cases e : j = i
  · subst e
    simp [updV, va_rf]
  · by_cases h : j < i
    · simp [updV, e, h, Nat.lt_succ_of_lt h]
    · simp [updV, e, h, show ¬ j < i + 1 by omega]
theorem mz_facts (U : State) (cO cI : ClassId) (N K : Nat) : ∀ i : Nat,
    (mz_st U cO cI N K i).heap.size = U.heap.size + 1 + i ∧ (mz_st U cO cI N K i).heap[U.heap.size]? = some (mz_out cO N U.heap.size i) ∧
    (∀ x : Nat, x < U.heap.size → (mz_st U cO cI N K i).heap[x]? = U.heap[x]?) ∧ (∀ j : Nat, j < i → (mz_st U cO cI N K i).heap[U.heap.size + 1 + j]? = some (mz_row cI K)) ∧
    (mz_st U cO cI N K i).vm = U.vm ∧ (mz_st U cO cI N K i).slotsUsed = U.slotsUsed + N + i * K ∧ (mz_st U cO cI N K i).topJava? = U.topJava?
  | 0 => by
    refine ⟨?_, ?_, fun x hx => ?_, fun j hj => absurd hj (Nat.not_lt_zero j), rfl, ?_, rfl⟩
    · show (U.heap.push _).size = _
      rw [Array.size_push]
    · show (U.heap.push _)[U.heap.size]? = _
      rw [Array.getElem?_push_size]
    · show (U.heap.push _)[x]? = _
      rw [Array.getElem?_push, if_neg (Nat.ne_of_lt hx)]
    · show U.slotsUsed + (mz_out cO N U.heap.size 0).slots.size = _
      unfold mz_out
      rw [arrV_size, Nat.zero_mul, Nat.add_zero]
  | i + 1 => by
    obtain ⟨h1, h2, h3, h4, h5, h6, h7⟩ := mz_facts U cO cI N K i
    have eh : (mz_st U cO cI N K (i + 1)).heap = ((mz_st U cO cI N K i).heap.push (mz_row cI K)).setIfInBounds U.heap.size (mz_out cO N U.heap.size (i + 1)) := rfl
    have ne : ∀ x : Nat, x ≠ U.heap.size → (mz_st U cO cI N K (i + 1)).heap[x]? = ((mz_st U cO cI N K i).heap.push (mz_row cI K))[x]? := fun x hx => by
      rw [eh]
      simp [Array.getElem?_setIfInBounds, Ne.symm hx]
    refine ⟨?_, ?_, fun x hx => ?_, fun j hj => ?_, h5, ?_, h7⟩
    · rw [eh, Array.size_setIfInBounds, Array.size_push, h1]
      omega
    · rw [eh, Array.getElem?_setIfInBounds, if_pos rfl, if_pos (by rw [Array.size_push]; omega)]
    · rw [ne x (Nat.ne_of_lt hx), Array.getElem?_push, if_neg (by omega), h3 x hx]
    · rw [ne _ (by omega), Array.getElem?_push]
      by_cases e1 : U.heap.size + 1 + j = (mz_st U cO cI N K i).heap.size
      · rw [if_pos e1]
      · rw [if_neg e1, h4 j (by omega)]
    · show (mz_st U cO cI N K i).slotsUsed + (Array.replicate K (Value.int 0)).size = _
      rw [h6, Array.size_replicate, Nat.succ_mul]
      omega
/-- an array of length N is made -/
theorem mz_new {s : State} {c comp : ClassId} {k : Class} {ty : FieldType} {N : Nat} {v : Value} {Q : Addr → Pre} (hk : s.vm.classes[c]? = some k) (hkind : k.kind = .array comp ty) (hfit : fits ty v = true) (h1 : ¬ N > e.platform.arrayLengthLimit) (h2 : ¬ N * componentBytes ty > e.platform.maxHeapBytes) (h3 : s.heap.size < e.platform.maxCells) (h4 : s.slotsUsed + N ≤ e.platform.maxSlots)
    (hq : ∀ acts' : List Action, Q s.heap.size d acts' (s.pushCell { cls := c, slots := Array.replicate N v, vm := .none })) : wp (Jvm.newArray c N v) Q E e d acts s := by
  have hf : ∀ i w, (Array.replicate N v)[i]? = some w → s.fitsSlot c .none i w = true := by
    intro i w hw
    rw [Array.getElem?_replicate] at hw
    split at hw
    · cases hw
      simp [State.fitsSlot, State.slotType?, hk, hkind, hfit]
    · cases hw
  simp only [Jvm.newArray, Jvm.arrayFits, wp_bind', Jvm.W.ask, Jvm.W.ite, h1, if_false, wp_pure', Jvm.W.theClass, hk, Option.some.injEq, exists_eq_left', hkind, h2, Jvm.W.alloc, Jvm.W.stop]
  rw [if_neg (by omega)]
  exact ⟨h3, by rw [Array.size_replicate]; exact h4, hf, hq _⟩
/-- the innermost count -/
theorem mz_one {s : State} {c comp : ClassId} {k : Class} {n : Int32} {Q : Addr → Pre} (hk : s.vm.classes[c]? = some k) (hkind : k.kind = .array comp .int) (hn : ¬ n < 0) (h1 : ¬ n.toNatClampNeg > e.platform.arrayLengthLimit) (h2 : ¬ n.toNatClampNeg * componentBytes .int > e.platform.maxHeapBytes) (h3 : s.heap.size < e.platform.maxCells) (h4 : s.slotsUsed + n.toNatClampNeg ≤ e.platform.maxSlots)
    (hq : ∀ acts' : List Action, Q s.heap.size d acts' (s.pushCell (mz_row c n.toNatClampNeg))) : wp (Jvm.Op.multianewarray.make c [n]) Q E e d acts s := by
  rw [Jvm.Op.multianewarray.make]
  simp only [wp_bind', Jvm.W.ite, hn, if_false, wp_pure', Jvm.W.theClass, hk, Option.some.injEq, exists_eq_left', hkind]
  exact mz_new hk hkind rfl h1 h2 h3 h4 fun a => hq a
/-- a loop whose round i goes from state i to state i + 1 -/
theorem mz_loop {N : Nat} (S : Nat → State) {Q : PUnit → Pre} (body : Nat → PUnit → Sem (ForInStep PUnit))
    (hb : ∀ (i : Nat) (d1 : Bool) (a1 : List Action) (Q1 : ForInStep PUnit → Pre), i < N → (∀ (d2 : Bool) (a2 : List Action), Q1 (.yield PUnit.unit) d2 a2 (S (i + 1))) → wp (body i PUnit.unit) Q1 E e d1 a1 (S i))
    (hq : ∀ (d2 : Bool) (a2 : List Action), Q PUnit.unit d2 a2 (S N)) : ∀ (j i : Nat) (d : Bool) (acts : List Action), i + j = N → wp (forIn (List.range' i j) PUnit.unit body) Q E e d acts (S i)
  | 0, i, d, acts, h => by
    obtain rfl : i = N := by omega
    simp only [List.range'_zero, List.forIn_nil, wp_pure']
    exact hq d acts
  | j + 1, i, d, acts, h => by
    simp only [List.range'_succ, List.forIn_cons, wp_bind']
    refine hb i d acts _ (by omega) fun d2 a2 => ?_
    exact mz_loop S body hb hq j (i + 1) d2 a2 (by omega)
set_option maxHeartbeats 1000000 in
theorem mz_two {s : State} {f : JFrame} {cO cI compI : ClassId} {kO kI : Class} {n k : Int32} {Q : Addr → Pre} (hO : s.vm.classes[cO]? = some kO) (hkO : kO.kind = .array cI (.array .int)) (hI : s.vm.classes[cI]? = some kI) (hkI : kI.kind = .array compI .int) (hn : ¬ n < 0) (hk : ¬ k < 0)
    (l1 : ¬ n.toNatClampNeg > e.platform.arrayLengthLimit) (l2 : ¬ n.toNatClampNeg * componentBytes (.array .int) > e.platform.maxHeapBytes) (l3 : ¬ k.toNatClampNeg > e.platform.arrayLengthLimit) (l4 : ¬ k.toNatClampNeg * componentBytes .int > e.platform.maxHeapBytes)
    (r1 : s.heap.size + (1 + n.toNatClampNeg) ≤ e.platform.maxCells) (r2 : s.slotsUsed + (n.toNatClampNeg + n.toNatClampNeg * k.toNatClampNeg) ≤ e.platform.maxSlots)
    (hq : ∀ (d2 : Bool) (a2 : List Action), Q s.heap.size d2 a2 ((mz_st s cO cI n.toNatClampNeg k.toNatClampNeg n.toNatClampNeg).setTop f)) : wp (Jvm.Op.multianewarray.make cO [n, k]) Q E e d acts (s.setTop f) := by
  have hfind : [k].find? (fun x => decide (x < 0)) = none := by simp [hk]
  rw [Jvm.Op.multianewarray.make]
  simp only [wp_bind', Jvm.W.ite, hn, if_false, wp_pure', Jvm.W.theClass, State.vm_setTop, hO, Option.some.injEq, exists_eq_left', hkO]
  refine mz_new (s := s.setTop f) hO hkO rfl l1 l2 (by show s.heap.size < _; omega) (by show s.slotsUsed + _ ≤ _; omega) fun a1 => ?_
  simp only [hfind, wp_pure', ite_self, State.heap_setTop, State.pushCell_setTop, mz_out0 cO n.toNatClampNeg s.heap.size, Std.Legacy.Range.forIn_eq_forIn_range']
  have hsz : ([:n.toNatClampNeg] : Std.Legacy.Range).size = n.toNatClampNeg := by simp [Std.Legacy.Range.size]
  rw [wp_bind', hsz]
  refine mz_loop (N := n.toNatClampNeg) (fun i => (mz_st s cO cI n.toNatClampNeg k.toNatClampNeg i).setTop f) _ ?_ ?_ n.toNatClampNeg 0 d a1 (Nat.zero_add _)
  · intro i d1 a2 Q1 hi hq1
    obtain ⟨f1, f2, -, -, f5, f6, -⟩ := mz_facts s cO cI n.toNatClampNeg k.toNatClampNeg i
    have hm : (i + 1) * k.toNatClampNeg ≤ n.toNatClampNeg * k.toNatClampNeg := Nat.mul_le_mul_right _ hi
    rw [Nat.succ_mul] at hm
    simp only [wp_bind']
    refine mz_one (s := (mz_st s cO cI n.toNatClampNeg k.toNatClampNeg i).setTop f) (by show (mz_st s cO cI n.toNatClampNeg k.toNatClampNeg i).vm.classes[cI]? = _; rw [f5]; exact hI) hkI hk l3 l4 (by show (mz_st s cO cI n.toNatClampNeg k.toNatClampNeg i).heap.size < _; omega) (by show (mz_st s cO cI n.toNatClampNeg k.toNatClampNeg i).slotsUsed + _ ≤ _; omega) fun a3 => ?_
    simp only [Jvm.W.writeLoc, wp_pure', State.heap_setTop, State.pushCell_setTop, f1]
    refine ⟨mz_out cO n.toNatClampNeg s.heap.size i, ?_, (fun h => by cases h), ?_, ?_, ?_⟩
    · show ((mz_st s cO cI n.toNatClampNeg k.toNatClampNeg i).heap.push _)[s.heap.size]? = _
      rw [Array.getElem?_push, if_neg (by omega), f2]
    · show i < (arrV _ _ _).slots.size
      rw [arrV_size]
      exact hi
    · have hO2 : (mz_st s cO cI n.toNatClampNeg k.toNatClampNeg i).vm.classes[cO]? = some kO := by rw [f5]; exact hO
      show (mz_st s cO cI n.toNatClampNeg k.toNatClampNeg i).fitsSlot cO .none i _ = true
      simp [State.fitsSlot, State.slotType?, hO2, hkO]
      rfl
    · rw [mz_outS]
      exact hq1 _ _
  · intro d2 a2
    exact hq d2 a2
theorem mz_stand {p : Program} {l : Launch} {R : Room} {s : State} {m : MethodId} {args : Array Value} {below : List Frame} {meth : Method} {c : Code} {U : State} {locs : List Loc} {cells slots : Nat} (X : Stand p l e R s m args below meth c U locs cells slots) (cO cI : ClassId) (N K : Nat) : ∀ i : Nat, Stand p l e R s m args below meth c (mz_st U cO cI N K i) (locs ++ (List.range i).map fun j => ⟨U.heap.size, j⟩) (cells + 1 + i) (slots + N + i * K)
  | 0 => by
    have h := X.pushed (mz_out cO N U.heap.size 0)
    have e1 : (mz_out cO N U.heap.size 0).slots.size = N := arrV_size _ _ _
    rw [e1] at h
    rw [List.range_zero, List.map_nil, List.append_nil, Nat.add_zero, Nat.zero_mul, Nat.add_zero]
    exact h
  | i + 1 => by
    have h := (mz_stand X cO cI N K i).pushed (mz_row cI K)
    have e1 : (mz_row cI K).slots.size = K := Array.size_replicate
    rw [e1] at h
    obtain ⟨f1, f2, -⟩ := mz_facts U cO cI N K i
    have h2 := h.stored (a := U.heap.size) (cell := mz_out cO N U.heap.size i) (by
      show ((mz_st U cO cI N K i).heap.push _)[U.heap.size]? = _
      rw [Array.getElem?_push, if_neg (by omega), f2]) i (.ref (U.heap.size + 1 + i))
    rw [mz_outS, List.append_assoc] at h2
    rw [List.range_succ, List.map_append, Nat.succ_mul, ← Nat.add_assoc (slots + N)]
    exact h2
set_option maxHeartbeats 1000000 in
theorem mz_sem {s : State} {f : JFrame} {index : Nat} {cO cI compI : ClassId} {kO kI : Class} {n k : Int32} {rest : List Value} {Q : Unit → Pre} (hs : s.topJava?.isSome) (hr : s.vm.classReady f.method.cls index cO) (hO : s.vm.classes[cO]? = some kO) (hkO : kO.kind = .array cI (.array .int)) (hI : s.vm.classes[cI]? = some kI) (hkI : kI.kind = .array compI .int) (hstack : f.stack = .int k :: .int n :: rest) (hn : ¬ n < 0) (hk : ¬ k < 0)
    (l1 : ¬ n.toNatClampNeg > e.platform.arrayLengthLimit) (l2 : ¬ n.toNatClampNeg * componentBytes (.array .int) > e.platform.maxHeapBytes) (l3 : ¬ k.toNatClampNeg > e.platform.arrayLengthLimit) (l4 : ¬ k.toNatClampNeg * componentBytes .int > e.platform.maxHeapBytes)
    (r1 : s.heap.size + (1 + n.toNatClampNeg) ≤ e.platform.maxCells) (r2 : s.slotsUsed + (n.toNatClampNeg + n.toNatClampNeg * k.toNatClampNeg) ≤ e.platform.maxSlots)
    (hq : ∀ (d2 : Bool) (a2 : List Action), Q () d2 a2 ((mz_st s cO cI n.toNatClampNeg k.toNatClampNeg n.toNatClampNeg).setTop { f with stack := .ref s.heap.size :: rest })) : wp (Jvm.Op.multianewarray.sem index 2) Q E e d acts (s.setTop f) := by
  simp only [Jvm.Op.multianewarray.sem, Jvm.popN, wp_bind', W.resolveClassAt_ready (State.method?_setTop f hs) hr, Jvm.W.pop, State.topJava?_setTop' _ hs, Option.some.injEq, exists_eq_left', hstack, List.cons.injEq, exists_cons_eq, State.setTop_setTop, wp_pure', List.nil_append, List.cons_append, List.mapM_cons, List.mapM_nil]
  refine mz_two (f := { f with stack := rest }) hO hkO hI hkI hn hk l1 l2 l3 l4 r1 r2 fun d2 a2 => ?_
  obtain ⟨-, -, -, -, -, -, f7⟩ := mz_facts s cO cI n.toNatClampNeg k.toNatClampNeg n.toNatClampNeg
  simp only [wp_bind', Jvm.W.mark, Jvm.W.pushRef]
  refine ⟨{ f with stack := rest }, State.topJava?_setTop' _ (by rw [f7]; exact hs), ?_⟩
  rw [State.setTop_setTop]
  exact hq _ _
theorem mz_cold {s : State} {f : JFrame} {index c n : Nat} {vm' : Vm} {Q : Unit → Pre} (hs : s.topJava?.isSome) (hg : (Jvm.resolveClass f.method.cls index).Gives e.toSetting s.vm (.ok c) vm') (hr : vm'.classReady f.method.cls index c) (hsz : vm'.classes.size ≤ s.vm.classes.size) :
    wp (Jvm.Op.multianewarray.sem index n) Q E e d acts (s.setTop f) ↔ wp (Jvm.Op.multianewarray.sem index n) Q E e d acts ((s.setVm vm').setTop f) := by
  simp only [Jvm.Op.multianewarray.sem, wp_bind']
  exact Jvm.W.resolveClassAt_transfer (s := s.setTop f) (State.method?_setTop f hs) hg hr hsz
theorem mz_walk {p : Program} {l : Launch} {R : Room} {s : State} {m : MethodId} {args : Array Value} {below : List Frame} {meth : Method} {c : Code} {T : State} {locs : List Loc} {cells slots : Nat} (X : Stand p l e R s m args below meth c T locs cells slots) (hexec : p.tables.exec = Jvm.exec) {own : String} {index : Nat} (hown : s.vm.findClass own = some m.cls) (hclink : (Cond.classLink own index "[[I").before args s = true) (hover : (Cond.arrayOver (.array .int)).before args s = true)
    {cI compI : ClassId} {kI : Class} (hI : s.vm.classes[cI]? = some kI) (hkI : kI.kind = .array compI .int) (hfI : s.vm.findClass "[I" = some cI)
    {g : JFrame} (hg : g.method = m) (hdg : decode c.code g.pc = .ok (.multianewarray index 2, 4)) {n k : Int32} {rest : List Value} (hstack : g.stack = .int k :: .int n :: rest) (hn : ¬ n < 0) (hk : ¬ k < 0) (hb : n.toNatClampNeg ≤ 100000) (hb2 : k.toNatClampNeg ≤ 100000) (hcells : cells + (1 + n.toNatClampNeg) ≤ R.cells) (hslots : slots + (n.toNatClampNeg + n.toNatClampNeg * k.toNatClampNeg) ≤ R.slots) :
    ∃ (vm₁ : Vm) (cO : ClassId), s.vm.findClass "[[I" = some cO ∧ Stand p l e R s m args below meth c (mz_st (T.setVm vm₁) cO cI n.toNatClampNeg k.toNatClampNeg n.toNatClampNeg) (locs ++ (List.range n.toNatClampNeg).map fun j => ⟨T.heap.size, j⟩) (cells + 1 + n.toNatClampNeg) (slots + n.toNatClampNeg + n.toNatClampNeg * k.toNatClampNeg) ∧
      ∀ target, Steps p.tables e below ((mz_st (T.setVm vm₁) cO cI n.toNatClampNeg k.toNatClampNeg n.toNatClampNeg).setTop { g with pc := g.pc + 4, stack := .ref T.heap.size :: rest }) target → Steps p.tables e below (T.setTop g) target := by
  subst hg
  have hpl : e.platform.magicAccessors = ({} : Platform).magicAccessors := by rw [X.admits.platform]
  obtain ⟨comp, cO, kO, hcomp, -, hkO, hkindO, hnameO⟩ := arrayOverA_spec hover
  cases (Option.some.inj (hcomp.symm.trans hfI) : comp = cI)
  obtain ⟨cc, hfcc, hcl⟩ := Cond.classLink_spec hown hclink e.platform hpl
  cases (Option.some.inj (hfcc.symm.trans hnameO) : cc = cO)
  obtain ⟨hg1, hwarm1, hready1⟩ := State.classEntry (e := e) X.warmed hcl
  generalize T.vm.noted g.method.cls index (.cls cO) = vm₁ at hg1 hwarm1 hready1
  have hal : s.vm.Alike vm₁ := hwarm1.alike
  obtain ⟨kO1, hkO1, heO⟩ := hal.2.2 _ _ hkO
  have hkindO1 : kO1.kind = .array cI (.array .int) := by rw [heO]; exact hkindO
  obtain ⟨kI1, hkI1, heI⟩ := hal.2.2 _ _ hI
  have hkindI1 : kI1.kind = .array compI .int := by rw [heI]; exact hkI
  have X1 := X.noted hwarm1
  obtain ⟨r1, r2⟩ := X.roomAbove hcells hslots
  have hsz : vm₁.classes.size ≤ T.vm.classes.size := by no_record
  refine ⟨vm₁, cO, hfcc, mz_stand X1 cO cI n.toNatClampNeg k.toNatClampNeg n.toNatClampNeg, fun target hrest => ?_⟩
  refine Steps.instr (c := c) X.here ?_
  rw [hdg]
  show wpRun (p.tables.exec (.multianewarray index 2)) _ _ e (T.setTop g)
  rw [hexec]
  show wp (Jvm.Op.multianewarray.sem index 2) _ _ e false [] (T.setTop g)
  rw [mz_cold X.here.top hg1 hready1 hsz]
  refine mz_sem (s := T.setVm vm₁) X.here.top hready1 hkO1 hkindO1 hkI1 hkindI1 hstack hn hk ?_ ?_ ?_ ?_ r1 r2 fun d2 a2 a3 => ?_
  · rw [Launch.admits_arrayLengthLimit X.admits]; omega
  · rw [Launch.admits_maxHeapBytes X.admits]; show ¬ n.toNatClampNeg * 4 > 536870912; omega
  · rw [Launch.admits_arrayLengthLimit X.admits]; omega
  · rw [Launch.admits_maxHeapBytes X.admits]; show ¬ k.toNatClampNeg * 4 > 536870912; omega
  · rw [afterInstr_ok]
    exact hrest
end MZ
