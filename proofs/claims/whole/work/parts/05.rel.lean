def rho (B : Nat) (o : Nat → Nat) (q : Nat) : Nat := if q < 4 then o q else B + (q - 4)
def cv (ρ : Nat → Nat) (v : Value) : Value := match v with
  | .ref q => .ref (ρ q)
  | .int x => .int x
  | .long x => .long x
  | .float x => .float x
  | .double x => .double x
  | .null => .null
  | .retAddr x => .retAddr x
theorem cv_cat (ρ : Nat → Nat) (v : Value) : (cv ρ v).category = v.category := by cases v <;> rfl
theorem cv_cats (ρ : Nat → Nat) (S : List Value) : ((S.map (cv ρ)).map fun v => v.category).sum = (S.map Value.category).sum := by
  induction S with
  | nil => rfl
  | cons a l ih => simp only [List.map_cons, List.sum_cons, ih, cv_cat]
def cE (aC : Nat → ClassId) (ρ : Nat → Nat) (x : AE) : va_E := match x with
  | .inl (t, n, .inr (.inr (.inr (.inr f)))) => .inl (aC t, n, .inr (.inr (.inr (.inr fun j => (f j).map ρ))))
  | .inl (t, n, .inl f) => .inl (aC t, n, .inl f)
  | .inl (t, n, .inr (.inl f)) => .inl (aC t, n, .inr (.inl f))
  | .inl (t, n, .inr (.inr (.inl f))) => .inl (aC t, n, .inr (.inr (.inl f)))
  | .inl (t, n, .inr (.inr (.inr (.inl f)))) => .inl (aC t, n, .inr (.inr (.inr (.inl f))))
  | .inr (ci, fs) => .inr (ci, fs.map (cv ρ))
abbrev Cx : Type := State × Array Value × va_G × (Nat → ClassId) × (Nat → Nat) × (Nat → AE)
def xs (X : Cx) : State := X.1
def xa (X : Cx) : Array Value := X.2.1
def xD (X : Cx) : va_G := X.2.2.1
def xC (X : Cx) : Nat → ClassId := X.2.2.2.1
def xo (X : Cx) : Nat → Nat := X.2.2.2.2.1
def xold (X : Cx) : Nat → AE := X.2.2.2.2.2
def xB (X : Cx) : Nat := (xs X).heap.size
def xr (X : Cx) : Nat → Nat := rho (xB X) (xo X)
def tagT : List (Nat × FieldType) := [(0, .int), (1, .object "BurntPads$Page"), (2, .object "BurntPads$Letter"), (3, .object "BurntPads$Sheet"), (4, .array .int)]
def statN (j : Nat) : String := match j with
  | 1 => "LETTERS"
  | 2 => "LEAST"
  | _ => "GREATEST"
def GC (X : Cx) : Prop := (∀ w ∈ lw_tbl, w.before (xa X) (xs X) = true) ∧
  (∀ (k : Nat) (q : vw_C), cls[k]? = some q → u_Kn (xs X) q.1 q.2.1 q.2.2 ((xD X).1 k) ((xD X).2 k)) ∧
  (∀ q ∈ tagT, ArrOfT (xs X) (xC X q.1) q.2 ∧ va_RA (xs X) (xC X q.1) q.2) ∧
  (∀ q : Nat, q < 4 → xo X q < xB X ∧ ∃ (n : Nat) (f : Nat → Int32) (cell : Cell), xold X q = aI n f ∧ (xs X).heap[xo X q]? = some cell ∧ (xs X).isArrayOf cell .int ∧ cell.vm ≠ .unknown ∧ n ≤ cell.slots.size ∧ cell.slots.size.toInt32 = Int32.ofNat n ∧ ∀ j : Nat, j < n → cell.slots[j]? = some (.int (f j))) ∧
  (∀ j : Nat, 1 ≤ j → j < 4 → va_Z "BurntPads$Drill" (statN j) "[I" (.ref (xo X j)) (fun q => xB X ≤ q) (xs X) (xs X).heap)
def HR (X : Cx) (h : AH) (H : Heap) : Prop := H.size + 4 = xB X + h.1 ∧ 4 ≤ h.1 ∧ (∀ q : Nat, q < xB X → H[q]? = (xs X).heap[q]?) ∧ (∀ q : Nat, q < 4 → h.2.2 q = xold X q) ∧ (∀ q : Nat, 4 ≤ q → q < h.1 → va_at (xD X) cls (xr X q, cE (xC X) (xr X) (h.2.2 q)) H) ∧ ∀ q : Nat, h.1 ≤ q → h.2.2 q = aDead
def LR (ρ : Nat → Nat) (ls : Array Slot) (L : AL) : Prop := ls.size = L.length ∧ lv_wf ls ∧ ∀ (i : Nat) (v : Value), L[i]? = some (some v) → ls[i]? = some (.val (cv ρ v))
def GW (w : Cond) : Prop := w ∈ lw_tbl ∧ goodWord w = true
theorem GW.at {X : Cx} (G : GC X) {w : Cond} (h : GW w) {s : State} (hW : (xs X).WarmedH s.vm) (a : Array Value) : w.before a s = true := word_at hW (good_of_word h.2) (G.1 w h.1)
def lvOf (ρ : Nat → Nat) (L : AL) : List (Nat × Value) := (List.range L.length).filterMap fun i => match L[i]? with
  | some (some v) => some (i, cv ρ v)
  | _ => none
theorem lvOf_mem {ρ : Nat → Nat} {L : AL} {i : Nat} {v : Value} (h : L[i]? = some (some v)) : (i, cv ρ v) ∈ lvOf ρ L := by
  unfold lvOf
  refine List.mem_filterMap.mpr ⟨i, List.mem_range.mpr (List.getElem?_eq_some_iff.mp h).1, ?_⟩
  rw [h]
theorem lvOf_has {ρ : Nat → Nat} {ls : Array Slot} {L : AL} (h : LR ρ ls L) : lv_has ls L.length (lvOf ρ L) := by
  refine ⟨h.1, h.2.1, fun q hq => ?_⟩
  unfold lvOf at hq
  obtain ⟨i, -, hi⟩ := List.mem_filterMap.mp hq
  split at hi
  · rename_i v hv
    cases hi
    exact h.2.2 i v hv
  · cases hi
theorem ld_some {L : AL} {k : Nat} {v : Value} (h : ld L k = some v) : L[k]? = some (some v) := by
  unfold ld at h
  split at h
  · rename_i w hw
    cases h
    exact hw
  · cases h
theorem st1_len (L : AL) (k : Nat) (v : Value) : (st1 L k v).length = L.length := by
  unfold st1
  split
  · simp
  · split <;> simp
theorem st1_get {L : AL} {k j : Nat} {v w : Value} (h : (st1 L k v)[j]? = some (some w)) : (j = k ∧ w = v) ∨ (j ≠ k ∧ L[j]? = some (some w) ∧ ¬ (j + 1 = k ∧ w.category = 2)) := by
  unfold st1 at h
  split at h
  · by_cases e : j = 0
    · subst e
      rw [List.getElem?_set] at h
      simp at h
      exact Or.inl ⟨rfl, h.2.symm⟩
    · rw [List.getElem?_set_ne (by omega)] at h
      exact Or.inr ⟨e, h, fun q => by omega⟩
  · rename_i j2
    have main : ∀ M : AL, (M.set (j2 + 1) (some v))[j]? = some (some w) → (j ≠ j2 + 1 → M[j]? = some (some w) → L[j]? = some (some w) ∧ ¬ (j + 1 = j2 + 1 ∧ w.category = 2)) → (j = j2 + 1 ∧ w = v) ∨ (j ≠ j2 + 1 ∧ L[j]? = some (some w) ∧ ¬ (j + 1 = j2 + 1 ∧ w.category = 2)) := by
      intro M hM hk
      by_cases e : j = j2 + 1
      · subst e
        rw [List.getElem?_set] at hM
        simp at hM
        exact Or.inl ⟨rfl, hM.2.symm⟩
      · rw [List.getElem?_set_ne (by omega)] at hM
        exact Or.inr ⟨e, hk e hM⟩
    have clr : ∀ x : Option Value, (L.set j2 none)[j]? = some (some w) → L[j]? = some (some w) ∧ ¬ (j + 1 = j2 + 1 ∧ w.category = 2) := by
      intro _ hM
      by_cases e : j = j2
      · subst e
        rw [List.getElem?_set] at hM
        simp at hM
      · rw [List.getElem?_set_ne (by omega)] at hM
        exact ⟨hM, fun q => by omega⟩
    split at h
    · exact main _ h (fun _ hM => clr none hM)
    · exact main _ h (fun _ hM => clr none hM)
    · rename_i n1 n2
      refine main _ h (fun _ hM => ⟨hM, fun q => ?_⟩)
      have e : j = j2 := by omega
      subst e
      cases w with
      | long z => exact n1 z hM
      | double z => exact n2 z hM
      | _ => simp [Value.category] at q
theorem st1_LR {ρ : Nat → Nat} {ls : Array Slot} {L : AL} {k : Nat} {v : Value} (h : lv_has ls L.length ((k, cv ρ v) :: (lvOf ρ L).filter (fun q => !(q.1 == k) && !(q.1 + 1 == k && q.2.category == 2)))) : LR ρ ls (st1 L k v) := by
  refine ⟨by rw [st1_len]; exact h.1, h.2.1, fun j w hj => ?_⟩
  rcases st1_get hj with ⟨rfl, rfl⟩ | ⟨e1, e2, e3⟩
  · exact h.2.2 (j, cv ρ w) List.mem_cons_self
  · refine h.2.2 (j, cv ρ w) (List.mem_cons_of_mem _ (List.mem_filter.mpr ⟨lvOf_mem e2, ?_⟩))
    by_cases z : j + 1 = k
    · have : ¬ w.category = 2 := fun q => e3 ⟨z, q⟩
      simp [e1, cv_cat, this]
    · simp [e1, z]
theorem st2_LR {ρ : Nat → Nat} {ls : Array Slot} {L : AL} {k : Nat} {v : Value} (h : lv_has ls L.length ((k, cv ρ v) :: (lvOf ρ L).filter (fun q => !(q.1 == k) && (!(q.1 == k + 1) && !(q.1 + 1 == k && q.2.category == 2))))) : LR ρ ls (st2 L k v) := by
  refine ⟨by unfold st2; rw [List.length_set, st1_len]; exact h.1, h.2.1, fun j w hj => ?_⟩
  unfold st2 at hj
  by_cases e : j = k + 1
  · subst e
    rw [List.getElem?_set] at hj
    simp at hj
  · rw [List.getElem?_set_ne (by omega)] at hj
    rcases st1_get hj with ⟨rfl, rfl⟩ | ⟨e1, e2, e3⟩
    · exact h.2.2 (j, cv ρ w) List.mem_cons_self
    · refine h.2.2 (j, cv ρ w) (List.mem_cons_of_mem _ (List.mem_filter.mpr ⟨lvOf_mem e2, ?_⟩))
      by_cases z : j + 1 = k
      · have : ¬ w.category = 2 := fun q => e3 ⟨z, q⟩
        simp [e1, e, cv_cat, this]
      · simp [e1, e, z]
def ME (X : Cx) (i : MI) (p : Program) (s : State) (m : MethodId) (meth : Method) (c : Code) : Prop := p.tables.exec = Jvm.exec ∧ c.code = i.2.1 ∧ c.maxLocals = i.2.2.1 ∧ meth.sig.returnType = i.2.2.2.1 ∧ s.vm.findClass i.1.cls = some m.cls ∧ meth.locks = false ∧ (i.1.name = "<init>" → meth.name = "<init>") ∧ (xs X).WarmedH s.vm
def WW (X : Cx) (i : MI) (p : Program) (l : Launch) (e : Env) (R : Room) (s : State) (m : MethodId) (args : Array Value) (below : List Frame) (meth : Method) (c : Code) (Q : State → Prop) (n0 sl0 pc : Nat) (L : AL) (S : List Value) (h : AH) : Prop :=
  L.length = i.2.2.1 → ∀ (H : Heap) (locs : List Loc) (ls : Array Slot) (cells slots : Nat), HR X h H → LR (xr X) ls L → (∀ q ∈ locs, xB X ≤ q.base) → cells + n0 = h.1 → slots + sl0 = h.2.1 → W p l e R s m args below meth c H locs cells slots Q (F0 m pc ls (S.map (cv (xr X))))
theorem mk_inj {a a' : Nat} {b b' : AL} {c c' : List Value} {d d' : AH} (h : mk a b c d = mk a' b' c' d') : a = a' ∧ b = b' ∧ c = c' ∧ d = d' := by
  unfold mk at h
  injection h with h
  injection h with h
  injection h with h
  injection h with h1 h
  injection h with h2 h
  injection h with h3 h
  exact ⟨h1, h2, h3, h⟩
