theorem gw {w : Cond} (n : Nat) (h : tables_1[n]? = some w) (hg : goodWord w = true) : GW w := ⟨List.mem_append_right _ (List.mem_of_getElem? h), hg⟩
theorem gwp {y : MethodName} {n : Nat} (h : (y, n) ∈ lw_privs) : GW (.selects y.cls y y) := ⟨List.mem_append_left _ (List.mem_map.mpr ⟨(y, n), h, rfl⟩), rfl⟩
theorem lnk {X : Cx} (G : GC X) {own : String} {idx : Nat} {y : MethodName} {host : String} (n : Nat) (h : tables_1[n]? = some (.methodLinkNest own idx y host)) : LnkOK X own idx y := ⟨host, fun s a hW => va_Nw.use rfl (va_Nw.warmM hW (va_Nw.of rfl (G.1 _ (List.mem_append_right _ (List.mem_of_getElem? h)))))⟩
theorem selw {X : Cx} (G : GC X) {C : String} {y : MethodName} (h : GW (.selects C y y)) : SelOK X C y := fun s a hW => h.at G hW a
theorem selsub {X : Cx} (G : GC X) {C : String} {y : MethodName} {n n2 : Nat} (hy : y.cls ≠ "java/lang/invoke/MethodHandle" ∧ y.cls ≠ "java/lang/invoke/VarHandle") (h1 : Cond.instantiable C n ∈ lw_tbl) (h2 : Cond.privateMethod y ∈ lw_tbl) (h3 : Cond.instanceMethod y ∈ lw_tbl) (h4 : Cond.instantiable y.cls n2 ∈ lw_tbl) : SelOK X C y := by
  have key : (Cond.selects C y y).before (xa X) (xs X) = true := by
    obtain ⟨c, k0, hc, hk0, -, -, -, -⟩ := Cond.instantiable_spec (G.1 _ h1)
    obtain ⟨c2, k, hc2, hk, -, hniab, -, -⟩ := Cond.instantiable_spec (G.1 _ h4)
    have hni : k.isInterface = false := (Bool.or_eq_false_iff.mp hniab).1
    obtain ⟨mk, methM, hnamed, hmethM, -, -⟩ := Cond.instanceMethod_spec (G.1 _ h3)
    have hfound : (xs X).methodFound? y.cls y.name y.desc = some mk := State.methodFound?_of_named hnamed hy
    have hcls : mk.cls = c2 := Option.some.inj ((findClass_of_methodNamed hnamed).symm.trans hc2)
    have hsel : selectMethod {} (xs X).vm c mk = .method mk := selectMethod_private hmethM (Cond.privateMethod_at (G.1 _ h2) mk methM hnamed hmethM)
    simp only [Cond.before, Cond.holds, Cond.value, hc, hfound, hnamed, hsel, hcls, hk]
    simp; exact hni
  exact fun s a hW => word_at hW (Or.inl rfl) key
theorem lk_mem {α : Type} {l : List (Nat × α)} {k : Nat} {v : α} (h : l.lookup k = some v) : (k, v) ∈ l := by
  induction l with
  | nil => cases h
  | cons a l ih =>
    obtain ⟨a1, a2⟩ := a
    rw [List.lookup_cons] at h
    split at h
    · rename_i hb
      have := beq_iff_eq.mp hb
      subst this
      cases h
      exact List.mem_cons_self
    · exact List.mem_cons_of_mem _ (ih h)
theorem op_mem {i : MI} {pc c k : Nat} (h : op i pc c = some k) : ∃ v, (pc, v) ∈ i.2.2.2.2.2.2.2 ∧ v.lookup c = some k := by
  unfold op at h
  obtain ⟨v, h1, h2⟩ := Option.bind_eq_some_iff.mp h
  exact ⟨v, lk_mem h1, h2⟩
def FS (own : String) (idx : Nat) (v : List (Nat × Nat)) : Prop := ∀ q ∈ v, ∃ z, clL[q.1]? = some z ∧ q.2 < z.2.2.1 ∧ GW (.fieldLink own idx (z.2.1 q.2).1 (z.2.1 q.2).2.1 (z.2.1 q.2).2.2.1)
def FP (own name : String) (v : List (Nat × Nat)) : Prop := ∀ q ∈ v, ∀ z, clL[q.1]? = some z → (z.2.1 q.2).2.2.2 = true → name = "<init>" ∧ (z.2.1 q.2).1 = own
def SS (X : Cx) (own : String) (idx : Nat) (v : List (Nat × Nat)) : Prop := ∀ np d j, v.lookup 98 = some np → v.lookup 0 = some d → d ≠ 1000 → mtab[d]? = some j → MOK j ∧ j.2.2.2.2.1 = np ∧ GW (.static j.1) ∧ (GW (.methodLink own idx j.1) ∨ LnkOK X own idx j.1)
def VS (X : Cx) (own : String) (idx : Nat) (v : List (Nat × Nat)) : Prop := ∀ np ci d j, v.lookup 98 = some np → ci < 90 → v.lookup ci = some d → mtab[d]? = some j → MOK j ∧ j.2.2.2.2.1 = np ∧ GW (.instanceMethod j.1) ∧ ∃ q, clL[ci]? = some q ∧ ((GW (.methodLink own idx j.1) ∧ SelOK X q.1 j.1) ∨ VirU own idx q.1 j.1)
def PS (X : Cx) (own : String) (idx : Nat) (v : List (Nat × Nat)) : Prop := (∀ np ci d z j, v.lookup 98 = some np → v.lookup 0 = some d → d ≠ 1001 → v.lookup (ci + 200) = some z → mtab[d]? = some j → MOK j ∧ j.2.2.2.2.1 = np ∧ GW (.instanceMethod j.1) ∧
  ((j.1.name = "<init>" ∧ j.2.2.2.1 = none ∧ (GW (.methodLink own idx j.1) ∨ LnkOK X own idx j.1)) ∨ (∃ q, clL[ci]? = some q ∧ j.1.name ≠ "<init>" ∧ GW (.methodLink own idx j.1) ∧ GW (.sameMethod j.1.cls j.1.cls j.1.name j.1.desc) ∧ GW (.superclass own j.1.cls)))) ∧
  (v.lookup 0 = some 1001 → GW (.methodLink own idx objectInit) ∧ GW (.instanceMethod objectInit) ∧ GW (.code objectInit ⟨#[0xb1]⟩ 1 none))
def InsOK (X : Cx) (i : MI) (ins : ClassFile.Instr) (v : List (Nat × Nat)) : Prop := match ins with
  | .getfield idx => FS i.1.cls idx v
  | .putfield idx => FS i.1.cls idx v ∧ FP i.1.cls i.1.name v
  | .ldc2_w idx => ∀ k w, v.lookup 0 = some k → lcT[k]? = some w → GW (.constantLong i.1.cls idx w)
  | .getstatic idx => ∀ j, v.lookup 0 = some j → GW (.fieldLink i.1.cls idx "BurntPads$Drill" (statN j) "[I")
  | .new idx => ∀ ci, v.lookup 0 = some ci → ∃ q, clL[ci]? = some q ∧ GW (.classLink i.1.cls idx q.1) ∧ GW (.instantiable q.1 q.2.2.1) ∧ GW (.initialized q.1)
  | .anewarray idx => ∀ t, v.lookup 0 = some t → ∃ C, (t, FieldType.object C) ∈ tagT ∧ GW (.classLink i.1.cls idx C) ∧ Cond.arrayOver (.object C) ∈ lw_tbl
  | .multianewarray idx _ => GW (.classLink i.1.cls idx "[[I") ∧ Cond.arrayOver (.array .int) ∈ lw_tbl
  | .invokestatic idx => SS X i.1.cls idx v ∧ (v.lookup 0 = some 1000 → GW (.methodLink i.1.cls idx arraycopyName) ∧ GW (.native arraycopyName) ∧ GW (.static arraycopyName) ∧ GW (.initialized "java/lang/System"))
  | .invokevirtual idx => VS X i.1.cls idx v
  | .invokespecial idx => PS X i.1.cls idx v
  | _ => True
def EntOK (X : Cx) (i : MI) (e : Nat × List (Nat × Nat)) : Prop := ∃ ins len, decode i.2.1 e.1 = .ok (ins, len) ∧ InsOK X i ins e.2
theorem ent_of {X : Cx} {i : MI} (h : ∀ e ∈ i.2.2.2.2.2.2.2, EntOK X i e) {pc c k len : Nat} {ins : ClassFile.Instr} (hd : decode i.2.1 pc = .ok (ins, len)) (ho : op i pc c = some k) : ∃ v, i.2.2.2.2.2.2.2.lookup pc = some v ∧ v.lookup c = some k ∧ InsOK X i ins v := by
  unfold op at ho
  obtain ⟨v, h1, h2⟩ := Option.bind_eq_some_iff.mp ho
  obtain ⟨ins2, len2, hd2, hi⟩ := h _ (lk_mem h1)
  have := hd.symm.trans hd2
  cases this
  exact ⟨v, h1, h2, hi⟩
theorem op_v {i : MI} {pc c k : Nat} {v : List (Nat × Nat)} (h1 : i.2.2.2.2.2.2.2.lookup pc = some v) (ho : op i pc c = some k) : v.lookup c = some k := by
  unfold op at ho
  rw [h1] at ho
  exact ho
theorem tok_of {X : Cx} {i : MI} (h : ∀ e ∈ i.2.2.2.2.2.2.2, EntOK X i e) : TOK X i := by
  refine ⟨fun pc idx k v hd ho hv => ?_, fun pc idx ci k hd ho => ?_, fun pc idx j hd ho => ?_, fun pc idx ci hd ho => ?_, fun pc idx t hd ho => ?_, fun pc idx t hd ho => ?_, fun pc idx hd ho => ?_, fun pc idx d np j hd o1 o2 o3 hj => ?_, fun pc idx ci d np j hd o1 o2 o3 hj => ?_, fun pc idx ci d np z j hd o1 o2 o3 o4 hj => ?_, fun pc idx hd ho => ?_⟩
  · obtain ⟨w, -, h2, hi⟩ := ent_of h hd ho
    exact hi k v h2 hv
  · rcases hd with hd | hd
    · obtain ⟨w, -, h2, hi⟩ := ent_of h hd ho
      obtain ⟨z, z1, z2, z3⟩ := hi _ (lk_mem h2)
      exact ⟨z, z1, z2, z3, fun hp => by have := hd.symm.trans hp; cases this⟩
    · obtain ⟨w, -, h2, hi⟩ := ent_of h hd ho
      obtain ⟨z, z1, z2, z3⟩ := hi.1 _ (lk_mem h2)
      exact ⟨z, z1, z2, z3, fun _ hf => hi.2 _ (lk_mem h2) z z1 hf⟩
  · obtain ⟨w, -, h2, hi⟩ := ent_of h hd ho
    exact hi j h2
  · obtain ⟨w, -, h2, hi⟩ := ent_of h hd ho
    exact hi ci h2
  · obtain ⟨w, -, h2, hi⟩ := ent_of h hd ho
    exact hi t h2
  · obtain ⟨w, -, h2, hi⟩ := ent_of h hd ho
    exact hi
  · obtain ⟨w, -, h2, hi⟩ := ent_of h hd ho
    exact hi.2 h2
  · obtain ⟨w, h1, h2, hi⟩ := ent_of h hd o1
    exact hi.1 np d j h2 (op_v h1 o2) o3 hj
  · obtain ⟨w, h1, h2, hi⟩ := ent_of h hd o1
    exact hi np ci d j h2 o2 (op_v h1 o3) hj
  · obtain ⟨w, h1, h2, hi⟩ := ent_of h hd o1
    exact hi.1 np ci d z j h2 (op_v h1 o2) o3 (op_v h1 o4) hj
  · obtain ⟨w, h1, h2, hi⟩ := ent_of h hd ho
    exact hi.2 h2
theorem ss_of {X : Cx} {own : String} {idx np d : Nat} {j : MI} (hj : mtab[d]? = some j) (mo : MOK j) (hn : j.2.2.2.2.1 = np) (h1 : GW (.static j.1)) (h2 : GW (.methodLink own idx j.1) ∨ LnkOK X own idx j.1) (hd : d ≠ 1000) : SS X own idx [(98, np), (0, d)] ∧ ([(98, np), (0, d)].lookup 0 = some 1000 → GW (.methodLink own idx arraycopyName) ∧ GW (.native arraycopyName) ∧ GW (.static arraycopyName) ∧ GW (.initialized "java/lang/System")) := by
  refine ⟨fun np2 d2 j2 e1 e2 _ e4 => ?_, fun e => ?_⟩
  · cases e1
    cases e2
    cases hj.symm.trans e4
    exact ⟨mo, hn, h1, h2⟩
  · cases e
    exact absurd rfl hd
def VE (X : Cx) (own : String) (idx np : Nat) (q : Nat × Nat) : Prop := ∃ j z, mtab[q.2]? = some j ∧ MOK j ∧ j.2.2.2.2.1 = np ∧ GW (.instanceMethod j.1) ∧ clL[q.1]? = some z ∧ ((GW (.methodLink own idx j.1) ∧ SelOK X z.1 j.1) ∨ VirU own idx z.1 j.1)
theorem vs_of {X : Cx} {own : String} {idx np : Nat} {v : List (Nat × Nat)} (h : ∀ q ∈ v, VE X own idx np q) : VS X own idx ((98, np) :: v) := by
  intro np2 ci d j e1 e2 e3 e4
  cases e1
  rw [List.lookup_cons] at e3
  split at e3
  · rename_i hb
    have := beq_iff_eq.mp hb
    omega
  · obtain ⟨j2, z, h1, h2, h3, h4, h5, h6⟩ := h _ (lk_mem e3)
    cases h1.symm.trans e4
    exact ⟨h2, h3, h4, z, h5, h6⟩
theorem ps_init {X : Cx} {own : String} {idx np d : Nat} {v : List (Nat × Nat)} {j : MI} (hj : mtab[d]? = some j) (mo : MOK j) (hn : j.2.2.2.2.1 = np) (h1 : GW (.instanceMethod j.1)) (h2 : j.1.name = "<init>") (h3 : j.2.2.2.1 = none) (h4 : GW (.methodLink own idx j.1) ∨ LnkOK X own idx j.1) (hd : d ≠ 1001) : PS X own idx ((98, np) :: (0, d) :: v) := by
  refine ⟨fun np2 ci d2 z j2 e1 e2 _ _ e4 => ?_, fun e => ?_⟩
  · cases e1
    cases e2
    cases hj.symm.trans e4
    exact ⟨mo, hn, h1, Or.inl ⟨h2, h3, h4⟩⟩
  · cases e
    exact absurd rfl hd
theorem ps_super {X : Cx} {own : String} {idx np d : Nat} {v : List (Nat × Nat)} {j : MI} (hj : mtab[d]? = some j) (mo : MOK j) (hn : j.2.2.2.2.1 = np) (h1 : GW (.instanceMethod j.1)) (h2 : j.1.name ≠ "<init>") (h4 : GW (.methodLink own idx j.1)) (h5 : GW (.sameMethod j.1.cls j.1.cls j.1.name j.1.desc)) (h6 : GW (.superclass own j.1.cls)) (hd : d ≠ 1001) (hv : ∀ q ∈ v, 200 ≤ q.1 ∧ q.1 < 200 + clL.length) : PS X own idx ((98, np) :: (0, d) :: v) := by
  refine ⟨fun np2 ci d2 z j2 e1 e2 _ e3 e4 => ?_, fun e => ?_⟩
  · cases e1
    cases e2
    cases hj.symm.trans e4
    have hci : ci < clL.length := by
      have hm := lk_mem e3
      rcases List.mem_cons.mp hm with q | hm
      · cases q
      · rcases List.mem_cons.mp hm with q | hm
        · cases q
        · have := hv _ hm
          omega
    exact ⟨mo, hn, h1, Or.inr ⟨clL[ci], List.getElem?_eq_getElem hci, h2, h4, h5, h6⟩⟩
  · cases e
    exact absurd rfl hd
theorem ps_obj {X : Cx} {own : String} {idx : Nat} (h : GW (.methodLink own idx objectInit) ∧ GW (.instanceMethod objectInit) ∧ GW (.code objectInit ⟨#[0xb1]⟩ 1 none)) : PS X own idx [(98, 0), (0, 1001)] := by
  refine ⟨fun np2 ci d2 z j2 e1 e2 e3 _ _ => ?_, fun _ => h⟩
  cases e2
  exact absurd rfl e3
