section SN
variable {X : Cx}
def ExS (X : Cx) (k : Nat) : Prop := ∀ (m0 : Nat) (f : Fr) (r : Rs) (i : MI), exc k m0 f = some r → mtab[m0]? = some i → ∀ (p : Program) (l : Launch) (e : Env) (R : Room) (s : State) (m : MethodId) (args : Array Value) (below : List Frame) (meth : Method) (c : Code) (Q : State → Prop) (n0 sl0 : Nat), ME X i p s m meth c → i.2.2.2.2.2.1 ≤ R.frames → i.2.2.2.2.2.2.1 ≤ R.locals → r.2.1 ≤ n0 + R.cells → r.2.2.1 ≤ sl0 + R.slots → (∀ (pc : Nat) (L : AL) (S : List Value) (ins : ClassFile.Instr) (len : Nat), decode i.2.1 pc = .ok (ins, len) → semD i ins len pc L S r.2 = some (.inl r) → WW X i p l e R s m args below meth c Q n0 sl0 pc L S r.2) → WW X i p l e R s m args below meth c Q n0 sl0 f.1 f.2.1 f.2.2.1 f.2.2.2
theorem Met_ofWF {l : Launch} {y : MethodName} {ws ws' : List Cond} {rm : Room} {Pc : Array Value → State → Prop} {Qc : Array Value → State → Outcome → State → Prop} {mc ms : Nat} {free : Addr → Prop} {cc : ByteArray} {maxL : Nat} {ret : Option FieldType}
    (hy : plainFor y = true) (hw : ws = Cond.code y cc maxL ret :: ws')
    (body : ∀ p e s m args below meth c s₁, BodyLoose p l y (headSpec ws rm) cc maxL ret e s m args below meth c s₁ → c.maxLocals = maxL → Pc args s →
      W p l e (headSpec ws rm).room s m args below meth c s.heap [] 0 0 (MQ below Qc args s mc ms free) (entryFrame m args maxL)) : Met l y ws rm Pc Qc mc ms free := by
  refine MetFree.of_bodySF (code := cc) (maxLocals := maxL) (ret := ret) hy ?_ ?_
  · intro args s m h hn
    obtain ⟨meth, c, h1, h2, h3, h4, h5, h6, -, -⟩ := Cond.code_spec hn (atoms_spec (ws := ws) h _ (by rw [hw]; exact List.mem_cons_self))
    exact ⟨meth, c, h1, h2, h3, h4, h5, h6⟩
  · intro p e s m args below meth c s₁ B hml hP _
    have hh0 : s₁.heap = s.heap := by rw [B.state]; rfl
    obtain ⟨t, a1, o, b1, b2, b3⟩ := body p e s m args below meth c s₁ B hml hP s₁ hh0 (Stand.of_body B)
    exact ⟨t, o, a1, b1, b2, ⟨b3.1, b3.2⟩⟩
theorem met_X {k : Nat} (IH : ExS X k) (l : Launch) {d : Nat} {j : MI} {as : List Value} {h h1 : AH} {v : Option Value} (he : exc k d (ent d as h) = some (v, h1)) (hj : mtab[d]? = some j) (mo : MOK j) (hw : (as.flatMap fun v => if v.category = 2 then [some v, none] else [some v]).length ≤ j.2.2.1) : MetX X l j as h v h1 := by
  unfold MetX
  refine Met_ofWF (cc := j.2.1) (maxL := j.2.2.1) (ret := j.2.2.2.1) mo.2.2.2.2 rfl ?_
  intro p e s m args below meth c s₁ B hml hv
  obtain ⟨rfl, hW, hH⟩ := hv
  have hown : s.vm.findClass j.1.cls = some m.cls := findClass_of_methodNamed B.named
  have M : ME X j p s m meth c := ⟨B.exec, B.bytes, hml, B.returns, hown, B.notSynchronized, fun hi => (name_of_methodNamed B.named B.method).1.trans hi, hW⟩
  rw [lg_entry_eq]
  obtain ⟨hL, hlen⟩ := ent_LR (xr X) as j.2.2.1 hw
  have hent : ent d as h = (0, enL as j.2.2.1, [], h) := by unfold ent; rw [hj]
  have hmono := exc_grow k d _ _ he
  rw [ent_h] at hmono
  rw [hent] at he
  have hk := IH d _ _ j he hj p l e (rmX j h h1) s m ((as.map (cv (xr X))).toArray) below meth c (MQ below (QcX X v h1) ((as.map (cv (xr X))).toArray) s (h1.1 - h.1) (h1.2.1 - h.2.1) (fun q => xB X ≤ q)) h.1 h.2.1 M (Nat.le_refl _) (Nat.le_refl _) (by show h1.1 ≤ h.1 + (h1.1 - h.1); omega) (by show h1.2.1 ≤ h.2.1 + (h1.2.1 - h.2.1); omega) ?_
  · exact hk hlen s.heap [] _ 0 0 hH hL (fun q hq => by cases hq) (Nat.zero_add _) (Nat.zero_add _)
  · intro pc L S ins len hd hs hn H locs ls cells slots hH1 hL1 hlo hc hz
    have ec : cells = h1.1 - h.1 := by
      have hc : cells + h.1 = h1.1 := hc
      omega
    have es : slots = h1.2.1 - h.2.1 := by
      have hz : slots + h.2.1 = h1.2.1 := hz
      omega
    subst ec
    subst es
    have fin : ∀ (o : Option Value), v = o → ∀ t : State, t.heap = H → s.WarmedH t.vm → QcX X v h1 ((as.map (cv (xr X))).toArray) s (.returned (o.map (cv (xr X)))) t := fun o ho t ht hWt => ⟨by rw [ho], hW.trans hWt, by rw [ht]; exact hH1⟩
    unfold semD at hs
    split at hs
    · obtain ⟨np, e1, hs⟩ := Option.bind_eq_some_iff.mp hs
      obtain ⟨d, e2, hs⟩ := Option.bind_eq_some_iff.mp hs
      split at hs
      · obtain ⟨n, dp, sp, a1, a0, n1, n2, f, g, -, -, -, -, hz⟩ := copyA_go hs
        cases hz
      · obtain ⟨j, -, -, -, -, -, -, hz⟩ := callA_call hs
        cases hz
    · obtain ⟨np, e1, hs⟩ := Option.bind_eq_some_iff.mp hs
      obtain ⟨d, e2, hs⟩ := Option.bind_eq_some_iff.mp hs
      split at hs
      · split at hs
        · split at hs
          · cases hs
          · cases hs
        · obtain ⟨q, e3, hs⟩ := Option.bind_eq_some_iff.mp hs
          obtain ⟨z, e4, hs⟩ := Option.bind_eq_some_iff.mp hs
          obtain ⟨j, -, -, -, -, -, -, hz⟩ := callA_call hs
          cases hz
      · cases hs
    · obtain ⟨np, e1, hs⟩ := Option.bind_eq_some_iff.mp hs
      split at hs
      · obtain ⟨q, e3, hs⟩ := Option.bind_eq_some_iff.mp hs
        obtain ⟨z, e4, hs⟩ := Option.bind_eq_some_iff.mp hs
        obtain ⟨j, -, -, -, -, -, -, hz⟩ := callA_call hs
        cases hz
      · cases hs
    · split at hs
      · split at hs
        · rename_i hrt
          cases hs
          exact W.iret M.1 M.2.1 (M.2.2.2.1.trans hrt) (fin _ rfl) hlo hd M.2.2.2.2.2.1
        · rename_i hrt
          split at hs
          · rename_i hb
            cases hs
            refine W.zret (ty := .boolean) M.1 M.2.1 (M.2.2.2.1.trans hrt) ?_ (fin _ rfl) hlo hd M.2.2.2.2.2.1
            rcases hb with rfl | rfl <;> decide
          · cases hs
        · cases hs
      · cases hs
    · split at hs
      · split at hs
        · rename_i hrt
          cases hs
          exact W.lret M.1 M.2.1 (M.2.2.2.1.trans hrt) (fin _ rfl) hlo hd M.2.2.2.2.2.1
        · cases hs
      · cases hs
    · split at hs
      · split at hs
        · rename_i hrt
          cases hs
          exact W.aret M.1 M.2.1 (M.2.2.2.1.trans hrt) (Or.inl ⟨_, rfl⟩) (Or.inr ⟨_, rfl⟩) (fin _ rfl) hlo hd M.2.2.2.2.2.1
        · rename_i hrt
          cases hs
          exact W.aret M.1 M.2.1 (M.2.2.2.1.trans hrt) (Or.inr ⟨_, rfl⟩) (Or.inr ⟨_, rfl⟩) (fin _ rfl) hlo hd M.2.2.2.2.2.1
        · cases hs
      · split at hs
        · rename_i hrt
          cases hs
          exact W.aret M.1 M.2.1 (M.2.2.2.1.trans hrt) (Or.inl ⟨_, rfl⟩) (Or.inl rfl) (fin _ rfl) hlo hd M.2.2.2.2.2.1
        · rename_i hrt
          cases hs
          exact W.aret M.1 M.2.1 (M.2.2.2.1.trans hrt) (Or.inr ⟨_, rfl⟩) (Or.inl rfl) (fin _ rfl) hlo hd M.2.2.2.2.2.1
        · cases hs
      · cases hs
    · split at hs
      · split at hs
        · rename_i hrt
          cases hs
          exact W.vret M.1 M.2.1 (M.2.2.2.1.trans hrt) (fin _ rfl) hlo hd M.2.2.2.2.2.1
        · cases hs
      · cases hs
    · cases hs
theorem callP_4 {h : AH} {H : Heap} (G : GC X) (hH : HR X h H) {a : Nat} {q : Nat × List Value} (hr : rO h a = some q) : 4 ≤ a := by
  refine Nat.not_lt.mp fun h4 => ?_
  obtain ⟨-, n, f, cell, e1, -⟩ := G.2.2.2.1 a h4
  have e2 := ((rO_lt hr).1.symm.trans (hH.2.2.2.1 a h4)).trans e1
  unfold aI at e2
  cases e2
theorem drop_ref {S T : List Value} {np a : Nat} (h : S.drop np = .ref a :: T) : S = S.take np ++ .ref a :: T ∧ S.take (np + 1) = S.take np ++ [.ref a] ∧ S.drop (np + 1) = T ∧ (S.take np).length = np := by
  have h1 : S = S.take np ++ .ref a :: T := by rw [← h, List.take_append_drop]
  have hl : np < S.length := by
    have := congrArg List.length h
    simp at this
    omega
  have h2 : S.drop (np + 1) = T := by
    rw [← List.drop_drop, h]
    rfl
  refine ⟨h1, ?_, h2, by rw [List.length_take]; omega⟩
  rw [List.take_succ]
  congr 1
  have := congrArg (fun l => l[0]?) h
  simp at this
  rw [this]
  rfl
set_option maxHeartbeats 4000000 in
theorem exec_sound (A : AOK X) : ∀ k : Nat, ExS X k
  | 0 => fun _ _ _ _ e => by cases e
  | k + 1 => by
    intro m0 f r i e hi p l e0 R s m args below meth c Q n0 sl0 M hfr hlo hrc hrs FIN
    have IH := exec_sound A k
    obtain ⟨G, K, As, hAo, hGW, hT⟩ := A
    have T := hT i (List.mem_of_getElem? hi)
    have e : act (exc k) m0 (stp m0 f) = some r := e
    obtain ⟨pc, L, S, h⟩ := f
    match hy : stp m0 (pc, L, S, h) with
    | none => rw [hy] at e; cases e
    | some y =>
      rw [hy] at e
      obtain ⟨i', ins, len, hi', hd, hs⟩ := stp_sem hy
      cases hi.symm.trans hi'
      dsimp only at hd hs
      show WW X i p l e0 R s m args below meth c Q n0 sl0 pc L S h
      unfold sem at hs
      split at hs
      · obtain ⟨pc2, L2, S2, h2, rfl, -⟩ := growA hs
        exact soundA G M T.1 hd hs (IH m0 _ r i e hi p l e0 R s m args below meth c Q n0 sl0 M hfr hlo hrc hrs FIN)
      · obtain ⟨pc2, L2, S2, h2, rfl, -⟩ := growB hs
        exact soundB M hd hs (IH m0 _ r i e hi p l e0 R s m args below meth c Q n0 sl0 M hfr hlo hrc hrs FIN)
      · obtain ⟨pc2, L2, S2, h2, rfl, -⟩ := growC hs
        have g := exc_grow k m0 _ r e
        exact soundC G K As hAo hGW M T.2.1 T.2.2.1 T.2.2.2.1 T.2.2.2.2.1 T.2.2.2.2.2.1 hd hs (Nat.le_trans g.1 hrc) (Nat.le_trans g.2 hrs) (IH m0 _ r i e hi p l e0 R s m args below meth c Q n0 sl0 M hfr hlo hrc hrs FIN)
      · have cont : ∀ {d np : Nat} {as : List Value} {S2 : List Value} {j : MI}, mtab[d]? = some j → y = .inr (.inr (d, as, pc + 3, L, S2, h)) → ∃ (v : Option Value) (h1 : AH), exc k d (ent d as h) = some (v, h1) ∧ leH h h1 ∧ leH h1 r.2 ∧ WW X i p l e0 R s m args below meth c Q n0 sl0 (pc + 3) L (v.toList ++ S2) h1 := by
          intro d np as S2 j hj ey
          subst ey
          simp only [act] at e
          obtain ⟨⟨v, h1⟩, e1, e2⟩ := Option.bind_eq_some_iff.mp e
          have g1 := exc_grow k d _ _ e1
          rw [ent_h] at g1
          exact ⟨v, h1, e1, g1, exc_grow k m0 _ r e2, IH m0 _ r i e2 hi p l e0 R s m args below meth c Q n0 sl0 M hfr hlo hrc hrs FIN⟩
        have after : ∀ {v : Option Value} {h1 : AH} {S2 : List Value} {st0 : List Value} {H : Heap} {locs : List Loc} {ls : Array Slot} {cells slots : Nat} {Qa : State → Outcome → State → Prop}, L.length = i.2.2.1 → LR (xr X) ls L → (∀ q ∈ locs, xB X ≤ q.base) → cells + n0 = h.1 → slots + sl0 = h.2.1 → leH h h1 → WW X i p l e0 R s m args below meth c Q n0 sl0 (pc + 3) L (v.toList ++ S2) h1 → va_Run p l e0 R s m args below meth c H locs cells slots (h1.1 - h.1) (h1.2.1 - h.2.1) (F0 m pc ls st0) (S2.map (cv (xr X))) Qa (fun q => xB X ≤ q) → (∀ st o t, Qa st o t → QcX X v h1 #[] st o t) → W p l e0 R s m args below meth c H locs cells slots Q (F0 m pc ls st0) := by
          intro v h1 S2 st0 H locs ls cells slots Qa hn hL hlo2 hc hz hle hww hrun hqa
          refine run_cont hrun fun v2 st₀ t Ls h0 hWt hq hLs => ?_
          obtain ⟨q1, q2, q3⟩ := hqa _ _ _ hq
          have ev : v2 = v.map (cv (xr X)) := by cases q1; rfl
          subst ev
          have hcell := hle.1
          have hslot := hle.2
          have := hww hn t.heap (locs ++ Ls) ls (cells + (h1.1 - h.1)) (slots + (h1.2.1 - h.2.1)) q3 hL (fun q hq => by
            rcases List.mem_append.mp hq with z | z
            · exact hlo2 q z
            · exact hLs q z) (by omega) (by omega)
          rw [List.map_append] at this
          cases v with
          | none => exact this
          | some w => exact this
        rcases growD hs with ⟨v, rfl⟩ | hg
        · cases e
          exact FIN pc L S ins len hd hs
        have bad : ∀ {v : Option Value} {h9 : AH}, some (.inl (v, h9)) = some y → False := by
          intro v h9 hz
          have e9 := Option.some.inj hz
          subst e9
          rcases hg with ⟨_, _, _, _, h9, _⟩ | ⟨_, _, _, _, _, h9⟩ <;> cases h9
        unfold semD at hs
        split at hs
        · obtain ⟨np, o1, hs⟩ := Option.bind_eq_some_iff.mp hs
          obtain ⟨d, o2, hs⟩ := Option.bind_eq_some_iff.mp hs
          split at hs
          · rename_i hd0
            subst hd0
            obtain ⟨n, dp, sp, a1, a0, n1, n2, f, g, rfl, r0, r1, ⟨c1, c2, c3, c4, c5, c6, c7, c8, c9⟩, rfl⟩ := copyA_go hs
            have hk := IH m0 _ r i e hi p l e0 R s m args below meth c Q n0 sl0 M hfr hlo hrc hrs FIN
            intro hn H locs ls cells slots hH hL hlo2 hc hz
            exact copy_W G M T.2.2.2.2.2.2.1 (by rw [hL.1]; exact hn) hH o2 c7 c6 r0 r1 c1 c2 c3 c4 c5 (Nat.le_trans c8 hfr) (Nat.le_trans c9 hlo) hlo2 hd (fun H1 locs1 hl1 hR => hk hn H1 locs1 ls cells slots hR hL hl1 hc hz)
          · rename_i hd0
            obtain ⟨j, hj, b1, b2, b3, b4, b5, ey⟩ := callA_call hs
            obtain ⟨v, h1, x1, x2, x3, x4⟩ := cont (np := np) hj ey
            intro hn H locs ls cells slots hH hL hlo2 hc hz
            obtain ⟨mo, -⟩ := T.2.2.2.2.2.2.2.1 pc _ d np j hd o1 o2 hd0 hj
            have hx := x2.1
            have hx2 := x2.2
            have hy1 := x3.1
            have hy2 := x3.2
            obtain ⟨Qa, hrun, hqa⟩ := callS_X (R := R) (e := e0) (args := args) (below := below) (rest := (S.drop (np + 0)).map (cv (xr X))) (ls := ls) (locs := locs) (cells := cells) (slots := slots) G M T.2.2.2.2.2.2.2.1 hH hd o1 o2 hd0 hj (met_X IH l x1 hj mo b5) (by rw [List.length_reverse, List.length_take]; omega) (by rw [hL.1]; exact hn) (by rw [cv_cats]; exact b4) (by omega) (by omega) ⟨by omega, by omega⟩
            have hst : S.map (cv (xr X)) = ((S.take (np + 0)).reverse.map (cv (xr X))).reverse ++ (S.drop (np + 0)).map (cv (xr X)) := by
              rw [List.map_reverse, List.reverse_reverse, ← List.map_append, List.take_append_drop]
            show W p l e0 R s m args below meth c H locs cells slots Q (F0 m pc ls (S.map (cv (xr X))))
            rw [hst]
            exact after hn hL hlo2 hc hz x2 x4 hrun hqa
        · obtain ⟨np, o1, hs⟩ := Option.bind_eq_some_iff.mp hs
          obtain ⟨d, o2, hs⟩ := Option.bind_eq_some_iff.mp hs
          split at hs
          · rename_i a T2 hdr
            split at hs
            · rename_i hd0
              subst hd0
              split at hs
              · rename_i hc1
                have ey := Option.some.inj hs
                subst ey
                have hk := IH m0 _ r i e hi p l e0 R s m args below meth c Q n0 sl0 M hfr hlo hrc hrs FIN
                obtain ⟨w1, w2, w3⟩ := T.2.2.2.2.2.2.2.2.2.2 pc _ hd o2
                obtain ⟨n1, n2, n3, n4⟩ := hc1
                subst n1
                intro hn H locs ls cells slots hH hL hlo2 hc hz
                have hS : S = .ref a :: T2 := hdr
                subst hS
                exact W.objInit M.1 M.2.1 M.2.2.2.2.1 (w1.at G M.2.2.2.2.2.2.2 args) (w2.at G M.2.2.2.2.2.2.2 args) (w3.at G M.2.2.2.2.2.2.2 args) rfl (by show ls.size = _; rw [M.2.2.1, hL.1]; exact hn) rfl hd (Nat.le_trans n2 hfr) (by
                  show 2 * 0 + ((T2.map (cv (xr X))).map fun v => v.category).sum + 12 ≤ _
                  rw [cv_cats]
                  omega) (hk hn H locs ls cells slots hH hL hlo2 hc hz)
              · cases hs
            · rename_i hd0
              obtain ⟨⟨ci, fs⟩, o3, hs⟩ := Option.bind_eq_some_iff.mp hs
              obtain ⟨z, o4, hs⟩ := Option.bind_eq_some_iff.mp hs
              obtain ⟨j, hj, b1, b2, b3, b4, b5, ey⟩ := callA_call hs
              obtain ⟨v, h1, x1, x2, x3, x4⟩ := cont (np := np) hj ey
              intro hn H locs ls cells slots hH hL hlo2 hc hz
              obtain ⟨mo, -⟩ := T.2.2.2.2.2.2.2.2.2.1 pc _ ci d np z j hd o1 o2 hd0 o4 hj
              obtain ⟨d1, d2, d3, d4⟩ := drop_ref hdr
              have hx := x2.1
              have hx2 := x2.2
              have hy1 := x3.1
              have hy2 := x3.2
              have has : (S.take (np + 1)).reverse = .ref a :: (S.take np).reverse := by rw [d2]; simp
              have h4 : 4 ≤ a := callP_4 G hH o3
              rw [has] at x1 b5
              obtain ⟨Qa, hrun, hqa⟩ := callP_X (R := R) (e := e0) (args := args) (below := below) (rest := T2.map (cv (xr X))) (ls := ls) (locs := locs) (cells := cells) (slots := slots) G M T.2.2.2.2.2.2.2.2.2.1 hH hd o1 h4 o3 o2 hd0 o4 hj (met_X IH l x1 hj mo b5) (by rw [List.length_reverse]; exact d4) (by rw [hL.1]; exact hn) (by rw [cv_cats, ← d3]; exact b4) (by omega) (by omega) ⟨by omega, by omega⟩
              have hst : S.map (cv (xr X)) = ((S.take np).reverse.map (cv (xr X))).reverse ++ .ref (xr X a) :: T2.map (cv (xr X)) := by
                rw [List.map_reverse, List.reverse_reverse]
                conv => lhs; rw [d1]
                rw [List.map_append]
                rfl
              show W p l e0 R s m args below meth c H locs cells slots Q (F0 m pc ls (S.map (cv (xr X))))
              rw [hst]
              rw [d3] at x4
              exact after hn hL hlo2 hc hz x2 x4 hrun hqa
          · cases hs
        · obtain ⟨np, o1, hs⟩ := Option.bind_eq_some_iff.mp hs
          split at hs
          · rename_i a T2 hdr
            obtain ⟨⟨ci, fs⟩, o3, hs⟩ := Option.bind_eq_some_iff.mp hs
            obtain ⟨d, o2, hs⟩ := Option.bind_eq_some_iff.mp hs
            obtain ⟨j, hj, b1, b2, b3, b4, b5, ey⟩ := callA_call hs
            obtain ⟨v, h1, x1, x2, x3, x4⟩ := cont (np := np) hj ey
            intro hn H locs ls cells slots hH hL hlo2 hc hz
            obtain ⟨mo, -⟩ := T.2.2.2.2.2.2.2.2.1 pc _ ci d np j hd o1 (rO_lt o3).2 o2 hj
            obtain ⟨d1, d2, d3, d4⟩ := drop_ref hdr
            have hx := x2.1
            have hx2 := x2.2
            have hy1 := x3.1
            have hy2 := x3.2
            have has : (S.take (np + 1)).reverse = .ref a :: (S.take np).reverse := by rw [d2]; simp
            have h4 : 4 ≤ a := callP_4 G hH o3
            rw [has] at x1 b5
            obtain ⟨Qa, hrun, hqa⟩ := callV_X (R := R) (e := e0) (args := args) (below := below) (rest := T2.map (cv (xr X))) (ls := ls) (locs := locs) (cells := cells) (slots := slots) G M T.2.2.2.2.2.2.2.2.1 hH hd o1 h4 o3 o2 hj (met_X IH l x1 hj mo b5) (by rw [List.length_reverse]; exact d4) (by rw [hL.1]; exact hn) (by rw [cv_cats, ← d3]; exact b4) (by omega) (by omega) ⟨by omega, by omega⟩
            have hst : S.map (cv (xr X)) = ((S.take np).reverse.map (cv (xr X))).reverse ++ .ref (xr X a) :: T2.map (cv (xr X)) := by
              rw [List.map_reverse, List.reverse_reverse]
              conv => lhs; rw [d1]
              rw [List.map_append]
              rfl
            show W p l e0 R s m args below meth c H locs cells slots Q (F0 m pc ls (S.map (cv (xr X))))
            rw [hst]
            rw [d3] at x4
            exact after hn hL hlo2 hc hz x2 x4 hrun hqa
          · cases hs
        · split at hs
          · split at hs
            · exact (bad hs).elim
            · split at hs
              · exact (bad hs).elim
              · cases hs
            · cases hs
          · cases hs
        · split at hs
          · split at hs
            · exact (bad hs).elim
            · cases hs
          · cases hs
        · split at hs
          · split at hs
            · exact (bad hs).elim
            · exact (bad hs).elim
            · cases hs
          · split at hs
            · exact (bad hs).elim
            · exact (bad hs).elim
            · cases hs
          · cases hs
        · split at hs
          · split at hs
            · exact (bad hs).elim
            · cases hs
          · cases hs
        · cases hs
end SN
