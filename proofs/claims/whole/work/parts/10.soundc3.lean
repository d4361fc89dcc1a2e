section SC3
variable {X : Cx} {i : MI} {p : Program} {l : Launch} {e : Env} {R : Room} {s : State} {m : MethodId} {args : Array Value} {below : List Frame} {meth : Method} {c : Code} {Q : State → Prop} {n0 sl0 pc pc2 len : Nat} {L L2 : AL} {S S2 : List Value} {h h2 : AH} {ins : ClassFile.Instr} {H : Heap} {locs : List Loc} {cells slots : Nat} {ls : Array Slot} {rest : List Value}
def MnwOK (i : MI) : Prop := ∀ (pc idx t : Nat), decode i.2.1 pc = .ok (.multianewarray idx 2, 4) → op i pc 0 = some t → GW (.classLink i.1.cls idx "[[I") ∧ Cond.arrayOver (.array .int) ∈ lw_tbl
def AoA (X : Cx) : Prop := ∀ (s : State) (a : Array Value), (xs X).WarmedH s.vm → (Cond.arrayOver (.array .int)).before a s = true
set_option maxHeartbeats 2000000 in
theorem mnew_W (G : GC X) (M : ME X i p s m meth c) (A : MnwOK i) (hAo : AoA X) {n k : Int32} {idx t : Nat} (hH : HR X h H) (hop : op i pc 0 = some t) (hn : ¬ n < 0) (hk : ¬ k < 0) (hb : n.toNatClampNeg ≤ 100000) (hb2 : k.toNatClampNeg ≤ 100000) (hd : decode i.2.1 pc = .ok (.multianewarray idx 2, 4)) (hcells : cells + (1 + n.toNatClampNeg) ≤ R.cells) (hslots : slots + (n.toNatClampNeg + n.toNatClampNeg * k.toNatClampNeg) ≤ R.slots) (hlocs : ∀ q ∈ locs, xB X ≤ q.base)
    (kk : ∀ (H1 : Heap) (locs1 : List Loc), (∀ q ∈ locs1, xB X ≤ q.base) → HR X (al2 h n.toNatClampNeg k.toNatClampNeg) H1 → W p l e R s m args below meth c H1 locs1 (cells + 1 + n.toNatClampNeg) (slots + n.toNatClampNeg + n.toNatClampNeg * k.toNatClampNeg) Q (F0 m (pc + 4) ls (.ref (xr X h.1) :: rest))) : W p l e R s m args below meth c H locs cells slots Q (F0 m pc ls (.int k :: .int n :: rest)) := by
  have hW := M.2.2.2.2.2.2.2
  have htop := HR.top hH
  rw [htop] at kk
  obtain ⟨w1, w2⟩ := A pc idx t hd hop
  obtain ⟨-, kI, hkI, compI, hkindI⟩ := (G.arr hW (t := 0) (ty := .int) (by decide)).1 0 (fun _ => .null)
  have hkI : s.vm.classes[xC X 0]? = some kI := hkI
  intro T hT Xs
  obtain ⟨vm₁, cA, fA, X', step⟩ := mz_walk Xs M.1 M.2.2.2.2.1 (w1.at G hW args) (hAo s args hW) hkI hkindI (G.arr hW (t := 0) (ty := .int) (by decide)).2 (g := F0 m pc ls (.int k :: .int n :: rest)) rfl (by rw [M.2.1]; exact hd) rfl hn hk hb hb2 hcells hslots
  have hcA : cA = xC X 4 := Option.some.inj (fA.symm.trans (G.arr hW (t := 4) (ty := .array .int) (by decide)).2)
  subst hcA
  have hTh : (T.setVm vm₁).heap = H := hT
  obtain ⟨f1, f2, hold, f4, -, -, -⟩ := mz_facts (T.setVm vm₁) (xC X 4) (xC X 0) n.toNatClampNeg k.toNatClampNeg n.toNatClampNeg
  generalize hF : mz_st (T.setVm vm₁) (xC X 4) (xC X 0) n.toNatClampNeg k.toNatClampNeg n.toNatClampNeg = F at X' step f1 f2 hold f4
  rw [hTh] at f1 f2 hold f4
  have hrow : ∀ j : Nat, j < n.toNatClampNeg → F.heap[H.size + 1 + j]? = some (vp_cell (xC X 0) (k.toNatClampNeg, .inl fun _ => 0)) := fun j hj => by
    rw [f4 j hj]
    congr 1
    exact arrV_new _ _ _
  have f2 : F.heap[H.size]? = some (arrV (xC X 4) n.toNatClampNeg fun j => va_rf (if j < n.toNatClampNeg then some (H.size + 1 + j) else none)) := f2
  have hR : HR X (al2 h n.toNatClampNeg k.toNatClampNeg) F.heap := by
    obtain ⟨h1, h2, h3, h5, h6, h7⟩ := hH
    refine ⟨by show F.heap.size + 4 = xB X + (h.1 + 1 + n.toNatClampNeg); omega, by show 4 ≤ h.1 + 1 + n.toNatClampNeg; omega, fun q hq => ?_, fun q hq => ?_, fun q hq1 hq2 => ?_, fun q hq => ?_⟩
    · rw [hold q (by omega)]
      exact h3 q hq
    · show (if q = h.1 then _ else if h.1 < q ∧ q ≤ h.1 + n.toNatClampNeg then _ else h.2.2 q) = _
      rw [if_neg (by omega), if_neg (by omega)]
      exact h5 q hq
    · have hq2 : q < h.1 + 1 + n.toNatClampNeg := hq2
      show va_at _ _ (xr X q, cE (xC X) (xr X) (if q = h.1 then aR 4 n.toNatClampNeg (fun i => if i < n.toNatClampNeg then some (h.1 + 1 + i) else none) else if h.1 < q ∧ q ≤ h.1 + n.toNatClampNeg then aI k.toNatClampNeg (fun _ => 0) else h.2.2 q)) F.heap
      by_cases e1 : q = h.1
      · subst e1
        rw [if_pos rfl, htop]
        show F.heap[H.size]? = some (vp_cell _ _)
        rw [f2, vp_cell_q]
        congr 2
        funext j
        by_cases hj : j < n.toNatClampNeg
        · simp only [hj, if_true, Option.map_some]
          congr 2
          unfold xr rho
          rw [if_neg (by omega)]
          omega
        · simp only [hj, if_false, Option.map_none]
      · rw [if_neg e1]
        by_cases e2 : h.1 < q ∧ q ≤ h.1 + n.toNatClampNeg
        · rw [if_pos e2]
          show F.heap[xr X q]? = some (vp_cell _ _)
          have := hrow (q - h.1 - 1) (by omega)
          rw [← this]
          congr 1
          unfold xr rho
          rw [if_neg (by omega)]
          omega
        · rw [if_neg e2]
          have hlt : xr X q < H.size := by
            unfold xr rho
            rw [if_neg (by omega)]
            omega
          exact (h6 q hq1 (by omega)).kept (hold _ hlt)
    · have hq : h.1 + 1 + n.toNatClampNeg ≤ q := hq
      show (if q = h.1 then _ else if h.1 < q ∧ q ≤ h.1 + n.toNatClampNeg then _ else h.2.2 q) = _
      rw [if_neg (by omega), if_neg (by omega)]
      exact h7 q (by omega)
  have e : T.heap.size = H.size := by rw [hT]
  rw [e] at X' step
  have hxB : xB X ≤ H.size := by
    obtain ⟨h1, h2, -⟩ := hH
    omega
  obtain ⟨t, a1, b1⟩ := kk F.heap _ (fun q hq => by
    rcases List.mem_append.mp hq with z | z
    · exact hlocs q z
    · obtain ⟨y, -, hy⟩ := List.mem_map.mp z
      rw [← hy]
      exact hxB) hR F rfl X'
  exact ⟨t, step t a1, b1⟩
theorem gets_W (G : GC X) (M : ME X i p s m meth c) (St : StaOK i) {idx j : Nat} (hH : HR X h H) (hop : op i pc 0 = some j) (h1 : 1 ≤ j) (h4 : j < 4) (hd : decode i.2.1 pc = .ok (.getstatic idx, 3))
    (kk : W p l e R s m args below meth c H locs cells slots Q (F0 m (pc + 3) ls (.ref (xr X j) :: rest))) : W p l e R s m args below meth c H locs cells slots Q (F0 m pc ls rest) := by
  have hW := M.2.2.2.2.2.2.2
  obtain ⟨cf, kf, fi, f, a, cell, g1, g2, g3, g4, g5, g6, g7, g8⟩ := va_Z.moved hW.alike (G.2.2.2.2 j h1 h4)
  rw [xr_old h4] at kk
  exact W.gets M.1 M.2.1 M.2.2.2.2.1 ((St pc idx j hd hop).at G hW args) g1 g2 g3 g4 (by rw [hH.2.2.1 a (Nat.not_le.mp g8)]; exact g5) (fun e => by rw [e] at g6; cases g6) g7 rfl hd kk
def CpyOK (i : MI) : Prop := ∀ (pc idx : Nat), decode i.2.1 pc = .ok (.invokestatic idx, 3) → op i pc 0 = some 1000 → GW (.methodLink i.1.cls idx arraycopyName) ∧ GW (.native arraycopyName) ∧ GW (.static arraycopyName) ∧ GW (.initialized "java/lang/System")
set_option maxHeartbeats 2000000 in
theorem copy_W (G : GC X) (M : ME X i p s m meth c) (Cp : CpyOK i) {idx a0 a1 n1 n2 : Nat} {f g : Nat → Int32} {sp dp n : Int32} (hsz : ls.size = i.2.2.1) (hH : HR X h H) (hop : op i pc 0 = some 1000) (h4 : 4 ≤ a0) (h5 : 4 ≤ a1) (hr0 : rI h a0 = some (n1, f)) (hr1 : rI h a1 = some (n2, g)) (c1 : ¬ sp < 0) (c2 : ¬ dp < 0) (c3 : ¬ n < 0) (c4 : sp.toNatClampNeg + n.toNatClampNeg ≤ n1) (c5 : dp.toNatClampNeg + n.toNatClampNeg ≤ n2) (hf : 1 ≤ R.frames) (hlo : 20 ≤ R.locals) (hlocs : ∀ q ∈ locs, xB X ≤ q.base) (hd : decode i.2.1 pc = .ok (.invokestatic idx, 3))
    (kk : ∀ (H1 : Heap) (locs1 : List Loc), (∀ q ∈ locs1, xB X ≤ q.base) → HR X (wr h a1 (aI n2 (va_cpy f g sp.toNatClampNeg dp.toNatClampNeg n.toNatClampNeg))) H1 → W p l e R s m args below meth c H1 locs1 cells slots Q (F0 m (pc + 3) ls [])) : W p l e R s m args below meth c H locs cells slots Q (F0 m pc ls [.int n, .int dp, .ref (xr X a1), .int sp, .ref (xr X a0)]) := by
  have hW := M.2.2.2.2.2.2.2
  obtain ⟨w1, w2, w3, w4⟩ := Cp pc idx hd hop
  obtain ⟨hl0, hat0⟩ := hH.at h4 (rI_some hr0) ne_dead_i
  obtain ⟨hl1, hat1⟩ := hH.at h5 (rI_some hr1) ne_dead_i
  have hat0 : H[xr X a0]? = some (vp_cell (xC X 0) (n1, .inl f)) := hat0
  have hat1 : H[xr X a1]? = some (vp_cell (xC X 0) (n2, .inl g)) := hat1
  have hAr := (G.arr hW (t := 0) (ty := .int) (by decide)).1
  have nn : ∀ z : Int32, ¬ z < 0 → z.toInt = (z.toNatClampNeg : Int) := by
    intro z hz
    have hz0 : (0 : Int) ≤ z.toInt := by
      have := Int32.not_lt.mp hz
      simpa using Int32.le_iff_toInt_le.mp this
    show z.toInt = ((z.toInt.toNat : Nat) : Int)
    omega
  have hprim : refKind FieldType.int = false := rfl
  intro T hT Xs
  obtain ⟨-, k0, hk0, cm0, hkk0⟩ := hAr n1 (fun j => .int (f j))
  obtain ⟨-, k1, hk1, cm1, hkk1⟩ := hAr n2 (fun j => .int (g j))
  obtain ⟨vm', X', step⟩ := Xs.arraycopy M.1 M.2.2.2.2.1 (w1.at G hW args) (w2.at G hW args) (w3.at G hW args) (w4.at G hW args) (src := xr X a0) (dst := xr X a1) (cs := vp_cell (xC X 0) (n1, .inl f)) (cd := vp_cell (xC X 0) (n2, .inl g)) (srcPos := sp) (destPos := dp) (n := n) (by rw [hT]; exact hat0) (by rw [hT]; exact hat1)
    (fun _ h => by cases h) (fun _ h => by cases h) (fun h => by cases h) (fun h => by cases h) hk0 hk1 hkk0 hkk1 (by simp [hprim]) c1 c2 c3
    (by rw [nn sp c1, nn n c3]; show ¬ _ > ((arrV (xC X 0) n1 (fun j => .int (f j))).slots.size : Int); rw [arrV_size]; omega)
    (by rw [nn dp c2, nn n c3]; show ¬ _ > ((arrV (xC X 0) n2 (fun j => .int (g j))).slots.size : Int); rw [arrV_size]; omega)
    (fun vm₁ _ i hi => by
      have e : (vp_cell (xC X 0) (n1, .inl f)).slots.getD (sp.toNatClampNeg + i) .null = .int (f (sp.toNatClampNeg + i)) := by
        show (arrV (xC X 0) n1 (fun j => .int (f j))).slots.getD _ _ = _
        rw [Array.getD_eq_getD_getElem?, arrV_read _ _ (by omega)]
        rfl
      refine ⟨?_, ?_⟩
      · rw [e]
        rfl
      · rw [e]
        exact trivial)
    (g := F0 m pc ls (.int n :: .int dp :: .ref (xr X a1) :: .int sp :: .ref (xr X a0) :: [])) rfl (by show ls.size = _; rw [M.2.2.1]; exact hsz) (rest := []) rfl (by rw [M.2.1]; exact hd) hf (by show 2 * 0 + 0 + (5 + 2 + 11) ≤ _; omega)
  have e1 : copied (vp_cell (xC X 0) (n1, .inl f)) (vp_cell (xC X 0) (n2, .inl g)) sp dp n = vp_cell (xC X 0) (n2, .inl (va_cpy f g sp.toNatClampNeg dp.toNatClampNeg n.toNatClampNeg)) := va_copied (fun z => .int z) (xC X 0) (xC X 0) f g c4
  rw [e1] at X' step
  have hl : xr X a1 < H.size := (Array.getElem?_eq_some_iff.mp hat1).1
  have hheap : ((T.setVm vm').setCell (xr X a1) (vp_cell (xC X 0) (n2, .inl (va_cpy f g sp.toNatClampNeg dp.toNatClampNeg n.toNatClampNeg)))).heap = H.setIfInBounds (xr X a1) (vp_cell (xC X 0) (n2, .inl (va_cpy f g sp.toNatClampNeg dp.toNatClampNeg n.toNatClampNeg))) := by rw [← hT]; rfl
  have oq : ∀ q : Nat, q ≠ xr X a1 → (H.setIfInBounds (xr X a1) (vp_cell (xC X 0) (n2, .inl (va_cpy f g sp.toNatClampNeg dp.toNatClampNeg n.toNatClampNeg))))[q]? = H[q]? := fun q hq => by simp [Array.getElem?_setIfInBounds, Ne.symm hq]
  have hge := (HR.lt hH h5 hl1).2
  obtain ⟨t, a2, b2⟩ := kk _ _ (fun q hq => by
      rcases List.mem_append.mp hq with h | h
      · exact hlocs q h
      · obtain ⟨z, -, hz⟩ := List.mem_map.mp h
        rw [← hz]
        exact hge) (HR.wr hH h5 hl1 (show (H.setIfInBounds (xr X a1) _)[xr X a1]? = some _ by simp [Array.getElem?_setIfInBounds, hl]) (by simp) oq) _ hheap X'
  exact ⟨t, step t a2, b2⟩
set_option maxHeartbeats 4000000 in
theorem soundC (G : GC X) (K : ClK) (As : AsOK X) (hAo : AoA X) (hGW : GW (.arrayClass .int)) (M : ME X i p s m meth c) (F : FldOK i) (St : StaOK i) (N : NewOK i) (An : AnwOK i) (Mn : MnwOK i) (hd : decode i.2.1 pc = .ok (ins, len)) (hs : semC i ins len pc L S h = mk pc2 L2 S2 h2) (hrc : h2.1 ≤ n0 + R.cells) (hrs : h2.2.1 ≤ sl0 + R.slots) (hk : WW X i p l e R s m args below meth c Q n0 sl0 pc2 L2 S2 h2) : WW X i p l e R s m args below meth c Q n0 sl0 pc L S h := by
  have snoc : ∀ {locs : List Loc} {a u : Nat}, (∀ q ∈ locs, xB X ≤ q.base) → xB X ≤ a → ∀ q ∈ locs ++ [⟨a, u⟩], xB X ≤ q.base := by
    intro locs a u h1 h2 q hq
    rcases List.mem_append.mp hq with z | z
    · exact h1 q z
    · rw [List.mem_singleton.mp z]
      exact h2
  unfold semC at hs
  split at hs
  · split at hs
    · obtain ⟨⟨ci, fs⟩, e1, hs⟩ := Option.bind_eq_some_iff.mp hs
      obtain ⟨k, e2, hs⟩ := Option.bind_eq_some_iff.mp hs
      obtain ⟨v, e3, hs⟩ := Option.bind_eq_some_iff.mp hs
      split at hs
      · cases hs
      · rename_i h4
        obtain ⟨rfl, rfl, rfl, rfl⟩ := mk_inj hs
        obtain ⟨o1, o2⟩ := rO_some e1
        exact fun hn H locs ls cells slots hH hL hlo hc hz => get_W G K M F hH (Nat.not_lt.mp h4) o1 o2 e2 e3 hd (hk hn H locs ls cells slots hH hL hlo hc hz)
    · cases hs
  · split at hs
    · obtain ⟨⟨ci, fs⟩, e1, hs⟩ := Option.bind_eq_some_iff.mp hs
      obtain ⟨k, e2, hs⟩ := Option.bind_eq_some_iff.mp hs
      obtain ⟨ty, e3, hs⟩ := Option.bind_eq_some_iff.mp hs
      split at hs
      · cases hs
      · rename_i h4
        obtain ⟨rfl, rfl, rfl, rfl⟩ := mk_inj hs
        obtain ⟨o1, o2⟩ := rO_some e1
        have g1 : 4 ≤ _ := Nat.not_lt.mp fun q => h4 (Or.inl q)
        have g2 : k < fs.length := Nat.not_le.mp fun q => h4 (Or.inr (Or.inl q))
        have g3 := eq_true_of_ne_false fun w => h4 (Or.inr (Or.inr w))
        intro hn H locs ls cells slots hH hL hlo hc hz
        have hlv := (hH.at g1 o1 (ne_dead_o o2)).1
        exact put_W G K M F hH g1 o1 o2 e2 g2 e3 g3 hd (fun H1 u hR => hk hn H1 _ ls cells slots hR hL (snoc hlo (HR.lt hH g1 hlv).2) hc hz)
    · cases hs
  · obtain ⟨j, e1, hs⟩ := Option.bind_eq_some_iff.mp hs
    split at hs
    · rename_i hj
      obtain ⟨rfl, rfl, rfl, rfl⟩ := mk_inj hs
      exact fun hn H locs ls cells slots hH hL hlo hc hz => gets_W G M St hH e1 hj.1 hj.2 hd (hk hn H locs ls cells slots hH hL hlo hc hz)
    · cases hs
  · obtain ⟨ci, e1, hs⟩ := Option.bind_eq_some_iff.mp hs
    obtain ⟨fs, e2, hs⟩ := Option.bind_eq_some_iff.mp hs
    obtain ⟨rfl, rfl, rfl, rfl⟩ := mk_inj hs
    intro hn H locs ls cells slots hH hL hlo hc hz
    have hrc : h.1 + 1 ≤ n0 + R.cells := hrc
    have hrs : h.2.1 + fs.length ≤ sl0 + R.slots := hrs
    exact new_W G K M N hH e1 e2 hd (by omega) (by omega) (fun H1 hR => hk hn H1 locs ls (cells + 1) (slots + fs.length) hR hL hlo (by show cells + 1 + n0 = h.1 + 1; omega) (by show slots + fs.length + sl0 = h.2.1 + fs.length; omega))
  · split at hs
    · split at hs
      · cases hs
      · rename_i hj
        obtain ⟨rfl, rfl, rfl, rfl⟩ := mk_inj hs
        intro hn H locs ls cells slots hH hL hlo hc hz
        have hrc : h.1 + 1 ≤ n0 + R.cells := hrc
        have hrs : h.2.1 + _ ≤ sl0 + R.slots := hrs
        exact newa_W G M hGW hH (fun q => hj (Or.inl q)) (Nat.not_lt.mp fun q => hj (Or.inr q)) hd (by omega) (by omega) (fun H1 hR => hk hn H1 locs ls (cells + 1) (slots + _) hR hL hlo (by show cells + 1 + n0 = h.1 + 1; omega) (by show slots + _ + sl0 = h.2.1 + _; omega))
    · cases hs
  · split at hs
    · obtain ⟨t, e1, hs⟩ := Option.bind_eq_some_iff.mp hs
      split at hs
      · cases hs
      · rename_i hj
        obtain ⟨rfl, rfl, rfl, rfl⟩ := mk_inj hs
        intro hn H locs ls cells slots hH hL hlo hc hz
        have hrc : h.1 + 1 ≤ n0 + R.cells := hrc
        have hrs : h.2.1 + _ ≤ sl0 + R.slots := hrs
        exact anew_W G M An hH e1 (fun q => hj (Or.inl q)) (Nat.not_lt.mp fun q => hj (Or.inr q)) hd (by omega) (by omega) (fun H1 hR => hk hn H1 locs ls (cells + 1) (slots + _) hR hL hlo (by show cells + 1 + n0 = h.1 + 1; omega) (by show slots + _ + sl0 = h.2.1 + _; omega))
    · cases hs
  · split at hs
    · obtain ⟨t, e1, hs⟩ := Option.bind_eq_some_iff.mp hs
      split at hs
      · cases hs
      · rename_i kx nx _ _ hj
        obtain ⟨rfl, rfl, rfl, rfl⟩ := mk_inj hs
        intro hn H locs ls cells slots hH hL hlo hc hz
        have hrc : h.1 + 1 + nx.toNatClampNeg ≤ n0 + R.cells := hrc
        have hrs : h.2.1 + nx.toNatClampNeg + nx.toNatClampNeg * kx.toNatClampNeg ≤ sl0 + R.slots := hrs
        generalize hpr : nx.toNatClampNeg * kx.toNatClampNeg = pr at hrs
        exact mnew_W G M Mn hAo hH e1 (fun q => hj (Or.inl q)) (fun q => hj (Or.inr (Or.inl q))) (Nat.not_lt.mp fun q => hj (Or.inr (Or.inr (Or.inl q)))) (Nat.not_lt.mp fun q => hj (Or.inr (Or.inr (Or.inr q)))) hd (by omega) (by rw [hpr]; omega) hlo (fun H1 locs1 hl1 hR => hk hn H1 locs1 ls (cells + 1 + nx.toNatClampNeg) (slots + nx.toNatClampNeg + nx.toNatClampNeg * kx.toNatClampNeg) hR hL hl1 (by show cells + 1 + _ + n0 = h.1 + 1 + _; omega) (by show slots + _ + _ + sl0 = h.2.1 + _ + _; omega))
    · cases hs
  · split at hs
    · obtain ⟨⟨n, f⟩, e1, hs⟩ := Option.bind_eq_some_iff.mp hs
      obtain ⟨rfl, rfl, rfl, rfl⟩ := mk_inj hs
      exact fun hn H locs ls cells slots hH hL hlo hc hz => alen_W G M hH e1 hd (hk hn H locs ls cells slots hH hL hlo hc hz)
    · cases hs
  · split at hs
    · obtain ⟨⟨n, f⟩, e1, hs⟩ := Option.bind_eq_some_iff.mp hs
      split at hs
      · cases hs
      · rename_i hj
        obtain ⟨rfl, rfl, rfl, rfl⟩ := mk_inj hs
        exact fun hn H locs ls cells slots hH hL hlo hc hz => iald_W G M hH e1 hj hd (hk hn H locs ls cells slots hH hL hlo hc hz)
    · cases hs
  · split at hs
    · obtain ⟨⟨n, f⟩, e1, hs⟩ := Option.bind_eq_some_iff.mp hs
      split at hs
      · cases hs
      · rename_i hj
        obtain ⟨rfl, rfl, rfl, rfl⟩ := mk_inj hs
        have g1 : 4 ≤ _ := Nat.not_lt.mp fun q => hj (Or.inl q)
        intro hn H locs ls cells slots hH hL hlo hc hz
        have hlv := (hH.at g1 (rI_some e1) ne_dead_i).1
        exact iast_W G M hH g1 e1 (fun q => hj (Or.inr q)) hd (fun H1 u hR => hk hn H1 _ ls cells slots hR hL (snoc hlo (HR.lt hH g1 hlv).2) hc hz)
    · cases hs
  · split at hs
    · obtain ⟨⟨t, n, f⟩, e1, hs⟩ := Option.bind_eq_some_iff.mp hs
      split at hs
      · cases hs
      · rename_i hj
        obtain ⟨rfl, rfl, rfl, rfl⟩ := mk_inj hs
        intro hn H locs ls cells slots hH hL hlo hc hz
        have g1 : 4 ≤ _ := Nat.not_lt.mp fun q => hj (Or.inl q)
        exact aald_W G M hH g1 e1 (fun q => hj (Or.inr q)) hd (hk hn H locs ls cells slots hH hL hlo hc hz)
    · cases hs
  · split at hs
    · obtain ⟨⟨t, n, f⟩, e1, hs⟩ := Option.bind_eq_some_iff.mp hs
      obtain ⟨⟨ci, fs⟩, e2, hs⟩ := Option.bind_eq_some_iff.mp hs
      split at hs
      · cases hs
      · rename_i hj
        obtain ⟨rfl, rfl, rfl, rfl⟩ := mk_inj hs
        have g1 : 4 ≤ _ := Nat.not_lt.mp fun q => hj (Or.inl q)
        have g2 : 4 ≤ _ := Nat.not_lt.mp fun q => hj (Or.inr (Or.inl q))
        have g3 : (t, ci) ∈ asT := Decidable.not_not.mp fun q => hj (Or.inr (Or.inr (Or.inr (Or.inr q))))
        intro hn H locs ls cells slots hH hL hlo hc hz
        have hlv := (hH.at g1 (rR_some e1).1 ne_dead_i).1
        exact aast_W G As M hH g1 g2 e1 e2 g3 (fun q => hj (q.elim (fun z => Or.inr (Or.inr (Or.inl z))) (fun z => Or.inr (Or.inr (Or.inr (Or.inl z)))))) hd (fun H1 u hR => hk hn H1 _ ls cells slots hR hL (snoc hlo (HR.lt hH g1 hlv).2) hc hz)
    · cases hs
  · cases hs
end SC3
