section SC2
variable {X : Cx} {i : MI} {p : Program} {l : Launch} {e : Env} {R : Room} {s : State} {m : MethodId} {args : Array Value} {below : List Frame} {meth : Method} {c : Code} {Q : State → Prop} {n0 sl0 pc pc2 len : Nat} {L L2 : AL} {S S2 : List Value} {h h2 : AH} {ins : ClassFile.Instr} {H : Heap} {locs : List Loc} {cells slots : Nat} {ls : Array Slot} {rest : List Value}
theorem xr_old {a : Nat} (h4 : a < 4) : xr X a = xo X a := by
  unfold xr rho
  rw [if_pos h4]
theorem iald_W (G : GC X) (M : ME X i p s m meth c) {a n : Nat} {f : Nat → Int32} {j : Int32} (hH : HR X h H) (hr : rI h a = some (n, f)) (hj : ¬ (j < 0 ∨ n ≤ j.toNatClampNeg)) (hd : decode i.2.1 pc = .ok (.iaload, 1))
    (kk : W p l e R s m args below meth c H locs cells slots Q (F0 m (pc + 1) ls (.int (f j.toNatClampNeg) :: rest))) : W p l e R s m args below meth c H locs cells slots Q (F0 m pc ls (.int j :: .ref (xr X a) :: rest)) := by
  have hW := M.2.2.2.2.2.2.2
  have hlt : j.toNatClampNeg < n := Nat.not_le.mp fun q => hj (Or.inr q)
  by_cases h4 : a < 4
  · have ho : h.2.2 a = xold X a := hH.2.2.2.1 a h4
    obtain ⟨hl, n', f', cell, e1, e2, e3, e4, e5, e6, e7⟩ := G.2.2.2.1 a h4
    have e := ((rI_some hr).symm.trans ho).trans e1
    unfold aI at e
    cases e
    refine W.iald (v := .int (f j.toNatClampNeg)) (cell := cell) M.1 M.2.1 ?_ (State.isArrayOf_alike hW.alike e3) e4 (fun z => ?_) (e7 _ hlt) rfl rfl hd kk
    · rw [xr_old h4, hH.2.2.1 _ hl]
      exact e2
    · rcases z with z | z
      · exact hj (Or.inl z)
      · omega
  · obtain ⟨-, hat⟩ := hH.at (by omega) (rI_some hr) ne_dead_i
    have hat : H[xr X a]? = some (vp_cell (xC X 0) (n, .inl f)) := hat
    exact W.iald (v := .int (f j.toNatClampNeg)) M.1 M.2.1 hat ((G.arr hW (t := 0) (ty := .int) (by decide)).1 n (fun j => .int (f j))) (fun q => by cases q) (by show ¬ (j < 0 ∨ (arrV _ _ _).slots.size ≤ _); rw [arrV_size]; exact hj) (by show (arrV _ _ _).slots[_]? = _; rw [arrV_read _ _ hlt]) rfl rfl hd kk
theorem alen_W (G : GC X) (M : ME X i p s m meth c) {a n : Nat} {f : Nat → Int32} (hH : HR X h H) (hr : rI h a = some (n, f)) (hd : decode i.2.1 pc = .ok (.arraylength, 1))
    (kk : W p l e R s m args below meth c H locs cells slots Q (F0 m (pc + 1) ls (.int (Int32.ofNat n) :: rest))) : W p l e R s m args below meth c H locs cells slots Q (F0 m pc ls (.ref (xr X a) :: rest)) := by
  have hW := M.2.2.2.2.2.2.2
  by_cases h4 : a < 4
  · have ho : h.2.2 a = xold X a := hH.2.2.2.1 a h4
    obtain ⟨hl, n', f', cell, e1, e2, e3, e4, e5, e6, e7⟩ := G.2.2.2.1 a h4
    have e := ((rI_some hr).symm.trans ho).trans e1
    unfold aI at e
    cases e
    refine W.alen (n := Int32.ofNat n) (cell := cell) M.1 M.2.1 ?_ (State.isArrayOf_alike hW.alike e3) e6 rfl rfl hd kk
    rw [xr_old h4, hH.2.2.1 _ hl]
    exact e2
  · obtain ⟨-, hat⟩ := hH.at (by omega) (rI_some hr) ne_dead_i
    have hat : H[xr X a]? = some (vp_cell (xC X 0) (n, .inl f)) := hat
    exact W.alen (n := Int32.ofNat n) M.1 M.2.1 hat ((G.arr hW (t := 0) (ty := .int) (by decide)).1 n (fun j => .int (f j))) (by rw [vp_cell_i, arrV_size] <;> rfl) rfl rfl hd kk
theorem iast_W (G : GC X) (M : ME X i p s m meth c) {a n : Nat} {f : Nat → Int32} {j x : Int32} (hH : HR X h H) (h4 : 4 ≤ a) (hr : rI h a = some (n, f)) (hj : ¬ (j < 0 ∨ n ≤ j.toNatClampNeg)) (hd : decode i.2.1 pc = .ok (.iastore, 1))
    (kk : ∀ (H1 : Heap) (u : Nat), HR X (wr h a (aI n (upd f j.toNatClampNeg x))) H1 → W p l e R s m args below meth c H1 (locs ++ [⟨xr X a, u⟩]) cells slots Q (F0 m (pc + 1) ls rest)) : W p l e R s m args below meth c H locs cells slots Q (F0 m pc ls (.int x :: .int j :: .ref (xr X a) :: rest)) := by
  have hW := M.2.2.2.2.2.2.2
  obtain ⟨hl, hat⟩ := hH.at h4 (rI_some hr) ne_dead_i
  have hat : H[xr X a]? = some (vp_cell (xC X 0) (n, .inl f)) := hat
  refine W.iast M.1 M.2.1 hat ((G.arr hW (t := 0) (ty := .int) (by decide)).1 n (fun j => .int (f j))) (fun q => by cases q) (by show ¬ (j < 0 ∨ (arrV _ _ _).slots.size ≤ _); rw [arrV_size]; exact hj) rfl rfl hd fun H1 e z oq => ?_
  refine kk H1 _ (HR.wr hH h4 hl ?_ z oq)
  show H1[xr X a]? = some (vp_cell _ _)
  rw [e, vp_cell_i, vp_cell_i, arrV_store]
  congr 2
  funext q
  unfold updV upd
  split <;> rfl
theorem tag_ref {t : Nat} (h1 : 1 ≤ t) (h5 : t < 5) : ∃ ty, (t, ty) ∈ tagT ∧ ty.isReference = true := by
  match t, h1, h5 with
  | 1, _, _ => exact ⟨_, List.mem_cons_of_mem _ List.mem_cons_self, rfl⟩
  | 2, _, _ => exact ⟨_, List.mem_cons_of_mem _ (List.mem_cons_of_mem _ List.mem_cons_self), rfl⟩
  | 3, _, _ => exact ⟨_, List.mem_cons_of_mem _ (List.mem_cons_of_mem _ (List.mem_cons_of_mem _ List.mem_cons_self)), rfl⟩
  | 4, _, _ => exact ⟨_, List.mem_cons_of_mem _ (List.mem_cons_of_mem _ (List.mem_cons_of_mem _ (List.mem_cons_of_mem _ List.mem_cons_self))), rfl⟩
theorem rfv_cv (r : Option Nat) : cv (xr X) (rfv r) = va_rf (r.map (xr X)) := by cases r <;> rfl
theorem aald_W (G : GC X) (M : ME X i p s m meth c) {a t n : Nat} {f : Nat → Option Nat} {j : Int32} (hH : HR X h H) (h4 : 4 ≤ a) (hr : rR h a = some (t, n, f)) (hj : ¬ (j < 0 ∨ n ≤ j.toNatClampNeg)) (hd : decode i.2.1 pc = .ok (.aaload, 1))
    (kk : W p l e R s m args below meth c H locs cells slots Q (F0 m (pc + 1) ls (cv (xr X) (rfv (f j.toNatClampNeg)) :: rest))) : W p l e R s m args below meth c H locs cells slots Q (F0 m pc ls (.int j :: .ref (xr X a) :: rest)) := by
  have hW := M.2.2.2.2.2.2.2
  have hlt : j.toNatClampNeg < n := Nat.not_le.mp fun q => hj (Or.inr q)
  obtain ⟨hx, ht1, ht5⟩ := rR_some hr
  obtain ⟨ty, hty, href⟩ := tag_ref ht1 ht5
  obtain ⟨hl, hat⟩ := hH.at h4 hx ne_dead_i
  have hat : H[xr X a]? = some (vp_cell (xC X t) (n, .inr (.inr (.inr (.inr fun j => (f j).map (xr X)))))) := hat
  rw [rfv_cv] at kk
  exact W.aald (v := va_rf ((f j.toNatClampNeg).map (xr X))) M.1 M.2.1 hat ((G.arr hW hty).1 n (fun j => va_rf ((f j).map (xr X)))) href (fun q => by cases q) (by show ¬ (j < 0 ∨ (arrV _ _ _).slots.size ≤ _); rw [arrV_size]; exact hj) (by show (arrV _ _ _).slots[_]? = _; rw [arrV_read _ _ hlt]) rfl rfl hd kk
theorem aast_W (G : GC X) (A : AsOK X) (M : ME X i p s m meth c) {a v t ci n : Nat} {fs : List Value} {f : Nat → Option Nat} {j : Int32} (hH : HR X h H) (h4 : 4 ≤ a) (hv4 : 4 ≤ v) (hr : rR h a = some (t, n, f)) (hv : rO h v = some (ci, fs)) (has : (t, ci) ∈ asT) (hj : ¬ (j < 0 ∨ n ≤ j.toNatClampNeg)) (hd : decode i.2.1 pc = .ok (.aastore, 1))
    (kk : ∀ (H1 : Heap) (u : Nat), HR X (wr h a (aR t n (va_up f j.toNatClampNeg (some v)))) H1 → W p l e R s m args below meth c H1 (locs ++ [⟨xr X a, u⟩]) cells slots Q (F0 m (pc + 1) ls rest)) : W p l e R s m args below meth c H locs cells slots Q (F0 m pc ls (.ref (xr X v) :: .int j :: .ref (xr X a) :: rest)) := by
  have hW := M.2.2.2.2.2.2.2
  have hlt : j.toNatClampNeg < n := Nat.not_le.mp fun q => hj (Or.inr q)
  obtain ⟨hx, ht1, ht5⟩ := rR_some hr
  obtain ⟨hl, hat⟩ := hH.at h4 hx ne_dead_i
  obtain ⟨hvx, hv99⟩ := rO_some hv
  obtain ⟨hlv, hatv⟩ := hH.at hv4 hvx (ne_dead_o hv99)
  have hat : H[xr X a]? = some (vp_cell (xC X t) (n, .inr (.inr (.inr (.inr fun j => (f j).map (xr X)))))) := hat
  obtain ⟨r, cj, r2, hC, hcl, hcl2, hass⟩ := A (t, ci) has
  obtain ⟨r', hr', cellV, g1, g2, g3, -⟩ := hatv
  have hcls := (G.2.1 ci r hcl).2
  have hcls2 := classAt_moved hW.alike (G.2.1 cj r2 hcl2).2
  obtain ⟨kA, comp, k1, k2, k3, -⟩ := (G.arr hW hC).2
  have hcomp : comp = (xD X).1 cj := Option.some.inj (k3.symm.trans hcls2.1)
  subst hcomp
  have hass2 : s.vm.assignable ((xD X).1 ci) ((xD X).1 cj) = true := by rw [hW.alike.assignable]; exact hass
  obtain ⟨kC, hkC, -⟩ := (classAt_moved hW.alike hcls).2
  obtain ⟨kcomp, hkcomp, -⟩ := hcls2.2
  refine W.aast M.1 M.2.1 hat (fun q h => by cases h) (fun h => by cases h) k1 k2 rfl hkcomp ⟨fun q => hj (Or.inl q), by show _ < (arrV _ _ _).slots.size; rw [arrV_size]; exact hlt⟩ g1 (fun q h => by rw [g3] at h; cases h) (by rw [g2]; exact hkC) (by rw [g2]; exact hass2) rfl rfl hd fun H1 e z oq => ?_
  refine kk H1 _ (HR.wr hH h4 hl ?_ z oq)
  show H1[xr X a]? = some (vp_cell _ _)
  rw [e, vp_cell_q, vp_cell_q, arrV_store]
  congr 2
  funext q
  unfold updV va_up
  split <;> rfl
theorem new_W (G : GC X) (K : ClK) (M : ME X i p s m meth c) (N : NewOK i) {ci idx : Nat} {fs : List Value} (hH : HR X h H) (hop : op i pc 0 = some ci) (hfs : cnew ci = some fs) (hd : decode i.2.1 pc = .ok (.new idx, 3)) (hcells : cells + 1 ≤ R.cells) (hslots : slots + fs.length ≤ R.slots)
    (kk : ∀ H1 : Heap, HR X (al h (aO ci fs) fs.length) H1 → W p l e R s m args below meth c H1 locs (cells + 1) (slots + fs.length) Q (F0 m (pc + 3) ls (.ref (xr X h.1) :: rest))) : W p l e R s m args below meth c H locs cells slots Q (F0 m pc ls rest) := by
  have hW := M.2.2.2.2.2.2.2
  obtain ⟨q, hq, w1, w2, w3⟩ := N pc idx ci hd hop
  obtain ⟨hin0, hty0, hnm⟩ := K q (List.mem_of_getElem? hq)
  have hts : ∀ w ∈ u_ws q.1 q.2.1 q.2.2.1, w.before args s = true := fun w hw => (hin0 w hw).at G hW args
  have hc := cls_of hq
  have hKn := (G.K hW).1 ci _ hc
  have hlen : fs = (List.range q.2.2.1).map fun k => defaultValue (q.2.2.2 k) := by
    unfold cnew at hfs
    rw [hq] at hfs
    exact (Option.some.inj hfs).symm
  have hl : fs.length = q.2.2.1 := by rw [hlen]; simp
  rw [hl] at hslots kk
  rw [HR.top hH] at kk
  refine W.newcK M.1 M.2.1 M.2.2.2.2.1 (w1.at G hW args) (w2.at G hW args) (w3.at G hW args) rfl hd hcells hslots hKn.2.1 rfl fun H1 kC hkC e1 z1 o1 => ?_
  refine kk H1 (HR.push hH _ ?_ z1 o1)
  refine ⟨_, hc, (u_born q.2.2.2 hts (fun _ h9 => h9) hKn hkC e1 hty0).to fun k hk => ?_⟩
  have hk : k < q.2.2.1 := hk
  show _ = vp_V (List.map (cv (xr X)) fs) k
  rw [hlen]
  unfold vp_V
  rw [List.getD_eq_getElem?_getD, List.getElem?_map, List.getElem?_map, List.getElem?_range hk]
  show defaultValue (q.2.2.2 k) = cv (xr X) (defaultValue (q.2.2.2 k))
  cases q.2.2.2 k <;> rfl
theorem newa_W (G : GC X) (M : ME X i p s m meth c) (hGW : GW (.arrayClass .int)) {n : Int32} (hH : HR X h H) (hn : ¬ n < 0) (hb : n.toNatClampNeg ≤ 100000) (hd : decode i.2.1 pc = .ok (.newarray .int, 2)) (hcells : cells + 1 ≤ R.cells) (hslots : slots + n.toNatClampNeg ≤ R.slots)
    (kk : ∀ H1 : Heap, HR X (al h (aI n.toNatClampNeg fun _ => 0) n.toNatClampNeg) H1 → W p l e R s m args below meth c H1 locs (cells + 1) (slots + n.toNatClampNeg) Q (F0 m (pc + 2) ls (.ref (xr X h.1) :: rest))) : W p l e R s m args below meth c H locs cells slots Q (F0 m pc ls (.int n :: rest)) := by
  have hW := M.2.2.2.2.2.2.2
  rw [HR.top hH] at kk
  refine va_newaK (atype := .int) M.1 M.2.1 (hGW.at G hW args) rfl hd rfl hn rfl (by show n.toNatClampNeg * 4 ≤ _; omega) hcells hslots rfl fun H1 cA e1 z1 o1 hAr hNm => ?_
  have hcA : cA = xC X 0 := Option.some.inj (hNm.symm.trans (G.arr hW (t := 0) (ty := .int) (by decide)).2)
  subst hcA
  exact kk H1 (HR.push hH _ e1 z1 o1)
theorem anew_W (G : GC X) (M : ME X i p s m meth c) (A : AnwOK i) {n : Int32} {idx t : Nat} (hH : HR X h H) (hop : op i pc 0 = some t) (hn : ¬ n < 0) (hb : n.toNatClampNeg ≤ 100000) (hd : decode i.2.1 pc = .ok (.anewarray idx, 3)) (hcells : cells + 1 ≤ R.cells) (hslots : slots + n.toNatClampNeg ≤ R.slots)
    (kk : ∀ H1 : Heap, HR X (al h (aR t n.toNatClampNeg fun _ => none) n.toNatClampNeg) H1 → W p l e R s m args below meth c H1 locs (cells + 1) (slots + n.toNatClampNeg) Q (F0 m (pc + 3) ls (.ref (xr X h.1) :: rest))) : W p l e R s m args below meth c H locs cells slots Q (F0 m pc ls (.int n :: rest)) := by
  have hW := M.2.2.2.2.2.2.2
  rw [HR.top hH] at kk
  obtain ⟨C, hC, w1, w2⟩ := A pc idx t hd hop
  have hover : va_AO C s := va_AO.moved hW.alike (va_AO.of (G.1 _ w2))
  refine W.anew M.1 M.2.1 M.2.2.2.2.1 (w1.at G hW args) (va_AO.use hover) rfl hd rfl hn (by omega) hcells hslots fun cA kA comp f1 f2 f3 f4 => ?_
  obtain ⟨kA2, comp2, k1, k2, k3, k4⟩ := (G.arr hW hC).2
  have hcA : cA = xC X t := Option.some.inj (f1.symm.trans k4)
  subst hcA
  refine kk _ (HR.push hH _ ?_ (by rw [Array.size_push]) (fun q hq => by rw [Array.getElem?_push, if_neg (Nat.ne_of_lt hq)]))
  show (H.push _)[H.size]? = some (vp_cell _ _)
  rw [Array.getElem?_push_size, vp_cell_q, arrV_new]
  rfl
end SC2
