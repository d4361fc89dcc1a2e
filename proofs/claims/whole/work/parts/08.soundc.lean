section SC
variable {X : Cx} {i : MI} {p : Program} {l : Launch} {e : Env} {R : Room} {s : State} {m : MethodId} {args : Array Value} {below : List Frame} {meth : Method} {c : Code} {Q : State → Prop} {n0 sl0 pc pc2 len : Nat} {L L2 : AL} {S S2 : List Value} {h h2 : AH} {ins : ClassFile.Instr}
def ClK : Prop := ∀ q ∈ clL, (∀ w ∈ u_ws q.1 q.2.1 q.2.2.1, GW w) ∧ (∀ k, k < q.2.2.1 → parseFieldDescriptor (q.2.1 k).2.2.1 = some (q.2.2.2 k)) ∧ (∀ a, a < q.2.2.1 → ∀ b, b < q.2.2.1 → a ≠ b → (q.2.1 a).2.1 ≠ (q.2.1 b).2.1)
def FldOK (i : MI) : Prop := ∀ (pc idx ci k : Nat), (decode i.2.1 pc = .ok (.getfield idx, 3) ∨ decode i.2.1 pc = .ok (.putfield idx, 3)) → op i pc ci = some k → ∃ q, clL[ci]? = some q ∧ k < q.2.2.1 ∧ GW (.fieldLink i.1.cls idx (q.2.1 k).1 (q.2.1 k).2.1 (q.2.1 k).2.2.1) ∧ (decode i.2.1 pc = .ok (.putfield idx, 3) → (q.2.1 k).2.2.2 = true → i.1.name = "<init>" ∧ (q.2.1 k).1 = i.1.cls)
def StaOK (i : MI) : Prop := ∀ (pc idx j : Nat), decode i.2.1 pc = .ok (.getstatic idx, 3) → op i pc 0 = some j → GW (.fieldLink i.1.cls idx "BurntPads$Drill" (statN j) "[I")
def NewOK (i : MI) : Prop := ∀ (pc idx ci : Nat), decode i.2.1 pc = .ok (.new idx, 3) → op i pc 0 = some ci → ∃ q, clL[ci]? = some q ∧ GW (.classLink i.1.cls idx q.1) ∧ GW (.instantiable q.1 q.2.2.1) ∧ GW (.initialized q.1)
def AnwOK (i : MI) : Prop := ∀ (pc idx t : Nat), decode i.2.1 pc = .ok (.anewarray idx, 3) → op i pc 0 = some t → ∃ C, (t, FieldType.object C) ∈ tagT ∧ GW (.classLink i.1.cls idx C) ∧ Cond.arrayOver (.object C) ∈ lw_tbl
def AsOK (X : Cx) : Prop := ∀ q ∈ asT, ∃ r cj r2, (q.1, FieldType.object r2.1) ∈ tagT ∧ cls[q.2]? = some r ∧ cls[cj]? = some r2 ∧ (xs X).vm.assignable ((xD X).1 q.2) ((xD X).1 cj) = true
theorem cls_map : cls = clL.map (fun q => (q.1, q.2.1, q.2.2.1)) := rfl
theorem cls_of {ci : Nat} {q : String × u_T × Nat × (Nat → FieldType)} (hq : clL[ci]? = some q) : cls[ci]? = some (q.1, q.2.1, q.2.2.1) := by
  rw [cls_map, List.getElem?_map, hq]
  rfl
theorem rO_lt {h : AH} {a : Nat} {q : Nat × List Value} (e : rO h a = some q) : h.2.2 a = .inr q ∧ q.1 < 90 := by
  unfold rO at e
  split at e
  · rename_i q2 hq
    split at e
    · rename_i hn
      cases e
      exact ⟨hq, hn⟩
    · cases e
  · cases e
theorem rO_some {h : AH} {a : Nat} {q : Nat × List Value} (e : rO h a = some q) : h.2.2 a = .inr q ∧ q.1 ≠ 99 := ⟨(rO_lt e).1, fun z => by have := (rO_lt e).2; omega⟩
theorem rI_some {h : AH} {a n : Nat} {f : Nat → Int32} (e : rI h a = some (n, f)) : h.2.2 a = .inl (0, n, .inl f) := by
  unfold rI at e
  split at e
  · rename_i hq
    cases e
    exact hq
  · cases e
theorem rR_some {h : AH} {a t n : Nat} {f : Nat → Option Nat} (e : rR h a = some (t, n, f)) : h.2.2 a = .inl (t, n, .inr (.inr (.inr (.inr f)))) ∧ 1 ≤ t ∧ t < 5 := by
  unfold rR at e
  split at e
  · rename_i hq
    split at e
    · rename_i ht
      cases e
      exact ⟨hq, ht⟩
    · cases e
  · cases e
theorem HR.live {H : Heap} (hH : HR X h H) {a : Nat} (hn : h.2.2 a ≠ aDead) : a < h.1 := Nat.not_le.mp fun q => hn (hH.2.2.2.2.2 a q)
theorem HR.lt {H : Heap} (hH : HR X h H) {a : Nat} (h4 : 4 ≤ a) (hn : a < h.1) : xr X a < H.size ∧ xB X ≤ xr X a := by
  have := hH.1
  unfold xr rho
  rw [if_neg (by omega)]
  omega
theorem xr_inj {a b : Nat} (ha : 4 ≤ a) (hb : 4 ≤ b) (e : xr X a = xr X b) : a = b := by
  unfold xr rho at e
  rw [if_neg (by omega), if_neg (by omega)] at e
  omega
theorem HR.wr {H H1 : Heap} (hH : HR X h H) {a : Nat} {c' : AE} (h4 : 4 ≤ a) (hn : a < h.1) (hat : va_at (xD X) cls (xr X a, cE (xC X) (xr X) c') H1) (hz : H1.size = H.size) (ho : ∀ q : Nat, q ≠ xr X a → H1[q]? = H[q]?) : HR X (wr h a c') H1 := by
  obtain ⟨h1, h2, h3, h5, h6, h7⟩ := hH
  have hlt := HR.lt (X := X) (h := h) (H := H) ⟨h1, h2, h3, h5, h6, h7⟩ h4 hn
  refine ⟨by rw [hz]; exact h1, h2, fun q hq => ?_, fun q hq => ?_, fun q hq1 hq2 => ?_, fun q hq => ?_⟩
  · rw [ho q (by omega)]
    exact h3 q hq
  · show va_up h.2.2 a c' q = _
    unfold va_up
    rw [if_neg (by omega)]
    exact h5 q hq
  · show va_at _ _ (xr X q, cE (xC X) (xr X) (va_up h.2.2 a c' q)) H1
    unfold va_up
    by_cases e : q = a
    · subst e
      rw [if_pos rfl]
      exact hat
    · rw [if_neg e]
      exact (h6 q hq1 hq2).kept (ho _ (fun z => e (xr_inj hq1 h4 z)))
  · show va_up h.2.2 a c' q = _
    unfold va_up
    have hq : h.1 ≤ q := hq
    rw [if_neg (by omega)]
    exact h7 q hq
theorem HR.top {H : Heap} (hH : HR X h H) : xr X h.1 = H.size := by
  have := hH.1
  have := hH.2.1
  unfold xr rho
  rw [if_neg (by omega)]
  omega
theorem HR.push {H H1 : Heap} (hH : HR X h H) {c' : AE} (k : Nat) (hat : va_at (xD X) cls (H.size, cE (xC X) (xr X) c') H1) (hz : H1.size = H.size + 1) (ho : ∀ q : Nat, q < H.size → H1[q]? = H[q]?) : HR X (al h c' k) H1 := by
  have ht := HR.top hH
  obtain ⟨h1, h2, h3, h5, h6, h7⟩ := hH
  refine ⟨by show H1.size + 4 = xB X + (h.1 + 1); omega, by show 4 ≤ h.1 + 1; omega, fun q hq => ?_, fun q hq => ?_, fun q hq1 hq2 => ?_, fun q hq => ?_⟩
  · rw [ho q (by omega)]
    exact h3 q hq
  · show va_up h.2.2 h.1 c' q = _
    unfold va_up
    rw [if_neg (by omega)]
    exact h5 q hq
  · show va_at _ _ (xr X q, cE (xC X) (xr X) (va_up h.2.2 h.1 c' q)) H1
    have hq2 : q < h.1 + 1 := hq2
    unfold va_up
    by_cases e : q = h.1
    · subst e
      rw [if_pos rfl, ht]
      exact hat
    · rw [if_neg e]
      have hlt : xr X q < H.size := by
        unfold xr rho
        rw [if_neg (by omega)]
        omega
      exact (h6 q hq1 (by omega)).kept (ho _ hlt)
  · show va_up h.2.2 h.1 c' q = _
    have hq : h.1 + 1 ≤ q := hq
    unfold va_up
    rw [if_neg (by omega)]
    exact h7 q (by omega)
theorem HR.at {H : Heap} (hH : HR X h H) {a : Nat} {x : AE} (h4 : 4 ≤ a) (hx : h.2.2 a = x) (hn : x ≠ aDead) : a < h.1 ∧ va_at (xD X) cls (xr X a, cE (xC X) (xr X) x) H := by
  have hl := hH.live (by rw [hx]; exact hn)
  refine ⟨hl, ?_⟩
  rw [← hx]
  exact hH.2.2.2.2.1 a h4 hl
theorem ne_dead_o {q : Nat × List Value} (h : q.1 ≠ 99) : (.inr q : AE) ≠ aDead := fun e => by
  unfold aDead at e
  cases e
  exact h rfl
theorem ne_dead_i {q : Nat × vp_A} : (.inl q : AE) ≠ aDead := fun e => by
  unfold aDead at e
  cases e
theorem GC.K (G : GC X) (hW : (xs X).WarmedH s.vm) : va_K (xD X) cls [] s := ⟨fun k q hq => u_Kn_moved hW.alike (G.2.1 k q hq), fun k q hk => by simp at hk⟩
theorem GC.arr (G : GC X) (hW : (xs X).WarmedH s.vm) {t : Nat} {ty : FieldType} (ht : (t, ty) ∈ tagT) : ArrOfT s (xC X t) ty ∧ va_RA s (xC X t) ty := ⟨arrOfT_moved hW.alike (G.2.2.1 _ ht).1, (G.2.2.1 _ ht).2.moved hW.alike⟩
theorem get_W (G : GC X) (K : ClK) (M : ME X i p s m meth c) (F : FldOK i) {a ci k idx : Nat} {fs : List Value} {v : Value} {H : Heap} {locs : List Loc} {cells slots : Nat} {ls : Array Slot} {rest : List Value} (hH : HR X h H) (h4 : 4 ≤ a) (ho : h.2.2 a = .inr (ci, fs)) (hci : ci ≠ 99) (hop : op i pc ci = some k) (hv : fs[k]? = some v) (hd : decode i.2.1 pc = .ok (.getfield idx, 3))
    (kk : W p l e R s m args below meth c H locs cells slots Q (F0 m (pc + 3) ls (cv (xr X) v :: rest))) : W p l e R s m args below meth c H locs cells slots Q (F0 m pc ls (.ref (xr X a) :: rest)) := by
  obtain ⟨q, hq, hkN, hlink, -⟩ := F pc idx ci k (Or.inl hd) hop
  obtain ⟨-, hat⟩ := hH.at h4 ho (ne_dead_o hci)
  have hP : va_P (xD X) cls [(xr X a, .inr (ci, fs.map (cv (xr X))))] H := fun j x hj => by
    have hz : j < 1 := (List.getElem?_eq_some_iff.mp hj).1
    rw [show j = 0 by omega] at hj
    cases hj
    exact hat
  exact va_get (own := i.1.cls) (ref := (q.2.1 k).1) (C := q.1) (T := q.2.1) (N := q.2.2.1) (Ts := u_ws q.1 q.2.1 q.2.2.1) M.1 M.2.1 (fun w hw => ((K q (List.mem_of_getElem? hq)).1 w hw).at G M.2.2.2.2.2.2.2 args) (fun _ h9 => h9) M.2.2.2.2.1 (G.K M.2.2.2.2.2.2.2) hP 0 rfl (cls_of hq) k hkN (hlink.at G M.2.2.2.2.2.2.2 args) (fun _ h9 => h9) (by rw [List.getElem?_map, hv]; rfl) hd kk
theorem okT_fits {ρ : Nat → Nat} {ty : FieldType} {v : Value} (h : okT ty v = true) : narrow ty (cv ρ v) = cv ρ v ∧ fits ty (cv ρ v) = true := by
  unfold okT at h
  split at h
  · exact ⟨rfl, rfl⟩
  · exact ⟨rfl, rfl⟩
  · exact ⟨rfl, rfl⟩
  · exact ⟨rfl, rfl⟩
  · exact ⟨rfl, rfl⟩
  · cases h
set_option maxHeartbeats 2000000 in
theorem put_W (G : GC X) (K : ClK) (M : ME X i p s m meth c) (F : FldOK i) {a ci k idx : Nat} {fs : List Value} {ty : FieldType} {v : Value} {H : Heap} {locs : List Loc} {cells slots : Nat} {ls : Array Slot} {rest : List Value} (hH : HR X h H) (h4 : 4 ≤ a) (ho : h.2.2 a = .inr (ci, fs)) (hci : ci ≠ 99) (hop : op i pc ci = some k) (hl : k < fs.length) (hty : cty ci k = some ty) (hok : okT ty v = true) (hd : decode i.2.1 pc = .ok (.putfield idx, 3))
    (kk : ∀ H1 : Heap, ∀ u : Nat, HR X (wr h a (aO ci (fs.set k v))) H1 → W p l e R s m args below meth c H1 (locs ++ [⟨xr X a, u⟩]) cells slots Q (F0 m (pc + 3) ls rest)) : W p l e R s m args below meth c H locs cells slots Q (F0 m pc ls (cv (xr X) v :: .ref (xr X a) :: rest)) := by
  obtain ⟨q, hq, hkN, hlink, hfinOK⟩ := F pc idx ci k (Or.inr hd) hop
  obtain ⟨hin0, hty0, hnm⟩ := K q (List.mem_of_getElem? hq)
  obtain ⟨hlt, hat⟩ := hH.at h4 ho (ne_dead_o hci)
  have hW := M.2.2.2.2.2.2.2
  have hKs := G.K hW
  have hts : ∀ w ∈ u_ws q.1 q.2.1 q.2.2.1, w.before args s = true := fun w hw => (hin0 w hw).at G hW args
  have hc := cls_of hq
  have hap := va_apart (own := i.1.cls) hts (fun _ h9 => h9) q.2.2.2 hty0 hnm hKs hc
  obtain ⟨r, h1, cell, q1, q2, q3, q4⟩ := hat
  have hr : r = (q.1, q.2.1, q.2.2.1) := Option.some.inj (h1.symm.trans hc)
  subst hr
  obtain ⟨hS, hfc, kC, hkC, hkind⟩ := hKs.1 ci _ hc
  obtain ⟨cf, kf, fi, f, hi, hsl⟩ := hS k hkN
  have hlay := hts _ (u_in_lay hkN)
  have hst := (u_facts hfc hkC (u_lays hts (fun _ h9 => h9) hkN) hi).1
  have hd0 : parseFieldDescriptor (q.2.1 k).2.2.1 = some ty := by
    unfold cty at hty
    rw [hq] at hty
    simp only [Option.bind_some, hkN, if_true] at hty
    rw [hty0 k hkN]
    exact hty
  obtain ⟨hn, hfit⟩ := okT_fits (ρ := xr X) hok
  have fin : ∀ H1 : Heap, H1[xr X a]? = some (cell.setSlot (((xD X).2 ci) k) (cv (xr X) v)) → H1.size = H.size → (∀ z, z ≠ xr X a → H1[z]? = H[z]?) → HR X (wr h a (aO ci (fs.set k v))) H1 := by
    intro H1 e1 e2 e3
    refine HR.wr hH h4 hlt ?_ e2 e3
    refine ⟨_, hc, ?_⟩
    refine t_OB.to (V := updV (vp_V (fs.map (cv (xr X)))) k (cv (xr X) v)) ⟨_, e1, q2, q3, t_set q4 hap hkN _⟩ (fun j _ => ?_)
    rw [vp_updV_set (by rw [List.length_map]; exact hl), ← List.map_set]
  cases hfin : (q.2.1 k).2.2.2 with
  | false =>
    unfold u_lay at hlay
    rw [if_neg (by rw [hfin]; decide)] at hlay
    have h6 := u_store hfc hkC hkind hlay hi hd0 hn hfit
    refine W.putK M.1 M.2.1 (own := i.1.cls) (ref := (q.2.1 k).1) (f := f) ⟨M.2.2.2.2.1, hlink.at G hW args, ⟨_, _, _, hi⟩, hst⟩ (by rw [q2]; exact h6) q1 q3 (by rw [hsl]; exact k2_hasslot (q4 k hkN)) rfl rfl hd fun H' e1 e2 e3 => ?_
    rw [hsl] at e1 ⊢
    exact kk H' _ (fin H' e1 e2 e3)
  | true =>
    unfold u_lay at hlay
    rw [if_pos hfin] at hlay
    obtain ⟨hini, hdecl⟩ := hfinOK hd hfin
    have hcf : m.cls = cf := by
      obtain ⟨_, _, c', _, _, _, -, -, hf', -, -, -, hown2, -⟩ := Cond.laysFinal_spec hlay
      have e1 : c' = cf := by have := hi.symm.trans hf'; simp at this; exact this.1.symm
      rw [hdecl] at hown2
      rw [← e1]; exact Option.some.inj (M.2.2.2.2.1.symm.trans hown2)
    have h6 := u_fits hfc hkC hkind (Or.inr hlay) hi hd0 hn hfit
    refine W.putFinK M.1 M.2.1 (own := i.1.cls) (ref := (q.2.1 k).1) M.2.2.2.2.1 (hlink.at G hW args) hi hst hcf (M.2.2.2.2.2.2.1 hini) (by rw [q2]; exact h6) q1 q3 (by rw [hsl]; exact k2_hasslot (q4 k hkN)) rfl rfl hd fun H' e1 e2 e3 => ?_
    rw [hsl] at e1 ⊢
    exact kk H' _ (fin H' e1 e2 e3)
end SC
