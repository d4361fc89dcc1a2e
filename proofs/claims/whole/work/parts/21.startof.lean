theorem hOld_dead {L : Nat} {xv : Nat → Int32} {q : Nat} (h : 4 ≤ q) : hOld L xv q = aDead := by
  match q, h with
  | q + 4, _ => rfl
theorem start_of (hLaw : LawOK) {p : Program} {e : Env} {s : State} {m : MethodId} {below : List Frame} {meth : Method} {c : Code} (l : Launch) {b L : Nat} {xv : Nat → Int32} (hL : L ≤ 4096) (C0 : lw_At p s m meth c b L xv) : W p l e room_1 s m #[Value.ref b] below meth c s.heap [] 0 0 (lw_Z below #[Value.ref b] s) (entryFrame m ([Value.ref b] : List Value).toArray 4) := by
  obtain ⟨hx, hb, hr, hml, hown, hts, hX, hbl, hlocks, hgv⟩ := id C0
  obtain ⟨X, hXs, ho, hold, G⟩ := gc_ex hts hX hbl hgv
  obtain ⟨h1, hrun, b1, b2⟩ := hLaw L xv hL
  obtain ⟨k, he⟩ := run_some.mp hrun
  have A := aok_of G
  have hW0 : (xs X).WarmedH s.vm := by rw [hXs]; exact State.WarmedH.refl s
  have M : ME X iL_law p s m meth c := ⟨hx, hb, hml, hr, hown, hlocks, fun h => absurd h (by decide), hW0⟩
  have hB : xB X = s.heap.size := by unfold xB; rw [hXs]
  have hcv : ([Value.ref 0] : List Value).map (cv (xr X)) = [Value.ref b] := by
    show [Value.ref (xr X 0)] = _
    rw [xr_old (by decide), ho]
  obtain ⟨hLR, hlen⟩ := ent_LR (xr X) [Value.ref 0] 4 (by decide)
  rw [hcv] at hLR
  rw [lg_entry_eq]
  have hHR : HR X (h00 L xv) s.heap := by
    refine ⟨by rw [hB]; rfl, Nat.le_refl _, fun q _ => by rw [hXs], fun q hq => by rw [hold]; rfl, fun q h4 hq => ?_, fun q hq => hOld_dead hq⟩
    have hq : q < 4 := hq
    omega
  refine exec_sound A k 226 (0, [some (.ref 0), none, none, none], [], h00 L xv) (some (.int 1), h1) iL_law he mtL_law p l e room_1 s m #[Value.ref b] below meth c (lw_Z below #[Value.ref b] s) 4 0 M (by decide) (by decide) b1 (by show h1.2.1 ≤ 0 + 7302250; omega) ?_ hlen s.heap [] _ 0 0 hHR hLR (fun q hq => by cases hq) rfl rfl
  intro pc L2 S ins len hd hs hn H locs ls cells slots hH1 hL1 hlo hc hz
  have hc : cells + 4 = h1.1 := hc
  have hz : slots + 0 = h1.2.1 := hz
  unfold semD at hs
  split at hs
  · obtain ⟨np, e1, hs⟩ := Option.bind_eq_some_iff.mp hs
    obtain ⟨d, e2, hs⟩ := Option.bind_eq_some_iff.mp hs
    split at hs
    · obtain ⟨n, dp, sp, a1, a0, n1, n2, f, g, -, -, -, -, hz⟩ := copyA_go hs
      cases hz
    · obtain ⟨j, -, -, -, -, -, -, hz⟩ := callA_call hs
      cases hz
  · obtain ⟨np, e1, hs⟩ := Option.bind_eq_some_iff.mp hs
    obtain ⟨d, e2, hs⟩ := Option.bind_eq_some_iff.mp hs
    split at hs
    · split at hs
      · split at hs
        · cases hs
        · cases hs
      · obtain ⟨q, e3, hs⟩ := Option.bind_eq_some_iff.mp hs
        obtain ⟨z, e4, hs⟩ := Option.bind_eq_some_iff.mp hs
        obtain ⟨j, -, -, -, -, -, -, hz⟩ := callA_call hs
        cases hz
    · cases hs
  · obtain ⟨np, e1, hs⟩ := Option.bind_eq_some_iff.mp hs
    split at hs
    · obtain ⟨q, e3, hs⟩ := Option.bind_eq_some_iff.mp hs
      obtain ⟨z, e4, hs⟩ := Option.bind_eq_some_iff.mp hs
      obtain ⟨j, -, -, -, -, -, -, hz⟩ := callA_call hs
      cases hz
    · cases hs
  · have hS : S = [.int 1] := by
      split at hs
      · split at hs
        · cases hs
          rfl
        · split at hs
          · cases hs
            rfl
          · cases hs
        · cases hs
      · cases hs
    subst hS
    refine va_forget (fun q hq => by rw [← hB]; exact hlo q hq) ?_
    refine W.widen (k := 600000) (n := 7302250) (by omega) (by omega) ?_
    exact lw_ret hx hb hr hlocks hd
  · split at hs
    · split at hs
      · cases hs
      · cases hs
    · cases hs
  · split at hs
    · split at hs
      · cases hs
      · cases hs
      · cases hs
    · split at hs
      · cases hs
      · cases hs
      · cases hs
    · cases hs
  · split at hs
    · split at hs
      · cases hs
      · cases hs
    · cases hs
  · cases hs
