section SB
variable {X : Cx} {i : MI} {p : Program} {l : Launch} {e : Env} {R : Room} {s : State} {m : MethodId} {args : Array Value} {below : List Frame} {meth : Method} {c : Code} {Q : State → Prop} {n0 sl0 pc pc2 len : Nat} {L L2 : AL} {S S2 : List Value} {h h2 : AH} {ins : ClassFile.Instr}
theorem tg_mk {pc : Nat} {off : Int} {k : Nat → Option Act} {y : Act} (hs : tg pc off k = some y) : ∃ t : Nat, (pc : Int) + off = (t : Int) ∧ k t = some y := by
  unfold tg at hs
  split at hs
  · rename_i h0
    exact ⟨((pc : Int) + off).toNat, (Int.toNat_of_nonneg h0).symm, hs⟩
  · cases hs
set_option maxHeartbeats 4000000 in
theorem soundB (M : ME X i p s m meth c) (hd : decode i.2.1 pc = .ok (ins, len)) (hs : semB ins len pc L S h = mk pc2 L2 S2 h2) (hk : WW X i p l e R s m args below meth c Q n0 sl0 pc2 L2 S2 h2) : WW X i p l e R s m args below meth c Q n0 sl0 pc L S h := by
  unfold semB at hs
  split at hs
  · obtain ⟨t, ht, hs⟩ := tg_mk hs
    obtain ⟨rfl, rfl, rfl, rfl⟩ := mk_inj hs
    exact fun hn H locs ls cells slots hH hL hlo hc hz => lv_goto M.1 M.2.1 hd ht (hk hn H locs ls cells slots hH hL hlo hc hz)
  · split at hs
    · obtain ⟨t, ht, hs⟩ := tg_mk hs
      unfold cnd at hs
      split at hs
      · split at hs
        · rename_i hP
          obtain ⟨rfl, rfl, rfl, rfl⟩ := mk_inj hs
          exact fun hn H locs ls cells slots hH hL hlo hc hz => lv_if_eq M.1 M.2.1 hd ht (fun _ => (hk hn H locs ls cells slots hH hL hlo hc hz)) (fun w => absurd hP w)
        · rename_i hP
          obtain ⟨rfl, rfl, rfl, rfl⟩ := mk_inj hs
          exact fun hn H locs ls cells slots hH hL hlo hc hz => lv_if_eq M.1 M.2.1 hd ht (fun w => absurd w hP) (fun _ => (hk hn H locs ls cells slots hH hL hlo hc hz))
      · split at hs
        · rename_i hP
          obtain ⟨rfl, rfl, rfl, rfl⟩ := mk_inj hs
          exact fun hn H locs ls cells slots hH hL hlo hc hz => lv_if_ne M.1 M.2.1 hd ht (fun w => absurd hP w) (fun _ => (hk hn H locs ls cells slots hH hL hlo hc hz))
        · rename_i hP
          obtain ⟨rfl, rfl, rfl, rfl⟩ := mk_inj hs
          exact fun hn H locs ls cells slots hH hL hlo hc hz => lv_if_ne M.1 M.2.1 hd ht (fun _ => (hk hn H locs ls cells slots hH hL hlo hc hz)) (fun w => absurd w hP)
      · split at hs
        · rename_i hP
          obtain ⟨rfl, rfl, rfl, rfl⟩ := mk_inj hs
          exact fun hn H locs ls cells slots hH hL hlo hc hz => lv_if_lt M.1 M.2.1 hd ht (fun _ => (hk hn H locs ls cells slots hH hL hlo hc hz)) (fun w => absurd hP w)
        · rename_i hP
          obtain ⟨rfl, rfl, rfl, rfl⟩ := mk_inj hs
          exact fun hn H locs ls cells slots hH hL hlo hc hz => lv_if_lt M.1 M.2.1 hd ht (fun w => absurd w hP) (fun _ => (hk hn H locs ls cells slots hH hL hlo hc hz))
      · split at hs
        · rename_i hP
          obtain ⟨rfl, rfl, rfl, rfl⟩ := mk_inj hs
          exact fun hn H locs ls cells slots hH hL hlo hc hz => lv_if_ge M.1 M.2.1 hd ht (fun _ => (hk hn H locs ls cells slots hH hL hlo hc hz)) (fun w => absurd hP w)
        · rename_i hP
          obtain ⟨rfl, rfl, rfl, rfl⟩ := mk_inj hs
          exact fun hn H locs ls cells slots hH hL hlo hc hz => lv_if_ge M.1 M.2.1 hd ht (fun w => absurd w hP) (fun _ => (hk hn H locs ls cells slots hH hL hlo hc hz))
      · split at hs
        · rename_i hP
          obtain ⟨rfl, rfl, rfl, rfl⟩ := mk_inj hs
          exact fun hn H locs ls cells slots hH hL hlo hc hz => lv_if_gt M.1 M.2.1 hd ht (fun _ => (hk hn H locs ls cells slots hH hL hlo hc hz)) (fun w => absurd hP w)
        · rename_i hP
          obtain ⟨rfl, rfl, rfl, rfl⟩ := mk_inj hs
          exact fun hn H locs ls cells slots hH hL hlo hc hz => lv_if_gt M.1 M.2.1 hd ht (fun w => absurd w hP) (fun _ => (hk hn H locs ls cells slots hH hL hlo hc hz))
      · split at hs
        · rename_i hP
          obtain ⟨rfl, rfl, rfl, rfl⟩ := mk_inj hs
          exact fun hn H locs ls cells slots hH hL hlo hc hz => lv_if_le M.1 M.2.1 hd ht (fun _ => (hk hn H locs ls cells slots hH hL hlo hc hz)) (fun w => absurd hP w)
        · rename_i hP
          obtain ⟨rfl, rfl, rfl, rfl⟩ := mk_inj hs
          exact fun hn H locs ls cells slots hH hL hlo hc hz => lv_if_le M.1 M.2.1 hd ht (fun w => absurd w hP) (fun _ => (hk hn H locs ls cells slots hH hL hlo hc hz))
    · cases hs
  · split at hs
    · obtain ⟨t, ht, hs⟩ := tg_mk hs
      unfold cnd at hs
      split at hs
      · split at hs
        · rename_i hP
          obtain ⟨rfl, rfl, rfl, rfl⟩ := mk_inj hs
          exact fun hn H locs ls cells slots hH hL hlo hc hz => lv_icmp_eq M.1 M.2.1 hd ht (fun _ => (hk hn H locs ls cells slots hH hL hlo hc hz)) (fun w => absurd hP w)
        · rename_i hP
          obtain ⟨rfl, rfl, rfl, rfl⟩ := mk_inj hs
          exact fun hn H locs ls cells slots hH hL hlo hc hz => lv_icmp_eq M.1 M.2.1 hd ht (fun w => absurd w hP) (fun _ => (hk hn H locs ls cells slots hH hL hlo hc hz))
      · split at hs
        · rename_i hP
          obtain ⟨rfl, rfl, rfl, rfl⟩ := mk_inj hs
          exact fun hn H locs ls cells slots hH hL hlo hc hz => lv_icmp_ne M.1 M.2.1 hd ht (fun w => absurd hP w) (fun _ => (hk hn H locs ls cells slots hH hL hlo hc hz))
        · rename_i hP
          obtain ⟨rfl, rfl, rfl, rfl⟩ := mk_inj hs
          exact fun hn H locs ls cells slots hH hL hlo hc hz => lv_icmp_ne M.1 M.2.1 hd ht (fun _ => (hk hn H locs ls cells slots hH hL hlo hc hz)) (fun w => absurd w hP)
      · split at hs
        · rename_i hP
          obtain ⟨rfl, rfl, rfl, rfl⟩ := mk_inj hs
          exact fun hn H locs ls cells slots hH hL hlo hc hz => lv_icmp_lt M.1 M.2.1 hd ht (fun _ => (hk hn H locs ls cells slots hH hL hlo hc hz)) (fun w => absurd hP w)
        · rename_i hP
          obtain ⟨rfl, rfl, rfl, rfl⟩ := mk_inj hs
          exact fun hn H locs ls cells slots hH hL hlo hc hz => lv_icmp_lt M.1 M.2.1 hd ht (fun w => absurd w hP) (fun _ => (hk hn H locs ls cells slots hH hL hlo hc hz))
      · split at hs
        · rename_i hP
          obtain ⟨rfl, rfl, rfl, rfl⟩ := mk_inj hs
          exact fun hn H locs ls cells slots hH hL hlo hc hz => lv_icmp_ge M.1 M.2.1 hd ht (fun _ => (hk hn H locs ls cells slots hH hL hlo hc hz)) (fun w => absurd hP w)
        · rename_i hP
          obtain ⟨rfl, rfl, rfl, rfl⟩ := mk_inj hs
          exact fun hn H locs ls cells slots hH hL hlo hc hz => lv_icmp_ge M.1 M.2.1 hd ht (fun w => absurd w hP) (fun _ => (hk hn H locs ls cells slots hH hL hlo hc hz))
      · split at hs
        · rename_i hP
          obtain ⟨rfl, rfl, rfl, rfl⟩ := mk_inj hs
          exact fun hn H locs ls cells slots hH hL hlo hc hz => lv_icmp_gt M.1 M.2.1 hd ht (fun _ => (hk hn H locs ls cells slots hH hL hlo hc hz)) (fun w => absurd hP w)
        · rename_i hP
          obtain ⟨rfl, rfl, rfl, rfl⟩ := mk_inj hs
          exact fun hn H locs ls cells slots hH hL hlo hc hz => lv_icmp_gt M.1 M.2.1 hd ht (fun w => absurd w hP) (fun _ => (hk hn H locs ls cells slots hH hL hlo hc hz))
      · split at hs
        · rename_i hP
          obtain ⟨rfl, rfl, rfl, rfl⟩ := mk_inj hs
          exact fun hn H locs ls cells slots hH hL hlo hc hz => lv_icmp_le M.1 M.2.1 hd ht (fun _ => (hk hn H locs ls cells slots hH hL hlo hc hz)) (fun w => absurd hP w)
        · rename_i hP
          obtain ⟨rfl, rfl, rfl, rfl⟩ := mk_inj hs
          exact fun hn H locs ls cells slots hH hL hlo hc hz => lv_icmp_le M.1 M.2.1 hd ht (fun w => absurd w hP) (fun _ => (hk hn H locs ls cells slots hH hL hlo hc hz))
    · cases hs
  · split at hs
    · obtain ⟨rfl, rfl, rfl, rfl⟩ := mk_inj hs
      exact fun hn H locs ls cells slots hH hL hlo hc hz => lv_ifnull M.1 M.2.1 hd (hk hn H locs ls cells slots hH hL hlo hc hz)
    · obtain ⟨t, ht, hs⟩ := tg_mk hs
      obtain ⟨rfl, rfl, rfl, rfl⟩ := mk_inj hs
      exact fun hn H locs ls cells slots hH hL hlo hc hz => lv_ifnullN M.1 M.2.1 hd ht (hk hn H locs ls cells slots hH hL hlo hc hz)
    · cases hs
  · split at hs
    · obtain ⟨t, ht, hs⟩ := tg_mk hs
      obtain ⟨rfl, rfl, rfl, rfl⟩ := mk_inj hs
      exact fun hn H locs ls cells slots hH hL hlo hc hz => lv_ifnonnull M.1 M.2.1 hd ht (hk hn H locs ls cells slots hH hL hlo hc hz)
    · obtain ⟨rfl, rfl, rfl, rfl⟩ := mk_inj hs
      exact fun hn H locs ls cells slots hH hL hlo hc hz => lv_ifnonnullN M.1 M.2.1 hd (hk hn H locs ls cells slots hH hL hlo hc hz)
    · cases hs
  · split at hs
    · split at hs
      · rename_i hP
        obtain ⟨t, ht, hs⟩ := tg_mk hs
        obtain ⟨rfl, rfl, rfl, rfl⟩ := mk_inj hs
        exact fun hn H locs ls cells slots hH hL hlo hc hz => lv_tableOut M.1 M.2.1 hd hP ht (hk hn H locs ls cells slots hH hL hlo hc hz)
      · rename_i hP
        obtain ⟨off, ho, hs⟩ := Option.bind_eq_some_iff.mp hs
        obtain ⟨t, ht, hs⟩ := tg_mk hs
        obtain ⟨rfl, rfl, rfl, rfl⟩ := mk_inj hs
        exact fun hn H locs ls cells slots hH hL hlo hc hz => lv_tableIn M.1 M.2.1 hd (fun w => hP (Or.inl w)) (fun w => hP (Or.inr w)) ho ht (hk hn H locs ls cells slots hH hL hlo hc hz)
    · cases hs
  · split at hs
    · split at hs
      · rename_i hP
        obtain ⟨t, ht, hs⟩ := tg_mk hs
        obtain ⟨rfl, rfl, rfl, rfl⟩ := mk_inj hs
        exact fun hn H locs ls cells slots hH hL hlo hc hz => lv_lookup M.1 M.2.1 hd hP rfl ht (hk hn H locs ls cells slots hH hL hlo hc hz)
      · cases hs
    · cases hs
  · cases hs
end SB
