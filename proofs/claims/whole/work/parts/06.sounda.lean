section SA
variable {X : Cx} {i : MI} {p : Program} {l : Launch} {e : Env} {R : Room} {s : State} {m : MethodId} {args : Array Value} {below : List Frame} {meth : Method} {c : Code} {Q : State → Prop} {n0 sl0 pc pc2 len : Nat} {L L2 : AL} {S S2 : List Value} {h h2 : AH} {ins : ClassFile.Instr}
def LcOK (i : MI) : Prop := ∀ (pc idx k : Nat) (v : Int64), decode i.2.1 pc = .ok (.ldc2_w idx, 3) → op i pc 0 = some k → lcT[k]? = some v → GW (.constantLong i.1.cls idx v)
theorem st_i (M : ME X i p s m meth c) {k : Nat} {v : Int32} (hlt : k < i.2.2.1) (hd : decode i.2.1 pc = .ok (.istore k, 2)) (hk : WW X i p l e R s m args below meth c Q n0 sl0 (pc + 2) (st1 L k (.int v)) S h) : WW X i p l e R s m args below meth c Q n0 sl0 pc L (.int v :: S) h := by
  intro hn H locs ls cells slots hH hL hlo hc hs
  refine lv_istore M.1 M.2.1 hd (lvOf_has hL) (by rw [hn]; exact hlt) rfl (fun ls2 h2 => ?_)
  exact hk (by rw [st1_len]; exact hn) H locs ls2 cells slots hH (st1_LR (v := .int v) h2) hlo hc hs
theorem st_in (M : ME X i p s m meth c) {k : Fin 4} {v : Int32} (hlt : (k : Nat) < i.2.2.1) (hd : decode i.2.1 pc = .ok (.istore_n k, 1)) (hk : WW X i p l e R s m args below meth c Q n0 sl0 (pc + 1) (st1 L k (.int v)) S h) : WW X i p l e R s m args below meth c Q n0 sl0 pc L (.int v :: S) h := by
  intro hn H locs ls cells slots hH hL hlo hc hs
  refine lv_istore_n M.1 M.2.1 hd rfl (lvOf_has hL) (by rw [hn]; exact hlt) rfl (fun ls2 h2 => ?_)
  exact hk (by rw [st1_len]; exact hn) H locs ls2 cells slots hH (st1_LR (v := .int v) h2) hlo hc hs
theorem st_l (M : ME X i p s m meth c) {k : Nat} {v : Int64} (hlt : k + 1 < i.2.2.1) (hd : decode i.2.1 pc = .ok (.lstore k, 2)) (hk : WW X i p l e R s m args below meth c Q n0 sl0 (pc + 2) (st2 L k (.long v)) S h) : WW X i p l e R s m args below meth c Q n0 sl0 pc L (.long v :: S) h := by
  intro hn H locs ls cells slots hH hL hlo hc hs
  refine lv_lstore M.1 M.2.1 hd (lvOf_has hL) (by rw [hn]; exact hlt) rfl (fun ls2 h2 => ?_)
  exact hk (by unfold st2; rw [List.length_set, st1_len]; exact hn) H locs ls2 cells slots hH (st2_LR (v := .long v) h2) hlo hc hs
theorem st_ln (M : ME X i p s m meth c) {k : Fin 4} {v : Int64} (hlt : (k : Nat) + 1 < i.2.2.1) (hd : decode i.2.1 pc = .ok (.lstore_n k, 1)) (hk : WW X i p l e R s m args below meth c Q n0 sl0 (pc + 1) (st2 L k (.long v)) S h) : WW X i p l e R s m args below meth c Q n0 sl0 pc L (.long v :: S) h := by
  intro hn H locs ls cells slots hH hL hlo hc hs
  refine lv_lstore_n M.1 M.2.1 hd rfl (lvOf_has hL) (by rw [hn]; exact hlt) rfl (fun ls2 h2 => ?_)
  exact hk (by unfold st2; rw [List.length_set, st1_len]; exact hn) H locs ls2 cells slots hH (st2_LR (v := .long v) h2) hlo hc hs
theorem st_a (M : ME X i p s m meth c) {k v : Nat} (hlt : k < i.2.2.1) (hd : decode i.2.1 pc = .ok (.astore k, 2)) (hk : WW X i p l e R s m args below meth c Q n0 sl0 (pc + 2) (st1 L k (.ref v)) S h) : WW X i p l e R s m args below meth c Q n0 sl0 pc L (.ref v :: S) h := by
  intro hn H locs ls cells slots hH hL hlo hc hs
  refine lv_astore M.1 M.2.1 hd (lvOf_has hL) (by rw [hn]; exact hlt) rfl (fun ls2 h2 => ?_)
  exact hk (by rw [st1_len]; exact hn) H locs ls2 cells slots hH (st1_LR (v := .ref v) h2) hlo hc hs
theorem st_an (M : ME X i p s m meth c) {k : Fin 4} {v : Nat} (hlt : (k : Nat) < i.2.2.1) (hd : decode i.2.1 pc = .ok (.astore_n k, 1)) (hk : WW X i p l e R s m args below meth c Q n0 sl0 (pc + 1) (st1 L k (.ref v)) S h) : WW X i p l e R s m args below meth c Q n0 sl0 pc L (.ref v :: S) h := by
  intro hn H locs ls cells slots hH hL hlo hc hs
  refine lv_astore_n M.1 M.2.1 hd rfl (lvOf_has hL) (by rw [hn]; exact hlt) rfl (fun ls2 h2 => ?_)
  exact hk (by rw [st1_len]; exact hn) H locs ls2 cells slots hH (st1_LR (v := .ref v) h2) hlo hc hs
theorem st_aN (M : ME X i p s m meth c) {k : Nat} (hlt : k < i.2.2.1) (hd : decode i.2.1 pc = .ok (.astore k, 2)) (hk : WW X i p l e R s m args below meth c Q n0 sl0 (pc + 2) (st1 L k .null) S h) : WW X i p l e R s m args below meth c Q n0 sl0 pc L (.null :: S) h := by
  intro hn H locs ls cells slots hH hL hlo hc hs
  refine lv_astoreN M.1 M.2.1 hd (lvOf_has hL) (by rw [hn]; exact hlt) rfl (fun ls2 h2 => ?_)
  exact hk (by rw [st1_len]; exact hn) H locs ls2 cells slots hH (st1_LR (v := .null) h2) hlo hc hs
theorem st_anN (M : ME X i p s m meth c) {k : Fin 4} (hlt : (k : Nat) < i.2.2.1) (hd : decode i.2.1 pc = .ok (.astore_n k, 1)) (hk : WW X i p l e R s m args below meth c Q n0 sl0 (pc + 1) (st1 L k .null) S h) : WW X i p l e R s m args below meth c Q n0 sl0 pc L (.null :: S) h := by
  intro hn H locs ls cells slots hH hL hlo hc hs
  refine lv_astore_nN M.1 M.2.1 hd rfl (lvOf_has hL) (by rw [hn]; exact hlt) rfl (fun ls2 h2 => ?_)
  exact hk (by rw [st1_len]; exact hn) H locs ls2 cells slots hH (st1_LR (v := .null) h2) hlo hc hs
theorem st_inc (M : ME X i p s m meth c) {k : Nat} {n : Int} {v : Int32} (hlt : k < i.2.2.1) (hv : ld L k = some (.int v)) (hd : decode i.2.1 pc = .ok (.iinc k n, 3)) (hk : WW X i p l e R s m args below meth c Q n0 sl0 (pc + 3) (st1 L k (.int (v + Int32.ofInt n))) S h) : WW X i p l e R s m args below meth c Q n0 sl0 pc L S h := by
  intro hn H locs ls cells slots hH hL hlo hc hs
  obtain ⟨k2, hk2⟩ := List.getElem?_of_mem (lvOf_mem (ρ := xr X) (ld_some hv))
  refine lv_iinc M.1 M.2.1 hd (lvOf_has hL) hk2 rfl (by rw [hn]; exact hlt) rfl (fun ls2 h2 => ?_)
  exact hk (by rw [st1_len]; exact hn) H locs ls2 cells slots hH (st1_LR (v := .int (v + Int32.ofInt n)) h2) hlo hc hs
set_option maxHeartbeats 4000000 in
theorem soundA (G : GC X) (M : ME X i p s m meth c) (hlc : LcOK i) (hd : decode i.2.1 pc = .ok (ins, len)) (hs : semA i ins len pc L S h = mk pc2 L2 S2 h2) (hk : WW X i p l e R s m args below meth c Q n0 sl0 pc2 L2 S2 h2) : WW X i p l e R s m args below meth c Q n0 sl0 pc L S h := by
  unfold semA at hs
  split at hs
  · obtain ⟨rfl, rfl, rfl, rfl⟩ := mk_inj hs
    exact fun hn H locs ls cells slots hH hL hlo hc hz => lv_null M.1 M.2.1 hd (hk hn H locs ls cells slots hH hL hlo hc hz)
  · obtain ⟨rfl, rfl, rfl, rfl⟩ := mk_inj hs
    exact fun hn H locs ls cells slots hH hL hlo hc hz => lv_iconst M.1 M.2.1 hd rfl (hk hn H locs ls cells slots hH hL hlo hc hz)
  · obtain ⟨rfl, rfl, rfl, rfl⟩ := mk_inj hs
    exact fun hn H locs ls cells slots hH hL hlo hc hz => lv_bipush M.1 M.2.1 hd rfl (hk hn H locs ls cells slots hH hL hlo hc hz)
  · obtain ⟨rfl, rfl, rfl, rfl⟩ := mk_inj hs
    exact fun hn H locs ls cells slots hH hL hlo hc hz => lv_sipush M.1 M.2.1 hd rfl (hk hn H locs ls cells slots hH hL hlo hc hz)
  · obtain ⟨rfl, rfl, rfl, rfl⟩ := mk_inj hs
    exact fun hn H locs ls cells slots hH hL hlo hc hz => lv_lconst M.1 M.2.1 hd rfl (hk hn H locs ls cells slots hH hL hlo hc hz)
  · cases h1 : op i pc 0 with
    | none => rw [h1] at hs; cases hs
    | some k =>
      rw [h1] at hs
      cases h3 : lcT[k]? with
      | none => simp only [Option.bind_some, h3] at hs; cases hs
      | some v =>
        simp only [Option.bind_some, h3] at hs
        obtain ⟨rfl, rfl, rfl, rfl⟩ := mk_inj hs
        exact fun hn H locs ls cells slots hH hL hlo hc hz => lv_ldc2 M.1 M.2.1 M.2.2.2.2.1 ((hlc _ _ _ _ hd h1 h3).at G M.2.2.2.2.2.2.2 args) hd (hk hn H locs ls cells slots hH hL hlo hc hz)
  · split at hs
    · rename_i hv
      obtain ⟨rfl, rfl, rfl, rfl⟩ := mk_inj hs
      exact fun hn H locs ls cells slots hH hL hlo hc hz => lv_iload M.1 M.2.1 hd (hL.2.2 _ _ (ld_some hv)) (hk hn H locs ls cells slots hH hL hlo hc hz)
    · cases hs
  · split at hs
    · rename_i hv
      obtain ⟨rfl, rfl, rfl, rfl⟩ := mk_inj hs
      exact fun hn H locs ls cells slots hH hL hlo hc hz => lv_iload_n M.1 M.2.1 hd rfl (hL.2.2 _ _ (ld_some hv)) (hk hn H locs ls cells slots hH hL hlo hc hz)
    · cases hs
  · split at hs
    · rename_i hv
      obtain ⟨rfl, rfl, rfl, rfl⟩ := mk_inj hs
      exact fun hn H locs ls cells slots hH hL hlo hc hz => lv_lload M.1 M.2.1 hd (hL.2.2 _ _ (ld_some hv)) (hk hn H locs ls cells slots hH hL hlo hc hz)
    · cases hs
  · split at hs
    · rename_i hv
      obtain ⟨rfl, rfl, rfl, rfl⟩ := mk_inj hs
      exact fun hn H locs ls cells slots hH hL hlo hc hz => lv_lload_n M.1 M.2.1 hd rfl (hL.2.2 _ _ (ld_some hv)) (hk hn H locs ls cells slots hH hL hlo hc hz)
    · cases hs
  · split at hs
    · rename_i hv
      obtain ⟨rfl, rfl, rfl, rfl⟩ := mk_inj hs
      exact fun hn H locs ls cells slots hH hL hlo hc hz => lv_aload M.1 M.2.1 hd (hL.2.2 _ _ (ld_some hv)) (hk hn H locs ls cells slots hH hL hlo hc hz)
    · rename_i hv
      obtain ⟨rfl, rfl, rfl, rfl⟩ := mk_inj hs
      exact fun hn H locs ls cells slots hH hL hlo hc hz => lv_aloadN M.1 M.2.1 hd (hL.2.2 _ _ (ld_some hv)) (hk hn H locs ls cells slots hH hL hlo hc hz)
    · cases hs
  · split at hs
    · rename_i hv
      obtain ⟨rfl, rfl, rfl, rfl⟩ := mk_inj hs
      exact fun hn H locs ls cells slots hH hL hlo hc hz => lv_aload_n M.1 M.2.1 hd rfl (hL.2.2 _ _ (ld_some hv)) (hk hn H locs ls cells slots hH hL hlo hc hz)
    · rename_i hv
      obtain ⟨rfl, rfl, rfl, rfl⟩ := mk_inj hs
      exact fun hn H locs ls cells slots hH hL hlo hc hz => lv_aload_nN M.1 M.2.1 hd rfl (hL.2.2 _ _ (ld_some hv)) (hk hn H locs ls cells slots hH hL hlo hc hz)
    · cases hs
  · split at hs
    · split at hs
      · rename_i hlt
        obtain ⟨rfl, rfl, rfl, rfl⟩ := mk_inj hs
        exact st_i M hlt hd hk
      · cases hs
    · cases hs
  · split at hs
    · split at hs
      · rename_i hlt
        obtain ⟨rfl, rfl, rfl, rfl⟩ := mk_inj hs
        exact st_in M hlt hd hk
      · cases hs
    · cases hs
  · split at hs
    · split at hs
      · rename_i hlt
        obtain ⟨rfl, rfl, rfl, rfl⟩ := mk_inj hs
        exact st_l M hlt hd hk
      · cases hs
    · cases hs
  · split at hs
    · split at hs
      · rename_i hlt
        obtain ⟨rfl, rfl, rfl, rfl⟩ := mk_inj hs
        exact st_ln M hlt hd hk
      · cases hs
    · cases hs
  · split at hs
    · split at hs
      · rename_i hlt
        obtain ⟨rfl, rfl, rfl, rfl⟩ := mk_inj hs
        exact st_a M hlt hd hk
      · cases hs
    · split at hs
      · rename_i hlt
        obtain ⟨rfl, rfl, rfl, rfl⟩ := mk_inj hs
        exact st_aN M hlt hd hk
      · cases hs
    · cases hs
  · split at hs
    · split at hs
      · rename_i hlt
        obtain ⟨rfl, rfl, rfl, rfl⟩ := mk_inj hs
        exact st_an M hlt hd hk
      · cases hs
    · split at hs
      · rename_i hlt
        obtain ⟨rfl, rfl, rfl, rfl⟩ := mk_inj hs
        exact st_anN M hlt hd hk
      · cases hs
    · cases hs
  · split at hs
    · rename_i hv
      split at hs
      · rename_i hlt
        obtain ⟨rfl, rfl, rfl, rfl⟩ := mk_inj hs
        exact st_inc M hlt hv hd hk
      · cases hs
    · cases hs
  · split at hs
    · split at hs
      · rename_i hc1
        obtain ⟨rfl, rfl, rfl, rfl⟩ := mk_inj hs
        exact fun hn H locs ls cells slots hH hL hlo hc hz => lv_dup M.1 M.2.1 hd (by rw [cv_cat]; exact hc1) (hk hn H locs ls cells slots hH hL hlo hc hz)
      · cases hs
    · cases hs
  · split at hs
    · split at hs
      · rename_i hc1
        obtain ⟨rfl, rfl, rfl, rfl⟩ := mk_inj hs
        exact fun hn H locs ls cells slots hH hL hlo hc hz => lv_dup2_11 M.1 M.2.1 hd (by rw [cv_cat]; exact hc1.1) (by rw [cv_cat]; exact hc1.2) (hk hn H locs ls cells slots hH hL hlo hc hz)
      · cases hs
    · cases hs
  · unfold bin at hs
    split at hs
    · obtain ⟨rfl, rfl, rfl, rfl⟩ := mk_inj hs
      exact fun hn H locs ls cells slots hH hL hlo hc hz => lv_iadd M.1 M.2.1 hd (hk hn H locs ls cells slots hH hL hlo hc hz)
    · cases hs
  · unfold bin at hs
    split at hs
    · obtain ⟨rfl, rfl, rfl, rfl⟩ := mk_inj hs
      exact fun hn H locs ls cells slots hH hL hlo hc hz => lv_isub M.1 M.2.1 hd (hk hn H locs ls cells slots hH hL hlo hc hz)
    · cases hs
  · unfold bin at hs
    split at hs
    · obtain ⟨rfl, rfl, rfl, rfl⟩ := mk_inj hs
      exact fun hn H locs ls cells slots hH hL hlo hc hz => lv_imul M.1 M.2.1 hd (hk hn H locs ls cells slots hH hL hlo hc hz)
    · cases hs
  · unfold bin at hs
    split at hs
    · obtain ⟨rfl, rfl, rfl, rfl⟩ := mk_inj hs
      exact fun hn H locs ls cells slots hH hL hlo hc hz => lv_iand M.1 M.2.1 hd (hk hn H locs ls cells slots hH hL hlo hc hz)
    · cases hs
  · unfold bin at hs
    split at hs
    · obtain ⟨rfl, rfl, rfl, rfl⟩ := mk_inj hs
      exact fun hn H locs ls cells slots hH hL hlo hc hz => lv_ixor M.1 M.2.1 hd (hk hn H locs ls cells slots hH hL hlo hc hz)
    · cases hs
  · split at hs
    · split at hs
      · cases hs
      · rename_i hy
        obtain ⟨rfl, rfl, rfl, rfl⟩ := mk_inj hs
        exact fun hn H locs ls cells slots hH hL hlo hc hz => lv_idiv M.1 M.2.1 hd hy (hk hn H locs ls cells slots hH hL hlo hc hz)
    · cases hs
  · split at hs
    · split at hs
      · cases hs
      · rename_i hy
        obtain ⟨rfl, rfl, rfl, rfl⟩ := mk_inj hs
        exact fun hn H locs ls cells slots hH hL hlo hc hz => lv_irem M.1 M.2.1 hd hy (hk hn H locs ls cells slots hH hL hlo hc hz)
    · cases hs
  · split at hs
    · obtain ⟨rfl, rfl, rfl, rfl⟩ := mk_inj hs
      exact fun hn H locs ls cells slots hH hL hlo hc hz => lv_ineg M.1 M.2.1 hd (hk hn H locs ls cells slots hH hL hlo hc hz)
    · cases hs
  · unfold binL at hs
    split at hs
    · obtain ⟨rfl, rfl, rfl, rfl⟩ := mk_inj hs
      exact fun hn H locs ls cells slots hH hL hlo hc hz => lv_ladd M.1 M.2.1 hd (hk hn H locs ls cells slots hH hL hlo hc hz)
    · cases hs
  · unfold binL at hs
    split at hs
    · obtain ⟨rfl, rfl, rfl, rfl⟩ := mk_inj hs
      exact fun hn H locs ls cells slots hH hL hlo hc hz => lv_lsub M.1 M.2.1 hd (hk hn H locs ls cells slots hH hL hlo hc hz)
    · cases hs
  · unfold binL at hs
    split at hs
    · obtain ⟨rfl, rfl, rfl, rfl⟩ := mk_inj hs
      exact fun hn H locs ls cells slots hH hL hlo hc hz => lv_lmul M.1 M.2.1 hd (hk hn H locs ls cells slots hH hL hlo hc hz)
    · cases hs
  · split at hs
    · split at hs
      · cases hs
      · rename_i hy
        obtain ⟨rfl, rfl, rfl, rfl⟩ := mk_inj hs
        exact fun hn H locs ls cells slots hH hL hlo hc hz => lv_ldiv M.1 M.2.1 hd hy (hk hn H locs ls cells slots hH hL hlo hc hz)
    · cases hs
  · split at hs
    · split at hs
      · cases hs
      · rename_i hy
        obtain ⟨rfl, rfl, rfl, rfl⟩ := mk_inj hs
        exact fun hn H locs ls cells slots hH hL hlo hc hz => lv_lrem M.1 M.2.1 hd hy (hk hn H locs ls cells slots hH hL hlo hc hz)
    · cases hs
  · split at hs
    · obtain ⟨rfl, rfl, rfl, rfl⟩ := mk_inj hs
      exact fun hn H locs ls cells slots hH hL hlo hc hz => lv_i2l M.1 M.2.1 hd rfl (hk hn H locs ls cells slots hH hL hlo hc hz)
    · cases hs
  · split at hs
    · obtain ⟨rfl, rfl, rfl, rfl⟩ := mk_inj hs
      exact fun hn H locs ls cells slots hH hL hlo hc hz => lv_i2b M.1 M.2.1 hd rfl (hk hn H locs ls cells slots hH hL hlo hc hz)
    · cases hs
  · split at hs
    · obtain ⟨rfl, rfl, rfl, rfl⟩ := mk_inj hs
      exact fun hn H locs ls cells slots hH hL hlo hc hz => lv_i2s M.1 M.2.1 hd rfl (hk hn H locs ls cells slots hH hL hlo hc hz)
    · cases hs
  · split at hs
    · obtain ⟨rfl, rfl, rfl, rfl⟩ := mk_inj hs
      exact fun hn H locs ls cells slots hH hL hlo hc hz => W.lcmp M.1 M.2.1 hd (hk hn H locs ls cells slots hH hL hlo hc hz)
    · cases hs
  · cases hs
end SA
