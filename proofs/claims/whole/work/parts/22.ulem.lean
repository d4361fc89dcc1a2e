def gf (h : AH) (l : List (Nat × Nat)) (a : Nat) : Option Value := if a < 4 then none else (rO h a).bind fun q => (l.lookup q.1).bind fun k => q.2[k]?
def pf (h : AH) (l : List (Nat × Nat)) (a : Nat) (v : Value) : Option AH := (rO h a).bind fun q => (l.lookup q.1).bind fun k => (cty q.1 k).bind fun ty => if a < 4 ∨ q.2.length ≤ k ∨ okT ty v = false then none else some (wr h a (aO q.1 (q.2.set k v)))
def gi (h : AH) (a : Nat) (j : Int32) : Option Int32 := (rI h a).bind fun q => if j < 0 ∨ q.1 ≤ j.toNatClampNeg then none else some (q.2 j.toNatClampNeg)
def pi (h : AH) (a : Nat) (j x : Int32) : Option AH := (rI h a).bind fun q => if a < 4 ∨ j < 0 ∨ q.1 ≤ j.toNatClampNeg then none else some (wr h a (aI q.1 (upd q.2 j.toNatClampNeg x)))
def ga (h : AH) (a : Nat) (j : Int32) : Option Value := (rR h a).bind fun q => if a < 4 ∨ j < 0 ∨ q.2.1 ≤ j.toNatClampNeg then none else some (rfv (q.2.2 j.toNatClampNeg))
def pa (h : AH) (a : Nat) (j : Int32) (v : Nat) : Option AH := (rR h a).bind fun q => (rO h v).bind fun z => if a < 4 ∨ v < 4 ∨ j < 0 ∨ q.2.1 ≤ j.toNatClampNeg ∨ (q.1, z.1) ∉ asT then none else some (wr h a (aR q.1 q.2.1 (va_up q.2.2 j.toNatClampNeg (some v))))
def vc (h : AH) (l : List (Nat × Nat)) (a : Nat) : Option Nat := (rO h a).bind fun q => l.lookup q.1
def gl (h : AH) (a : Nat) : Option Int32 := (rI h a).bind fun q => some (Int32.ofNat q.1)
section UL
variable {m : Nat} {i : MI} {pc pc2 pc3 : Nat} {L : AL} {S : List Value} {h : AH}
theorem mk_act (a : Nat) (b : AL) (c : List Value) (d : AH) : act run m (mk a b c d) = run m (a, b, c, d) := rfl
theorem U_null (hm : mtab[m]? = some i) (hd : decode i.2.1 pc = .ok (.aconst_null, 1)) (hp : pc + 1 = pc2) : run m (pc, L, S, h) = run m (pc2, L, .null :: S, h) := by
  subst hp
  exact run_go hm hd rfl
theorem U_iconst (hm : mtab[m]? = some i) {n : Int} {v : Int32} (hd : decode i.2.1 pc = .ok (.iconst n, 1)) (hv : Int32.ofInt n = v) (hp : pc + 1 = pc2) : run m (pc, L, S, h) = run m (pc2, L, .int v :: S, h) := by
  subst hp hv
  exact run_go hm hd rfl
theorem U_bipush (hm : mtab[m]? = some i) {n : Int} {v : Int32} (hd : decode i.2.1 pc = .ok (.bipush n, 2)) (hv : (Int8.ofInt n).toInt32 = v) (hp : pc + 2 = pc2) : run m (pc, L, S, h) = run m (pc2, L, .int v :: S, h) := by
  subst hp hv
  exact run_go hm hd rfl
theorem U_sipush (hm : mtab[m]? = some i) {n : Int} {v : Int32} (hd : decode i.2.1 pc = .ok (.sipush n, 3)) (hv : (Int16.ofInt n).toInt32 = v) (hp : pc + 3 = pc2) : run m (pc, L, S, h) = run m (pc2, L, .int v :: S, h) := by
  subst hp hv
  exact run_go hm hd rfl
theorem U_lconst (hm : mtab[m]? = some i) {n : Fin 2} {v : Int64} (hd : decode i.2.1 pc = .ok (.lconst n, 1)) (hv : Int64.ofNat (n : Nat) = v) (hp : pc + 1 = pc2) : run m (pc, L, S, h) = run m (pc2, L, .long v :: S, h) := by
  subst hp hv
  exact run_go hm hd rfl
theorem U_ldc2 (hm : mtab[m]? = some i) {n k : Nat} {v : Int64} (hd : decode i.2.1 pc = .ok (.ldc2_w n, 3)) (ho : op i pc 0 = some k) (hv : lcT[k]? = some v) (hp : pc + 3 = pc2) : run m (pc, L, S, h) = run m (pc2, L, .long v :: S, h) := by
  subst hp
  refine run_go hm hd ?_
  show (op i pc 0).bind _ = _
  rw [ho, Option.bind_some, hv]
  rfl
theorem U_iload (hm : mtab[m]? = some i) {k : Nat} {v : Int32} (hd : decode i.2.1 pc = .ok (.iload k, 2)) (hl : ld L k = some (.int v)) (hp : pc + 2 = pc2) : run m (pc, L, S, h) = run m (pc2, L, .int v :: S, h) := by
  subst hp
  refine run_go hm hd ?_
  show (match ld L k with | some (.int v) => _ | _ => none) = _
  rw [hl]
theorem U_iload_n (hm : mtab[m]? = some i) {k : Fin 4} {v : Int32} (hd : decode i.2.1 pc = .ok (.iload_n k, 1)) (hl : ld L k = some (.int v)) (hp : pc + 1 = pc2) : run m (pc, L, S, h) = run m (pc2, L, .int v :: S, h) := by
  subst hp
  refine run_go hm hd ?_
  show (match ld L k with | some (.int v) => _ | _ => none) = _
  rw [hl]
theorem U_lload (hm : mtab[m]? = some i) {k : Nat} {v : Int64} (hd : decode i.2.1 pc = .ok (.lload k, 2)) (hl : ld L k = some (.long v)) (hp : pc + 2 = pc2) : run m (pc, L, S, h) = run m (pc2, L, .long v :: S, h) := by
  subst hp
  refine run_go hm hd ?_
  show (match ld L k with | some (.long v) => _ | _ => none) = _
  rw [hl]
theorem U_lload_n (hm : mtab[m]? = some i) {k : Fin 4} {v : Int64} (hd : decode i.2.1 pc = .ok (.lload_n k, 1)) (hl : ld L k = some (.long v)) (hp : pc + 1 = pc2) : run m (pc, L, S, h) = run m (pc2, L, .long v :: S, h) := by
  subst hp
  refine run_go hm hd ?_
  show (match ld L k with | some (.long v) => _ | _ => none) = _
  rw [hl]
theorem U_aload (hm : mtab[m]? = some i) {k v : Nat} (hd : decode i.2.1 pc = .ok (.aload k, 2)) (hl : ld L k = some (.ref v)) (hp : pc + 2 = pc2) : run m (pc, L, S, h) = run m (pc2, L, .ref v :: S, h) := by
  subst hp
  refine run_go hm hd ?_
  show (match ld L k with | some (.ref v) => _ | some .null => _ | _ => none) = _
  rw [hl]
theorem U_aload_n (hm : mtab[m]? = some i) {k : Fin 4} {v : Nat} (hd : decode i.2.1 pc = .ok (.aload_n k, 1)) (hl : ld L k = some (.ref v)) (hp : pc + 1 = pc2) : run m (pc, L, S, h) = run m (pc2, L, .ref v :: S, h) := by
  subst hp
  refine run_go hm hd ?_
  show (match ld L k with | some (.ref v) => _ | some .null => _ | _ => none) = _
  rw [hl]
theorem U_aloadN (hm : mtab[m]? = some i) {k : Nat} (hd : decode i.2.1 pc = .ok (.aload k, 2)) (hl : ld L k = some .null) (hp : pc + 2 = pc2) : run m (pc, L, S, h) = run m (pc2, L, .null :: S, h) := by
  subst hp
  refine run_go hm hd ?_
  show (match ld L k with | some (.ref v) => _ | some .null => _ | _ => none) = _
  rw [hl]
theorem U_aload_nN (hm : mtab[m]? = some i) {k : Fin 4} (hd : decode i.2.1 pc = .ok (.aload_n k, 1)) (hl : ld L k = some .null) (hp : pc + 1 = pc2) : run m (pc, L, S, h) = run m (pc2, L, .null :: S, h) := by
  subst hp
  refine run_go hm hd ?_
  show (match ld L k with | some (.ref v) => _ | some .null => _ | _ => none) = _
  rw [hl]
theorem U_istore (hm : mtab[m]? = some i) {k : Nat} {v : Int32} (hd : decode i.2.1 pc = .ok (.istore k, 2)) (hk : k < i.2.2.1) (hp : pc + 2 = pc2) : run m (pc, L, .int v :: S, h) = run m (pc2, st1 L k (.int v), S, h) := by
  subst hp
  exact run_go hm hd (if_pos hk)
theorem U_istore_n (hm : mtab[m]? = some i) {k : Fin 4} {k2 : Nat} {v : Int32} (hd : decode i.2.1 pc = .ok (.istore_n k, 1)) (he : (k : Nat) = k2) (hk : k2 < i.2.2.1) (hp : pc + 1 = pc2) : run m (pc, L, .int v :: S, h) = run m (pc2, st1 L k2 (.int v), S, h) := by
  subst hp he
  exact run_go hm hd (if_pos hk)
theorem U_lstore (hm : mtab[m]? = some i) {k : Nat} {v : Int64} (hd : decode i.2.1 pc = .ok (.lstore k, 2)) (hk : k + 1 < i.2.2.1) (hp : pc + 2 = pc2) : run m (pc, L, .long v :: S, h) = run m (pc2, st2 L k (.long v), S, h) := by
  subst hp
  exact run_go hm hd (if_pos hk)
theorem U_lstore_n (hm : mtab[m]? = some i) {k : Fin 4} {k2 : Nat} {v : Int64} (hd : decode i.2.1 pc = .ok (.lstore_n k, 1)) (he : (k : Nat) = k2) (hk : k2 + 1 < i.2.2.1) (hp : pc + 1 = pc2) : run m (pc, L, .long v :: S, h) = run m (pc2, st2 L k2 (.long v), S, h) := by
  subst hp he
  exact run_go hm hd (if_pos hk)
theorem U_astore (hm : mtab[m]? = some i) {k v : Nat} (hd : decode i.2.1 pc = .ok (.astore k, 2)) (hk : k < i.2.2.1) (hp : pc + 2 = pc2) : run m (pc, L, .ref v :: S, h) = run m (pc2, st1 L k (.ref v), S, h) := by
  subst hp
  exact run_go hm hd (if_pos hk)
theorem U_astore_n (hm : mtab[m]? = some i) {k : Fin 4} {k2 v : Nat} (hd : decode i.2.1 pc = .ok (.astore_n k, 1)) (he : (k : Nat) = k2) (hk : k2 < i.2.2.1) (hp : pc + 1 = pc2) : run m (pc, L, .ref v :: S, h) = run m (pc2, st1 L k2 (.ref v), S, h) := by
  subst hp he
  exact run_go hm hd (if_pos hk)
theorem U_astoreN (hm : mtab[m]? = some i) {k : Nat} (hd : decode i.2.1 pc = .ok (.astore k, 2)) (hk : k < i.2.2.1) (hp : pc + 2 = pc2) : run m (pc, L, .null :: S, h) = run m (pc2, st1 L k .null, S, h) := by
  subst hp
  exact run_go hm hd (if_pos hk)
theorem U_astore_nN (hm : mtab[m]? = some i) {k : Fin 4} {k2 : Nat} (hd : decode i.2.1 pc = .ok (.astore_n k, 1)) (he : (k : Nat) = k2) (hk : k2 < i.2.2.1) (hp : pc + 1 = pc2) : run m (pc, L, .null :: S, h) = run m (pc2, st1 L k2 .null, S, h) := by
  subst hp he
  exact run_go hm hd (if_pos hk)
theorem U_iinc (hm : mtab[m]? = some i) {k : Nat} {n : Int} {v w : Int32} (hd : decode i.2.1 pc = .ok (.iinc k n, 3)) (hl : ld L k = some (.int v)) (hk : k < i.2.2.1) (hn : Int32.ofInt n = w) (hp : pc + 3 = pc2) : run m (pc, L, S, h) = run m (pc2, st1 L k (.int (v + w)), S, h) := by
  subst hp hn
  refine run_go hm hd ?_
  show (match ld L k with | some (.int v) => _ | _ => none) = _
  rw [hl]
  exact if_pos hk
theorem U_dupi (hm : mtab[m]? = some i) {v : Int32} (hd : decode i.2.1 pc = .ok (.dup, 1)) (hp : pc + 1 = pc2) : run m (pc, L, .int v :: S, h) = run m (pc2, L, .int v :: .int v :: S, h) := by
  subst hp
  exact run_go hm hd rfl
theorem U_dupa (hm : mtab[m]? = some i) {v : Nat} (hd : decode i.2.1 pc = .ok (.dup, 1)) (hp : pc + 1 = pc2) : run m (pc, L, .ref v :: S, h) = run m (pc2, L, .ref v :: .ref v :: S, h) := by
  subst hp
  exact run_go hm hd rfl
theorem U_dup2 (hm : mtab[m]? = some i) {v : Int32} {w : Nat} (hd : decode i.2.1 pc = .ok (.dup2, 1)) (hp : pc + 1 = pc2) : run m (pc, L, .int v :: .ref w :: S, h) = run m (pc2, L, .int v :: .ref w :: .int v :: .ref w :: S, h) := by
  subst hp
  exact run_go hm hd rfl
theorem U_iadd (hm : mtab[m]? = some i) {x y : Int32} (hd : decode i.2.1 pc = .ok (.iadd, 1)) (hp : pc + 1 = pc2) : run m (pc, L, .int y :: .int x :: S, h) = run m (pc2, L, .int (x + y) :: S, h) := by
  subst hp
  exact run_go hm hd rfl
theorem U_isub (hm : mtab[m]? = some i) {x y : Int32} (hd : decode i.2.1 pc = .ok (.isub, 1)) (hp : pc + 1 = pc2) : run m (pc, L, .int y :: .int x :: S, h) = run m (pc2, L, .int (x - y) :: S, h) := by
  subst hp
  exact run_go hm hd rfl
theorem U_imul (hm : mtab[m]? = some i) {x y : Int32} (hd : decode i.2.1 pc = .ok (.imul, 1)) (hp : pc + 1 = pc2) : run m (pc, L, .int y :: .int x :: S, h) = run m (pc2, L, .int (x * y) :: S, h) := by
  subst hp
  exact run_go hm hd rfl
theorem U_iand (hm : mtab[m]? = some i) {x y : Int32} (hd : decode i.2.1 pc = .ok (.iand, 1)) (hp : pc + 1 = pc2) : run m (pc, L, .int y :: .int x :: S, h) = run m (pc2, L, .int (x &&& y) :: S, h) := by
  subst hp
  exact run_go hm hd rfl
theorem U_ixor (hm : mtab[m]? = some i) {x y : Int32} (hd : decode i.2.1 pc = .ok (.ixor, 1)) (hp : pc + 1 = pc2) : run m (pc, L, .int y :: .int x :: S, h) = run m (pc2, L, .int (x ^^^ y) :: S, h) := by
  subst hp
  exact run_go hm hd rfl
theorem U_idiv (hm : mtab[m]? = some i) {x y : Int32} (hd : decode i.2.1 pc = .ok (.idiv, 1)) (hp : pc + 1 = pc2) : run m (pc, L, .int y :: .int x :: S, h) = if y = 0 then none else run m (pc2, L, .int (x / y) :: S, h) := by
  subst hp
  rw [run_any hm hd]
  show act run m (if y = 0 then none else _) = _
  split <;> rfl
theorem U_irem (hm : mtab[m]? = some i) {x y : Int32} (hd : decode i.2.1 pc = .ok (.irem, 1)) (hp : pc + 1 = pc2) : run m (pc, L, .int y :: .int x :: S, h) = if y = 0 then none else run m (pc2, L, .int (x - x / y * y) :: S, h) := by
  subst hp
  rw [run_any hm hd]
  show act run m (if y = 0 then none else _) = _
  split <;> rfl
theorem U_ineg (hm : mtab[m]? = some i) {x : Int32} (hd : decode i.2.1 pc = .ok (.ineg, 1)) (hp : pc + 1 = pc2) : run m (pc, L, .int x :: S, h) = run m (pc2, L, .int (-x) :: S, h) := by
  subst hp
  exact run_go hm hd rfl
theorem U_ladd (hm : mtab[m]? = some i) {x y : Int64} (hd : decode i.2.1 pc = .ok (.ladd, 1)) (hp : pc + 1 = pc2) : run m (pc, L, .long y :: .long x :: S, h) = run m (pc2, L, .long (x + y) :: S, h) := by
  subst hp
  exact run_go hm hd rfl
theorem U_lsub (hm : mtab[m]? = some i) {x y : Int64} (hd : decode i.2.1 pc = .ok (.lsub, 1)) (hp : pc + 1 = pc2) : run m (pc, L, .long y :: .long x :: S, h) = run m (pc2, L, .long (x - y) :: S, h) := by
  subst hp
  exact run_go hm hd rfl
theorem U_lmul (hm : mtab[m]? = some i) {x y : Int64} (hd : decode i.2.1 pc = .ok (.lmul, 1)) (hp : pc + 1 = pc2) : run m (pc, L, .long y :: .long x :: S, h) = run m (pc2, L, .long (x * y) :: S, h) := by
  subst hp
  exact run_go hm hd rfl
theorem U_ldiv (hm : mtab[m]? = some i) {x y : Int64} (hd : decode i.2.1 pc = .ok (.ldiv, 1)) (hp : pc + 1 = pc2) : run m (pc, L, .long y :: .long x :: S, h) = if y = 0 then none else run m (pc2, L, .long (x / y) :: S, h) := by
  subst hp
  rw [run_any hm hd]
  show act run m (if y = 0 then none else _) = _
  split <;> rfl
theorem U_lrem (hm : mtab[m]? = some i) {x y : Int64} (hd : decode i.2.1 pc = .ok (.lrem, 1)) (hp : pc + 1 = pc2) : run m (pc, L, .long y :: .long x :: S, h) = if y = 0 then none else run m (pc2, L, .long (x - x / y * y) :: S, h) := by
  subst hp
  rw [run_any hm hd]
  show act run m (if y = 0 then none else _) = _
  split <;> rfl
theorem U_i2l (hm : mtab[m]? = some i) {x : Int32} (hd : decode i.2.1 pc = .ok (.i2l, 1)) (hp : pc + 1 = pc2) : run m (pc, L, .int x :: S, h) = run m (pc2, L, .long x.toInt64 :: S, h) := by
  subst hp
  exact run_go hm hd rfl
theorem U_i2b (hm : mtab[m]? = some i) {x : Int32} (hd : decode i.2.1 pc = .ok (.i2b, 1)) (hp : pc + 1 = pc2) : run m (pc, L, .int x :: S, h) = run m (pc2, L, .int x.toInt8.toInt32 :: S, h) := by
  subst hp
  exact run_go hm hd rfl
theorem U_i2s (hm : mtab[m]? = some i) {x : Int32} (hd : decode i.2.1 pc = .ok (.i2s, 1)) (hp : pc + 1 = pc2) : run m (pc, L, .int x :: S, h) = run m (pc2, L, .int x.toInt16.toInt32 :: S, h) := by
  subst hp
  exact run_go hm hd rfl
theorem U_lcmp (hm : mtab[m]? = some i) {x y : Int64} (hd : decode i.2.1 pc = .ok (.lcmp, 1)) (hp : pc + 1 = pc2) : run m (pc, L, .long y :: .long x :: S, h) = run m (pc2, L, .int (lg_cmp x y) :: S, h) := by
  subst hp
  exact run_go hm hd rfl
theorem tg_eq {off : Int} {t : Nat} (ht : (pc : Int) + off = (t : Int)) (k : Nat → Option Act) : tg pc off k = k t := by
  unfold tg
  rw [ht]
  rw [if_pos (Int.natCast_nonneg t)]
  rfl
theorem U_goto (hm : mtab[m]? = some i) {off : Int} {t : Nat} (hd : decode i.2.1 pc = .ok (.goto off, 3)) (ht : (pc : Int) + off = (t : Int)) : run m (pc, L, S, h) = run m (t, L, S, h) := by
  refine run_go hm hd ?_
  show tg pc off (fun t => mk t L S h) = _
  rw [tg_eq ht]
theorem U_if (hm : mtab[m]? = some i) {c : ClassFile.Cond} {off : Int} {t : Nat} {x : Int32} (hd : decode i.2.1 pc = .ok (.ifCond c off, 3)) (ht : (pc : Int) + off = (t : Int)) (hp : pc + 3 = pc2) : run m (pc, L, .int x :: S, h) = act run m (cnd c x 0 (mk t L S h) (mk pc2 L S h)) := by
  subst hp
  rw [run_any hm hd]
  show act run m (tg pc off (fun t => cnd c x 0 (mk t L S h) (mk (pc + 3) L S h))) = _
  rw [tg_eq ht]
theorem U_icmp (hm : mtab[m]? = some i) {c : ClassFile.Cond} {off : Int} {t : Nat} {x y : Int32} (hd : decode i.2.1 pc = .ok (.if_icmp c off, 3)) (ht : (pc : Int) + off = (t : Int)) (hp : pc + 3 = pc2) : run m (pc, L, .int y :: .int x :: S, h) = act run m (cnd c x y (mk t L S h) (mk pc2 L S h)) := by
  subst hp
  rw [run_any hm hd]
  show act run m (tg pc off (fun t => cnd c x y (mk t L S h) (mk (pc + 3) L S h))) = _
  rw [tg_eq ht]
theorem act_ite {p : Prop} {hp : Decidable p} {a b : Option Act} : act run m (if p then a else b) = if p then act run m a else act run m b := by split <;> rfl
theorem U_ifnull (hm : mtab[m]? = some i) {off : Int} {a : Nat} (hd : decode i.2.1 pc = .ok (.ifnull off, 3)) (hp : pc + 3 = pc2) : run m (pc, L, .ref a :: S, h) = run m (pc2, L, S, h) := by
  subst hp
  exact run_go hm hd rfl
theorem U_ifnullN (hm : mtab[m]? = some i) {off : Int} {t : Nat} (hd : decode i.2.1 pc = .ok (.ifnull off, 3)) (ht : (pc : Int) + off = (t : Int)) : run m (pc, L, .null :: S, h) = run m (t, L, S, h) := by
  refine run_go hm hd ?_
  show tg pc off (fun t => mk t L S h) = _
  rw [tg_eq ht]
theorem U_ifnonnull (hm : mtab[m]? = some i) {off : Int} {t a : Nat} (hd : decode i.2.1 pc = .ok (.ifnonnull off, 3)) (ht : (pc : Int) + off = (t : Int)) : run m (pc, L, .ref a :: S, h) = run m (t, L, S, h) := by
  refine run_go hm hd ?_
  show tg pc off (fun t => mk t L S h) = _
  rw [tg_eq ht]
theorem U_ifnonnullN (hm : mtab[m]? = some i) {off : Int} (hd : decode i.2.1 pc = .ok (.ifnonnull off, 3)) (hp : pc + 3 = pc2) : run m (pc, L, .null :: S, h) = run m (pc2, L, S, h) := by
  subst hp
  exact run_go hm hd rfl
theorem U_get (hm : mtab[m]? = some i) {n a : Nat} {l : List (Nat × Nat)} (hd : decode i.2.1 pc = .ok (.getfield n, 3)) (hl : i.2.2.2.2.2.2.2.lookup pc = some l) (hp : pc + 3 = pc2) : run m (pc, L, .ref a :: S, h) = (gf h l a).bind fun v => run m (pc2, L, v :: S, h) := by
  subst hp
  rw [run_any hm hd]
  show act run m ((rO h a).bind fun q => (op i pc q.1).bind fun k => (q.2[k]?).bind fun v => if a < 4 then none else mk (pc + 3) L (v :: S) h) = _
  unfold gf op
  rw [hl]
  by_cases h4 : a < 4
  · simp only [h4, if_true, Option.bind_none]
    cases rO h a with
    | none => rfl
    | some q =>
      simp only [Option.bind_some]
      cases List.lookup q.1 l with
      | none => rfl
      | some k =>
        simp only [Option.bind_some]
        cases q.2[k]? <;> rfl
  · simp only [h4, if_false]
    cases rO h a with
    | none => rfl
    | some q =>
      simp only [Option.bind_some]
      cases List.lookup q.1 l with
      | none => rfl
      | some k =>
        simp only [Option.bind_some]
        cases q.2[k]? <;> rfl
theorem U_put (hm : mtab[m]? = some i) {n a : Nat} {v : Value} {l : List (Nat × Nat)} (hd : decode i.2.1 pc = .ok (.putfield n, 3)) (hl : i.2.2.2.2.2.2.2.lookup pc = some l) (hp : pc + 3 = pc2) : run m (pc, L, v :: .ref a :: S, h) = (pf h l a v).bind fun h2 => run m (pc2, L, S, h2) := by
  subst hp
  rw [run_any hm hd]
  show act run m ((rO h a).bind fun q => (op i pc q.1).bind fun k => (cty q.1 k).bind fun ty => if a < 4 ∨ q.2.length ≤ k ∨ okT ty v = false then none else mk (pc + 3) L S (wr h a (aO q.1 (q.2.set k v)))) = _
  unfold pf op
  rw [hl]
  cases rO h a with
  | none => rfl
  | some q =>
    simp only [Option.bind_some]
    cases List.lookup q.1 l with
    | none => rfl
    | some k =>
      simp only [Option.bind_some]
      cases cty q.1 k with
      | none => rfl
      | some ty =>
        simp only [Option.bind_some]
        split <;> rfl
theorem U_getstatic (hm : mtab[m]? = some i) {n j : Nat} (hd : decode i.2.1 pc = .ok (.getstatic n, 3)) (ho : op i pc 0 = some j) (hj : 1 ≤ j ∧ j < 4) (hp : pc + 3 = pc2) : run m (pc, L, S, h) = run m (pc2, L, .ref j :: S, h) := by
  subst hp
  refine run_go hm hd ?_
  show (op i pc 0).bind _ = _
  rw [ho]
  exact if_pos hj
theorem U_new (hm : mtab[m]? = some i) {n ci : Nat} {fs : List Value} {k : Nat} (hd : decode i.2.1 pc = .ok (.new n, 3)) (ho : op i pc 0 = some ci) (hf : cnew ci = some fs) (hk : fs.length = k) (hp : pc + 3 = pc2) : run m (pc, L, S, h) = run m (pc2, L, .ref h.1 :: S, al h (aO ci fs) k) := by
  subst hp hk
  refine run_go hm hd ?_
  show (op i pc 0).bind _ = _
  rw [ho, Option.bind_some, hf]
  rfl
theorem U_newarray (hm : mtab[m]? = some i) {n : Int32} (hd : decode i.2.1 pc = .ok (.newarray .int, 2)) (hp : pc + 2 = pc2) : run m (pc, L, .int n :: S, h) = if n < 0 ∨ 100000 < n.toNatClampNeg then none else run m (pc2, L, .ref h.1 :: S, al h (aI n.toNatClampNeg fun _ => 0) n.toNatClampNeg) := by
  subst hp
  rw [run_any hm hd]
  show act run m (if n < 0 ∨ 100000 < n.toNatClampNeg then none else _) = _
  split <;> rfl
theorem U_anewarray (hm : mtab[m]? = some i) {n : Int32} {x t : Nat} (hd : decode i.2.1 pc = .ok (.anewarray x, 3)) (ho : op i pc 0 = some t) (hp : pc + 3 = pc2) : run m (pc, L, .int n :: S, h) = if n < 0 ∨ 100000 < n.toNatClampNeg then none else run m (pc2, L, .ref h.1 :: S, al h (aR t n.toNatClampNeg fun _ => none) n.toNatClampNeg) := by
  subst hp
  rw [run_any hm hd]
  show act run m ((op i pc 0).bind _) = _
  rw [ho, Option.bind_some]
  split <;> rfl
theorem U_multi (hm : mtab[m]? = some i) {n k : Int32} {x t : Nat} (hd : decode i.2.1 pc = .ok (.multianewarray x 2, 4)) (ho : op i pc 0 = some t) (hp : pc + 4 = pc2) : run m (pc, L, .int k :: .int n :: S, h) = if n < 0 ∨ k < 0 ∨ 100000 < n.toNatClampNeg ∨ 100000 < k.toNatClampNeg then none else run m (pc2, L, .ref h.1 :: S, al2 h n.toNatClampNeg k.toNatClampNeg) := by
  subst hp
  rw [run_any hm hd]
  show act run m ((op i pc 0).bind _) = _
  rw [ho, Option.bind_some]
  split <;> rfl
theorem U_alen (hm : mtab[m]? = some i) {a : Nat} (hd : decode i.2.1 pc = .ok (.arraylength, 1)) (hp : pc + 1 = pc2) : run m (pc, L, .ref a :: S, h) = (gl h a).bind fun v => run m (pc2, L, .int v :: S, h) := by
  subst hp
  rw [run_any hm hd]
  show act run m ((rI h a).bind _) = _
  unfold gl
  cases rI h a <;> rfl
theorem U_iald (hm : mtab[m]? = some i) {a : Nat} {j : Int32} (hd : decode i.2.1 pc = .ok (.iaload, 1)) (hp : pc + 1 = pc2) : run m (pc, L, .int j :: .ref a :: S, h) = (gi h a j).bind fun v => run m (pc2, L, .int v :: S, h) := by
  subst hp
  rw [run_any hm hd]
  show act run m ((rI h a).bind _) = _
  unfold gi
  cases rI h a with
  | none => rfl
  | some q =>
    simp only [Option.bind_some]
    split <;> rfl
theorem U_iast (hm : mtab[m]? = some i) {a : Nat} {j x : Int32} (hd : decode i.2.1 pc = .ok (.iastore, 1)) (hp : pc + 1 = pc2) : run m (pc, L, .int x :: .int j :: .ref a :: S, h) = (pi h a j x).bind fun h2 => run m (pc2, L, S, h2) := by
  subst hp
  rw [run_any hm hd]
  show act run m ((rI h a).bind _) = _
  unfold pi
  cases rI h a with
  | none => rfl
  | some q =>
    simp only [Option.bind_some]
    split <;> rfl
theorem U_aald (hm : mtab[m]? = some i) {a : Nat} {j : Int32} (hd : decode i.2.1 pc = .ok (.aaload, 1)) (hp : pc + 1 = pc2) : run m (pc, L, .int j :: .ref a :: S, h) = (ga h a j).bind fun v => run m (pc2, L, v :: S, h) := by
  subst hp
  rw [run_any hm hd]
  show act run m ((rR h a).bind _) = _
  unfold ga
  cases rR h a with
  | none => rfl
  | some q =>
    simp only [Option.bind_some]
    split <;> rfl
theorem U_aast (hm : mtab[m]? = some i) {a v : Nat} {j : Int32} (hd : decode i.2.1 pc = .ok (.aastore, 1)) (hp : pc + 1 = pc2) : run m (pc, L, .ref v :: .int j :: .ref a :: S, h) = (pa h a j v).bind fun h2 => run m (pc2, L, S, h2) := by
  subst hp
  rw [run_any hm hd]
  show act run m ((rR h a).bind _) = _
  unfold pa
  cases rR h a with
  | none => rfl
  | some q =>
    simp only [Option.bind_some]
    cases rO h v with
    | none => rfl
    | some z =>
      simp only [Option.bind_some]
      split <;> rfl
theorem U_static (hm : mtab[m]? = some i) {n np c : Nat} {j : MI} {L1 : AL} {S1 : List Value} (hd : decode i.2.1 pc = .ok (.invokestatic n, 3)) (o1 : op i pc 98 = some np) (o2 : op i pc 0 = some c) (hc : c ≠ 1000) (hj : mtab[c]? = some j) (hfit : j.2.2.2.2.2.1 + 1 ≤ i.2.2.2.2.2.1 ∧ 19 + j.2.2.1 + j.2.2.2.2.2.2.1 ≤ i.2.2.2.2.2.2.1) (hst : np + 0 ≤ S.length ∧ ((S.drop (np + 0)).map Value.category).sum ≤ 8 ∧ ((S.take (np + 0)).reverse.flatMap fun v => if v.category = 2 then [some v, none] else [some v]).length ≤ j.2.2.1) (hL : enL (S.take (np + 0)).reverse j.2.2.1 = L1) (hS : S.drop (np + 0) = S1) (hp : pc + 3 = pc2) : run m (pc, L, S, h) = (run c (0, L1, [], h)).bind fun q => run m (pc2, L, q.1.toList ++ S1, q.2) := by
  subst hp hL hS
  have hs : sem i (.invokestatic n) 3 pc L S h = some (.inr (.inr (c, (S.take (np + 0)).reverse, pc + 3, L, S.drop (np + 0), h))) := by
    show (op i pc 98).bind _ = _
    rw [o1, Option.bind_some, o2, Option.bind_some, if_neg hc]
    unfold callA
    rw [hj, Option.bind_some, if_pos ⟨hfit.1, hfit.2, hst.1, hst.2.1, hst.2.2⟩]
  rw [run_call hm hd hs]
  unfold ent
  rw [hj]
theorem U_special (hm : mtab[m]? = some i) {n np c a ci z : Nat} {fs T : List Value} {j : MI} {L1 : AL} {S1 : List Value} (hr : rO h a = some (ci, fs)) (hz : op i pc (ci + 200) = some z) (hd : decode i.2.1 pc = .ok (.invokespecial n, 3)) (o1 : op i pc 98 = some np) (o2 : op i pc 0 = some c) (hc : c ≠ 1001) (hj : mtab[c]? = some j) (hT : S.drop np = .ref a :: T) (hfit : j.2.2.2.2.2.1 + 1 ≤ i.2.2.2.2.2.1 ∧ 19 + j.2.2.1 + j.2.2.2.2.2.2.1 ≤ i.2.2.2.2.2.2.1) (hst : np + 1 ≤ S.length ∧ ((S.drop (np + 1)).map Value.category).sum ≤ 8 ∧ ((S.take (np + 1)).reverse.flatMap fun v => if v.category = 2 then [some v, none] else [some v]).length ≤ j.2.2.1) (hL : enL (S.take (np + 1)).reverse j.2.2.1 = L1) (hS : S.drop (np + 1) = S1) (hp : pc + 3 = pc2) : run m (pc, L, S, h) = (run c (0, L1, [], h)).bind fun q => run m (pc2, L, q.1.toList ++ S1, q.2) := by
  subst hp hL hS
  have hs : sem i (.invokespecial n) 3 pc L S h = some (.inr (.inr (c, (S.take (np + 1)).reverse, pc + 3, L, S.drop (np + 1), h))) := by
    show (op i pc 98).bind _ = _
    rw [o1, Option.bind_some, o2, Option.bind_some, hT]
    show (if c = 1001 then _ else (rO h a).bind _) = _
    rw [if_neg hc, hr, Option.bind_some, hz, Option.bind_some]
    unfold callA
    rw [hj, Option.bind_some, if_pos ⟨hfit.1, hfit.2, hst.1, hst.2.1, hst.2.2⟩]
  rw [run_call hm hd hs]
  unfold ent
  rw [hj]
theorem U_objinit (hm : mtab[m]? = some i) {n a : Nat} (hd : decode i.2.1 pc = .ok (.invokespecial n, 3)) (o1 : op i pc 98 = some 0) (o2 : op i pc 0 = some 1001) (hfit : 1 ≤ i.2.2.2.2.2.1 ∧ 20 ≤ i.2.2.2.2.2.2.1 ∧ (S.map Value.category).sum ≤ 8) (hp : pc + 3 = pc2) : run m (pc, L, .ref a :: S, h) = run m (pc2, L, S, h) := by
  subst hp
  refine run_go hm hd ?_
  show (op i pc 98).bind _ = _
  rw [o1, Option.bind_some, o2, Option.bind_some]
  show (if 1001 = 1001 then _ else _) = _
  rw [if_pos rfl, if_pos ⟨rfl, hfit⟩]
theorem U_virtual (hm : mtab[m]? = some i) {n np c a : Nat} {l : List (Nat × Nat)} {T : List Value} {j : MI} {L1 : AL} {S1 : List Value} (hv : vc h l a = some c) (hl : ∀ q : Nat, q < 90 → op i pc q = l.lookup q) (hd : decode i.2.1 pc = .ok (.invokevirtual n, 3)) (o1 : op i pc 98 = some np) (hj : mtab[c]? = some j) (hT : S.drop np = .ref a :: T) (hfit : j.2.2.2.2.2.1 + 1 ≤ i.2.2.2.2.2.1 ∧ 19 + j.2.2.1 + j.2.2.2.2.2.2.1 ≤ i.2.2.2.2.2.2.1) (hst : np + 1 ≤ S.length ∧ ((S.drop (np + 1)).map Value.category).sum ≤ 8 ∧ ((S.take (np + 1)).reverse.flatMap fun v => if v.category = 2 then [some v, none] else [some v]).length ≤ j.2.2.1) (hL : enL (S.take (np + 1)).reverse j.2.2.1 = L1) (hS : S.drop (np + 1) = S1) (hp : pc + 3 = pc2) : run m (pc, L, S, h) = (run c (0, L1, [], h)).bind fun q => run m (pc2, L, q.1.toList ++ S1, q.2) := by
  subst hp hL hS
  unfold vc at hv
  obtain ⟨q, q1, q2⟩ := Option.bind_eq_some_iff.mp hv
  have hs : sem i (.invokevirtual n) 3 pc L S h = some (.inr (.inr (c, (S.take (np + 1)).reverse, pc + 3, L, S.drop (np + 1), h))) := by
    show (op i pc 98).bind _ = _
    rw [o1, Option.bind_some, hT]
    show (rO h a).bind _ = _
    rw [q1, Option.bind_some, hl q.1 (rO_lt q1).2, q2, Option.bind_some]
    unfold callA
    rw [hj, Option.bind_some, if_pos ⟨hfit.1, hfit.2, hst.1, hst.2.1, hst.2.2⟩]
  rw [run_call hm hd hs]
  unfold ent
  rw [hj]
theorem U_ireturn (hm : mtab[m]? = some i) {v : Int32} (hd : decode i.2.1 pc = .ok (.ireturn, 1)) (hr : i.2.2.2.1 = some .int) : run m (pc, L, [.int v], h) = some (some (.int v), h) := by
  refine run_end hm hd ?_
  show (match i.2.2.2.1 with | some .int => _ | some .boolean => _ | _ => none) = _
  rw [hr]
theorem U_zreturn (hm : mtab[m]? = some i) {v : Int32} (hd : decode i.2.1 pc = .ok (.ireturn, 1)) (hr : i.2.2.2.1 = some .boolean) : run m (pc, L, [.int v], h) = if v = 0 ∨ v = 1 then some (some (.int v), h) else none := by
  rw [run_any hm hd]
  show act run m (match i.2.2.2.1 with | some .int => _ | some .boolean => _ | _ => none) = _
  rw [hr]
  show act run m (if v = 0 ∨ v = 1 then _ else none) = _
  split <;> rfl
theorem U_lreturn (hm : mtab[m]? = some i) {v : Int64} (hd : decode i.2.1 pc = .ok (.lreturn, 1)) (hr : i.2.2.2.1 = some .long) : run m (pc, L, [.long v], h) = some (some (.long v), h) := by
  refine run_end hm hd ?_
  show (match i.2.2.2.1 with | some .long => _ | _ => none) = _
  rw [hr]
theorem U_return (hm : mtab[m]? = some i) (hd : decode i.2.1 pc = .ok (.return_, 1)) (hr : i.2.2.2.1 = none) : run m (pc, L, [], h) = some (none, h) := by
  refine run_end hm hd ?_
  show (match i.2.2.2.1 with | none => _ | _ => none) = _
  rw [hr]
theorem U_areturn (hm : mtab[m]? = some i) {v : Nat} (hd : decode i.2.1 pc = .ok (.areturn, 1)) (hr : (∃ n, i.2.2.2.1 = some (.object n)) ∨ ∃ t, i.2.2.2.1 = some (.array t)) : run m (pc, L, [.ref v], h) = some (some (.ref v), h) := by
  refine run_end hm hd ?_
  show (match i.2.2.2.1 with | some (.object _) => _ | some (.array _) => _ | _ => none) = _
  rcases hr with ⟨n, hr⟩ | ⟨n, hr⟩ <;> rw [hr]
theorem U_areturnN (hm : mtab[m]? = some i) (hd : decode i.2.1 pc = .ok (.areturn, 1)) (hr : (∃ n, i.2.2.2.1 = some (.object n)) ∨ ∃ t, i.2.2.2.1 = some (.array t)) : run m (pc, L, [.null], h) = some (some .null, h) := by
  refine run_end hm hd ?_
  show (match i.2.2.2.1 with | some (.object _) => _ | some (.array _) => _ | _ => none) = _
  rcases hr with ⟨n, hr⟩ | ⟨n, hr⟩ <;> rw [hr]
end UL
section UV
variable {m : Nat} {i : MI} {pc pc2 pc3 : Nat} {L : AL} {S : List Value} {h : AH}
theorem op_virt {np : Nat} {l : List (Nat × Nat)} (hl : i.2.2.2.2.2.2.2.lookup pc = some ((98, np) :: l)) : op i pc 98 = some np ∧ ∀ q : Nat, q < 90 → op i pc q = l.lookup q := by
  refine ⟨?_, fun q hq => ?_⟩
  · unfold op
    rw [hl]
    rfl
  · unfold op
    rw [hl, Option.bind_some, List.lookup_cons]
    split
    · rename_i hb
      have := beq_iff_eq.mp hb
      omega
    · rfl
theorem U_virt1 (hm : mtab[m]? = some i) {n np c a : Nat} {l : List (Nat × Nat)} {T : List Value} {j : MI} {L1 : AL} {S1 : List Value} (hd : decode i.2.1 pc = .ok (.invokevirtual n, 3)) (hl : i.2.2.2.2.2.2.2.lookup pc = some ((98, np) :: l)) (hall : ∀ q ∈ l, q.2 = c) (hj : mtab[c]? = some j) (hT : S.drop np = .ref a :: T) (hfit : j.2.2.2.2.2.1 + 1 ≤ i.2.2.2.2.2.1 ∧ 19 + j.2.2.1 + j.2.2.2.2.2.2.1 ≤ i.2.2.2.2.2.2.1) (hst : np + 1 ≤ S.length ∧ ((S.drop (np + 1)).map Value.category).sum ≤ 8 ∧ ((S.take (np + 1)).reverse.flatMap fun v => if v.category = 2 then [some v, none] else [some v]).length ≤ j.2.2.1) (hL : enL (S.take (np + 1)).reverse j.2.2.1 = L1) (hS : S.drop (np + 1) = S1) (hp : pc + 3 = pc2) : run m (pc, L, S, h) = (vc h l a).bind fun _ => (run c (0, L1, [], h)).bind fun q => run m (pc2, L, q.1.toList ++ S1, q.2) := by
  obtain ⟨o1, o2⟩ := op_virt hl
  cases hv : vc h l a with
  | none =>
    rw [run_any hm hd]
    show act run m ((op i pc 98).bind _) = _
    rw [o1, Option.bind_some, hT]
    show act run m ((rO h a).bind _) = _
    unfold vc at hv
    cases hq : rO h a with
    | none => rfl
    | some q =>
      rw [hq, Option.bind_some] at hv
      rw [Option.bind_some, o2 q.1 (rO_lt hq).2, hv]
      rfl
  | some d =>
    have hd2 : d = c := by
      unfold vc at hv
      obtain ⟨q, q1, q2⟩ := Option.bind_eq_some_iff.mp hv
      exact hall _ (lk_mem q2)
    subst hd2
    rw [Option.bind_some]
    exact U_virtual hm hv o2 hd o1 hj hT hfit hst hL hS hp
theorem U_virtP (hm : mtab[m]? = some i) {n np a : Nat} {l : List (Nat × Nat)} {T as : List Value} {S1 : List Value} (hd : decode i.2.1 pc = .ok (.invokevirtual n, 3)) (hl : i.2.2.2.2.2.2.2.lookup pc = some ((98, np) :: l)) (hall : ∀ q ∈ l, ∃ j, mtab[q.2]? = some j ∧ (j.2.2.2.2.2.1 + 1 ≤ i.2.2.2.2.2.1 ∧ 19 + j.2.2.1 + j.2.2.2.2.2.2.1 ≤ i.2.2.2.2.2.2.1) ∧ ((S.take (np + 1)).reverse.flatMap fun v => if v.category = 2 then [some v, none] else [some v]).length ≤ j.2.2.1) (hT : S.drop np = .ref a :: T) (hst : np + 1 ≤ S.length ∧ ((S.drop (np + 1)).map Value.category).sum ≤ 8) (hL : (S.take (np + 1)).reverse = as) (hS : S.drop (np + 1) = S1) (hp : pc + 3 = pc2) : run m (pc, L, S, h) = (vc h l a).bind fun c => (run c (ent c as h)).bind fun q => run m (pc2, L, q.1.toList ++ S1, q.2) := by
  obtain ⟨o1, o2⟩ := op_virt hl
  cases hv : vc h l a with
  | none =>
    rw [run_any hm hd]
    show act run m ((op i pc 98).bind _) = _
    rw [o1, Option.bind_some, hT]
    show act run m ((rO h a).bind _) = _
    unfold vc at hv
    cases hq : rO h a with
    | none => rfl
    | some q =>
      rw [hq, Option.bind_some] at hv
      rw [Option.bind_some, o2 q.1 (rO_lt hq).2, hv]
      rfl
  | some d =>
    have hd2 : ∃ k, (k, d) ∈ l := by
      have hv2 := hv
      unfold vc at hv2
      obtain ⟨q, q1, q2⟩ := Option.bind_eq_some_iff.mp hv2
      exact ⟨_, lk_mem q2⟩
    obtain ⟨k, hk⟩ := hd2
    obtain ⟨j, j1, j2, j3⟩ := hall _ hk
    rw [Option.bind_some]
    subst hL
    have e : ent d (S.take (np + 1)).reverse h = (0, enL (S.take (np + 1)).reverse j.2.2.1, [], h) := by
      unfold ent
      rw [j1]
    rw [e]
    exact U_virtual hm hv o2 hd o1 j1 hT j2 ⟨hst.1, hst.2, j3⟩ rfl hS hp
theorem U_spec1 (hm : mtab[m]? = some i) {n np c a : Nat} {l : List (Nat × Nat)} {T : List Value} {j : MI} {L1 : AL} {S1 : List Value} (hd : decode i.2.1 pc = .ok (.invokespecial n, 3)) (o1 : op i pc 98 = some np) (o2 : op i pc 0 = some c) (hl : ∀ q : Nat, q < 90 → op i pc (q + 200) = l.lookup q) (hc : c ≠ 1001) (hj : mtab[c]? = some j) (hT : S.drop np = .ref a :: T) (hfit : j.2.2.2.2.2.1 + 1 ≤ i.2.2.2.2.2.1 ∧ 19 + j.2.2.1 + j.2.2.2.2.2.2.1 ≤ i.2.2.2.2.2.2.1) (hst : np + 1 ≤ S.length ∧ ((S.drop (np + 1)).map Value.category).sum ≤ 8 ∧ ((S.take (np + 1)).reverse.flatMap fun v => if v.category = 2 then [some v, none] else [some v]).length ≤ j.2.2.1) (hL : enL (S.take (np + 1)).reverse j.2.2.1 = L1) (hS : S.drop (np + 1) = S1) (hp : pc + 3 = pc2) : run m (pc, L, S, h) = (vc h l a).bind fun _ => (run c (0, L1, [], h)).bind fun q => run m (pc2, L, q.1.toList ++ S1, q.2) := by
  cases hv : vc h l a with
  | none =>
    rw [run_any hm hd]
    show act run m ((op i pc 98).bind _) = _
    rw [o1, Option.bind_some, o2, Option.bind_some, hT]
    show act run m (if c = 1001 then _ else (rO h a).bind _) = _
    rw [if_neg hc]
    unfold vc at hv
    cases hq : rO h a with
    | none => rfl
    | some q =>
      rw [hq, Option.bind_some] at hv
      rw [Option.bind_some, hl q.1 (rO_lt hq).2, hv]
      rfl
  | some d =>
    rw [Option.bind_some]
    unfold vc at hv
    obtain ⟨⟨ci, fs⟩, q1, q2⟩ := Option.bind_eq_some_iff.mp hv
    exact U_special hm q1 ((hl ci (rO_lt q1).2).trans q2) hd o1 o2 hc hj hT hfit hst hL hS hp
theorem U_tabIn (hm : mtab[m]? = some i) {d lo hi off : Int} {offs : Array Int} {len t : Nat} {x : Int32} (hd : decode i.2.1 pc = .ok (.tableswitch d lo hi offs, len)) (h1 : ¬ (x.toInt < lo ∨ hi < x.toInt)) (ho : offs[(x.toInt - lo).toNat]? = some off) (ht : (pc : Int) + off = (t : Int)) : run m (pc, L, .int x :: S, h) = run m (t, L, S, h) := by
  rw [run_any hm hd]
  show act run m (if x.toInt < lo ∨ hi < x.toInt then _ else _) = _
  rw [if_neg h1, ho, Option.bind_some, tg_eq ht]
  rfl
theorem U_tabOut (hm : mtab[m]? = some i) {d lo hi : Int} {offs : Array Int} {len t : Nat} {x : Int32} (hd : decode i.2.1 pc = .ok (.tableswitch d lo hi offs, len)) (h1 : x.toInt < lo ∨ hi < x.toInt) (ht : (pc : Int) + d = (t : Int)) : run m (pc, L, .int x :: S, h) = run m (t, L, S, h) := by
  rw [run_any hm hd]
  show act run m (if x.toInt < lo ∨ hi < x.toInt then _ else _) = _
  rw [if_pos h1, tg_eq ht]
  rfl
theorem U_look (hm : mtab[m]? = some i) {d off : Int} {ps : Array (Int × Int)} {len t : Nat} {x : Int32} (hd : decode i.2.1 pc = .ok (.lookupswitch d ps, len)) (h1 : (ps.toList.zip (ps.toList.drop 1)).all (fun (a, next) => a.1 < next.1) = true) (ho : Op.lookupswitch.offset ps.toList d x.toInt = off) (ht : (pc : Int) + off = (t : Int)) : run m (pc, L, .int x :: S, h) = run m (t, L, S, h) := by
  rw [run_any hm hd]
  show act run m (if _ then tg pc (Op.lookupswitch.offset ps.toList d x.toInt) (fun t => mk t L S h) else none) = _
  rw [if_pos h1, ho, tg_eq ht]
  rfl
theorem U_copy (hm : mtab[m]? = some i) {n : Nat} (hd : decode i.2.1 pc = .ok (.invokestatic n, 3)) (o1 : op i pc 98 = some 5) (o2 : op i pc 0 = some 1000) : run m (pc, L, S, h) = act run m (copyA i pc L S h) := by
  rw [run_any hm hd]
  show act run m ((op i pc 98).bind _) = _
  rw [o1, Option.bind_some, o2, Option.bind_some]
  rfl
end UV
theorem look_d {a b c d e : Int} {x : Int32} (hx : x.toInt ≠ a ∧ x.toInt ≠ c) : Op.lookupswitch.offset (#[(a, b), (c, d)] : Array (Int × Int)).toList e x.toInt = e := by
  simp [Op.lookupswitch.offset, Ne.symm hx.1, Ne.symm hx.2]
