abbrev AE : Type := (Nat × vp_A) ⊕ (Nat × List Value)
abbrev AH : Type := Nat × Nat × (Nat → AE)
abbrev AL : Type := List (Option Value)
abbrev Fr : Type := Nat × AL × List Value × AH
abbrev Rs : Type := Option Value × AH
abbrev Act : Type := Rs ⊕ (Fr ⊕ (Nat × List Value × Fr))
def aI (n : Nat) (f : Nat → Int32) : AE := .inl (0, n, .inl f)
def aR (t n : Nat) (f : Nat → Option Nat) : AE := .inl (t, n, .inr (.inr (.inr (.inr f))))
def aO (c : Nat) (fs : List Value) : AE := .inr (c, fs)
def aDead : AE := .inr (99, [])
def rI (h : AH) (a : Nat) : Option (Nat × (Nat → Int32)) := match h.2.2 a with
  | .inl (0, n, .inl f) => some (n, f)
  | _ => none
def rR (h : AH) (a : Nat) : Option (Nat × Nat × (Nat → Option Nat)) := match h.2.2 a with
  | .inl (t, n, .inr (.inr (.inr (.inr f)))) => if 1 ≤ t ∧ t < 5 then some (t, n, f) else none
  | _ => none
def rO (h : AH) (a : Nat) : Option (Nat × List Value) := match h.2.2 a with
  | .inr q => if q.1 < 90 then some q else none
  | _ => none
def wr (h : AH) (a : Nat) (c : AE) : AH := (h.1, h.2.1, va_up h.2.2 a c)
def al (h : AH) (c : AE) (k : Nat) : AH := (h.1 + 1, h.2.1 + k, va_up h.2.2 h.1 c)
def al2 (h : AH) (n k : Nat) : AH := (h.1 + 1 + n, h.2.1 + n + n * k, fun q => if q = h.1 then aR 4 n (fun i => if i < n then some (h.1 + 1 + i) else none) else if h.1 < q ∧ q ≤ h.1 + n then aI k (fun _ => 0) else h.2.2 q)
def ld (L : AL) (k : Nat) : Option Value := match L[k]? with
  | some (some v) => some v
  | _ => none
def st1 (L : AL) (k : Nat) (v : Value) : AL := match k with
  | 0 => L.set 0 (some v)
  | j + 1 => match L[j]? with
    | some (some (.long _)) => (L.set j none).set (j + 1) (some v)
    | some (some (.double _)) => (L.set j none).set (j + 1) (some v)
    | _ => L.set (j + 1) (some v)
def st2 (L : AL) (k : Nat) (v : Value) : AL := (st1 L k v).set (k + 1) none
def enL (as : List Value) (n : Nat) : AL := (as.flatMap fun v => if v.category = 2 then [some v, none] else [some v]) ++ List.replicate (n - (as.flatMap fun v => if v.category = 2 then [some v, none] else [some v]).length) none
def op (i : MI) (pc c : Nat) : Option Nat := (i.2.2.2.2.2.2.2.lookup pc).bind fun l => l.lookup c
def mk (pc : Nat) (L : AL) (S : List Value) (h : AH) : Option Act := some (.inr (.inl (pc, L, S, h)))
def tg (pc : Nat) (off : Int) (k : Nat → Option Act) : Option Act := if 0 ≤ (pc : Int) + off then k ((pc : Int) + off).toNat else none
def cnd (c : ClassFile.Cond) (x y : Int32) (T F : Option Act) : Option Act := match c with
  | .eq => if x = y then T else F
  | .ne => if x = y then F else T
  | .lt => if x < y then T else F
  | .ge => if y ≤ x then T else F
  | .gt => if y < x then T else F
  | .le => if x ≤ y then T else F
def okT (ty : FieldType) (v : Value) : Bool := match ty, v with
  | .int, .int _ => true
  | .object _, .ref _ => true
  | .object _, .null => true
  | .array _, .ref _ => true
  | .array _, .null => true
  | _, _ => false
def cty (ci k : Nat) : Option FieldType := (clL[ci]?).bind fun q => if k < q.2.2.1 then some (q.2.2.2 k) else none
def cnew (ci : Nat) : Option (List Value) := (clL[ci]?).map fun q => (List.range q.2.2.1).map fun k => defaultValue (q.2.2.2 k)
def rfv (r : Option Nat) : Value := match r with
  | none => .null
  | some a => .ref a
def bin (S : List Value) (f : Int32 → Int32 → Int32) (k : List Value → Option Act) : Option Act := match S with
  | .int y :: .int x :: S => k (.int (f x y) :: S)
  | _ => none
def binL (S : List Value) (f : Int64 → Int64 → Int64) (k : List Value → Option Act) : Option Act := match S with
  | .long y :: .long x :: S => k (.long (f x y) :: S)
  | _ => none
def pick (S : List Value) : List Value := S
def callA (i : MI) (pc : Nat) (c np nr : Nat) (L : AL) (S : List Value) (h : AH) : Option Act := (mtab[c]?).bind fun j =>
  if j.2.2.2.2.2.1 + 1 ≤ i.2.2.2.2.2.1 ∧ 19 + j.2.2.1 + j.2.2.2.2.2.2.1 ≤ i.2.2.2.2.2.2.1 ∧ np + nr ≤ S.length ∧ ((S.drop (np + nr)).map Value.category).sum ≤ 8 ∧ ((S.take (np + nr)).reverse.flatMap fun v => if v.category = 2 then [some v, none] else [some v]).length ≤ j.2.2.1 then
    some (.inr (.inr (c, (S.take (np + nr)).reverse, pc + 3, L, S.drop (np + nr), h))) else none
def copyA (i : MI) (pc : Nat) (L : AL) (S : List Value) (h : AH) : Option Act := match S with
  | .int n :: .int dp :: .ref a1 :: .int sp :: .ref a0 :: S => match rI h a0, rI h a1 with
    | some (n0, f), some (n1, g) => if ¬ sp < 0 ∧ ¬ dp < 0 ∧ ¬ n < 0 ∧ sp.toNatClampNeg + n.toNatClampNeg ≤ n0 ∧ dp.toNatClampNeg + n.toNatClampNeg ≤ n1 ∧ 4 ≤ a1 ∧ 4 ≤ a0 ∧ S.length = 0 ∧ 1 ≤ i.2.2.2.2.2.1 ∧ 20 ≤ i.2.2.2.2.2.2.1 then
        mk (pc + 3) L S (wr h a1 (aI n1 (va_cpy f g sp.toNatClampNeg dp.toNatClampNeg n.toNatClampNeg))) else none
    | _, _ => none
  | _ => none
def semA (i : MI) (ins : ClassFile.Instr) (len pc : Nat) (L : AL) (S : List Value) (h : AH) : Option Act := match ins, len with
  | .aconst_null, 1 => mk (pc + 1) L (.null :: S) h
  | .iconst n, 1 => mk (pc + 1) L (.int (Int32.ofInt n) :: S) h
  | .bipush n, 2 => mk (pc + 2) L (.int (Int8.ofInt n).toInt32 :: S) h
  | .sipush n, 3 => mk (pc + 3) L (.int (Int16.ofInt n).toInt32 :: S) h
  | .lconst n, 1 => mk (pc + 1) L (.long (Int64.ofNat (n : Nat)) :: S) h
  | .ldc2_w _, 3 => (op i pc 0).bind fun k => (lcT[k]?).bind fun v => mk (pc + 3) L (.long v :: S) h
  | .iload k, 2 => match ld L k with
    | some (.int v) => mk (pc + 2) L (.int v :: S) h
    | _ => none
  | .iload_n k, 1 => match ld L k with
    | some (.int v) => mk (pc + 1) L (.int v :: S) h
    | _ => none
  | .lload k, 2 => match ld L k with
    | some (.long v) => mk (pc + 2) L (.long v :: S) h
    | _ => none
  | .lload_n k, 1 => match ld L k with
    | some (.long v) => mk (pc + 1) L (.long v :: S) h
    | _ => none
  | .aload k, 2 => match ld L k with
    | some (.ref v) => mk (pc + 2) L (.ref v :: S) h
    | some .null => mk (pc + 2) L (.null :: S) h
    | _ => none
  | .aload_n k, 1 => match ld L k with
    | some (.ref v) => mk (pc + 1) L (.ref v :: S) h
    | some .null => mk (pc + 1) L (.null :: S) h
    | _ => none
  | .istore k, 2 => match S with
    | .int v :: S => if k < i.2.2.1 then mk (pc + 2) (st1 L k (.int v)) S h else none
    | _ => none
  | .istore_n k, 1 => match S with
    | .int v :: S => if (k : Nat) < i.2.2.1 then mk (pc + 1) (st1 L k (.int v)) S h else none
    | _ => none
  | .lstore k, 2 => match S with
    | .long v :: S => if k + 1 < i.2.2.1 then mk (pc + 2) (st2 L k (.long v)) S h else none
    | _ => none
  | .lstore_n k, 1 => match S with
    | .long v :: S => if (k : Nat) + 1 < i.2.2.1 then mk (pc + 1) (st2 L k (.long v)) S h else none
    | _ => none
  | .astore k, 2 => match S with
    | .ref v :: S => if k < i.2.2.1 then mk (pc + 2) (st1 L k (.ref v)) S h else none
    | .null :: S => if k < i.2.2.1 then mk (pc + 2) (st1 L k .null) S h else none
    | _ => none
  | .astore_n k, 1 => match S with
    | .ref v :: S => if (k : Nat) < i.2.2.1 then mk (pc + 1) (st1 L k (.ref v)) S h else none
    | .null :: S => if (k : Nat) < i.2.2.1 then mk (pc + 1) (st1 L k .null) S h else none
    | _ => none
  | .iinc k c, 3 => match ld L k with
    | some (.int v) => if k < i.2.2.1 then mk (pc + 3) (st1 L k (.int (v + Int32.ofInt c))) S h else none
    | _ => none
  | .dup, 1 => match S with
    | v :: S => if v.category = 1 then mk (pc + 1) L (v :: v :: S) h else none
    | _ => none
  | .dup2, 1 => match S with
    | v :: w :: S => if v.category = 1 ∧ w.category = 1 then mk (pc + 1) L (v :: w :: v :: w :: S) h else none
    | _ => none
  | .iadd, 1 => bin S (· + ·) fun S => mk (pc + 1) L S h
  | .isub, 1 => bin S (· - ·) fun S => mk (pc + 1) L S h
  | .imul, 1 => bin S (· * ·) fun S => mk (pc + 1) L S h
  | .iand, 1 => bin S (· &&& ·) fun S => mk (pc + 1) L S h
  | .ixor, 1 => bin S (· ^^^ ·) fun S => mk (pc + 1) L S h
  | .idiv, 1 => match S with
    | .int y :: .int x :: S => if y = 0 then none else mk (pc + 1) L (.int (x / y) :: S) h
    | _ => none
  | .irem, 1 => match S with
    | .int y :: .int x :: S => if y = 0 then none else mk (pc + 1) L (.int (x - x / y * y) :: S) h
    | _ => none
  | .ineg, 1 => match S with
    | .int x :: S => mk (pc + 1) L (.int (-x) :: S) h
    | _ => none
  | .ladd, 1 => binL S (· + ·) fun S => mk (pc + 1) L S h
  | .lsub, 1 => binL S (· - ·) fun S => mk (pc + 1) L S h
  | .lmul, 1 => binL S (· * ·) fun S => mk (pc + 1) L S h
  | .ldiv, 1 => match S with
    | .long y :: .long x :: S => if y = 0 then none else mk (pc + 1) L (.long (x / y) :: S) h
    | _ => none
  | .lrem, 1 => match S with
    | .long y :: .long x :: S => if y = 0 then none else mk (pc + 1) L (.long (x - x / y * y) :: S) h
    | _ => none
  | .i2l, 1 => match S with
    | .int x :: S => mk (pc + 1) L (.long x.toInt64 :: S) h
    | _ => none
  | .i2b, 1 => match S with
    | .int x :: S => mk (pc + 1) L (.int x.toInt8.toInt32 :: S) h
    | _ => none
  | .i2s, 1 => match S with
    | .int x :: S => mk (pc + 1) L (.int x.toInt16.toInt32 :: S) h
    | _ => none
  | .lcmp, 1 => match S with
    | .long y :: .long x :: S => mk (pc + 1) L (.int (lg_cmp x y) :: S) h
    | _ => none
  | _, _ => none
def semB (ins : ClassFile.Instr) (len pc : Nat) (L : AL) (S : List Value) (h : AH) : Option Act := match ins, len with
  | .goto off, 3 => tg pc off fun t => mk t L S h
  | .ifCond c off, 3 => match S with
    | .int x :: S => tg pc off fun t => cnd c x 0 (mk t L S h) (mk (pc + 3) L S h)
    | _ => none
  | .if_icmp c off, 3 => match S with
    | .int y :: .int x :: S => tg pc off fun t => cnd c x y (mk t L S h) (mk (pc + 3) L S h)
    | _ => none
  | .ifnull off, 3 => match S with
    | .ref _ :: S => mk (pc + 3) L S h
    | .null :: S => tg pc off fun t => mk t L S h
    | _ => none
  | .ifnonnull off, 3 => match S with
    | .ref _ :: S => tg pc off fun t => mk t L S h
    | .null :: S => mk (pc + 3) L S h
    | _ => none
  | .tableswitch d lo hi offs, _ => match S with
    | .int x :: S => if x.toInt < lo ∨ hi < x.toInt then tg pc d fun t => mk t L S h else (offs[(x.toInt - lo).toNat]?).bind fun off => tg pc off fun t => mk t L S h
    | _ => none
  | .lookupswitch d ps, _ => match S with
    | .int x :: S => if (ps.toList.zip (ps.toList.drop 1)).all (fun (a, next) => a.1 < next.1) = true then tg pc (Op.lookupswitch.offset ps.toList d x.toInt) fun t => mk t L S h else none
    | _ => none
  | _, _ => none
def semC (i : MI) (ins : ClassFile.Instr) (len pc : Nat) (L : AL) (S : List Value) (h : AH) : Option Act := match ins, len with
  | .getfield _, 3 => match S with
    | .ref a :: S => (rO h a).bind fun q => (op i pc q.1).bind fun k => (q.2[k]?).bind fun v => if a < 4 then none else mk (pc + 3) L (v :: S) h
    | _ => none
  | .putfield _, 3 => match S with
    | v :: .ref a :: S => (rO h a).bind fun q => (op i pc q.1).bind fun k => (cty q.1 k).bind fun ty => if a < 4 ∨ q.2.length ≤ k ∨ okT ty v = false then none else mk (pc + 3) L S (wr h a (aO q.1 (q.2.set k v)))
    | _ => none
  | .getstatic _, 3 => (op i pc 0).bind fun j => if 1 ≤ j ∧ j < 4 then mk (pc + 3) L (.ref j :: S) h else none
  | .new _, 3 => (op i pc 0).bind fun ci => (cnew ci).bind fun fs => mk (pc + 3) L (.ref h.1 :: S) (al h (aO ci fs) fs.length)
  | .newarray .int, 2 => match S with
    | .int n :: S => if n < 0 ∨ 100000 < n.toNatClampNeg then none else mk (pc + 2) L (.ref h.1 :: S) (al h (aI n.toNatClampNeg fun _ => 0) n.toNatClampNeg)
    | _ => none
  | .anewarray _, 3 => match S with
    | .int n :: S => (op i pc 0).bind fun t => if n < 0 ∨ 100000 < n.toNatClampNeg then none else mk (pc + 3) L (.ref h.1 :: S) (al h (aR t n.toNatClampNeg fun _ => none) n.toNatClampNeg)
    | _ => none
  | .multianewarray _ 2, 4 => match S with
    | .int k :: .int n :: S => (op i pc 0).bind fun _ => if n < 0 ∨ k < 0 ∨ 100000 < n.toNatClampNeg ∨ 100000 < k.toNatClampNeg then none else mk (pc + 4) L (.ref h.1 :: S) (al2 h n.toNatClampNeg k.toNatClampNeg)
    | _ => none
  | .arraylength, 1 => match S with
    | .ref a :: S => (rI h a).bind fun q => mk (pc + 1) L (.int (Int32.ofNat q.1) :: S) h
    | _ => none
  | .iaload, 1 => match S with
    | .int j :: .ref a :: S => (rI h a).bind fun q => if j < 0 ∨ q.1 ≤ j.toNatClampNeg then none else mk (pc + 1) L (.int (q.2 j.toNatClampNeg) :: S) h
    | _ => none
  | .iastore, 1 => match S with
    | .int x :: .int j :: .ref a :: S => (rI h a).bind fun q => if a < 4 ∨ j < 0 ∨ q.1 ≤ j.toNatClampNeg then none else mk (pc + 1) L S (wr h a (aI q.1 (upd q.2 j.toNatClampNeg x)))
    | _ => none
  | .aaload, 1 => match S with
    | .int j :: .ref a :: S => (rR h a).bind fun q => if a < 4 ∨ j < 0 ∨ q.2.1 ≤ j.toNatClampNeg then none else mk (pc + 1) L (rfv (q.2.2 j.toNatClampNeg) :: S) h
    | _ => none
  | .aastore, 1 => match S with
    | .ref v :: .int j :: .ref a :: S => (rR h a).bind fun q => (rO h v).bind fun z => if a < 4 ∨ v < 4 ∨ j < 0 ∨ q.2.1 ≤ j.toNatClampNeg ∨ (q.1, z.1) ∉ asT then none else mk (pc + 1) L S (wr h a (aR q.1 q.2.1 (va_up q.2.2 j.toNatClampNeg (some v))))
    | _ => none
  | _, _ => none
def semD (i : MI) (ins : ClassFile.Instr) (len pc : Nat) (L : AL) (S : List Value) (h : AH) : Option Act := match ins, len with
  | .invokestatic _, 3 => (op i pc 98).bind fun np => (op i pc 0).bind fun c => if c = 1000 then copyA i pc L S h else callA i pc c np 0 L S h
  | .invokespecial _, 3 => (op i pc 98).bind fun np => (op i pc 0).bind fun c => match S.drop np with
    | .ref a :: T => if c = 1001 then (if np = 0 ∧ 1 ≤ i.2.2.2.2.2.1 ∧ 20 ≤ i.2.2.2.2.2.2.1 ∧ (T.map Value.category).sum ≤ 8 then mk (pc + 3) L T h else none) else (rO h a).bind fun q => (op i pc (q.1 + 200)).bind fun _ => callA i pc c np 1 L S h
    | _ => none
  | .invokevirtual _, 3 => (op i pc 98).bind fun np => match S.drop np with
    | .ref a :: _ => (rO h a).bind fun q => (op i pc q.1).bind fun c => callA i pc c np 1 L S h
    | _ => none
  | .ireturn, 1 => match S with
    | [.int v] => match i.2.2.2.1 with
      | some .int => some (.inl (some (.int v), h))
      | some .boolean => if v = 0 ∨ v = 1 then some (.inl (some (.int v), h)) else none
      | _ => none
    | _ => none
  | .lreturn, 1 => match S with
    | [.long v] => match i.2.2.2.1 with
      | some .long => some (.inl (some (.long v), h))
      | _ => none
    | _ => none
  | .areturn, 1 => match S with
    | [.ref v] => match i.2.2.2.1 with
      | some (.object _) => some (.inl (some (.ref v), h))
      | some (.array _) => some (.inl (some (.ref v), h))
      | _ => none
    | [.null] => match i.2.2.2.1 with
      | some (.object _) => some (.inl (some .null, h))
      | some (.array _) => some (.inl (some .null, h))
      | _ => none
    | _ => none
  | .return_, 1 => match S with
    | [] => match i.2.2.2.1 with
      | none => some (.inl (none, h))
      | _ => none
    | _ => none
  | _, _ => none
def kind (ins : ClassFile.Instr) : Nat := match ins with
  | .goto _ => 1
  | .ifCond _ _ => 1
  | .if_icmp _ _ => 1
  | .ifnull _ => 1
  | .ifnonnull _ => 1
  | .tableswitch _ _ _ _ => 1
  | .lookupswitch _ _ => 1
  | .getfield _ => 2
  | .putfield _ => 2
  | .getstatic _ => 2
  | .new _ => 2
  | .newarray _ => 2
  | .anewarray _ => 2
  | .multianewarray _ _ => 2
  | .arraylength => 2
  | .iaload => 2
  | .iastore => 2
  | .aaload => 2
  | .aastore => 2
  | .invokestatic _ => 3
  | .invokespecial _ => 3
  | .invokevirtual _ => 3
  | .ireturn => 3
  | .lreturn => 3
  | .areturn => 3
  | .return_ => 3
  | _ => 0
def sem (i : MI) (ins : ClassFile.Instr) (len pc : Nat) (L : AL) (S : List Value) (h : AH) : Option Act := match kind ins with
  | 0 => semA i ins len pc L S h
  | 1 => semB ins len pc L S h
  | 2 => semC i ins len pc L S h
  | _ => semD i ins len pc L S h
def ent (c : Nat) (as : List Value) (h : AH) : Fr := match mtab[c]? with
  | some j => (0, enL as j.2.2.1, [], h)
  | none => (0, [], [], h)
def act (rec : Nat → Fr → Option Rs) (m : Nat) (a : Option Act) : Option Rs := match a with
  | none => none
  | some (.inl r) => some r
  | some (.inr (.inl f)) => rec m f
  | some (.inr (.inr (c, as, f))) => (rec c (ent c as f.2.2.2)).bind fun q => rec m (f.1, f.2.1, q.1.toList ++ f.2.2.1, q.2)
def stp (m : Nat) (f : Fr) : Option Act := match mtab[m]? with
  | none => none
  | some i => match decode i.2.1 f.1 with
    | .ok (ins, len) => sem i ins len f.1 f.2.1 f.2.2.1 f.2.2.2
    | .error _ => none
def exc : Nat → Nat → Fr → Option Rs
  | 0, _, _ => none
  | k + 1, m, f => act (exc k) m (stp m f)
theorem act_mono {r1 r2 : Nat → Fr → Option Rs} (h : ∀ m f x, r1 m f = some x → r2 m f = some x) (m : Nat) (a : Option Act) (x : Rs) (e : act r1 m a = some x) : act r2 m a = some x := by
  match a with
  | none => exact e
  | some (.inl r) => exact e
  | some (.inr (.inl f)) => exact h _ _ _ e
  | some (.inr (.inr (c, as, f))) =>
    simp only [act] at e ⊢
    cases e1 : r1 c (ent c as f.2.2.2) with
    | none => rw [e1] at e; cases e
    | some q =>
      rw [e1] at e
      rw [h _ _ _ e1]
      exact h _ _ _ e
theorem exc_succ : ∀ (k m : Nat) (f : Fr) (x : Rs), exc k m f = some x → exc (k + 1) m f = some x
  | 0, _, _, _, e => by cases e
  | k + 1, m, f, x, e => act_mono (exc_succ k) m (stp m f) x e
theorem exc_le {k k2 m : Nat} {f : Fr} {x : Rs} (hk : k ≤ k2) (e : exc k m f = some x) : exc k2 m f = some x := by
  induction hk with
  | refl => exact e
  | step _ ih => exact exc_succ _ _ _ _ ih
noncomputable def run (m : Nat) (f : Fr) : Option Rs := by
  classical exact if h : ∃ (k : Nat) (x : Rs), exc k m f = some x then some (Classical.choose (Classical.choose_spec h)) else none
theorem run_some {m : Nat} {f : Fr} {x : Rs} : run m f = some x ↔ ∃ k, exc k m f = some x := by
  classical
  unfold run
  constructor
  · intro e
    by_cases h : ∃ (k : Nat) (x : Rs), exc k m f = some x
    · rw [dif_pos h] at e
      cases e
      exact ⟨_, Classical.choose_spec (Classical.choose_spec h)⟩
    · rw [dif_neg h] at e
      cases e
  · intro ⟨k, e⟩
    have h : ∃ (k : Nat) (x : Rs), exc k m f = some x := ⟨k, x, e⟩
    rw [dif_pos h]
    have e2 := Classical.choose_spec (Classical.choose_spec h)
    have e3 := exc_le (Nat.le_max_left k (Classical.choose h)) e
    have e4 := exc_le (Nat.le_max_right k (Classical.choose h)) e2
    rw [e3] at e4
    exact e4.symm
theorem run_act {m : Nat} {f : Fr} : run m f = act run m (stp m f) := by
  apply Option.ext
  intro x
  constructor
  · intro e
    obtain ⟨k, e⟩ := run_some.mp e
    cases k with
    | zero => cases e
    | succ k => exact act_mono (fun m f x h => run_some.mpr ⟨k, h⟩) m (stp m f) x e
  · intro e
    match ha : stp m f with
    | none => rw [ha] at e; cases e
    | some (.inl r) =>
      rw [ha] at e
      exact run_some.mpr ⟨1, by show act _ _ (stp m f) = _; rw [ha]; exact e⟩
    | some (.inr (.inl g)) =>
      rw [ha] at e
      obtain ⟨k, e⟩ := run_some.mp (show run m g = some x from e)
      exact run_some.mpr ⟨k + 1, by show act _ _ (stp m f) = _; rw [ha]; exact e⟩
    | some (.inr (.inr (c, as, g))) =>
      rw [ha] at e
      simp only [act] at e
      cases e1 : run c (ent c as g.2.2.2) with
      | none => rw [e1] at e; cases e
      | some q =>
        rw [e1] at e
        obtain ⟨k1, e1⟩ := run_some.mp e1
        obtain ⟨k2, e2⟩ := run_some.mp (show run m (g.1, g.2.1, q.1.toList ++ g.2.2.1, q.2) = some x from e)
        refine run_some.mpr ⟨max k1 k2 + 1, ?_⟩
        show act _ _ (stp m f) = _
        rw [ha]
        simp only [act]
        rw [exc_le (Nat.le_max_left k1 k2) e1]
        exact exc_le (Nat.le_max_right k1 k2) e2
theorem run_go {m : Nat} {i : MI} {ins : ClassFile.Instr} {len pc pc2 : Nat} {L L2 : AL} {S S2 : List Value} {h h2 : AH} (hm : mtab[m]? = some i) (hd : decode i.2.1 pc = .ok (ins, len)) (hs : sem i ins len pc L S h = mk pc2 L2 S2 h2) : run m (pc, L, S, h) = run m (pc2, L2, S2, h2) := by
  rw [run_act]
  simp only [stp, hm, hd, hs, mk, act]
theorem run_end {m : Nat} {i : MI} {ins : ClassFile.Instr} {len pc : Nat} {L : AL} {S : List Value} {h : AH} {r : Rs} (hm : mtab[m]? = some i) (hd : decode i.2.1 pc = .ok (ins, len)) (hs : sem i ins len pc L S h = some (.inl r)) : run m (pc, L, S, h) = some r := by
  rw [run_act]
  simp only [stp, hm, hd, hs, act]
theorem run_call {m : Nat} {i : MI} {ins : ClassFile.Instr} {len pc c : Nat} {L : AL} {S as : List Value} {h : AH} {f : Fr} (hm : mtab[m]? = some i) (hd : decode i.2.1 pc = .ok (ins, len)) (hs : sem i ins len pc L S h = some (.inr (.inr (c, as, f)))) : run m (pc, L, S, h) = (run c (ent c as f.2.2.2)).bind fun q => run m (f.1, f.2.1, q.1.toList ++ f.2.2.1, q.2) := by
  rw [run_act]
  simp only [stp, hm, hd, hs, act]
theorem run_any {m : Nat} {i : MI} {ins : ClassFile.Instr} {len pc : Nat} {L : AL} {S : List Value} {h : AH} (hm : mtab[m]? = some i) (hd : decode i.2.1 pc = .ok (ins, len)) : run m (pc, L, S, h) = act run m (sem i ins len pc L S h) := by
  rw [run_act]
  simp only [stp, hm, hd]
