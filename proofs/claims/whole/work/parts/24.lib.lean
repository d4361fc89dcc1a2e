theorem st1_0 {b : Option Value} {L : AL} {v : Value} : st1 (b :: L) 0 v = some v :: L := rfl
theorem st1_c {a : Option Value} {L : AL} {v : Value} {k : Nat} : st1 (a :: L) (k + 2) v = a :: st1 L (k + 1) v := by
  show (match (a :: L)[k + 1]? with
    | some (some (.long _)) => ((a :: L).set (k + 1) none).set (k + 1 + 1) (some v)
    | some (some (.double _)) => ((a :: L).set (k + 1) none).set (k + 1 + 1) (some v)
    | _ => (a :: L).set (k + 1 + 1) (some v)) = a :: (match L[k]? with
    | some (some (.long _)) => (L.set k none).set (k + 1) (some v)
    | some (some (.double _)) => (L.set k none).set (k + 1) (some v)
    | _ => L.set (k + 1) (some v))
  rw [List.getElem?_cons_succ]
  cases L[k]? with
  | none => rfl
  | some w =>
    cases w with
    | none => rfl
    | some z => cases z <;> rfl
theorem st1_1i {x : Int32} {b : Option Value} {L : AL} {v : Value} : st1 (some (.int x) :: b :: L) 1 v = some (.int x) :: some v :: L := rfl
theorem st1_1r {x : Nat} {b : Option Value} {L : AL} {v : Value} : st1 (some (.ref x) :: b :: L) 1 v = some (.ref x) :: some v :: L := rfl
theorem st1_1n {b : Option Value} {L : AL} {v : Value} : st1 (some .null :: b :: L) 1 v = some .null :: some v :: L := rfl
theorem st1_1u {b : Option Value} {L : AL} {v : Value} : st1 (none :: b :: L) 1 v = none :: some v :: L := rfl
theorem st1_1J {x : Int64} {b : Option Value} {L : AL} {v : Value} : st1 (some (.long x) :: b :: L) 1 v = none :: some v :: L := rfl
theorem st2_0 {a b : Option Value} {L : AL} {v : Value} : st2 (a :: b :: L) 0 v = some v :: none :: L := rfl
theorem st2_c {a : Option Value} {L : AL} {v : Value} {k : Nat} : st2 (a :: L) (k + 2) v = a :: st2 L (k + 1) v := by
  unfold st2
  rw [st1_c]
  rfl
theorem st2_1i {x : Int32} {a b : Option Value} {L : AL} {v : Value} : st2 (some (.int x) :: a :: b :: L) 1 v = some (.int x) :: some v :: none :: L := rfl
theorem st2_1r {x : Nat} {a b : Option Value} {L : AL} {v : Value} : st2 (some (.ref x) :: a :: b :: L) 1 v = some (.ref x) :: some v :: none :: L := rfl
theorem st2_1n {a b : Option Value} {L : AL} {v : Value} : st2 (some .null :: a :: b :: L) 1 v = some .null :: some v :: none :: L := rfl
theorem st2_1u {a b : Option Value} {L : AL} {v : Value} : st2 (none :: a :: b :: L) 1 v = none :: some v :: none :: L := rfl
theorem st2_1J {x : Int64} {a b : Option Value} {L : AL} {v : Value} : st2 (some (.long x) :: a :: b :: L) 1 v = none :: some v :: none :: L := rfl
theorem rI_wr {h : AH} {a b n : Nat} {f : Nat → Int32} : rI (wr h a (aI n f)) b = if b = a then some (n, f) else rI h b := by
  unfold rI wr va_up
  by_cases e : b = a
  · simp only [e, if_true]
    rfl
  · simp only [e, if_false]
theorem rI_wrO {h : AH} {a b c : Nat} {fs : List Value} (hne : b ≠ a) : rI (wr h a (aO c fs)) b = rI h b := by
  unfold rI wr va_up
  simp only [hne, if_false]
theorem rI_wrR {h : AH} {a b t n : Nat} {f : Nat → Option Nat} (hne : b ≠ a) : rI (wr h a (aR t n f)) b = rI h b := by
  unfold rI wr va_up
  simp only [hne, if_false]
theorem rO_wrO {h : AH} {a b c : Nat} {fs : List Value} : rO (wr h a (aO c fs)) b = if b = a then (if c < 90 then some (c, fs) else none) else rO h b := by
  unfold rO wr va_up
  by_cases e : b = a
  · simp only [e, if_true]
    rfl
  · simp only [e, if_false]
theorem rO_wrI {h : AH} {a b n : Nat} {f : Nat → Int32} (hne : b ≠ a) : rO (wr h a (aI n f)) b = rO h b := by
  unfold rO wr va_up
  simp only [hne, if_false]
theorem rO_wrR {h : AH} {a b t n : Nat} {f : Nat → Option Nat} (hne : b ≠ a) : rO (wr h a (aR t n f)) b = rO h b := by
  unfold rO wr va_up
  simp only [hne, if_false]
theorem gf_at {h : AH} {l : List (Nat × Nat)} {a c k : Nat} {fs : List Value} {v : Value} (h4 : ¬ a < 4) (hr : rO h a = some (c, fs)) (hk : l.lookup c = some k) (hv : fs[k]? = some v) : gf h l a = some v := by
  unfold gf
  rw [if_neg h4, hr, Option.bind_some, hk, Option.bind_some, hv]
theorem pf_at {h : AH} {l : List (Nat × Nat)} {a c k : Nat} {fs : List Value} {v : Value} {ty : FieldType} (h4 : ¬ a < 4) (hr : rO h a = some (c, fs)) (hk : l.lookup c = some k) (ht : cty c k = some ty) (hl : k < fs.length) (ho : okT ty v = true) : pf h l a v = some (wr h a (aO c (fs.set k v))) := by
  unfold pf
  rw [hr, Option.bind_some, hk, Option.bind_some, ht, Option.bind_some, if_neg]
  rintro (q | q | q)
  · exact h4 q
  · exact absurd hl (Nat.not_lt.mpr q)
  · rw [ho] at q
    cases q
theorem gi_nI {h : AH} {a n k : Nat} {f : Nat → Int32} (hr : rI h a = some (n, f)) (hk : k < n) (hn : n < 2 ^ 31) : gi h a (nI k) = some (f k) := by
  unfold gi
  rw [hr, Option.bind_some, nI_clamp (by omega), if_neg]
  rintro (q | q)
  · exact nI_pos (by omega) q
  · omega
theorem pi_nI {h : AH} {a n k : Nat} {f : Nat → Int32} {x : Int32} (h4 : ¬ a < 4) (hr : rI h a = some (n, f)) (hk : k < n) (hn : n < 2 ^ 31) : pi h a (nI k) x = some (wr h a (aI n (upd f k x))) := by
  unfold pi
  rw [hr, Option.bind_some, nI_clamp (by omega), if_neg]
  rintro (q | q | q)
  · exact h4 q
  · exact nI_pos (by omega) q
  · omega
theorem vc_at {h : AH} {l : List (Nat × Nat)} {a c d : Nat} {fs : List Value} (hr : rO h a = some (c, fs)) (hk : l.lookup c = some d) : vc h l a = some d := by
  unfold vc
  rw [hr, Option.bind_some, hk]
theorem z01 {h : AH} {c : Prop} {hc : Decidable c} : (if c then (1 : Int32) else 0) = 0 ∨ (if c then (1 : Int32) else 0) = 1 := by
  by_cases hh : c
  · exact Or.inr (if_pos hh)
  · exact Or.inl (if_neg hh)
theorem i64 (x : Int32) : x.toInt64.toInt = x.toInt := by simp
theorem i64r (x : Int32) : -2147483648 ≤ x.toInt ∧ x.toInt ≤ 2147483647 := by
  have h1 := Int32.toInt_lt x
  have h2 := Int32.le_toInt x
  omega
