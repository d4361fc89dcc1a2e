theorem loopN {α : Type} {F : Nat → α} (n : Nat) (st : ∀ k, k < n → F k = F (k + 1)) : F 0 = F n := by
  induction n with
  | zero => rfl
  | succ n ih => exact (ih (fun k hk => st k (by omega))).trans (st n (by omega))
theorem loopF {α : Type} {F : Nat → α} (a n : Nat) (st : ∀ k, a ≤ k → k < a + n → F k = F (k + 1)) : F a = F (a + n) := by
  have := loopN (F := fun k => F (a + k)) n (fun k hk => st (a + k) (by omega) (by omega))
  exact this
def fillI (h : AH) (a o : Nat) (g : Nat → Int32) : Nat → AH
  | 0 => h
  | n + 1 => si (fillI h a o g n) a (o + n) (g n)
theorem fill_s1 {h : AH} {a o n : Nat} {g : Nat → Int32} : si (fillI h a o g n) a (o + n) (g n) = fillI h a o g (n + 1) := rfl
theorem rI_fill {h : AH} {a o b : Nat} {g : Nat → Int32} : ∀ n, rI (fillI h a o g n) b = if b = a then (rI h a).map (fun q => (q.1, fun i => if o ≤ i ∧ i < o + n then g (i - o) else q.2 i)) else rI h b
  | 0 => by
    show rI h b = _
    by_cases e : b = a
    · rw [if_pos e, e]
      cases rI h a with
      | none => rfl
      | some q =>
        show _ = some (q.1, _)
        congr 1
        refine Prod.ext rfl ?_
        funext i
        show q.2 i = if o ≤ i ∧ i < o + 0 then _ else _
        rw [if_neg (by omega)]
    · rw [if_neg e]
  | n + 1 => by
    show rI (si _ a (o + n) (g n)) b = _
    rw [rI_si]
    by_cases e : b = a
    · rw [if_pos e, if_pos e, rI_fill n, if_pos rfl]
      cases rI h a with
      | none => rfl
      | some q =>
        show some (q.1, upd _ _ _) = some (q.1, _)
        congr 1
        refine Prod.ext rfl ?_
        funext i
        show (if i = o + n then g n else if o ≤ i ∧ i < o + n then g (i - o) else q.2 i) = if o ≤ i ∧ i < o + (n + 1) then g (i - o) else q.2 i
        by_cases h1 : i = o + n
        · rw [if_pos h1, if_pos (by omega)]
          congr 1
          omega
        · rw [if_neg h1]
          by_cases h2 : o ≤ i ∧ i < o + n
          · rw [if_pos h2, if_pos (by omega)]
          · rw [if_neg h2, if_neg (by omega)]
    · rw [if_neg e, if_neg e, rI_fill n, if_neg e]
theorem rO_fill {h : AH} {a o b : Nat} {g : Nat → Int32} : ∀ n, rO (fillI h a o g n) b = rO h b
  | 0 => rfl
  | n + 1 => by
    show rO (si _ a (o + n) (g n)) b = _
    rw [rO_si, rO_fill n]
theorem rR_fill {h : AH} {a o b : Nat} {g : Nat → Int32} : ∀ n, rR (fillI h a o g n) b = rR h b
  | 0 => rfl
  | n + 1 => by
    show rR (si _ a (o + n) (g n)) b = _
    rw [rR_si, rR_fill n]
theorem fill_n {h : AH} {a o : Nat} {g : Nat → Int32} : ∀ n, (fillI h a o g n).1 = h.1
  | 0 => rfl
  | n + 1 => by
    show (si _ a (o + n) (g n)).1 = _
    rw [si_n, fill_n n]
theorem fill_s {h : AH} {a o : Nat} {g : Nat → Int32} : ∀ n, (fillI h a o g n).2.1 = h.2.1
  | 0 => rfl
  | n + 1 => by
    show (si _ a (o + n) (g n)).2.1 = _
    rw [si_s, fill_s n]
theorem cell_si {h : AH} {a b k : Nat} {x : Int32} (hne : b ≠ a) : (si h a k x).2.2 b = h.2.2 b := by
  unfold si
  split
  · exact rd_wr_ne hne
  · rfl
theorem cell_sf {h : AH} {a b k : Nat} {x : Value} (hne : b ≠ a) : (sf h a k x).2.2 b = h.2.2 b := by
  unfold sf
  split
  · exact rd_wr_ne hne
  · rfl
theorem cell_sr {h : AH} {a b k x : Nat} (hne : b ≠ a) : (sr h a k x).2.2 b = h.2.2 b := by
  unfold sr
  split
  · exact rd_wr_ne hne
  · rfl
theorem cell_fill {h : AH} {a o b : Nat} {g : Nat → Int32} (hne : b ≠ a) : ∀ n, (fillI h a o g n).2.2 b = h.2.2 b
  | 0 => rfl
  | n + 1 => by
    show (si _ a (o + n) (g n)).2.2 b = _
    rw [cell_si hne, cell_fill hne n]
theorem cell_al {h : AH} {c : AE} {k b : Nat} (hne : b ≠ h.1) : (al h c k).2.2 b = h.2.2 b := by
  show va_up h.2.2 h.1 c b = _
  unfold va_up
  rw [if_neg hne]
theorem cell_al_eq {h : AH} {c : AE} {k : Nat} : (al h c k).2.2 h.1 = c := by
  show va_up h.2.2 h.1 c h.1 = _
  unfold va_up
  rw [if_pos rfl]
theorem rI_al {h : AH} {n k : Nat} {f : Nat → Int32} : rI (al h (aI n f) k) h.1 = some (n, f) := by
  unfold rI
  rw [cell_al_eq]
  rfl
theorem rO_al {h : AH} {c k : Nat} {fs : List Value} (hc : c < 90) : rO (al h (aO c fs) k) h.1 = some (c, fs) := by
  unfold rO
  rw [cell_al_eq]
  exact if_pos hc
theorem rR_al {h : AH} {t n k : Nat} {f : Nat → Option Nat} (ht : 1 ≤ t ∧ t < 5) : rR (al h (aR t n f) k) h.1 = some (t, n, f) := by
  unfold rR
  rw [cell_al_eq]
  exact if_pos ht
theorem gf_fill {h : AH} {l : List (Nat × Nat)} {a o b n : Nat} {g : Nat → Int32} : gf (fillI h a o g n) l b = gf h l b := by
  unfold gf
  rw [rO_fill]
theorem vc_fill {h : AH} {l : List (Nat × Nat)} {a o b n : Nat} {g : Nat → Int32} : vc (fillI h a o g n) l b = vc h l b := by
  unfold vc
  rw [rO_fill]
theorem vc_si {h : AH} {l : List (Nat × Nat)} {a k b : Nat} {x : Int32} : vc (si h a k x) l b = vc h l b := by
  unfold vc
  rw [rO_si]
theorem c60 : (60 : Int32) = nI 60 := by decide
theorem c12 : (12 : Int32) = nI 12 := by decide
theorem c100 : (100 : Int32) = nI 100 := by decide
theorem c2 : (2 : Int32) = nI 2 := by decide
theorem ix60 {k j : Nat} : (60 : Int32) * nI k + nI j = nI (60 * k + j) := by rw [c60, pk_mul, nI_add]
theorem ix12 {k j : Nat} : (12 : Int32) * nI k + nI j = nI (12 * k + j) := by rw [c12, pk_mul, nI_add]
theorem nI_negI {k : Nat} (hk : k < 2 ^ 31) : ¬ (nI k).toInt < 0 := by rw [nI_toInt hk]; omega
theorem nIof {x : Int32} (h : 0 ≤ x.toInt) : ∃ k : Nat, k < 2 ^ 31 ∧ x = nI k := by
  obtain ⟨k, _, h2, h3⟩ := inR (b := 2147483647) ⟨h, (i64r x).2⟩
  exact ⟨k, h2, h3⟩
theorem ge0I (x : Int32) : (0 ≤ x) = (0 ≤ x.toInt) := by
  have : (0 ≤ x) ↔ (0 ≤ x.toInt) := Int32.le_iff_toInt_le
  exact propext this
theorem rI_fillA {h : AH} {a o m : Nat} {g f : Nat → Int32} (n : Nat) (ha : rI h a = some (m, f)) : rI (fillI h a o g n) a = some (m, fun i => if o ≤ i ∧ i < o + n then g (i - o) else f i) := by
  rw [rI_fill, if_pos rfl, ha]
  rfl
theorem rI_fillN {h : AH} {a b o : Nat} {g : Nat → Int32} (n : Nat) (hne : b ≠ a) : rI (fillI h a o g n) b = rI h b := by
  rw [rI_fill, if_neg hne]
theorem rI_siN {h : AH} {a b k : Nat} {x : Int32} (hne : b ≠ a) : rI (si h a k x) b = rI h b := by
  rw [rI_si, if_neg hne]
theorem rI_siA {h : AH} {a k n : Nat} {x : Int32} {f : Nat → Int32} (ha : rI h a = some (n, f)) : rI (si h a k x) a = some (n, upd f k x) := by
  rw [rI_si, if_pos rfl, ha]
  rfl
def allB (q : Nat → Bool) : Nat → Bool
  | 0 => true
  | n + 1 => allB q n && q n
theorem allB_iff {q : Nat → Bool} : ∀ {n : Nat}, allB q n = true ↔ ∀ x, x < n → q x = true
  | 0 => ⟨fun _ x hx => absurd hx (by omega), fun _ => rfl⟩
  | n + 1 => by
    show (allB q n && q n) = true ↔ _
    rw [Bool.and_eq_true, allB_iff]
    constructor
    · rintro ⟨h1, h2⟩ x hx
      by_cases e : x = n
      · rw [e]; exact h2
      · exact h1 x (by omega)
    · intro h1
      exact ⟨fun x hx => h1 x (by omega), h1 n (by omega)⟩
def isG (x : Int32) : Bool := decide (0 ≤ x.toInt ∧ x.toInt ≤ 99)
theorem isG_iff {x : Int32} : isG x = true ↔ 0 ≤ x.toInt ∧ x.toInt ≤ 99 := by
  unfold isG
  exact decide_eq_true_iff
theorem bcase (b : Bool) : b = true ∨ b = false := by cases b <;> simp
