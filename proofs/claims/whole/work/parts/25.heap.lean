def si (h : AH) (a k : Nat) (x : Int32) : AH := match rI h a with
  | some (n, f) => wr h a (aI n (upd f k x))
  | none => h
def sf (h : AH) (a k : Nat) (v : Value) : AH := match rO h a with
  | some (c, fs) => wr h a (aO c (fs.set k v))
  | none => h
def sr (h : AH) (a k v : Nat) : AH := match rR h a with
  | some (t, n, f) => wr h a (aR t n (va_up f k (some v)))
  | none => h
theorem rd_wr_ne {h : AH} {a b : Nat} {c : AE} (hne : b ≠ a) : (wr h a c).2.2 b = h.2.2 b := by
  show va_up h.2.2 a c b = _
  unfold va_up
  rw [if_neg hne]
theorem rd_wr_eq {h : AH} {a : Nat} {c : AE} : (wr h a c).2.2 a = c := by
  show va_up h.2.2 a c a = _
  unfold va_up
  rw [if_pos rfl]
theorem rI_of {h h2 : AH} {a : Nat} (e : h.2.2 a = h2.2.2 a) : rI h a = rI h2 a := by unfold rI; rw [e]
theorem rO_of {h h2 : AH} {a : Nat} (e : h.2.2 a = h2.2.2 a) : rO h a = rO h2 a := by unfold rO; rw [e]
theorem rR_of {h h2 : AH} {a : Nat} (e : h.2.2 a = h2.2.2 a) : rR h a = rR h2 a := by unfold rR; rw [e]
theorem rO_i {h : AH} {a n : Nat} {f : Nat → Int32} (e : h.2.2 a = .inl (0, n, .inl f)) : rO h a = none := by unfold rO; rw [e]
theorem rR_i {h : AH} {a n : Nat} {f : Nat → Int32} (e : h.2.2 a = .inl (0, n, .inl f)) : rR h a = none := by unfold rR; rw [e]
theorem rI_o {h : AH} {a : Nat} {q : Nat × List Value} (e : h.2.2 a = .inr q) : rI h a = none := by unfold rI; rw [e]
theorem rR_o {h : AH} {a : Nat} {q : Nat × List Value} (e : h.2.2 a = .inr q) : rR h a = none := by unfold rR; rw [e]
theorem rI_r {h : AH} {a t n : Nat} {f : Nat → Option Nat} (e : h.2.2 a = .inl (t, n, .inr (.inr (.inr (.inr f))))) : rI h a = none := by unfold rI; rw [e]; cases t <;> rfl
theorem rO_r {h : AH} {a t n : Nat} {f : Nat → Option Nat} (e : h.2.2 a = .inl (t, n, .inr (.inr (.inr (.inr f))))) : rO h a = none := by unfold rO; rw [e]
theorem rI_si {h : AH} {a b k : Nat} {x : Int32} : rI (si h a k x) b = if b = a then (rI h a).map (fun q => (q.1, upd q.2 k x)) else rI h b := by
  unfold si
  split
  · rename_i n f e
    rw [rI_wr]
    rw [e]
    rfl
  · rename_i e
    by_cases hb : b = a
    · subst hb
      rw [if_pos rfl, e]
      rfl
    · rw [if_neg hb]
theorem rO_si {h : AH} {a b k : Nat} {x : Int32} : rO (si h a k x) b = rO h b := by
  unfold si
  split
  · rename_i n f e
    by_cases hb : b = a
    · subst hb
      exact (rO_i rd_wr_eq).trans (rO_i (rI_some e)).symm
    · exact rO_of (rd_wr_ne hb)
  · rfl
theorem rR_si {h : AH} {a b k : Nat} {x : Int32} : rR (si h a k x) b = rR h b := by
  unfold si
  split
  · rename_i n f e
    by_cases hb : b = a
    · subst hb
      exact (rR_i rd_wr_eq).trans (rR_i (rI_some e)).symm
    · exact rR_of (rd_wr_ne hb)
  · rfl
theorem rO_sf {h : AH} {a b k : Nat} {v : Value} : rO (sf h a k v) b = if b = a then (rO h a).map (fun q => (q.1, q.2.set k v)) else rO h b := by
  unfold sf
  split
  · rename_i c fs e
    rw [rO_wrO, if_pos (rO_lt e).2, e]
    rfl
  · rename_i e
    by_cases hb : b = a
    · subst hb
      rw [if_pos rfl, e]
      rfl
    · rw [if_neg hb]
theorem rI_sf {h : AH} {a b k : Nat} {v : Value} : rI (sf h a k v) b = rI h b := by
  unfold sf
  split
  · rename_i c fs e
    by_cases hb : b = a
    · subst hb
      exact (rI_o rd_wr_eq).trans (rI_o (rO_lt e).1).symm
    · exact rI_of (rd_wr_ne hb)
  · rfl
theorem rR_sf {h : AH} {a b k : Nat} {v : Value} : rR (sf h a k v) b = rR h b := by
  unfold sf
  split
  · rename_i c fs e
    by_cases hb : b = a
    · subst hb
      exact (rR_o rd_wr_eq).trans (rR_o (rO_lt e).1).symm
    · exact rR_of (rd_wr_ne hb)
  · rfl
theorem rR_sr {h : AH} {a b k v : Nat} : rR (sr h a k v) b = if b = a then (rR h a).map (fun q => (q.1, q.2.1, va_up q.2.2 k (some v))) else rR h b := by
  unfold sr
  split
  · rename_i t n f e
    by_cases hb : b = a
    · subst hb
      rw [if_pos rfl, e]
      unfold rR
      rw [rd_wr_eq]
      exact if_pos (rR_some e).2
    · rw [if_neg hb]
      exact rR_of (rd_wr_ne hb)
  · rename_i e
    by_cases hb : b = a
    · subst hb
      rw [if_pos rfl, e]
      rfl
    · rw [if_neg hb]
theorem rI_sr {h : AH} {a b k v : Nat} : rI (sr h a k v) b = rI h b := by
  unfold sr
  split
  · rename_i t n f e
    by_cases hb : b = a
    · subst hb
      exact (rI_r rd_wr_eq).trans (rI_r (rR_some e).1).symm
    · exact rI_of (rd_wr_ne hb)
  · rfl
theorem rO_sr {h : AH} {a b k v : Nat} : rO (sr h a k v) b = rO h b := by
  unfold sr
  split
  · rename_i t n f e
    by_cases hb : b = a
    · subst hb
      exact (rO_r rd_wr_eq).trans (rO_r (rR_some e).1).symm
    · exact rO_of (rd_wr_ne hb)
  · rfl
theorem si_n {h : AH} {a k : Nat} {x : Int32} : (si h a k x).1 = h.1 := by unfold si; split <;> rfl
theorem sf_n {h : AH} {a k : Nat} {v : Value} : (sf h a k v).1 = h.1 := by unfold sf; split <;> rfl
theorem sr_n {h : AH} {a k v : Nat} : (sr h a k v).1 = h.1 := by unfold sr; split <;> rfl
theorem si_s {h : AH} {a k : Nat} {x : Int32} : (si h a k x).2.1 = h.2.1 := by unfold si; split <;> rfl
theorem sf_s {h : AH} {a k : Nat} {v : Value} : (sf h a k v).2.1 = h.2.1 := by unfold sf; split <;> rfl
theorem sr_s {h : AH} {a k v : Nat} : (sr h a k v).2.1 = h.2.1 := by unfold sr; split <;> rfl
theorem pi_si {h : AH} {a n k : Nat} {f : Nat → Int32} {x : Int32} (h4 : 4 ≤ a) (hr : rI h a = some (n, f)) (hk : k < n) (hn : n < 2 ^ 31) : pi h a (nI k) x = some (si h a k x) := by
  rw [pi_nI (by omega) hr hk hn]
  unfold si
  rw [hr]
theorem pf_sf {h : AH} {l : List (Nat × Nat)} {a c k : Nat} {fs : List Value} {v : Value} {ty : FieldType} (h4 : ¬ a < 4) (hr : rO h a = some (c, fs)) (hk : l.lookup c = some k) (ht : cty c k = some ty) (hl : k < fs.length) (ho : okT ty v = true) : pf h l a v = some (sf h a k v) := by
  rw [pf_at h4 hr hk ht hl ho]
  unfold sf
  rw [hr]
theorem gf1 {h : AH} {c k a : Nat} : gf h [(c, k)] a = if a < 4 then none else (rO h a).bind fun q => if q.1 = c then q.2[k]? else none := by
  unfold gf
  split
  · rfl
  · congr 1
    funext q
    by_cases e : q.1 = c
    · simp [e, List.lookup]
    · have : (q.1 == c) = false := by simpa using e
      simp [e, List.lookup, this]
theorem vc1 {h : AH} {c k a : Nat} : vc h [(c, k)] a = (rO h a).bind fun q => if q.1 = c then some k else none := by
  unfold vc
  congr 1
  funext q
  by_cases e : q.1 = c
  · simp [e, List.lookup]
  · have : (q.1 == c) = false := by simpa using e
    simp [e, List.lookup, this]
def mF (fa dB dL dC dR rd pg lt lm bg tr : Int32) : List Value := [.int fa, .ref 37, .ref 38, .ref 39, .int dB, .int dL, .int dC, .int dR, .ref 40, .int rd, .int pg, .ref 41, .ref 42, .ref 43, .ref 44, .ref 45, .int lt, .ref 46, .ref 47, .ref 48, .ref 49, .int lm, .ref 50, .ref 51, .int bg, .ref 52, .ref 53, .ref 54, .ref 55, .ref 56, .ref 57, .ref 58, .int tr]
theorem gM0 {h : AH} {fa dB dL dC dR rd pg lt lm bg tr : Int32} (hM : rO h 36 = some (11, mF fa dB dL dC dR rd pg lt lm bg tr)) : gf h [(11, 0)] 36 = some (.int fa) := gf_at (by decide) hM rfl rfl
theorem gM1 {h : AH} {fa dB dL dC dR rd pg lt lm bg tr : Int32} (hM : rO h 36 = some (11, mF fa dB dL dC dR rd pg lt lm bg tr)) : gf h [(11, 1)] 36 = some (.ref 37) := gf_at (by decide) hM rfl rfl
theorem gM2 {h : AH} {fa dB dL dC dR rd pg lt lm bg tr : Int32} (hM : rO h 36 = some (11, mF fa dB dL dC dR rd pg lt lm bg tr)) : gf h [(11, 2)] 36 = some (.ref 38) := gf_at (by decide) hM rfl rfl
theorem gM3 {h : AH} {fa dB dL dC dR rd pg lt lm bg tr : Int32} (hM : rO h 36 = some (11, mF fa dB dL dC dR rd pg lt lm bg tr)) : gf h [(11, 3)] 36 = some (.ref 39) := gf_at (by decide) hM rfl rfl
theorem gM4 {h : AH} {fa dB dL dC dR rd pg lt lm bg tr : Int32} (hM : rO h 36 = some (11, mF fa dB dL dC dR rd pg lt lm bg tr)) : gf h [(11, 4)] 36 = some (.int dB) := gf_at (by decide) hM rfl rfl
theorem gM5 {h : AH} {fa dB dL dC dR rd pg lt lm bg tr : Int32} (hM : rO h 36 = some (11, mF fa dB dL dC dR rd pg lt lm bg tr)) : gf h [(11, 5)] 36 = some (.int dL) := gf_at (by decide) hM rfl rfl
theorem gM6 {h : AH} {fa dB dL dC dR rd pg lt lm bg tr : Int32} (hM : rO h 36 = some (11, mF fa dB dL dC dR rd pg lt lm bg tr)) : gf h [(11, 6)] 36 = some (.int dC) := gf_at (by decide) hM rfl rfl
theorem gM7 {h : AH} {fa dB dL dC dR rd pg lt lm bg tr : Int32} (hM : rO h 36 = some (11, mF fa dB dL dC dR rd pg lt lm bg tr)) : gf h [(11, 7)] 36 = some (.int dR) := gf_at (by decide) hM rfl rfl
theorem gM8 {h : AH} {fa dB dL dC dR rd pg lt lm bg tr : Int32} (hM : rO h 36 = some (11, mF fa dB dL dC dR rd pg lt lm bg tr)) : gf h [(11, 8)] 36 = some (.ref 40) := gf_at (by decide) hM rfl rfl
theorem gM9 {h : AH} {fa dB dL dC dR rd pg lt lm bg tr : Int32} (hM : rO h 36 = some (11, mF fa dB dL dC dR rd pg lt lm bg tr)) : gf h [(11, 9)] 36 = some (.int rd) := gf_at (by decide) hM rfl rfl
theorem gM10 {h : AH} {fa dB dL dC dR rd pg lt lm bg tr : Int32} (hM : rO h 36 = some (11, mF fa dB dL dC dR rd pg lt lm bg tr)) : gf h [(11, 10)] 36 = some (.int pg) := gf_at (by decide) hM rfl rfl
theorem gM11 {h : AH} {fa dB dL dC dR rd pg lt lm bg tr : Int32} (hM : rO h 36 = some (11, mF fa dB dL dC dR rd pg lt lm bg tr)) : gf h [(11, 11)] 36 = some (.ref 41) := gf_at (by decide) hM rfl rfl
theorem gM12 {h : AH} {fa dB dL dC dR rd pg lt lm bg tr : Int32} (hM : rO h 36 = some (11, mF fa dB dL dC dR rd pg lt lm bg tr)) : gf h [(11, 12)] 36 = some (.ref 42) := gf_at (by decide) hM rfl rfl
theorem gM13 {h : AH} {fa dB dL dC dR rd pg lt lm bg tr : Int32} (hM : rO h 36 = some (11, mF fa dB dL dC dR rd pg lt lm bg tr)) : gf h [(11, 13)] 36 = some (.ref 43) := gf_at (by decide) hM rfl rfl
theorem gM14 {h : AH} {fa dB dL dC dR rd pg lt lm bg tr : Int32} (hM : rO h 36 = some (11, mF fa dB dL dC dR rd pg lt lm bg tr)) : gf h [(11, 14)] 36 = some (.ref 44) := gf_at (by decide) hM rfl rfl
theorem gM15 {h : AH} {fa dB dL dC dR rd pg lt lm bg tr : Int32} (hM : rO h 36 = some (11, mF fa dB dL dC dR rd pg lt lm bg tr)) : gf h [(11, 15)] 36 = some (.ref 45) := gf_at (by decide) hM rfl rfl
theorem gM16 {h : AH} {fa dB dL dC dR rd pg lt lm bg tr : Int32} (hM : rO h 36 = some (11, mF fa dB dL dC dR rd pg lt lm bg tr)) : gf h [(11, 16)] 36 = some (.int lt) := gf_at (by decide) hM rfl rfl
theorem gM17 {h : AH} {fa dB dL dC dR rd pg lt lm bg tr : Int32} (hM : rO h 36 = some (11, mF fa dB dL dC dR rd pg lt lm bg tr)) : gf h [(11, 17)] 36 = some (.ref 46) := gf_at (by decide) hM rfl rfl
theorem gM18 {h : AH} {fa dB dL dC dR rd pg lt lm bg tr : Int32} (hM : rO h 36 = some (11, mF fa dB dL dC dR rd pg lt lm bg tr)) : gf h [(11, 18)] 36 = some (.ref 47) := gf_at (by decide) hM rfl rfl
theorem gM19 {h : AH} {fa dB dL dC dR rd pg lt lm bg tr : Int32} (hM : rO h 36 = some (11, mF fa dB dL dC dR rd pg lt lm bg tr)) : gf h [(11, 19)] 36 = some (.ref 48) := gf_at (by decide) hM rfl rfl
theorem gM20 {h : AH} {fa dB dL dC dR rd pg lt lm bg tr : Int32} (hM : rO h 36 = some (11, mF fa dB dL dC dR rd pg lt lm bg tr)) : gf h [(11, 20)] 36 = some (.ref 49) := gf_at (by decide) hM rfl rfl
theorem gM21 {h : AH} {fa dB dL dC dR rd pg lt lm bg tr : Int32} (hM : rO h 36 = some (11, mF fa dB dL dC dR rd pg lt lm bg tr)) : gf h [(11, 21)] 36 = some (.int lm) := gf_at (by decide) hM rfl rfl
theorem gM22 {h : AH} {fa dB dL dC dR rd pg lt lm bg tr : Int32} (hM : rO h 36 = some (11, mF fa dB dL dC dR rd pg lt lm bg tr)) : gf h [(11, 22)] 36 = some (.ref 50) := gf_at (by decide) hM rfl rfl
theorem gM23 {h : AH} {fa dB dL dC dR rd pg lt lm bg tr : Int32} (hM : rO h 36 = some (11, mF fa dB dL dC dR rd pg lt lm bg tr)) : gf h [(11, 23)] 36 = some (.ref 51) := gf_at (by decide) hM rfl rfl
theorem gM24 {h : AH} {fa dB dL dC dR rd pg lt lm bg tr : Int32} (hM : rO h 36 = some (11, mF fa dB dL dC dR rd pg lt lm bg tr)) : gf h [(11, 24)] 36 = some (.int bg) := gf_at (by decide) hM rfl rfl
theorem gM25 {h : AH} {fa dB dL dC dR rd pg lt lm bg tr : Int32} (hM : rO h 36 = some (11, mF fa dB dL dC dR rd pg lt lm bg tr)) : gf h [(11, 25)] 36 = some (.ref 52) := gf_at (by decide) hM rfl rfl
theorem gM26 {h : AH} {fa dB dL dC dR rd pg lt lm bg tr : Int32} (hM : rO h 36 = some (11, mF fa dB dL dC dR rd pg lt lm bg tr)) : gf h [(11, 26)] 36 = some (.ref 53) := gf_at (by decide) hM rfl rfl
theorem gM27 {h : AH} {fa dB dL dC dR rd pg lt lm bg tr : Int32} (hM : rO h 36 = some (11, mF fa dB dL dC dR rd pg lt lm bg tr)) : gf h [(11, 27)] 36 = some (.ref 54) := gf_at (by decide) hM rfl rfl
theorem gM28 {h : AH} {fa dB dL dC dR rd pg lt lm bg tr : Int32} (hM : rO h 36 = some (11, mF fa dB dL dC dR rd pg lt lm bg tr)) : gf h [(11, 28)] 36 = some (.ref 55) := gf_at (by decide) hM rfl rfl
theorem gM29 {h : AH} {fa dB dL dC dR rd pg lt lm bg tr : Int32} (hM : rO h 36 = some (11, mF fa dB dL dC dR rd pg lt lm bg tr)) : gf h [(11, 29)] 36 = some (.ref 56) := gf_at (by decide) hM rfl rfl
theorem gM30 {h : AH} {fa dB dL dC dR rd pg lt lm bg tr : Int32} (hM : rO h 36 = some (11, mF fa dB dL dC dR rd pg lt lm bg tr)) : gf h [(11, 30)] 36 = some (.ref 57) := gf_at (by decide) hM rfl rfl
theorem gM31 {h : AH} {fa dB dL dC dR rd pg lt lm bg tr : Int32} (hM : rO h 36 = some (11, mF fa dB dL dC dR rd pg lt lm bg tr)) : gf h [(11, 31)] 36 = some (.ref 58) := gf_at (by decide) hM rfl rfl
theorem gM32 {h : AH} {fa dB dL dC dR rd pg lt lm bg tr : Int32} (hM : rO h 36 = some (11, mF fa dB dL dC dR rd pg lt lm bg tr)) : gf h [(11, 32)] 36 = some (.int tr) := gf_at (by decide) hM rfl rfl
theorem mS0 {fa dB dL dC dR rd pg lt lm bg tr x : Int32} : (mF fa dB dL dC dR rd pg lt lm bg tr).set 0 (.int x) = mF x dB dL dC dR rd pg lt lm bg tr := rfl
theorem pM0 {h : AH} {fa dB dL dC dR rd pg lt lm bg tr x : Int32} (hM : rO h 36 = some (11, mF fa dB dL dC dR rd pg lt lm bg tr)) : pf h [(11, 0)] 36 (.int x) = some (sf h 36 0 (.int x)) := pf_sf (by decide) hM rfl rfl (Nat.le_of_ble_eq_true rfl) rfl
theorem sM0 {h : AH} {fa dB dL dC dR rd pg lt lm bg tr x : Int32} (hM : rO h 36 = some (11, mF fa dB dL dC dR rd pg lt lm bg tr)) : rO (sf h 36 0 (.int x)) 36 = some (11, mF x dB dL dC dR rd pg lt lm bg tr) := by rw [rO_sf, if_pos rfl, hM]; rfl
theorem mS4 {fa dB dL dC dR rd pg lt lm bg tr x : Int32} : (mF fa dB dL dC dR rd pg lt lm bg tr).set 4 (.int x) = mF fa x dL dC dR rd pg lt lm bg tr := rfl
theorem pM4 {h : AH} {fa dB dL dC dR rd pg lt lm bg tr x : Int32} (hM : rO h 36 = some (11, mF fa dB dL dC dR rd pg lt lm bg tr)) : pf h [(11, 4)] 36 (.int x) = some (sf h 36 4 (.int x)) := pf_sf (by decide) hM rfl rfl (Nat.le_of_ble_eq_true rfl) rfl
theorem sM4 {h : AH} {fa dB dL dC dR rd pg lt lm bg tr x : Int32} (hM : rO h 36 = some (11, mF fa dB dL dC dR rd pg lt lm bg tr)) : rO (sf h 36 4 (.int x)) 36 = some (11, mF fa x dL dC dR rd pg lt lm bg tr) := by rw [rO_sf, if_pos rfl, hM]; rfl
theorem mS5 {fa dB dL dC dR rd pg lt lm bg tr x : Int32} : (mF fa dB dL dC dR rd pg lt lm bg tr).set 5 (.int x) = mF fa dB x dC dR rd pg lt lm bg tr := rfl
theorem pM5 {h : AH} {fa dB dL dC dR rd pg lt lm bg tr x : Int32} (hM : rO h 36 = some (11, mF fa dB dL dC dR rd pg lt lm bg tr)) : pf h [(11, 5)] 36 (.int x) = some (sf h 36 5 (.int x)) := pf_sf (by decide) hM rfl rfl (Nat.le_of_ble_eq_true rfl) rfl
theorem sM5 {h : AH} {fa dB dL dC dR rd pg lt lm bg tr x : Int32} (hM : rO h 36 = some (11, mF fa dB dL dC dR rd pg lt lm bg tr)) : rO (sf h 36 5 (.int x)) 36 = some (11, mF fa dB x dC dR rd pg lt lm bg tr) := by rw [rO_sf, if_pos rfl, hM]; rfl
theorem mS6 {fa dB dL dC dR rd pg lt lm bg tr x : Int32} : (mF fa dB dL dC dR rd pg lt lm bg tr).set 6 (.int x) = mF fa dB dL x dR rd pg lt lm bg tr := rfl
theorem pM6 {h : AH} {fa dB dL dC dR rd pg lt lm bg tr x : Int32} (hM : rO h 36 = some (11, mF fa dB dL dC dR rd pg lt lm bg tr)) : pf h [(11, 6)] 36 (.int x) = some (sf h 36 6 (.int x)) := pf_sf (by decide) hM rfl rfl (Nat.le_of_ble_eq_true rfl) rfl
theorem sM6 {h : AH} {fa dB dL dC dR rd pg lt lm bg tr x : Int32} (hM : rO h 36 = some (11, mF fa dB dL dC dR rd pg lt lm bg tr)) : rO (sf h 36 6 (.int x)) 36 = some (11, mF fa dB dL x dR rd pg lt lm bg tr) := by rw [rO_sf, if_pos rfl, hM]; rfl
theorem mS7 {fa dB dL dC dR rd pg lt lm bg tr x : Int32} : (mF fa dB dL dC dR rd pg lt lm bg tr).set 7 (.int x) = mF fa dB dL dC x rd pg lt lm bg tr := rfl
theorem pM7 {h : AH} {fa dB dL dC dR rd pg lt lm bg tr x : Int32} (hM : rO h 36 = some (11, mF fa dB dL dC dR rd pg lt lm bg tr)) : pf h [(11, 7)] 36 (.int x) = some (sf h 36 7 (.int x)) := pf_sf (by decide) hM rfl rfl (Nat.le_of_ble_eq_true rfl) rfl
theorem sM7 {h : AH} {fa dB dL dC dR rd pg lt lm bg tr x : Int32} (hM : rO h 36 = some (11, mF fa dB dL dC dR rd pg lt lm bg tr)) : rO (sf h 36 7 (.int x)) 36 = some (11, mF fa dB dL dC x rd pg lt lm bg tr) := by rw [rO_sf, if_pos rfl, hM]; rfl
theorem mS9 {fa dB dL dC dR rd pg lt lm bg tr x : Int32} : (mF fa dB dL dC dR rd pg lt lm bg tr).set 9 (.int x) = mF fa dB dL dC dR x pg lt lm bg tr := rfl
theorem pM9 {h : AH} {fa dB dL dC dR rd pg lt lm bg tr x : Int32} (hM : rO h 36 = some (11, mF fa dB dL dC dR rd pg lt lm bg tr)) : pf h [(11, 9)] 36 (.int x) = some (sf h 36 9 (.int x)) := pf_sf (by decide) hM rfl rfl (Nat.le_of_ble_eq_true rfl) rfl
theorem sM9 {h : AH} {fa dB dL dC dR rd pg lt lm bg tr x : Int32} (hM : rO h 36 = some (11, mF fa dB dL dC dR rd pg lt lm bg tr)) : rO (sf h 36 9 (.int x)) 36 = some (11, mF fa dB dL dC dR x pg lt lm bg tr) := by rw [rO_sf, if_pos rfl, hM]; rfl
theorem mS10 {fa dB dL dC dR rd pg lt lm bg tr x : Int32} : (mF fa dB dL dC dR rd pg lt lm bg tr).set 10 (.int x) = mF fa dB dL dC dR rd x lt lm bg tr := rfl
theorem pM10 {h : AH} {fa dB dL dC dR rd pg lt lm bg tr x : Int32} (hM : rO h 36 = some (11, mF fa dB dL dC dR rd pg lt lm bg tr)) : pf h [(11, 10)] 36 (.int x) = some (sf h 36 10 (.int x)) := pf_sf (by decide) hM rfl rfl (Nat.le_of_ble_eq_true rfl) rfl
theorem sM10 {h : AH} {fa dB dL dC dR rd pg lt lm bg tr x : Int32} (hM : rO h 36 = some (11, mF fa dB dL dC dR rd pg lt lm bg tr)) : rO (sf h 36 10 (.int x)) 36 = some (11, mF fa dB dL dC dR rd x lt lm bg tr) := by rw [rO_sf, if_pos rfl, hM]; rfl
theorem mS16 {fa dB dL dC dR rd pg lt lm bg tr x : Int32} : (mF fa dB dL dC dR rd pg lt lm bg tr).set 16 (.int x) = mF fa dB dL dC dR rd pg x lm bg tr := rfl
theorem pM16 {h : AH} {fa dB dL dC dR rd pg lt lm bg tr x : Int32} (hM : rO h 36 = some (11, mF fa dB dL dC dR rd pg lt lm bg tr)) : pf h [(11, 16)] 36 (.int x) = some (sf h 36 16 (.int x)) := pf_sf (by decide) hM rfl rfl (Nat.le_of_ble_eq_true rfl) rfl
theorem sM16 {h : AH} {fa dB dL dC dR rd pg lt lm bg tr x : Int32} (hM : rO h 36 = some (11, mF fa dB dL dC dR rd pg lt lm bg tr)) : rO (sf h 36 16 (.int x)) 36 = some (11, mF fa dB dL dC dR rd pg x lm bg tr) := by rw [rO_sf, if_pos rfl, hM]; rfl
theorem mS21 {fa dB dL dC dR rd pg lt lm bg tr x : Int32} : (mF fa dB dL dC dR rd pg lt lm bg tr).set 21 (.int x) = mF fa dB dL dC dR rd pg lt x bg tr := rfl
theorem pM21 {h : AH} {fa dB dL dC dR rd pg lt lm bg tr x : Int32} (hM : rO h 36 = some (11, mF fa dB dL dC dR rd pg lt lm bg tr)) : pf h [(11, 21)] 36 (.int x) = some (sf h 36 21 (.int x)) := pf_sf (by decide) hM rfl rfl (Nat.le_of_ble_eq_true rfl) rfl
theorem sM21 {h : AH} {fa dB dL dC dR rd pg lt lm bg tr x : Int32} (hM : rO h 36 = some (11, mF fa dB dL dC dR rd pg lt lm bg tr)) : rO (sf h 36 21 (.int x)) 36 = some (11, mF fa dB dL dC dR rd pg lt x bg tr) := by rw [rO_sf, if_pos rfl, hM]; rfl
theorem mS24 {fa dB dL dC dR rd pg lt lm bg tr x : Int32} : (mF fa dB dL dC dR rd pg lt lm bg tr).set 24 (.int x) = mF fa dB dL dC dR rd pg lt lm x tr := rfl
theorem pM24 {h : AH} {fa dB dL dC dR rd pg lt lm bg tr x : Int32} (hM : rO h 36 = some (11, mF fa dB dL dC dR rd pg lt lm bg tr)) : pf h [(11, 24)] 36 (.int x) = some (sf h 36 24 (.int x)) := pf_sf (by decide) hM rfl rfl (Nat.le_of_ble_eq_true rfl) rfl
theorem sM24 {h : AH} {fa dB dL dC dR rd pg lt lm bg tr x : Int32} (hM : rO h 36 = some (11, mF fa dB dL dC dR rd pg lt lm bg tr)) : rO (sf h 36 24 (.int x)) 36 = some (11, mF fa dB dL dC dR rd pg lt lm x tr) := by rw [rO_sf, if_pos rfl, hM]; rfl
theorem mS32 {fa dB dL dC dR rd pg lt lm bg tr x : Int32} : (mF fa dB dL dC dR rd pg lt lm bg tr).set 32 (.int x) = mF fa dB dL dC dR rd pg lt lm bg x := rfl
theorem pM32 {h : AH} {fa dB dL dC dR rd pg lt lm bg tr x : Int32} (hM : rO h 36 = some (11, mF fa dB dL dC dR rd pg lt lm bg tr)) : pf h [(11, 32)] 36 (.int x) = some (sf h 36 32 (.int x)) := pf_sf (by decide) hM rfl rfl (Nat.le_of_ble_eq_true rfl) rfl
theorem sM32 {h : AH} {fa dB dL dC dR rd pg lt lm bg tr x : Int32} (hM : rO h 36 = some (11, mF fa dB dL dC dR rd pg lt lm bg tr)) : rO (sf h 36 32 (.int x)) 36 = some (11, mF fa dB dL dC dR rd pg lt lm bg x) := by rw [rO_sf, if_pos rfl, hM]; rfl
