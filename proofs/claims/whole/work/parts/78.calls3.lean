section CL3
variable {h h1 : AH} {c w : Nat → Option Nat} {wt : Nat → Nat} {bp bd bm nd : Nat → Nat} {nb : Nat} {t : Nat → Option Nat} {P : Nat} {pk pp pn pl : Nat → Nat} {gr : Nat → Nat → Nat} {L : Nat} {lp ld ln : Nat → Nat} {lg : Nat → Nat → Nat} {sz : Nat → Option Nat} {sl : Nat → Nat} {cm : Nat → Int32} {tr : Int32} {fa : Int32} {dr da : Nat} {pa qa la ma : Nat → Nat}
theorem fr3_cell {h2 : AH} (F : Fr3 t3 h h2) (R : RS h c w wt bp bd bm nd nb t P pk pp pn pl gr L lp ld ln lg sz sl cm tr fa) (St : StC h) : RS h2 c w wt bp bd bm nd nb t P pk pp pn pl gr L lp ld ln lg sz sl cm tr fa ∧ StC h2 := by
  have hb : ∀ b, ¬ (19 ≤ b ∧ b ≤ 21) → b ∉ t3 := fun b hb => by
    unfold t3
    simp only [List.mem_cons, List.not_mem_nil, or_false]
    omega
  have eI : ∀ b, ¬ (19 ≤ b ∧ b ≤ 21) → rI h2 b = rI h b := fun b hh => F.1 b (hb b hh)
  obtain ⟨rd, lm, ft, f50, f58, hM, BM, PA1, GM, KM, SM, a40, a50, a58, e1, e2⟩ := R
  refine ⟨⟨rd, lm, ft, f50, f58, by rw [F.2.1, hM], ?_, ?_, ?_, ?_, ?_, by rw [eI 40 (by omega), a40], by rw [eI 50 (by omega), a50], by rw [eI 58 (by omega), a58], e1, e2⟩, ?_⟩
  · unfold BookM
    rw [eI 37 (by omega), eI 38 (by omega), eI 39 (by omega)]
    exact BM
  · unfold PAM
    rw [eI 51 (by omega), eI 52 (by omega), eI 53 (by omega), eI 54 (by omega)]
    exact PA1
  · unfold PagesM
    rw [eI 41 (by omega), eI 42 (by omega), eI 43 (by omega), eI 44 (by omega), eI 45 (by omega)]
    exact GM
  · unfold LettersM
    rw [eI 46 (by omega), eI 47 (by omega), eI 48 (by omega), eI 49 (by omega)]
    exact KM
  · unfold SheetM
    rw [eI 55 (by omega), eI 56 (by omega), eI 57 (by omega)]
    exact SM
  · unfold StC
    rw [eI 1 (by omega), eI 2 (by omega), eI 3 (by omega)]
    exact St
theorem good_fr3 {m1 m2 : Nat} {A1 A2 : AL} {v : Value} {g19 g20 g21 : Nat → Int32} (hN : 59 ≤ h.1) (St : StC h) (hX : rO h 4 = some (10, xF dr (nI P) (nI L) fa)) (C : CB h c w wt bp bd bm nd nb t P pk pp pn pl gr L lp ld ln lg sz sl cm tr dr da pa qa la ma) (R : RS h c w wt bp bd bm nd nb t P pk pp pn pl gr L lp ld ln lg sz sl cm tr fa) (F : Fr3 t3 h h1) (z19 : rI h1 19 = some (6, g19)) (z20 : rI h1 20 = some (6, g20)) (z21 : rI h1 21 = some (6, g21)) (z0 : h1.2.2 0 = h.2.2 0) (r1 : run m1 (0, A1, [], h) = some (some v, h1)) (r2 : run m2 (0, A2, [], h1) = some (some v, h1)) (hv : isIV m1 v := by first | exact ⟨by decide, by decide⟩ | exact Or.inl rfl | exact Or.inr rfl) : Good m1 m2 A1 A2 h := by
  obtain ⟨R1, S1⟩ := fr3_cell F R St
  obtain ⟨C1, _⟩ := cs_fr3 hN hX C F ⟨g19, g20, g21, z19, z20, z21⟩
  exact ⟨v, h1, h1, hv, r1, r2, F.2.1 36, rI_of z0, ⟨S1, by rw [F.2.2.2.1]; exact hN, c, w, wt, bp, bd, bm, nd, nb, t, P, pk, pp, pn, pl, gr, L, lp, ld, ln, lg, sz, sl, cm, tr, fa, C1, R1⟩, z0, by rw [F.2.2.2.1]; omega, by rw [F.2.2.2.2]; omega⟩
theorem g_last {x y : Int32} (hs0 : ∃ n f, h.2.2 0 = aI n f) (hN : 59 ≤ h.1) (St : StC h) (hX : rO h 4 = some (10, xF dr (nI P) (nI L) fa)) (C : CB h c w wt bp bd bm nd nb t P pk pp pn pl gr L lp ld ln lg sz sl cm tr dr da pa qa la ma) (R : RS h c w wt bp bd bm nd nb t P pk pp pn pl gr L lp ld ln lg sz sl cm tr fa) : Good 114 186 [some (.ref 4), some (.int x), some (.int y), none] [some (.ref 36), some (.int x), some (.int y), none, none, none, none, none] h := by
  obtain ⟨rd, lm, ft, f50, f58, hM, BM, PA1, GM, KM, SM, a40, a50, a58, e1, e2⟩ := id R
  obtain ⟨B, PC, T3, hT, G, K, S, D, ht, o1, o2, o3, o4⟩ := id C
  obtain ⟨f19, f20, f21, t19, t20, t21⟩ := T3
  obtain ⟨n0, f0, hs0⟩ := hs0
  have s0 : rI h 0 = some (n0, f0) := by unfold rI; rw [hs0]; rfl
  have zz : ∀ {h1 : AH}, Fr3 t3 h h1 → h1.2.2 0 = h.2.2 0 := fun {h1} F => by
    have e := F.1 0 (by decide)
    rw [s0] at e
    rw [hs0]
    exact rI_some e
  by_cases h1 : 0 ≤ x.toInt ∧ x.toInt ≤ 9999
  · obtain ⟨n, q1, q2, q3⟩ := inR h1
    subst q3
    have hn : n < 10000 := by omega
    by_cases h2 : y = -1
    · subst h2
      obtain ⟨h1, g19, g20, g21, F1, r1, z19, z20, z21⟩ := c_last_all hX hn PC t19 t20 t21
      obtain ⟨R1, S1⟩ := fr3_cell F1 R St
      obtain ⟨rd1, lm1, ft1, f501, f581, hM1, BM1, PA2, _⟩ := id R1
      exact good_fr3 hN St hX C R F1 z19 z20 z21 (zz F1) r1 (r_last_all (pam_pm PA2 hM1) hn)
    · by_cases h3 : 0 ≤ y.toInt ∧ y.toInt ≤ 5
      · obtain ⟨k, w1, w2, w3⟩ := inR h3
        subst w3
        have hk : k < 6 := by omega
        obtain ⟨h1, g19, g20, g21, F1, r1, z19, z20, z21⟩ := c_last hk hX hn PC t19 t20 t21
        obtain ⟨R1, S1⟩ := fr3_cell F1 R St
        obtain ⟨rd1, lm1, ft1, f501, f581, hM1, BM1, PA2, _⟩ := id R1
        exact good_fr3 hN St hX C R F1 z19 z20 z21 (zz F1) r1 (r_last (pam_pm PA2 hM1) hn hk)
      · exact good_same hN St hX C R (c_last_u hn h3 h2) (r_last_u hn h3 h2)
  · exact good_same hN St hX C R (c_last_o h1) (r_last_o h1)
theorem cb_sheet {sz2 : Nat → Option Nat} {sl2 : Nat → Nat} {cm2 : Nat → Int32} (hN : 59 ≤ h.1) (C : CB h c w wt bp bd bm nd nb t P pk pp pn pl gr L lp ld ln lg sz sl cm tr dr da pa qa la ma) (he : ∀ b, b ≠ 4 → ¬ (28 ≤ b ∧ b ≤ 35) → h1.2.2 b = h.2.2 b) (hn : h1.1 = h.1) (S2 : SheetC h1 sz2 sl2 cm2) : CB h1 c w wt bp bd bm nd nb t P pk pp pn pl gr L lp ld ln lg sz2 sl2 cm2 tr dr da pa qa la ma := by
  obtain ⟨B, PC, T3, hT, G, K, S, D, ht, o1, o2, o3, o4⟩ := C
  exact ⟨bookC_eq B (fun b hb => he b (by omega) (by omega)), postsC_eq PC (fun b hb => he b (by omega) (by omega)), t3C_eq T3 (fun b hb => he b (by omega) (by omega)), by rw [rO_of (he 22 (by omega) (by omega)), hT], pagesC_eq G (by omega) (fun b hb => he b (by omega) (by omega)), lettersC_eq K (by omega) (fun b hb => he b (by omega) (by omega)), S2, drF_eq D (he dr (by omega) (by omega)) (he da (by omega) (by omega)), ht, o1, by omega, o3, by omega⟩
theorem rs_sheet {sz2 : Nat → Option Nat} {sl2 : Nat → Nat} {cm2 f582 : Nat → Int32} {fa2 rd2 lm2 : Int32} (R : RS h c w wt bp bd bm nd nb t P pk pp pn pl gr L lp ld ln lg sz sl cm tr fa) (Df : Dif [36, 55, 56, 57, 58] h h1) (S2 : SheetM h1 sz2 sl2 cm2) (a582 : rI h1 58 = some (60, f582)) (hM2 : rO h1 36 = some (11, mF fa2 (oN (t 0)) (oN (t 1)) (bI (t 2).isSome) (bI (decide (t 3 = some 1))) rd2 (nI P) (nI L) lm2 (nI nb) tr)) : RS h1 c w wt bp bd bm nd nb t P pk pp pn pl gr L lp ld ln lg sz2 sl2 cm2 tr fa2 := by
  obtain ⟨rd, lm, ft, f50, f58, hM, BM, PA1, GM, KM, SM, a40, a50, a58, e1, e2⟩ := R
  have he : ∀ b, b ≠ 36 → ¬ (55 ≤ b ∧ b ≤ 58) → h1.2.2 b = h.2.2 b := fun b hb hb2 => Df.1 b (by simp only [List.mem_cons, List.not_mem_nil, or_false]; omega)
  exact ⟨rd2, lm2, ft, f50, f582, hM2, bookM_eq BM (fun b hb => he b (by omega) (by omega)), pam_eq PA1 (fun b hb => he b (by omega) (by omega)), pagesM_eq GM (fun b hb => he b (by omega) (by omega)), lettersM_eq KM (fun b hb => he b (by omega) (by omega)), S2, by rw [rI_of (he 40 (by omega) (by omega)), a40], by rw [rI_of (he 50 (by omega) (by omega)), a50], a582, e1, e2⟩
theorem frm_sheet {h2 : AH} (Df : Dif [36, 55, 56, 57, 58] h1 h2) : Frm h1 h2 := frm_dif Df (fun b hb => by simp only [List.mem_cons, List.not_mem_nil, or_false] at hb; omega)
theorem upd_sz {k : Nat} {o : Option Nat} : upd (fun u => szI (sz u)) k (szI o) = fun u => szI (szU sz k o u) := by
  funext u
  rw [updP]
  unfold szU
  split <;> rfl
theorem g_sheet {x y z : Int32} (hN : 59 ≤ h.1) (St : StC h) (hX : rO h 4 = some (10, xF dr (nI P) (nI L) fa)) (C : CB h c w wt bp bd bm nd nb t P pk pp pn pl gr L lp ld ln lg sz sl cm tr dr da pa qa la ma) (R : RS h c w wt bp bd bm nd nb t P pk pp pn pl gr L lp ld ln lg sz sl cm tr fa) : Good 126 209 [some (.ref 4), some (.int x), some (.int y), some (.int z), none] [some (.ref 36), some (.int x), some (.int y), some (.int z), none] h := by
  obtain ⟨B, PC, T3, hT, G, K, S, D, ht, o1, o2, o3, o4⟩ := id C
  have RL := RS_fc R (fc_lf (lf1 (x := 0) hX))
  obtain ⟨rd, lm, ft, f50, f58, hM, BM, PA1, GM, KM, SM, a40, a50, a58, e1, e2⟩ := id RL
  by_cases h1 : 0 ≤ x.toInt ∧ x.toInt ≤ 3
  · obtain ⟨k, q1, q2, q3⟩ := inR h1
    subst q3
    have hk : k < 4 := by omega
    by_cases h2 : ¬ (0 ≤ y.toInt ∧ y.toInt ≤ 2) ∨ 60 < z.toInt
    · exact good_lf hN St hX C R (lf1 hX) (c_sheet_o hX S hk h2) (r_sheet_o hM hk h2)
    · have h3 : 0 ≤ y.toInt ∧ y.toInt ≤ 2 := Decidable.byContradiction (fun q => h2 (Or.inl q))
      have h4 : z.toInt ≤ 60 := by omega
      by_cases h5 : z.toInt < 0
      · have RL2 := RS_fc R (fc_lf (lf2 (x := 0) (y := 4) hX))
        obtain ⟨rd, lm, ft, f50, f58, hM, _⟩ := id RL2
        exact good_lf hN St hX C R (lf2 hX) (c_sheet_f hX S hk h3 h5) (r_sheet_f hM hk h3 h5)
      · obtain ⟨l, w1, w2, w3⟩ := inR h3
        obtain ⟨n, v1, v2, v3⟩ := inR (x := z) (b := 60) (by omega)
        subst w3 v3
        have hl : l < 3 := by omega
        have hn : n ≤ 60 := by omega
        obtain ⟨h1, r1, D1, X1, S1⟩ := c_sheet hX S hk hl hn
        have he : ∀ b, b ≠ 4 → ¬ (28 ≤ b ∧ b ≤ 35) → h1.2.2 b = h.2.2 b := fun b hb hb2 => D1.1 b (by simp only [List.mem_cons, List.not_mem_nil, or_false]; omega)
        have C1 := cb_sheet hN C he D1.2.1 S1
        have F1 : Fc h h1 := fc_dif D1 (fun b hb => by simp only [List.mem_cons, List.not_mem_nil, or_false] at hb; omega)
        have R1 := RS_fc R F1
        obtain ⟨rd, lm, ft, f50, f58, hM, BM, PA1, GM, KM, SM, a40, a50, a58, e1, e2⟩ := id R1
        have r2 := r_sheet hM SM hk hl hn
        obtain ⟨s1, s2, s3, s4, s5⟩ := id SM
        have D2 : Dif [36, 55, 56, 57, 58] h1 (sf (fillI (si (si h1 55 k (nI n)) 56 k (nI l)) 57 (60 * k) (fun _ => 0) n) 36 0 (.int 0)) := difT (difT (difT (difSi (by decide)) (difSi (by decide))) (difFill (by decide))) (difSf (by decide))
        have hMx : rO (fillI (si (si h1 55 k (nI n)) 56 k (nI l)) 57 (60 * k) (fun _ => 0) n) 36 = rO h1 36 := by rw [rO_fill, rO_si, rO_si]
        refine goodI St hN r1 F1 ⟨dr, da, pa, qa, la, ma, X1, C1⟩ r2 (frm_sheet D2) (rs_sheet R1 D2 ⟨?_, ?_, ?_, S1.2.2.1, S1.2.2.2⟩ (by rw [rI_sf, rI_fillN n (by decide), rI_siN (by decide), rI_siN (by decide), a58]) (sM0 (hMx.trans hM)))
        · rw [rI_sf, rI_fillN n (by decide), rI_siN (by decide), rI_siA s1, show nI n = szI (some n) from rfl, upd_sz]
        · rw [rI_sf, rI_fillN n (by decide), rI_siA (show rI (si h1 55 k (nI n)) 56 = _ from (rI_siN (by decide)).trans s2)]
          congr 2
          funext u
          rw [updP]
          unfold slU
          split <;> rfl
        · rw [rI_sf, rI_fillA n (show rI (si (si h1 55 k (nI n)) 56 k (nI l)) 57 = _ from (rI_siN (by decide)).trans ((rI_siN (by decide)).trans s3))]
          rfl
  · exact good_lf hN St hX C R (lf1 hX) (c_sheet_u hX h1) (r_sheet_u hM h1)
theorem g_lose {x : Int32} (hN : 59 ≤ h.1) (St : StC h) (hX : rO h 4 = some (10, xF dr (nI P) (nI L) fa)) (C : CB h c w wt bp bd bm nd nb t P pk pp pn pl gr L lp ld ln lg sz sl cm tr dr da pa qa la ma) (R : RS h c w wt bp bd bm nd nb t P pk pp pn pl gr L lp ld ln lg sz sl cm tr fa) : Good 127 210 [some (.ref 4), some (.int x), none, none] [some (.ref 36), some (.int x), none] h := by
  obtain ⟨B, PC, T3, hT, G, K, S, D, ht, o1, o2, o3, o4⟩ := id C
  by_cases h1 : 0 ≤ x.toInt ∧ x.toInt ≤ 3
  · obtain ⟨k, q1, q2, q3⟩ := inR h1
    subst q3
    have hk : k < 4 := by omega
    obtain ⟨h1, r1, D1, S1⟩ := c_lose hX S hk
    have he : ∀ b, b ≠ 4 → ¬ (28 ≤ b ∧ b ≤ 35) → h1.2.2 b = h.2.2 b := fun b hb hb2 => D1.1 b (by simp only [List.mem_cons, List.not_mem_nil, or_false]; omega)
    have C1 := cb_sheet hN C he D1.2.1 S1
    have X1 : rO h1 4 = some (10, xF dr (nI P) (nI L) fa) := by rw [difO D1 (by simp only [List.mem_cons, List.not_mem_nil, or_false]; omega), hX]
    have F1 : Fc h h1 := fc_dif D1 (fun b hb => by simp only [List.mem_cons, List.not_mem_nil, or_false] at hb; omega)
    have R1 := RS_fc R F1
    obtain ⟨rd, lm, ft, f50, f58, hM, BM, PA1, GM, KM, SM, a40, a50, a58, e1, e2⟩ := id R1
    have r2 := r_lose hM SM hk
    obtain ⟨s1, s2, s3, s4, s5⟩ := id SM
    have D2 : Dif [36, 55, 56, 57, 58] h1 (si h1 55 k (-1)) := difSi (by decide)
    exact goodI St hN r1 F1 ⟨dr, da, pa, qa, la, ma, X1, C1⟩ r2 (frm_sheet D2) (rs_sheet R1 D2 ⟨by rw [rI_siA s1, show (-1 : Int32) = szI none from rfl, upd_sz], by rw [rI_siN (by decide), s2], by rw [rI_siN (by decide), s3], S1.2.2.1, s5⟩ (by rw [rI_siN (by decide), a58]) (by rw [rO_si, hM]))
  · exact good_same hN St hX C R (c_lose_u hX h1) (r_lose_u h1)
theorem g_put {x y z : Int32} (hN : 59 ≤ h.1) (St : StC h) (hX : rO h 4 = some (10, xF dr (nI P) (nI L) fa)) (C : CB h c w wt bp bd bm nd nb t P pk pp pn pl gr L lp ld ln lg sz sl cm tr dr da pa qa la ma) (R : RS h c w wt bp bd bm nd nb t P pk pp pn pl gr L lp ld ln lg sz sl cm tr fa) : Good 128 212 [some (.ref 4), some (.int x), some (.int y), some (.int z), none] [some (.ref 36), some (.int x), some (.int y), some (.int z)] h := by
  obtain ⟨B, PC, T3, hT, G, K, S, D, ht, o1, o2, o3, o4⟩ := id C
  have RL := RS_fc R (fc_lf (lf1 (x := 0) hX))
  obtain ⟨rd, lm, ft, f50, f58, hM, BM, PA1, GM, KM, SM, a40, a50, a58, e1, e2⟩ := id RL
  by_cases h1 : 0 ≤ x.toInt ∧ x.toInt ≤ 3
  · obtain ⟨k, q1, q2, q3⟩ := inR h1
    subst q3
    have hk : k < 4 := by omega
    by_cases h2 : noC (sz k) y = 0
    · obtain ⟨m, i0, hs, e, hi, _⟩ := noC_ok h2
      subst e
      obtain ⟨h1, r1, D1, X1, S1⟩ := c_put (v := z) hX S hk hs hi
      have he : ∀ b, b ≠ 4 → ¬ (28 ≤ b ∧ b ≤ 35) → h1.2.2 b = h.2.2 b := fun b hb hb2 => D1.1 b (by simp only [List.mem_cons, List.not_mem_nil, or_false]; omega)
      have C1 := cb_sheet hN C he D1.2.1 S1
      have F1 : Fc h h1 := fc_dif D1 (fun b hb => by simp only [List.mem_cons, List.not_mem_nil, or_false] at hb; omega)
      have R1 := RS_fc R F1
      obtain ⟨rd, lm, ft, f50, f58, hM, BM, PA1, GM, KM, SM, a40, a50, a58, e1, e2⟩ := id R1
      have r2 := r_put (v := z) hM SM hk hs hi
      obtain ⟨s1, s2, s3, s4, s5⟩ := id SM
      have D2 : Dif [36, 55, 56, 57, 58] h1 (sf (si h1 57 (60 * k + i0) (cutL (sl k) z)) 36 0 (.int 0)) := difT (difSi (by decide)) (difSf (by decide))
      exact goodI St hN r1 F1 ⟨dr, da, pa, qa, la, ma, X1, C1⟩ r2 (frm_sheet D2) (rs_sheet R1 D2 ⟨by rw [rI_sf, rI_siN (by decide), s1], by rw [rI_sf, rI_siN (by decide), s2], by rw [rI_sf, rI_siA s3], s4, s5⟩ (by rw [rI_sf, rI_siN (by decide), a58]) (sM0 (show rO (si h1 57 (60 * k + i0) (cutL (sl k) z)) 36 = _ from rO_si.trans hM)))
    · have RL2 := RS_fc R (fc_lf (lf2 (x := 0) (y := noC (sz k) y) hX))
      obtain ⟨rd, lm, ft, f50, f58, hM, BM, PA1, GM, KM, SM, _⟩ := id RL2
      exact good_lf hN St hX C R (lf2 hX) (c_put_f hX S hk h2) (r_put_f hM SM hk h2)
  · exact good_lf hN St hX C R (lf1 hX) (c_put_u hX h1) (r_put_u hM h1)
theorem g_cell {x y z : Int32} (hN : 59 ≤ h.1) (St : StC h) (hX : rO h 4 = some (10, xF dr (nI P) (nI L) fa)) (C : CB h c w wt bp bd bm nd nb t P pk pp pn pl gr L lp ld ln lg sz sl cm tr dr da pa qa la ma) (R : RS h c w wt bp bd bm nd nb t P pk pp pn pl gr L lp ld ln lg sz sl cm tr fa) : Good 129 213 [some (.ref 4), some (.int x), some (.int y), some (.int z), none, none] [some (.ref 36), some (.int x), some (.int y), some (.int z)] h := by
  obtain ⟨B, PC, T3, hT, G, K, S, D, ht, o1, o2, o3, o4⟩ := id C
  have RL := RS_fc R (fc_lf (lf1 (x := 0) hX))
  obtain ⟨rd, lm, ft, f50, f58, hM, BM, PA1, GM, KM, SM, a40, a50, a58, e1, e2⟩ := id RL
  by_cases h0 : ¬ (0 ≤ x.toInt ∧ x.toInt ≤ 3) ∨ ¬ (0 ≤ z.toInt ∧ z.toInt ≤ 2)
  · exact good_lf hN St hX C R (lf1 hX) (c_cell_u hX S h0) (r_cell_u hM h0)
  · have h1 : 0 ≤ x.toInt ∧ x.toInt ≤ 3 := Decidable.byContradiction (fun q => h0 (Or.inl q))
    have h2 : 0 ≤ z.toInt ∧ z.toInt ≤ 2 := Decidable.byContradiction (fun q => h0 (Or.inr q))
    obtain ⟨k, q1, q2, q3⟩ := inR h1
    subst q3
    have hk : k < 4 := by omega
    have r1 := c_cell (i := y) hX S hk h2
    by_cases h3 : cellF (sz k) (sl k) z y = 0
    · have r2 := r_cell (i := y) hM SM hk h2
      rw [if_pos h3] at r1 r2
      exact good_lf hN St hX C R (lf1 hX) r1 r2
    · have RL2 := RS_fc R (fc_lf (lf2 (x := 0) (y := cellF (sz k) (sl k) z y) hX))
      obtain ⟨rd, lm, ft, f50, f58, hM, BM, PA1, GM, KM, SM, _⟩ := id RL2
      have r2 := r_cell (i := y) hM SM hk h2
      rw [if_neg h3] at r1 r2
      exact goodI St hN r1 (fc_lf (lf2 hX)) (cs_lf hN C (lf2 hX)) r2 (frm_dif (bs := [36]) (difT (difSf (by simp)) (difSf (by simp))) (fun b hb => by simp only [List.mem_singleton] at hb; omega)) (rs_f RL2 (difT (difSf (by simp)) (difSf (by simp))) (sM0 (sM0 hM)))
theorem g_copy {x y z u v : Int32} (hN : 59 ≤ h.1) (St : StC h) (hX : rO h 4 = some (10, xF dr (nI P) (nI L) fa)) (C : CB h c w wt bp bd bm nd nb t P pk pp pn pl gr L lp ld ln lg sz sl cm tr dr da pa qa la ma) (R : RS h c w wt bp bd bm nd nb t P pk pp pn pl gr L lp ld ln lg sz sl cm tr fa) : Good 130 215 [some (.ref 4), some (.int x), some (.int y), some (.int z), some (.int u), some (.int v), none, none] [some (.ref 36), some (.int x), some (.int y), some (.int z), some (.int u), some (.int v), none] h := by
  obtain ⟨B, PC, T3, hT, G, K, S, D, ht, o1, o2, o3, o4⟩ := id C
  have RL := RS_fc R (fc_lf (lf1 (x := 0) hX))
  obtain ⟨rd, lm, ft, f50, f58, hM, BM, PA1, GM, KM, SM, a40, a50, a58, e1, e2⟩ := id RL
  by_cases h0 : ¬ (0 ≤ x.toInt ∧ x.toInt ≤ 3) ∨ ¬ (0 ≤ z.toInt ∧ z.toInt ≤ 3)
  · exact good_lf hN St hX C R (lf1 hX) (c_copy_u hX S h0) (r_copy_u hM h0)
  · have h1 : 0 ≤ x.toInt ∧ x.toInt ≤ 3 := Decidable.byContradiction (fun q => h0 (Or.inl q))
    have h2 : 0 ≤ z.toInt ∧ z.toInt ≤ 3 := Decidable.byContradiction (fun q => h0 (Or.inr q))
    obtain ⟨k, q1, q2, q3⟩ := inR h1
    obtain ⟨o, w1, w2, w3⟩ := inR h2
    subst q3 w3
    have hk : k < 4 := by omega
    have ho : o < 4 := by omega
    by_cases h3 : copF (sz k) (sz o) (sl k) (sl o) y u v = 0
    · obtain ⟨m, q, i0, j0, n0, hs, hst, hel, ei, ej, en, hi, hj⟩ := copF_ok h3
      subst ei ej en
      obtain ⟨h1, r1, D1, X1, S1⟩ := c_copy hX S hk ho hs hst hel hi hj
      have he : ∀ b, b ≠ 4 → ¬ (28 ≤ b ∧ b ≤ 35) → h1.2.2 b = h.2.2 b := fun b hb hb2 => D1.1 b (by simp only [List.mem_cons, List.not_mem_nil, or_false]; omega)
      have C1 := cb_sheet hN C he D1.2.1 S1
      have F1 : Fc h h1 := fc_dif D1 (fun b hb => by simp only [List.mem_cons, List.not_mem_nil, or_false] at hb; omega)
      have R1 := RS_fc R F1
      obtain ⟨rd, lm, ft, f50, f58, hM, BM, PA1, GM, KM, SM, a40, a50, a58, e1, e2⟩ := id R1
      have r2 := r_copy hM SM a58 hk ho hs hst hel hi hj
      obtain ⟨s1, s2, s3, s4, s5⟩ := id SM
      generalize hg : (fun i => if 0 ≤ i ∧ i < 0 + n0 then cm (60 * k + i0 + (i - 0)) else f58 i) = g2 at r2
      have D2 : Dif [36, 55, 56, 57, 58] h1 (sf (fillI (fillI h1 58 0 (fun x => cm (60 * k + i0 + x)) n0) 57 (60 * o + j0) g2 n0) 36 0 (.int 0)) := difT (difT (difFill (by decide)) (difFill (by decide))) (difSf (by decide))
      have hMx : rO (fillI (fillI h1 58 0 (fun x => cm (60 * k + i0 + x)) n0) 57 (60 * o + j0) g2 n0) 36 = rO h1 36 := by rw [rO_fill, rO_fill]
      have a5x := (show rI (sf (fillI (fillI h1 58 0 (fun x => cm (60 * k + i0 + x)) n0) 57 (60 * o + j0) g2 n0) 36 0 (.int 0)) 58 = rI (fillI h1 58 0 (fun x => cm (60 * k + i0 + x)) n0) 58 by rw [rI_sf, rI_fillN n0 (by decide)]).trans (rI_fillA n0 a58)
      refine goodI St hN r1 F1 ⟨dr, da, pa, qa, la, ma, X1, C1⟩ r2 (frm_sheet D2) (rs_sheet R1 D2 ⟨by rw [rI_sf, rI_fillN n0 (by decide), rI_fillN n0 (by decide), s1], by rw [rI_sf, rI_fillN n0 (by decide), rI_fillN n0 (by decide), s2], ?_, s4, s5⟩ a5x (sM0 (hMx.trans hM)))
      rw [rI_sf, rI_fillA n0 (show rI (fillI h1 58 0 (fun x => cm (60 * k + i0 + x)) n0) 57 = _ from (rI_fillN n0 (by decide)).trans s3)]
      congr 2
      funext i
      unfold cmZ
      by_cases w : 60 * o + j0 ≤ i ∧ i < 60 * o + j0 + n0
      · rw [if_pos w, if_pos w, ← hg]
        show (if 0 ≤ i - (60 * o + j0) ∧ i - (60 * o + j0) < 0 + n0 then cm (60 * k + i0 + (i - (60 * o + j0) - 0)) else f58 (i - (60 * o + j0))) = _
        rw [if_pos (by omega), Nat.sub_zero]
      · rw [if_neg w, if_neg w]
    · have RL2 := RS_fc R (fc_lf (lf2 (x := 0) (y := copF (sz k) (sz o) (sl k) (sl o) y u v) hX))
      obtain ⟨rd, lm, ft, f50, f58, hM, BM, PA1, GM, KM, SM, _⟩ := id RL2
      exact good_lf hN St hX C R (lf2 hX) (c_copy_f hX S hk ho h3) (r_copy_f hM SM hk ho h3)
theorem cb_trace {tr2 : Int32} (hN : 59 ≤ h.1) (C : CB h c w wt bp bd bm nd nb t P pk pp pn pl gr L lp ld ln lg sz sl cm tr dr da pa qa la ma) (Df : Dif [22] h h1) (T2 : rO h1 22 = some (9, [.int tr2])) : CB h1 c w wt bp bd bm nd nb t P pk pp pn pl gr L lp ld ln lg sz sl cm tr2 dr da pa qa la ma := by
  obtain ⟨B, PC, T3, hT, G, K, S, D, ht, o1, o2, o3, o4⟩ := C
  have he : ∀ b, b ≠ 22 → h1.2.2 b = h.2.2 b := fun b hb => Df.1 b (by simp only [List.mem_cons, List.not_mem_nil, or_false]; omega)
  have hn : h1.1 = h.1 := Df.2.1
  exact ⟨bookC_eq B (fun b hb => he b (by omega)), postsC_eq PC (fun b hb => he b (by omega)), t3C_eq T3 (fun b hb => he b (by omega)), T2, pagesC_eq G (by omega) (fun b hb => he b (by omega)), lettersC_eq K (by omega) (fun b hb => he b (by omega)), sheetC_eq S (fun b hb => he b (by omega)), drF_eq D (he dr (by omega)) (he da (by omega)), ht, o1, by omega, o3, by omega⟩
theorem rs_trace {tr2 rd lm : Int32} (R : RS h c w wt bp bd bm nd nb t P pk pp pn pl gr L lp ld ln lg sz sl cm tr fa) (D : Dif [36] h h1) (hM2 : rO h1 36 = some (11, mF fa (oN (t 0)) (oN (t 1)) (bI (t 2).isSome) (bI (decide (t 3 = some 1))) rd (nI P) (nI L) lm (nI nb) tr2)) : RS h1 c w wt bp bd bm nd nb t P pk pp pn pl gr L lp ld ln lg sz sl cm tr2 fa := by
  obtain ⟨rd0, lm0, ft, f50, f58, hM, BM, PA1, GM, KM, SM, a40, a50, a58, e1, e2⟩ := R
  have he : ∀ b, b ≠ 36 → h1.2.2 b = h.2.2 b := fun b hb => D.1 b (by simp only [List.mem_singleton]; exact hb)
  exact ⟨rd, lm, ft, f50, f58, hM2, bookM_eq BM (fun b hb => he b (by omega)), pam_eq PA1 (fun b hb => he b (by omega)), pagesM_eq GM (fun b hb => he b (by omega)), lettersM_eq KM (fun b hb => he b (by omega)), sheetM_eq SM (fun b hb => he b (by omega)), by rw [rI_of (he 40 (by omega)), a40], by rw [rI_of (he 50 (by omega)), a50], by rw [rI_of (he 58 (by omega)), a58], e1, e2⟩
theorem frm_1 {h2 : AH} (Df : Dif [36] h1 h2) : Frm h1 h2 := frm_dif Df (fun b hb => by simp only [List.mem_cons, List.not_mem_nil, or_false] at hb; omega)
theorem g_tell {x : Int32} (hN : 59 ≤ h.1) (St : StC h) (hX : rO h 4 = some (10, xF dr (nI P) (nI L) fa)) (C : CB h c w wt bp bd bm nd nb t P pk pp pn pl gr L lp ld ln lg sz sl cm tr dr da pa qa la ma) (R : RS h c w wt bp bd bm nd nb t P pk pp pn pl gr L lp ld ln lg sz sl cm tr fa) : Good 131 217 [some (.ref 4), some (.int x), none] [some (.ref 36), some (.int x), none, none] h := by
  obtain ⟨rd, lm, ft, f50, f58, hM, BM, PA1, GM, KM, SM, a40, a50, a58, e1, e2⟩ := id R
  obtain ⟨B, PC, T3, hT, G, K, S, D, ht, o1, o2, o3, o4⟩ := id C
  have hP := G.2.2.1
  by_cases h1 : 0 ≤ x.toInt ∧ x.toInt ≤ (P : Int) - 1
  · obtain ⟨p, q1, q2, q3⟩ := inR h1
    subst q3
    have hp : p < P := by omega
    obtain ⟨h1, r1, D1, T1⟩ := c_tell hX G hT hp
    have C1 := cb_trace hN C D1 T1
    have X1 : rO h1 4 = some (10, xF dr (nI P) (nI L) fa) := by rw [difO D1 (by decide), hX]
    have F1 : Fc h h1 := fc_dif D1 (fun b hb => by simp only [List.mem_cons, List.not_mem_nil, or_false] at hb; omega)
    have R1 := RS_fc R F1
    obtain ⟨rd, lm, ft, f50, f58, hM, BM, PA1, GM, KM, SM, a40, a50, a58, e1, e2⟩ := id R1
    obtain ⟨h2, D2, r2, hM2⟩ := r_tell hM GM hp
    exact goodI St hN r1 F1 ⟨dr, da, pa, qa, la, ma, X1, C1⟩ r2 (frm_1 D2) (rs_trace R1 D2 hM2)
  · exact good_same hN St hX C R (c_tell_u hX G h1) (r_tell_u hM hP h1)
theorem g_mark {x : Int32} (hN : 59 ≤ h.1) (St : StC h) (hX : rO h 4 = some (10, xF dr (nI P) (nI L) fa)) (C : CB h c w wt bp bd bm nd nb t P pk pp pn pl gr L lp ld ln lg sz sl cm tr dr da pa qa la ma) (R : RS h c w wt bp bd bm nd nb t P pk pp pn pl gr L lp ld ln lg sz sl cm tr fa) : Good 132 218 [some (.ref 4), some (.int x), none] [some (.ref 36), some (.int x)] h := by
  obtain ⟨rd, lm, ft, f50, f58, hM, BM, PA1, GM, KM, SM, a40, a50, a58, e1, e2⟩ := id R
  obtain ⟨B, PC, T3, hT, G, K, S, D, ht, o1, o2, o3, o4⟩ := id C
  have hP := G.2.2.1
  by_cases h1 : 0 ≤ x.toInt ∧ x.toInt ≤ (P : Int) - 1
  · obtain ⟨p, q1, q2, q3⟩ := inR h1
    subst q3
    have hp : p < P := by omega
    have r1 := c_mark hX G hT hp
    have D1 : Dif [22] h (sf h 22 0 (.int (31 * tr + if pk p = 2 then 5 else 4))) := difSf (by simp)
    have C1 := cb_trace hN C D1 (sT hT)
    have X1 : rO (sf h 22 0 (.int (31 * tr + if pk p = 2 then 5 else 4))) 4 = some (10, xF dr (nI P) (nI L) fa) := by rw [difO D1 (by decide), hX]
    have F1 : Fc h (sf h 22 0 (.int (31 * tr + if pk p = 2 then 5 else 4))) := fc_dif D1 (fun b hb => by simp only [List.mem_cons, List.not_mem_nil, or_false] at hb; omega)
    have R1 := RS_fc R F1
    obtain ⟨rd, lm, ft, f50, f58, hM, BM, PA1, GM, KM, SM, a40, a50, a58, e1, e2⟩ := id R1
    have r2 := r_mark hM GM hp
    exact goodI St hN r1 F1 ⟨dr, da, pa, qa, la, ma, X1, C1⟩ r2 (frm_1 (difSf (by simp))) (rs_trace R1 (difSf (by simp)) (sM32 hM))
  · exact good_same hN St hX C R (c_mark_u hX G h1) (r_mark_u hM hP h1)
theorem g_as {x y : Int32} (hN : 59 ≤ h.1) (St : StC h) (hX : rO h 4 = some (10, xF dr (nI P) (nI L) fa)) (C : CB h c w wt bp bd bm nd nb t P pk pp pn pl gr L lp ld ln lg sz sl cm tr dr da pa qa la ma) (R : RS h c w wt bp bd bm nd nb t P pk pp pn pl gr L lp ld ln lg sz sl cm tr fa) : Good 133 219 [some (.ref 4), some (.int x), some (.int y), none] [some (.ref 36), some (.int x), some (.int y)] h := by
  obtain ⟨B, PC, T3, hT, G, K, S, D, ht, o1, o2, o3, o4⟩ := id C
  have RL := RS_fc R (fc_lf (lf1 (x := 0) hX))
  obtain ⟨rd, lm, ft, f50, f58, hM, BM, PA1, GM, KM, SM, a40, a50, a58, e1, e2⟩ := id RL
  have hP := G.2.2.1
  by_cases h1 : 0 ≤ x.toInt ∧ x.toInt ≤ (P : Int) - 1
  · obtain ⟨p, q1, q2, q3⟩ := inR h1
    subst q3
    have hp : p < P := by omega
    have r1 := c_as (y := y) hX G hp
    by_cases h2 : 0 ≤ y.toInt ∧ y.toInt ≤ 2
    · by_cases h3 : (pk p : Int) < y.toInt
      · have RL2 := RS_fc R (fc_lf (lf2 (x := 0) (y := 2) hX))
        obtain ⟨rd, lm, ft, f50, f58, hM, BM, PA1, GM, KM, SM, _⟩ := id RL2
        have r2 := r_as (y := y) hM GM hp
        rw [if_pos h2, if_pos h3] at r1 r2
        exact good_lf hN St hX C R (lf2 hX) r1 r2
      · have r2 := r_as (y := y) hM GM hp
        rw [if_pos h2, if_neg h3] at r1 r2
        exact good_lf hN St hX C R (lf1 hX) r1 r2
    · have r2 := r_as (y := y) hM GM hp
      rw [if_neg h2] at r1 r2
      exact good_lf hN St hX C R (lf1 hX) r1 r2
  · exact good_lf hN St hX C R (lf1 hX) (c_as_u hX G h1) (r_as_u hM hP h1)
end CL3
