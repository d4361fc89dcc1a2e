section CL4
variable {h h1 : AH} {c w : Nat → Option Nat} {wt : Nat → Nat} {bp bd bm nd : Nat → Nat} {nb : Nat} {t : Nat → Option Nat} {P : Nat} {pk pp pn pl : Nat → Nat} {gr : Nat → Nat → Nat} {L : Nat} {lp ld ln : Nat → Nat} {lg : Nat → Nat → Nat} {sz : Nat → Option Nat} {sl : Nat → Nat} {cm : Nat → Int32} {tr : Int32} {fa : Int32} {dr da : Nat} {pa qa la ma : Nat → Nat}
theorem rs_laid {f2 : Nat → Int32} {fa2 rd2 lm2 : Int32} (R : RS h c w wt bp bd bm nd nb t P pk pp pn pl gr L lp ld ln lg sz sl cm tr fa) (Df : Dif [36, 50] h h1) (a5 : rI h1 50 = some (80, f2)) (hM2 : rO h1 36 = some (11, mF fa2 (oN (t 0)) (oN (t 1)) (bI (t 2).isSome) (bI (decide (t 3 = some 1))) rd2 (nI P) (nI L) lm2 (nI nb) tr)) : RS h1 c w wt bp bd bm nd nb t P pk pp pn pl gr L lp ld ln lg sz sl cm tr fa2 := by
  obtain ⟨rd, lm, ft, f50, f58, hM, BM, PA1, GM, KM, SM, a40, a50, a58, e1, e2⟩ := R
  have he : ∀ b, b ≠ 36 → b ≠ 50 → h1.2.2 b = h.2.2 b := fun b hb hb2 => Df.1 b (by simp only [List.mem_cons, List.not_mem_nil, or_false]; omega)
  exact ⟨rd2, lm2, ft, f2, f58, hM2, bookM_eq BM (fun b hb => he b (by omega) (by omega)), pam_eq PA1 (fun b hb => he b (by omega) (by omega)), pagesM_eq GM (fun b hb => he b (by omega) (by omega)), lettersM_eq KM (fun b hb => he b (by omega) (by omega)), sheetM_eq SM (fun b hb => he b (by omega) (by omega)), by rw [rI_of (he 40 (by omega) (by omega)), a40], a5, by rw [rI_of (he 58 (by omega) (by omega)), a58], e1, e2⟩
theorem frm_laid {h2 : AH} (Df : Dif [36, 50] h1 h2) : Frm h1 h2 := frm_dif Df (fun b hb => by simp only [List.mem_cons, List.not_mem_nil, or_false] at hb; omega)
theorem rs_drill {t2 : Nat → Option Nat} {f2 : Nat → Int32} {fa2 rd2 lm2 : Int32} (R : RS h c w wt bp bd bm nd nb t P pk pp pn pl gr L lp ld ln lg sz sl cm tr fa) (Df : Dif [36, 40] h h1) (a4 : rI h1 40 = some (4, f2)) (hM2 : rO h1 36 = some (11, mF fa2 (oN (t2 0)) (oN (t2 1)) (bI (t2 2).isSome) (bI (decide (t2 3 = some 1))) rd2 (nI P) (nI L) lm2 (nI nb) tr)) : RS h1 c w wt bp bd bm nd nb t2 P pk pp pn pl gr L lp ld ln lg sz sl cm tr fa2 := by
  obtain ⟨rd, lm, ft, f50, f58, hM, BM, PA1, GM, KM, SM, a40, a50, a58, e1, e2⟩ := R
  have he : ∀ b, b ≠ 36 → b ≠ 40 → h1.2.2 b = h.2.2 b := fun b hb hb2 => Df.1 b (by simp only [List.mem_cons, List.not_mem_nil, or_false]; omega)
  exact ⟨rd2, lm2, f2, f50, f58, hM2, bookM_eq BM (fun b hb => he b (by omega) (by omega)), pam_eq PA1 (fun b hb => he b (by omega) (by omega)), pagesM_eq GM (fun b hb => he b (by omega) (by omega)), lettersM_eq KM (fun b hb => he b (by omega) (by omega)), sheetM_eq SM (fun b hb => he b (by omega) (by omega)), a4, by rw [rI_of (he 50 (by omega) (by omega)), a50], by rw [rI_of (he 58 (by omega) (by omega)), a58], e1, e2⟩
theorem dR_eq {t2 : Nat → Option Nat} (h : tdOK t2) : (if oN (t2 3) ≤ 0 then (0 : Int32) else 1) = bI (decide (t2 3 = some 1)) := by
  cases hv : t2 3 with
  | none => rw [decide_eq_false (show ¬ (none : Option Nat) = some 1 from (fun q => by cases q))]; rfl
  | some v =>
    have := h.2.2.2 v hv
    by_cases z : v = 0
    · subst z
      rw [decide_eq_false (show ¬ some 0 = some 1 from (fun q => by cases q))]; rfl
    · have : v = 1 := by omega
      subst this
      rw [decide_eq_true rfl]; rfl
theorem g_drill {x y z u : Int32} (hN : 59 ≤ h.1) (St : StC h) (hX : rO h 4 = some (10, xF dr (nI P) (nI L) fa)) (C : CB h c w wt bp bd bm nd nb t P pk pp pn pl gr L lp ld ln lg sz sl cm tr dr da pa qa la ma) (R : RS h c w wt bp bd bm nd nb t P pk pp pn pl gr L lp ld ln lg sz sl cm tr fa) : Good 104 163 [some (.ref 4), some (.int x), some (.int y), some (.int z), some (.int u), none, none, none, none] [some (.ref 36), some (.int x), some (.int y), some (.int z), some (.int u), none, none, none, none] h := by
  obtain ⟨B, PC, T3, hT, G, K, S, D, ht, o1, o2, o3, o4⟩ := id C
  have RL := RS_fc R (fc_lf (lf1 (x := 0) hX))
  obtain ⟨rd, lm, ft, f50, f58, hM, BM, PA1, GM, KM, SM, a40, a50, a58, e1, e2⟩ := id RL
  by_cases h1 : 0 ≤ x.toInt ∧ x.toInt ≤ 3
  · obtain ⟨k, q1, q2, q3⟩ := inR h1
    subst q3
    have hk : k < 4 := by omega
    by_cases h2 : bar (sz k) (sl k) y z u = 0
    · obtain ⟨m, i0, n0, hs, _, ei, en, hi, _⟩ := bar_ok (S.2.2.1 k) h2
      subst ei en
      obtain ⟨h1, E1, M1⟩ := c_drill hX S St hN hk h2 hs hi
      have F1 : Fc h h1 := ⟨fun b hb => E1.1 b (by omega) (by omega), by rw [E1.2.1]; omega, by rw [E1.2.1]; omega, by rw [E1.2.2]; omega⟩
      have R1 := RS_fc R F1
      obtain ⟨rd, lm, ft, f50, f58, hM, BM, PA1, GM, KM, SM, a40, a50, a58, e1, e2⟩ := id R1
      obtain ⟨h2x, rd1, ft1, D2, a4, M2⟩ := r_drill hM SM a40 hk h2 hs hi
      have F2 : Frm h1 h2x := frm_dif D2 (fun b hb => by simp only [List.mem_cons, List.not_mem_nil, or_false] at hb; omega)
      cases hx : txF (fun x => cm (60 * k + i0 + x)) n0 with
      | inl q =>
        rw [hx] at M1 M2
        have C1 : CB h1 c w wt bp bd bm nd nb t P pk pp pn pl gr L lp ld ln lg sz sl cm tr dr da pa qa la ma := CB_eq C hN (by rw [E1.2.1]; omega) (fun b hb hlt _ => E1.1 b hlt (by omega))
        exact goodI St hN M1.1 F1 ⟨dr, da, pa, qa, la, ma, M1.2, C1⟩ M2.1 F2 (rs_drill R1 D2 a4 M2.2)
      | inr t2 =>
        rw [hx] at M1 M2
        obtain ⟨m1, m2, m3, m4⟩ := M1
        obtain ⟨n1, n2, _⟩ := M2
        rw [dR_eq m4] at n2
        have C1 : CB h1 c w wt bp bd bm nd nb t P pk pp pn pl gr L lp ld ln lg sz sl cm tr dr da pa qa la ma := CB_eq C hN (by rw [E1.2.1]; omega) (fun b hb hlt _ => E1.1 b hlt (by omega))
        obtain ⟨B', PC', T3', hT', G', K', S', _⟩ := C1
        exact goodI St hN m1 F1 ⟨h.1 + 1, h.1 + 2, pa, qa, la, ma, m2, B', PC', T3', hT', G', K', S', m3, m4, by omega, by rw [E1.2.1]; omega, by omega, by rw [E1.2.1]; omega⟩ n1 F2 (rs_drill R1 D2 a4 n2)
    · obtain ⟨h1, r1, l1⟩ := c_drill_b hX S hk h2
      have RL2 := RS_fc R (fc_lf l1)
      obtain ⟨rd, lm, ft, f50, f58, hM, BM, PA1, GM, KM, SM, _⟩ := id RL2
      exact good_lf hN St hX C R l1 r1 (r_drill_b hM SM hk h2)
  · exact good_lf hN St hX C R (lf1 hX) (c_drill_u hX h1) (r_drill_u hM h1)
theorem g_page {x y z u v s : Int32} (hN : 59 ≤ h.1) (St : StC h) (hX : rO h 4 = some (10, xF dr (nI P) (nI L) fa)) (C : CB h c w wt bp bd bm nd nb t P pk pp pn pl gr L lp ld ln lg sz sl cm tr dr da pa qa la ma) (R : RS h c w wt bp bd bm nd nb t P pk pp pn pl gr L lp ld ln lg sz sl cm tr fa) : Good 106 168 [some (.ref 4), some (.int x), some (.int y), some (.int z), some (.int u), some (.int v), some (.int s), none, none, none] [some (.ref 36), some (.int x), some (.int y), some (.int z), some (.int u), some (.int v), some (.int s), none, none] h := by
  obtain ⟨B, PC, T3, hT, G, K, S, D, ht, o1, o2, o3, o4⟩ := id C
  have RL := RS_fc R (fc_lf (lf1 (x := 0) hX))
  obtain ⟨rd, lm, ft, f50, f58, hM, BM, PA1, GM, KM, SM, a40, a50, a58, e1, e2⟩ := id RL
  by_cases h0 : ¬ (0 ≤ z.toInt ∧ z.toInt ≤ 3) ∨ ¬ (0 ≤ y.toInt ∧ y.toInt ≤ 5)
  · exact good_lf hN St hX C R (lf1 hX) (c_page_u hX S h0) (r_page_u hM h0)
  · have h1 : 0 ≤ z.toInt ∧ z.toInt ≤ 3 := Decidable.byContradiction (fun q => h0 (Or.inl q))
    have h2 : 0 ≤ y.toInt ∧ y.toInt ≤ 5 := Decidable.byContradiction (fun q => h0 (Or.inr q))
    obtain ⟨k, q1, q2, q3⟩ := inR h1
    subst q3
    have hk : k < 4 := by omega
    by_cases h3 : 0 ≤ x.toInt ∧ x.toInt ≤ 2
    · by_cases h4 : bar (sz k) (sl k) u v s = 0
      · obtain ⟨m, i0, n0, hs, _, ei, en, hi, _⟩ := bar_ok (S.2.2.1 k) h4
        subst ei en
        by_cases h5 : (1 ≤ n0 ∧ n0 ≤ 12) ∧ allB (fun x => isG (cm (60 * k + i0 + x))) n0 = true
        · by_cases h6 : P = 24
          · have hX' := hX
            rw [h6] at hM
            exact good_lf hN St hX C R (lf1 hX) (c_page_f hX h6 S hk h2 h3 h4 hs hi h5.1 h5.2) (r_page_f hM SM hk h2 h3 h4 hs hi h5.1 h5.2)
          · have hP24 := G.2.2.1
            obtain ⟨kd, w1, w2, w3⟩ := inR h3
            obtain ⟨ps, v1, v2, v3⟩ := inR h2
            subst w3 v3
            have hkd : kd < 3 := by omega
            have hps : ps < 6 := by omega
            have hP : P < 24 := by omega
            obtain ⟨h1, r1, cA, n1, s1, X1, G1⟩ := c_page hX G hP (e1 P (Nat.le_refl _)) hN S hk hps hkd h4 hs hi h5.1 h5.2
            have F1 : Fc h h1 := ⟨fun b hb => cA b (by omega) (by omega) (by omega), by omega, by omega, by omega⟩
            have R1 := RS_fc R F1
            obtain ⟨rd, lm, ft, f50, f58, hM, BM, PA1, GM, KM, SM, a40, a50, a58, e1, e2⟩ := id R1
            have r2 := r_page hM GM hP SM hk hps hkd h4 hs hi h5.1 h5.2
            obtain ⟨p1, p2, p3, p4, p5, b1, b2, b3, b4, b5, b6, b7⟩ := id GM
            have C1 : CB h1 c w wt bp bd bm nd nb t (P + 1) (slU pk P kd) (slU pp P ps) (slU pn P n0) pl (pgN P n0 cm (60 * k + i0) gr) L lp ld ln lg sz sl cm tr dr da (slU pa P (h.1 + 1)) (slU qa P h.1) la ma := ⟨bookC_eq B (fun b hb => cA b (by omega) (by omega) (by omega)), postsC_eq PC (fun b hb => cA b (by omega) (by omega) (by omega)), t3C_eq T3 (fun b hb => cA b (by omega) (by omega) (by omega)), by rw [rO_of (cA 22 (by omega) (by omega) (by omega)), hT], G1, lettersC_eq K (by omega) (fun b hb => cA b (by omega) (by omega) (by omega)), sheetC_eq S (fun b hb => cA b (by omega) (by omega) (by omega)), drF_eq D (cA dr (by omega) (by omega) (by omega)) (cA da (by omega) (by omega) (by omega)), ht, o1, by omega, o3, by omega⟩
            have D2 : Dif [36, 41, 42, 43, 44] h1 (sf (sf (fillI (si (si (si h1 41 P (nI kd)) 42 P (nI ps)) 43 P (nI n0)) 44 (12 * P) (fun x => cm (60 * k + i0 + x)) n0) 36 10 (.int (nI (P + 1)))) 36 0 (.int 0)) := difT (difT (difT (difT (difT (difSi (by decide)) (difSi (by decide))) (difSi (by decide))) (difFill (by decide))) (difSf (by decide))) (difSf (by decide))
            have hMx : rO (fillI (si (si (si h1 41 P (nI kd)) 42 P (nI ps)) 43 P (nI n0)) 44 (12 * P) (fun x => cm (60 * k + i0 + x)) n0) 36 = rO h1 36 := by rw [rO_fill, rO_si, rO_si, rO_si]
            have hM2 := sM0 (x := 0) (sM10 (x := nI (P + 1)) (hMx.trans hM))
            have he : ∀ b, b ≠ 36 → ¬ (41 ≤ b ∧ b ≤ 44) → (sf (sf (fillI (si (si (si h1 41 P (nI kd)) 42 P (nI ps)) 43 P (nI n0)) 44 (12 * P) (fun x => cm (60 * k + i0 + x)) n0) 36 10 (.int (nI (P + 1)))) 36 0 (.int 0)).2.2 b = h1.2.2 b := fun b hb hb2 => D2.1 b (by simp only [List.mem_cons, List.not_mem_nil, or_false]; omega)
            have eu : ∀ {f : Nat → Nat} {v : Nat}, upd (fun u => nI (f u)) P (nI v) = fun u => nI (slU f P v u) := fun {f v} => by
              funext u
              rw [updP]
              unfold slU
              split <;> rfl
            refine goodI St hN r1 F1 ⟨dr, da, _, _, la, ma, X1, C1⟩ r2 (frm_dif D2 (fun b hb => by simp only [List.mem_cons, List.not_mem_nil, or_false] at hb; omega)) ⟨rd, lm, ft, f50, f58, hM2, bookM_eq BM (fun b hb => he b (by omega) (by omega)), pam_eq PA1 (fun b hb => he b (by omega) (by omega)), ⟨?_, ?_, ?_, ?_, ?_, by omega, G1.2.2.2.1, G1.2.2.2.2.1, G1.2.2.2.2.2.1, b5, G1.2.2.2.2.2.2.2.1, G1.2.2.2.2.2.2.2.2⟩, lettersM_eq KM (fun b hb => he b (by omega) (by omega)), sheetM_eq SM (fun b hb => he b (by omega) (by omega)), by rw [rI_of (he 40 (by omega) (by omega)), a40], by rw [rI_of (he 50 (by omega) (by omega)), a50], by rw [rI_of (he 58 (by omega) (by omega)), a58], fun p hp => e1 p (by omega), e2⟩
            · rw [rI_sf, rI_sf, rI_fillN n0 (by decide), rI_siN (by decide), rI_siN (by decide), rI_siA p1, eu]
            · rw [rI_sf, rI_sf, rI_fillN n0 (by decide), rI_siN (by decide), rI_siA (show rI (si h1 41 P (nI kd)) 42 = _ from (rI_siN (by decide)).trans p2), eu]
            · rw [rI_sf, rI_sf, rI_fillN n0 (by decide), rI_siA (show rI (si (si h1 41 P (nI kd)) 42 P (nI ps)) 43 = _ from (rI_siN (by decide)).trans ((rI_siN (by decide)).trans p3)), eu]
            · rw [rI_sf, rI_sf, rI_fillA n0 (show rI (si (si (si h1 41 P (nI kd)) 42 P (nI ps)) 43 P (nI n0)) 44 = _ from (rI_siN (by decide)).trans ((rI_siN (by decide)).trans ((rI_siN (by decide)).trans p4)))]
              congr 2
              funext j
              unfold pgN
              by_cases w : 12 * P ≤ j ∧ j < 12 * P + n0
              · have w5 := isG_iff.mp (allB_iff.mp h5.2 (j - 12 * P) (by omega))
                rw [if_pos w, if_pos (by omega), show j % 12 = j - 12 * P by omega, ← Int32.toInt_inj, nI_toInt (by omega)]
                omega
              · rw [if_neg w, if_neg (by omega)]
            · rw [rI_sf, rI_sf, rI_fillN n0 (by decide), rI_siN (by decide), rI_siN (by decide), rI_siN (by decide), p5]
        · exact good_lf hN St hX C R (lf1 hX) (c_page_g hX S hk h2 h3 h4 hs hi h5) (r_page_g hM SM hk h2 h3 h4 hs hi h5)
      · obtain ⟨h1, r1, l1⟩ := c_page_b hX S hk h2 h3 h4
        have RL2 := RS_fc R (fc_lf l1)
        obtain ⟨rd, lm, ft, f50, f58, hM, BM, PA1, GM, KM, SM, _⟩ := id RL2
        exact good_lf hN St hX C R l1 r1 (r_page_b hM SM hk h2 h3 h4)
    · exact good_lf hN St hX C R (lf1 hX) (c_page_o hX S hk h2 h3) (r_page_o hM hk h2 h3)
theorem g_crib {x y z u v s r : Int32} (hN : 59 ≤ h.1) (St : StC h) (hX : rO h 4 = some (10, xF dr (nI P) (nI L) fa)) (C : CB h c w wt bp bd bm nd nb t P pk pp pn pl gr L lp ld ln lg sz sl cm tr dr da pa qa la ma) (R : RS h c w wt bp bd bm nd nb t P pk pp pn pl gr L lp ld ln lg sz sl cm tr fa) : Good 121 202 [some (.ref 4), some (.int x), some (.int y), some (.int z), some (.int u), some (.int v), some (.int s), some (.int r), none, none, none, none, none, none, none] [some (.ref 36), some (.int x), some (.int y), some (.int z), some (.int u), some (.int v), some (.int s), some (.int r), none, none, none, none, none] h := by
  obtain ⟨B, PC, T3, hT, G, K, S, D, ht, o1, o2, o3, o4⟩ := id C
  have RL := RS_fc R (fc_lf (lf1 (x := 0) hX))
  obtain ⟨rd, lm, ft, f50, f58, hM, BM, PA1, GM, KM, SM, a40, a50, a58, e1, e2⟩ := id RL
  have hL := K.2.2.1
  by_cases h0 : ¬ (0 ≤ x.toInt ∧ x.toInt ≤ (L : Int) - 1) ∨ ¬ (0 ≤ y.toInt ∧ y.toInt ≤ (L : Int) - 1) ∨ ¬ (0 ≤ u.toInt ∧ u.toInt ≤ 3)
  · exact good_lf hN St hX C R (lf1 hX) (c_crib_u hX K S h0) (r_crib_u hM hL h0)
  · have h1 : 0 ≤ x.toInt ∧ x.toInt ≤ (L : Int) - 1 := Decidable.byContradiction (fun q => h0 (Or.inl q))
    have h2 : 0 ≤ y.toInt ∧ y.toInt ≤ (L : Int) - 1 := Decidable.byContradiction (fun q => h0 (Or.inr (Or.inl q)))
    have h3 : 0 ≤ u.toInt ∧ u.toInt ≤ 3 := Decidable.byContradiction (fun q => h0 (Or.inr (Or.inr q)))
    obtain ⟨a, q1, q2, q3⟩ := inR h1
    obtain ⟨b, w1, w2, w3⟩ := inR h2
    obtain ⟨k, v1, v2, v3⟩ := inR h3
    subst q3 w3 v3
    have ha : a < L := by omega
    have hb : b < L := by omega
    have hk : k < 4 := by omega
    by_cases h4 : a = b ∨ ¬ (0 ≤ z.toInt ∧ z.toInt ≤ 1)
    · exact good_lf hN St hX C R (lf1 hX) (c_crib_o hX K S ha hb hk h4) (r_crib_o hM hL ha hb hk h4)
    · have hab : a ≠ b := fun q => h4 (Or.inl q)
      have h5 : 0 ≤ z.toInt ∧ z.toInt ≤ 1 := Decidable.byContradiction (fun q => h4 (Or.inr q))
      by_cases h6 : bar (sz k) (sl k) v s r = 0
      · obtain ⟨m, i0, n0, hs, _, ei, en, hi, hm60⟩ := bar_ok (S.2.2.1 k) h6
        subst ei en
        by_cases h7 : 1 ≤ n0 ∧ n0 ≤ 6
        · by_cases h8 : allB (fun x => isWd c (cm (60 * k + i0 + x))) n0 = true
          · obtain ⟨d, z1, z2, z3⟩ := inR h5
            subst z3
            exact good_lf hN St hX C R (lf1 hX) (c_crib hX B K S ha hb hk hab (show d < 2 by omega) h6 hs hi h7 h8) (r_crib hM SM BM KM ha hb hk hab (show d < 2 by omega) h6 hs hi h7 h8)
          · exact good_lf hN St hX C R (lf1 hX) (c_crib_w hX B K S ha hb hk hab h5 h6 hs hi h7 h8) (r_crib_w hM SM BM hL ha hb hk hab h5 h6 hs hi h7 h8)
        · exact good_lf hN St hX C R (lf1 hX) (c_crib_n hX K S ha hb hk hab h5 h6 hs hi h7) (r_crib_n hM SM hL ha hb hk hab h5 h6 (by omega) h7)
      · obtain ⟨h1, r1, l1⟩ := c_crib_b hX K S ha hb hk hab h5 h6
        have RL2 := RS_fc R (fc_lf l1)
        obtain ⟨rd, lm, ft, f50, f58, hM, BM, PA1, GM, KM, SM, _⟩ := id RL2
        exact good_lf hN St hX C R l1 r1 (r_crib_b hM SM hL ha hb hk hab h5 h6)
theorem g_read {x y z : Int32} (hN : 59 ≤ h.1) (St : StC h) (hX : rO h 4 = some (10, xF dr (nI P) (nI L) fa)) (C : CB h c w wt bp bd bm nd nb t P pk pp pn pl gr L lp ld ln lg sz sl cm tr dr da pa qa la ma) (R : RS h c w wt bp bd bm nd nb t P pk pp pn pl gr L lp ld ln lg sz sl cm tr fa) : Good 110 179 [some (.ref 4), some (.int x), some (.int y), some (.int z), none, none, none, none, none, none, none] [some (.ref 36), some (.int x), some (.int y), some (.int z), none, none, none, none] h := by
  obtain ⟨rd, lm, ft, f50, f58, hM, BM, PA1, GM, KM, SM, a40, a50, a58, e1, e2⟩ := id R
  obtain ⟨B, PC, T3, hT, G, K, S, D, ht, o1, o2, o3, o4⟩ := id C
  have hL := K.2.2.1
  have hP := G.2.2.1
  by_cases h0 : ¬ (0 ≤ x.toInt ∧ x.toInt ≤ (L : Int) - 1) ∨ ¬ (0 ≤ y.toInt ∧ y.toInt ≤ (P : Int) - 1) ∨ ¬ (-1 ≤ z.toInt ∧ z.toInt ≤ 11)
  · exact good_same hN St hX C R (c_read_u hX K G h0) (r_read_u hM hP hL h0)
  · have h1 : 0 ≤ x.toInt ∧ x.toInt ≤ (L : Int) - 1 := Decidable.byContradiction (fun q => h0 (Or.inl q))
    have h2 : 0 ≤ y.toInt ∧ y.toInt ≤ (P : Int) - 1 := Decidable.byContradiction (fun q => h0 (Or.inr (Or.inl q)))
    have h3 : -1 ≤ z.toInt ∧ z.toInt ≤ 11 := Decidable.byContradiction (fun q => h0 (Or.inr (Or.inr q)))
    obtain ⟨a, q1, q2, q3⟩ := inR h1
    obtain ⟨p, w1, w2, w3⟩ := inR h2
    subst q3 w3
    have ha : a < L := by omega
    have hp : p < P := by omega
    have hl := K.2.2.2.2.2.1 a
    have hl1 := K.2.2.2.2.2.2.2 a ha
    have hn12 := G.2.2.2.2.2.1 p
    have hn1 := G.2.2.2.2.2.2.2.2 p hp
    have hbt : ∀ g, t 0 = some g → g < 100 := ht.1
    obtain ⟨h2, f1, r2, D2, hM2, a5, hf⟩ := r_read_pre (m := if pn p ≤ ln a then pn p else ln a) hM GM KM a50 ha hp h3 rfl
    have GM2 : PagesM h2 P pk pp pn pl gr := pagesM_eq GM (fun b hb => D2.1 b (by simp only [List.mem_cons, List.not_mem_nil, or_false]; omega))
    have KM2 : LettersM h2 L lp ld ln lg := lettersM_eq KM (fun b hb => D2.1 b (by simp only [List.mem_cons, List.not_mem_nil, or_false]; omega))
    have BM2 : BookM h2 c w wt := bookM_eq BM (fun b hb => D2.1 b (by simp only [List.mem_cons, List.not_mem_nil, or_false]; omega))
    have R2 := rs_laid R D2 a5 hM2
    have hU : ∀ j, (fun j => subm (lg a j) (gr p j)) j < 100 := fun j => subm_lt _ _
    have hm0 : 0 < (if pn p ≤ ln a then pn p else ln a) := by split <;> omega
    have hf0 : f1 0 = nI ((fun j => subm (lg a j) (gr p j)) 0) := hf 0 hm0
    by_cases hW : pn p - pk p < ln a ∨ wrF (t 0) (t 2).isSome (fun j => subm (lg a j) (gr p j)) (ln a)
    · have r1 := c_read_w hX K G D ht ha hp h3 hW
      by_cases hW1 : (∃ g, t 0 = some g ∧ (fun j => subm (lg a j) (gr p j)) 0 ≠ g) ∨ pn p - pk p < ln a
      · have r3 := r_read_w1 (k := z) (U := fun j => subm (lg a j) (gr p j)) hM2 GM2 KM2 ha hp a5 hf0 hU hbt hW1
        exact goodI St hN r1 fc_rfl ⟨dr, da, pa, qa, la, ma, hX, C⟩ (r2.trans r3) (frm_laid D2) R2
      · have hu : ¬ pn p - pk p < ln a := fun q => hW1 (Or.inr q)
        have hW2 := (hW.resolve_left hu).resolve_left (fun q => hW1 (Or.inl q))
        have em : (if pn p ≤ ln a then pn p else ln a) = ln a := by
          split
          · omega
          · rfl
        have r3 := r_read_k1 (k := z) (U := fun j => subm (lg a j) (gr p j)) hM2 GM2 KM2 ha hp a5 hf0 hU hbt hW1
        rw [em] at hM2 hf r2 r3
        rw [hW2.1] at hM2
        have r4 := r_read_w2 (z := nI a) (y := nI p) (k := z) (U := fun j => subm (lg a j) (gr p j)) hM2 a5 hf hU ⟨by omega, by omega⟩ hW2.2
        exact goodI St hN r1 fc_rfl ⟨dr, da, pa, qa, la, ma, hX, C⟩ ((r2.trans r3).trans r4) (frm_laid D2) R2
    · have r1 := c_read hX B K G D ht ha hp h3 hW
      have hW1 : ¬ ((∃ g, t 0 = some g ∧ (fun j => subm (lg a j) (gr p j)) 0 ≠ g) ∨ pn p - pk p < ln a) := by
        rintro (q | q)
        · exact hW (Or.inr (Or.inl q))
        · exact hW (Or.inl q)
      have hu : ¬ pn p - pk p < ln a := fun q => hW1 (Or.inr q)
      have em : (if pn p ≤ ln a then pn p else ln a) = ln a := by
        split
        · omega
        · rfl
      have r3 := r_read_k1 (k := z) (U := fun j => subm (lg a j) (gr p j)) hM2 GM2 KM2 ha hp a5 hf0 hU hbt hW1
      rw [em] at hM2 hf r2 r3
      have r4 := r_read_k2 (z := nI a) (y := nI p) (k := z) (b := t 0) (ck := (t 2).isSome) (U := fun j => subm (lg a j) (gr p j)) hM2 a5 hf hU hbt ⟨by omega, by omega⟩ (fun ck => Decidable.byContradiction (fun q => hW (Or.inr (Or.inr ⟨ck, q⟩))))
      have hob : offB (t 0) ≤ 1 := by unfold offB; split <;> omega
      have r5 := r_read_e (z := nI a) (y := nI p) (k := z) (ck := (t 2).isSome) (o := offB (t 0)) (U := fun j => subm (lg a j) (gr p j)) hM2 BM2.2.2.1 BM2.2.2.2.1.2 a5 hf hU ⟨by omega, by omega⟩ hob rfl
      exact goodI St hN r1 fc_rfl ⟨dr, da, pa, qa, la, ma, hX, C⟩ (((r2.trans r3).trans r4).trans r5) (frm_laid D2) R2
end CL4
