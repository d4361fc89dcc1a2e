theorem dif_w {bs cs : List Nat} {h h1 : AH} (D : Dif bs h h1) (hs : ∀ b, b ∈ bs → b ∈ cs) : Dif cs h h1 := ⟨fun b hb => D.1 b (fun q => hb (hs b q)), D.2⟩
section CL1
variable {h h1 : AH} {c w : Nat → Option Nat} {wt : Nat → Nat} {bp bd bm nd : Nat → Nat} {nb : Nat} {t : Nat → Option Nat} {P : Nat} {pk pp pn pl : Nat → Nat} {gr : Nat → Nat → Nat} {L : Nat} {lp ld ln : Nat → Nat} {lg : Nat → Nat → Nat} {sz : Nat → Option Nat} {sl : Nat → Nat} {cm : Nat → Int32} {tr : Int32} {fa : Int32} {dr da : Nat} {pa qa la ma : Nat → Nat}
theorem cb_book {c2 w2 : Nat → Option Nat} {wt2 : Nat → Nat} (hN : 59 ≤ h.1) (C : CB h c w wt bp bd bm nd nb t P pk pp pn pl gr L lp ld ln lg sz sl cm tr dr da pa qa la ma) (Df : Dif [5, 6, 7, 8, 9] h h1) (B2 : BookC h1 c2 w2 wt2) : CB h1 c2 w2 wt2 bp bd bm nd nb t P pk pp pn pl gr L lp ld ln lg sz sl cm tr dr da pa qa la ma := by
  obtain ⟨B, PC, T3, hT, G, K, S, D, ht, o1, o2, o3, o4⟩ := C
  have he : ∀ b, 10 ≤ b → h1.2.2 b = h.2.2 b := fun b hb => Df.1 b (by simp only [List.mem_cons, List.not_mem_nil, or_false]; omega)
  have hn : h1.1 = h.1 := Df.2.1
  exact ⟨B2, postsC_eq PC (fun b hb => he b (by omega)), t3C_eq T3 (fun b hb => he b (by omega)), by rw [rO_of (he 22 (by omega)), hT], pagesC_eq G (by omega) (fun b hb => he b (by omega)), lettersC_eq K (by omega) (fun b hb => he b (by omega)), sheetC_eq S (fun b hb => he b (by omega)), drF_eq D (he dr (by omega)) (he da (by omega)), ht, o1, by omega, o3, by omega⟩
theorem rs_book {c2 w2 : Nat → Option Nat} {wt2 : Nat → Nat} (R : RS h c w wt bp bd bm nd nb t P pk pp pn pl gr L lp ld ln lg sz sl cm tr fa) (Df : Dif [37, 38, 39] h h1) (B2 : BookM h1 c2 w2 wt2) : RS h1 c2 w2 wt2 bp bd bm nd nb t P pk pp pn pl gr L lp ld ln lg sz sl cm tr fa := by
  obtain ⟨rd, lm, ft, f50, f58, hM, BM, PA1, GM, KM, SM, a40, a50, a58, e1, e2⟩ := R
  have he : ∀ b, ¬ (37 ≤ b ∧ b ≤ 39) → h1.2.2 b = h.2.2 b := fun b hb => Df.1 b (by simp only [List.mem_cons, List.not_mem_nil, or_false]; omega)
  exact ⟨rd, lm, ft, f50, f58, by rw [rO_of (he 36 (by omega)), hM], B2, pam_eq PA1 (fun b hb => he b (by omega)), pagesM_eq GM (fun b hb => he b (by omega)), lettersM_eq KM (fun b hb => he b (by omega)), sheetM_eq SM (fun b hb => he b (by omega)), by rw [rI_of (he 40 (by omega)), a40], by rw [rI_of (he 50 (by omega)), a50], by rw [rI_of (he 58 (by omega)), a58], e1, e2⟩
theorem frm_book {h2 : AH} (Df : Dif [37, 38, 39] h1 h2) : Frm h1 h2 := frm_dif Df (fun b hb => by simp only [List.mem_cons, List.not_mem_nil, or_false] at hb; omega)
theorem fc_book {h2 : AH} (Df : Dif [5, 6, 7, 8, 9] h1 h2) : Fc h1 h2 := fc_dif Df (fun b hb => by simp only [List.mem_cons, List.not_mem_nil, or_false] at hb; omega)
theorem upd_c {k : Nat} {o : Option Nat} : upd (fun u => oN (c u)) k (oN o) = fun u => oN (cU c k o u) := by
  funext u
  rw [updP]
  unfold cU
  split <;> rfl
theorem g_code {x y : Int32} (hN : 59 ≤ h.1) (St : StC h) (hX : rO h 4 = some (10, xF dr (nI P) (nI L) fa)) (C : CB h c w wt bp bd bm nd nb t P pk pp pn pl gr L lp ld ln lg sz sl cm tr dr da pa qa la ma) (R : RS h c w wt bp bd bm nd nb t P pk pp pn pl gr L lp ld ln lg sz sl cm tr fa) : Good 102 158 [some (.ref 4), some (.int x), some (.int y), none, none] [some (.ref 36), some (.int x), some (.int y), none] h := by
  have R' := R
  obtain ⟨rd, lm, ft, f50, f58, hM, BM, PA1, GM, KM, SM, a40, a50, a58, e1, e2⟩ := R'
  have C' := C
  obtain ⟨B, PC, T3, hT, G, K, S, D, ht, o1, o2, o3, o4⟩ := C'
  have hok := B.2.2.2.2.2.1
  have hI := B.2.2.2.2.2.2.2
  by_cases h1 : 0 ≤ x.toInt ∧ x.toInt ≤ 29
  · obtain ⟨k, q1, q2, q3⟩ := inR h1
    subst q3
    have hk : k < 30 := by omega
    by_cases h2 : -1 ≤ y.toInt ∧ y.toInt ≤ 99
    · by_cases h3 : y = -1
      · subst h3
        obtain ⟨h1, r1, D1, B1⟩ := c_code_none hX B hk
        have D1' : Dif [5, 6, 7, 8, 9] h h1 := dif_w D1 (fun b hb => by simp only [List.mem_cons, List.not_mem_nil, or_false] at hb ⊢; omega)
        have C1 := cb_book hN C D1' B1
        have F1 := fc_book D1'
        have R1 := RS_fc R F1
        have R1' := R1
        obtain ⟨rd, lm, ft, f50, f58, hM, BM, _⟩ := R1'
        have X1 : rO h1 4 = some (10, xF dr (nI P) (nI L) fa) := by rw [difO D1' (by decide), hX]
        cases hc : c k with
        | none =>
          have e9 : si h1 37 k (-9) = si h1 37 k (oN none) := rfl
          have r2 := r_code_rn hk hc (gM1 hM) BM.1
          rw [hc] at r1
          have D2 : Dif [37, 38, 39] h1 (si h1 37 k (-9)) := difSi (by decide)
          refine goodI St hN r1 F1 ⟨dr, da, pa, qa, la, ma, X1, C1⟩ r2 (frm_book D2) (rs_book R1 D2 ⟨?_, ?_, ?_, B1.2.2.2.2.2.1, BM.2.2.2.2⟩)
          · rw [e9, rI_siA BM.1, upd_c]
          · rw [rI_siN (by decide), BM.2.1]
          · rw [rI_siN (by decide), BM.2.2.1]
            congr 2
            funext u
            unfold wU
            rw [if_neg (show ¬ (none : Option Nat) = some u from (fun q => by cases q)), hc, if_neg (show ¬ (none : Option Nat) = some u from (fun q => by cases q))]
        | some g0 =>
          have hg0 := hok.1 k g0 hc
          have r2 := r_code_rs BM.2.2.2.1 hk hc (gM1 hM) (gM3 hM) (by rw [gf_si]; exact gM1 hM) BM.1 BM.2.2.1
          rw [hc] at r1
          have D2 : Dif [37, 38, 39] h1 (si (si h1 39 g0 (-9)) 37 k (-9)) := difT (difSi (by decide)) (difSi (by decide))
          have e9 : si (si h1 39 g0 (-9)) 37 k (-9) = si (si h1 39 g0 (-9)) 37 k (oN none) := rfl
          refine goodI St hN r1 F1 ⟨dr, da, pa, qa, la, ma, X1, C1⟩ r2 (frm_book D2) (rs_book R1 D2 ⟨?_, ?_, ?_, B1.2.2.2.2.2.1, BM.2.2.2.2⟩)
          · rw [e9, rI_siA (show rI (si h1 39 g0 (-9)) 37 = _ from (rI_siN (by decide)).trans BM.1), upd_c]
          · rw [rI_siN (by decide), rI_siN (by decide), BM.2.1]
          · rw [rI_siN (by decide), rI_siA BM.2.2.1]
            congr 2
            funext u
            rw [updP, wU_ns hc]
            by_cases q : u = g0
            · rw [if_pos q, if_pos q]; rfl
            · rw [if_neg q, if_neg q]
      · have h4 : 0 ≤ y.toInt ∧ y.toInt ≤ 99 := by
          refine ⟨?_, h2.2⟩
          by_cases z : 0 ≤ y.toInt
          · exact z
          · have : y.toInt = (-1 : Int32).toInt := by rw [show (-1 : Int32).toInt = -1 by decide]; omega
            exact absurd (Int32.toInt_inj.mp this) h3
        obtain ⟨g, w1, w2, w3⟩ := inR h4
        subst w3
        have hg : g < 100 := by omega
        by_cases h5 : ∃ k2, w g = some k2 ∧ k2 ≠ k
        · obtain ⟨k2, z1, z2⟩ := h5
          exact good_same hN St hX C R (c_code_s hX B hk hg z1 z2) (r_code_s hok hk hg z1 z2 (gM3 hM) BM.2.2.1)
        · have h6 : ∀ k2, w g = some k2 → k2 = k := fun k2 z => Decidable.byContradiction (fun z2 => h5 ⟨k2, z, z2⟩)
          obtain ⟨h1, r1, D1, B1⟩ := c_code_some hX B hk hg h6
          have D1' : Dif [5, 6, 7, 8, 9] h h1 := dif_w D1 (fun b hb => by simp only [List.mem_cons, List.not_mem_nil, or_false] at hb ⊢; omega)
          have C1 := cb_book hN C D1' B1
          have F1 := fc_book D1'
          have R1 := RS_fc R F1
          have R1' := R1
          obtain ⟨rd, lm, ft, f50, f58, hM, BM, _⟩ := R1'
          have X1 : rO h1 4 = some (10, xF dr (nI P) (nI L) fa) := by rw [difO D1' (by decide), hX]
          cases hc : c k with
          | none =>
            have r2 := r_code_sn BM.2.2.2.1 hk hg hc h6 (gM1 hM) (gM3 hM) BM.1 BM.2.2.1
            rw [hc] at r1
            have D2 : Dif [37, 38, 39] h1 (si (si h1 37 k (nI g)) 39 g (nI k)) := difT (difSi (by decide)) (difSi (by decide))
            refine goodI St hN r1 F1 ⟨dr, da, pa, qa, la, ma, X1, C1⟩ r2 (frm_book D2) (rs_book R1 D2 ⟨?_, ?_, ?_, B1.2.2.2.2.2.1, BM.2.2.2.2⟩)
            · rw [rI_siN (by decide), rI_siA BM.1, ← oN_some, upd_c]
            · rw [rI_siN (by decide), rI_siN (by decide), BM.2.1]
            · rw [rI_siA (show rI (si h1 37 k (nI g)) 39 = _ from (rI_siN (by decide)).trans BM.2.2.1)]
              congr 2
              funext u
              rw [updP, wU_sn hc]
              by_cases q : u = g
              · rw [if_pos q, if_pos q]; rfl
              · rw [if_neg q, if_neg q]
          | some g0 =>
            have hg0 := hok.1 k g0 hc
            have r2 := r_code_ss BM.2.2.2.1 hk hg hc h6 (gM1 hM) (gM3 hM) BM.1 BM.2.2.1
            rw [hc] at r1
            have D2 : Dif [37, 38, 39] h1 (si (si (si h1 39 g0 (-9)) 37 k (nI g)) 39 g (nI k)) := difT (difT (difSi (by decide)) (difSi (by decide))) (difSi (by decide))
            refine goodI St hN r1 F1 ⟨dr, da, pa, qa, la, ma, X1, C1⟩ r2 (frm_book D2) (rs_book R1 D2 ⟨?_, ?_, ?_, B1.2.2.2.2.2.1, BM.2.2.2.2⟩)
            · rw [rI_siN (by decide), rI_siA (show rI (si h1 39 g0 (-9)) 37 = _ from (rI_siN (by decide)).trans BM.1), ← oN_some, upd_c]
            · rw [rI_siN (by decide), rI_siN (by decide), rI_siN (by decide), BM.2.1]
            · rw [rI_siA (show rI (si (si h1 39 g0 (-9)) 37 k (nI g)) 39 = _ from (rI_siN (by decide)).trans (rI_siA BM.2.2.1))]
              congr 2
              funext u
              rw [updP, updP]
              unfold wU
              rw [hc]
              by_cases q : u = g
              · rw [if_pos q, if_pos (show some g = some u by rw [q])]; rfl
              · rw [if_neg q, if_neg (show ¬ some g = some u from (fun r => by cases r; exact q rfl))]
                by_cases q2 : u = g0
                · rw [if_pos q2, if_pos (show some g0 = some u by rw [q2])]; rfl
                · rw [if_neg q2, if_neg (show ¬ some g0 = some u from (fun r => by cases r; exact q2 rfl))]
    · exact good_same hN St hX C R (c_code_o hk h2) (r_code_o hk h2)
  · exact good_same hN St hX C R (c_code_u h1) (r_code_u h1)
theorem g_weight {x y : Int32} (hN : 59 ≤ h.1) (St : StC h) (hX : rO h 4 = some (10, xF dr (nI P) (nI L) fa)) (C : CB h c w wt bp bd bm nd nb t P pk pp pn pl gr L lp ld ln lg sz sl cm tr dr da pa qa la ma) (R : RS h c w wt bp bd bm nd nb t P pk pp pn pl gr L lp ld ln lg sz sl cm tr fa) : Good 103 159 [some (.ref 4), some (.int x), some (.int y), none] [some (.ref 36), some (.int x), some (.int y), none] h := by
  have C' := C
  obtain ⟨B, PC, T3, hT, G, K, S, D, ht, o1, o2, o3, o4⟩ := C'
  by_cases h1 : 0 ≤ x.toInt ∧ x.toInt ≤ 29
  · obtain ⟨k, q1, q2, q3⟩ := inR h1
    subst q3
    have hk : k < 30 := by omega
    by_cases h2 : 0 ≤ y.toInt ∧ y.toInt ≤ 99
    · obtain ⟨j, w1, w2, w3⟩ := inR h2
      subst w3
      have hj : j < 100 := by omega
      have r1 := c_weight hk hj hX B.1 B.2.2.1
      have D1' : Dif [5, 6, 7, 8, 9] h (si h 7 k (nI j)) := difSi (by decide)
      have eu : upd (fun u => nI (wt u)) k (nI j) = fun u => nI (slU wt k j u) := by
        funext u
        rw [updP]
        unfold slU
        split <;> rfl
      have hw2 : ∀ u, slU wt k j u < 100 := fun u => by
        unfold slU
        split
        · exact hj
        · exact B.2.2.2.2.2.2.1 u
      have B1 : BookC (si h 7 k (nI j)) c w (slU wt k j) := ⟨by rw [rO_si, B.1], by rw [rI_siN (by decide), B.2.1], by rw [rI_siA B.2.2.1, eu], by rw [rI_siN (by decide), B.2.2.2.1], by rw [rI_siN (by decide)]; exact B.2.2.2.2.1, B.2.2.2.2.2.1, hw2, B.2.2.2.2.2.2.2⟩
      have C1 := cb_book hN C D1' B1
      have F1 := fc_book D1'
      have R1 := RS_fc R F1
      have R1' := R1
      obtain ⟨rd, lm, ft, f50, f58, hM, BM, _⟩ := R1'
      have r2 := r_weight hk hj (gM2 hM) BM.2.1
      have D2 : Dif [37, 38, 39] (si h 7 k (nI j)) (si (si h 7 k (nI j)) 38 k (nI j)) := difSi (by decide)
      exact goodI St hN r1 F1 ⟨dr, da, pa, qa, la, ma, by rw [rO_si, hX], C1⟩ r2 (frm_book D2) (rs_book R1 D2 ⟨by rw [rI_siN (by decide), BM.1], by rw [rI_siA BM.2.1, eu], by rw [rI_siN (by decide), BM.2.2.1], BM.2.2.2.1, hw2⟩)
    · exact good_same hN St hX C R (c_weight_o hk h2) (r_weight_o hk h2)
  · exact good_same hN St hX C R (c_weight_u h1) (r_weight_u h1)
theorem g_ofDrill {x : Int32} (hN : 59 ≤ h.1) (St : StC h) (hX : rO h 4 = some (10, xF dr (nI P) (nI L) fa)) (C : CB h c w wt bp bd bm nd nb t P pk pp pn pl gr L lp ld ln lg sz sl cm tr dr da pa qa la ma) (R : RS h c w wt bp bd bm nd nb t P pk pp pn pl gr L lp ld ln lg sz sl cm tr fa) : Good 105 164 [some (.ref 4), some (.int x)] [some (.ref 36), some (.int x)] h := by
  obtain ⟨rd, lm, ft, f50, f58, hM, BM, PA1, GM, KM, SM, a40, a50, a58, e1, e2⟩ := id R
  obtain ⟨B, PC, T3, hT, G, K, S, D, ht, o1, o2, o3, o4⟩ := id C
  by_cases h1 : 0 ≤ x.toInt ∧ x.toInt ≤ 3
  · obtain ⟨k, q1, q2, q3⟩ := inR h1
    subst q3
    match k, q1 with
    | 0, _ => exact good_same hN St hX C R (c_ofDrill_0 hX D) (r_ofDrill_0 (gM4 hM))
    | 1, _ => exact good_same hN St hX C R (c_ofDrill_1 hX D) (r_ofDrill_1 (gM5 hM))
    | 2, _ => exact good_same hN St hX C R (c_ofDrill_2 hX D ht) (r_ofDrill_2 (gM6 hM))
    | 3, _ => exact good_same hN St hX C R (c_ofDrill_3 hX D ht) (r_ofDrill_3 (gM7 hM))
    | k + 4, hk => omega
  · exact good_same hN St hX C R (c_ofDrill_d (by omega)) (r_ofDrill_d (by omega))
theorem g_ofPage {x y : Int32} (hN : 59 ≤ h.1) (St : StC h) (hX : rO h 4 = some (10, xF dr (nI P) (nI L) fa)) (C : CB h c w wt bp bd bm nd nb t P pk pp pn pl gr L lp ld ln lg sz sl cm tr dr da pa qa la ma) (R : RS h c w wt bp bd bm nd nb t P pk pp pn pl gr L lp ld ln lg sz sl cm tr fa) : Good 107 170 [some (.ref 4), some (.int x), some (.int y), none] [some (.ref 36), some (.int x), some (.int y)] h := by
  obtain ⟨rd, lm, ft, f50, f58, hM, BM, PA1, GM, KM, SM, a40, a50, a58, e1, e2⟩ := id R
  obtain ⟨B, PC, T3, hT, G, K, S, D, ht, o1, o2, o3, o4⟩ := id C
  have hP := G.2.2.1
  by_cases h1 : 0 ≤ x.toInt ∧ x.toInt ≤ (P : Int) - 1
  · obtain ⟨p, q1, q2, q3⟩ := inR h1
    subst q3
    exact good_same hN St hX C R (c_ofPage hX G (show p < P by omega)) (r_ofPage hM GM (show p < P by omega))
  · exact good_same hN St hX C R (c_ofPage_u hX G h1) (r_ofPage_u hM hP h1)
theorem g_ofLetter {x y : Int32} (hN : 59 ≤ h.1) (St : StC h) (hX : rO h 4 = some (10, xF dr (nI P) (nI L) fa)) (C : CB h c w wt bp bd bm nd nb t P pk pp pn pl gr L lp ld ln lg sz sl cm tr dr da pa qa la ma) (R : RS h c w wt bp bd bm nd nb t P pk pp pn pl gr L lp ld ln lg sz sl cm tr fa) : Good 109 178 [some (.ref 4), some (.int x), some (.int y), none] [some (.ref 36), some (.int x), some (.int y)] h := by
  obtain ⟨rd, lm, ft, f50, f58, hM, BM, PA1, GM, KM, SM, a40, a50, a58, e1, e2⟩ := id R
  obtain ⟨B, PC, T3, hT, G, K, S, D, ht, o1, o2, o3, o4⟩ := id C
  have hL := K.2.2.1
  by_cases h1 : 0 ≤ x.toInt ∧ x.toInt ≤ (L : Int) - 1
  · obtain ⟨p, q1, q2, q3⟩ := inR h1
    subst q3
    exact good_same hN St hX C R (c_ofLetter hX K (show p < L by omega)) (r_ofLetter hM KM (show p < L by omega))
  · exact good_same hN St hX C R (c_ofLetter_u hX K h1) (r_ofLetter_u hM hL h1)
theorem g_beside {x y z : Int32} (hN : 59 ≤ h.1) (St : StC h) (hX : rO h 4 = some (10, xF dr (nI P) (nI L) fa)) (C : CB h c w wt bp bd bm nd nb t P pk pp pn pl gr L lp ld ln lg sz sl cm tr dr da pa qa la ma) (R : RS h c w wt bp bd bm nd nb t P pk pp pn pl gr L lp ld ln lg sz sl cm tr fa) : Good 115 191 [some (.ref 4), some (.int x), some (.int y), some (.int z), none, none] [some (.ref 36), some (.int x), some (.int y), some (.int z), none, none] h := by
  obtain ⟨rd, lm, ft, f50, f58, hM, BM, PA1, GM, KM, SM, a40, a50, a58, e1, e2⟩ := id R
  obtain ⟨B, PC, T3, hT, G, K, S, D, ht, o1, o2, o3, o4⟩ := id C
  have hL := K.2.2.1
  by_cases h1 : 0 ≤ x.toInt ∧ x.toInt ≤ (L : Int) - 1
  · by_cases h2 : 0 ≤ y.toInt ∧ y.toInt ≤ (L : Int) - 1
    · obtain ⟨a, q1, q2, q3⟩ := inR h1
      obtain ⟨b, w1, w2, w3⟩ := inR h2
      subst q3 w3
      have ha : a < L := by omega
      have hb : b < L := by omega
      by_cases h3 : ¬ (0 ≤ z.toInt ∧ z.toInt ≤ 3) ∨ a = b
      · exact good_same hN St hX C R (c_beside_o hX K ha hb h3) (r_beside_o hM hL ha hb h3)
      · have h4 : 0 ≤ z.toInt ∧ z.toInt ≤ 3 := Decidable.byContradiction (fun q => h3 (Or.inl q))
        obtain ⟨d, v1, v2, v3⟩ := inR h4
        subst v3
        exact good_same hN St hX C R (c_beside hX B K ha hb (show d < 4 by omega) (fun q => h3 (Or.inr q))) (r_beside hM BM KM ha hb (show d < 4 by omega) (fun q => h3 (Or.inr q)))
    · exact good_same hN St hX C R (c_beside_u hX K (Or.inr h2)) (r_beside_u hM hL (Or.inr h2))
  · exact good_same hN St hX C R (c_beside_u hX K (Or.inl h1)) (r_beside_u hM hL (Or.inl h1))
theorem g_spread (hN : 59 ≤ h.1) (St : StC h) (hX : rO h 4 = some (10, xF dr (nI P) (nI L) fa)) (C : CB h c w wt bp bd bm nd nb t P pk pp pn pl gr L lp ld ln lg sz sl cm tr dr da pa qa la ma) (R : RS h c w wt bp bd bm nd nb t P pk pp pn pl gr L lp ld ln lg sz sl cm tr fa) : Good 116 193 [some (.ref 4)] [some (.ref 36)] h := by
  obtain ⟨rd, lm, ft, f50, f58, hM, BM, PA1, GM, KM, SM, a40, a50, a58, e1, e2⟩ := id R
  obtain ⟨B, PC, T3, hT, G, K, S, D, ht, o1, o2, o3, o4⟩ := id C
  have r1 : run 116 (0, [some (.ref 4)], [], h) = some (some (.int (nI (spF c w))), h) := by
    simp only [uX11_spread_0, uX11_spread_1, uX11_spread_4, uX11_spread_7, gX0 hX, vX B.1, c_spreadC B, Option.bind_some, Option.toList_some, Option.toList_none, List.cons_append, List.nil_append]
  exact good_same hN St hX C R r1 (r_spread BM.2.2.2.1 (gM1 hM) (gM3 hM) BM.1 BM.2.2.1 (vM hM))
theorem g_chance {x y z : Int32} (hN : 59 ≤ h.1) (St : StC h) (hX : rO h 4 = some (10, xF dr (nI P) (nI L) fa)) (C : CB h c w wt bp bd bm nd nb t P pk pp pn pl gr L lp ld ln lg sz sl cm tr dr da pa qa la ma) (R : RS h c w wt bp bd bm nd nb t P pk pp pn pl gr L lp ld ln lg sz sl cm tr fa) : Good 117 197 [some (.ref 4), some (.int x), some (.int y), some (.int z), none, none] [some (.ref 36), some (.int x), some (.int y), some (.int z)] h := by
  obtain ⟨rd, lm, ft, f50, f58, hM, BM, PA1, GM, KM, SM, a40, a50, a58, e1, e2⟩ := id R
  obtain ⟨B, PC, T3, hT, G, K, S, D, ht, o1, o2, o3, o4⟩ := id C
  have hL := K.2.2.1
  by_cases h0 : ¬ (0 ≤ x.toInt ∧ x.toInt ≤ (L : Int) - 1) ∨ ¬ (0 ≤ y.toInt ∧ y.toInt ≤ (L : Int) - 1) ∨ ¬ (0 ≤ z.toInt ∧ z.toInt ≤ 1) ∨ x = y
  · exact good_same hN St hX C R (c_chance_u hX K h0) (r_chance_u hM hL h0)
  · have h1 : 0 ≤ x.toInt ∧ x.toInt ≤ (L : Int) - 1 := Decidable.byContradiction (fun q => h0 (Or.inl q))
    have h2 : 0 ≤ y.toInt ∧ y.toInt ≤ (L : Int) - 1 := Decidable.byContradiction (fun q => h0 (Or.inr (Or.inl q)))
    have h3 : 0 ≤ z.toInt ∧ z.toInt ≤ 1 := Decidable.byContradiction (fun q => h0 (Or.inr (Or.inr (Or.inl q))))
    have h4 : ¬ x = y := fun q => h0 (Or.inr (Or.inr (Or.inr q)))
    obtain ⟨a, q1, q2, q3⟩ := inR h1
    obtain ⟨b, w1, w2, w3⟩ := inR h2
    obtain ⟨d, v1, v2, v3⟩ := inR h3
    subst q3 w3 v3
    have hab : a ≠ b := fun q => h4 (by rw [q])
    exact good_same hN St hX C R (c_chance hX B K (show a < L by omega) (show b < L by omega) (show d < 2 by omega) hab) (r_chance hM BM KM (show a < L by omega) (show b < L by omega) (show d < 2 by omega) hab)
theorem g_best {x : Int32} (hN : 59 ≤ h.1) (St : StC h) (hX : rO h 4 = some (10, xF dr (nI P) (nI L) fa)) (C : CB h c w wt bp bd bm nd nb t P pk pp pn pl gr L lp ld ln lg sz sl cm tr dr da pa qa la ma) (R : RS h c w wt bp bd bm nd nb t P pk pp pn pl gr L lp ld ln lg sz sl cm tr fa) : Good 118 198 [some (.ref 4), some (.int x), none, none, none, none, none, none, none, none, none] [some (.ref 36), some (.int x), none, none, none, none, none, none, none] h := by
  obtain ⟨rd, lm, ft, f50, f58, hM, BM, PA1, GM, KM, SM, a40, a50, a58, e1, e2⟩ := id R
  obtain ⟨B, PC, T3, hT, G, K, S, D, ht, o1, o2, o3, o4⟩ := id C
  by_cases h1 : 0 ≤ x.toInt ∧ x.toInt ≤ 1
  · obtain ⟨a, q1, q2, q3⟩ := inR h1
    subst q3
    exact good_same hN St hX C R (c_best hX B K (show a < 2 by omega)) (r_best hM BM KM (show a < 2 by omega))
  · exact good_same hN St hX C R (c_best_o h1) (r_best_o h1)
theorem g_strip {x y z u : Int32} (hN : 59 ≤ h.1) (St : StC h) (hX : rO h 4 = some (10, xF dr (nI P) (nI L) fa)) (C : CB h c w wt bp bd bm nd nb t P pk pp pn pl gr L lp ld ln lg sz sl cm tr dr da pa qa la ma) (R : RS h c w wt bp bd bm nd nb t P pk pp pn pl gr L lp ld ln lg sz sl cm tr fa) : Good 119 199 [some (.ref 4), some (.int x), some (.int y), some (.int z), some (.int u), none, none, none, none] [some (.ref 36), some (.int x), some (.int y), some (.int z), some (.int u), none, none, none, none, none, none] h := by
  obtain ⟨rd, lm, ft, f50, f58, hM, BM, PA1, GM, KM, SM, a40, a50, a58, e1, e2⟩ := id R
  obtain ⟨B, PC, T3, hT, G, K, S, D, ht, o1, o2, o3, o4⟩ := id C
  have hL := K.2.2.1
  by_cases h1 : 0 ≤ x.toInt ∧ x.toInt ≤ (L : Int) - 1
  · by_cases h2 : 0 ≤ y.toInt ∧ y.toInt ≤ (L : Int) - 1
    · obtain ⟨a, q1, q2, q3⟩ := inR h1
      obtain ⟨b, w1, w2, w3⟩ := inR h2
      subst q3 w3
      have ha : a < L := by omega
      have hb : b < L := by omega
      have hp8 := pls_le (ln a) (ln b)
      by_cases h3 : 0 ≤ z.toInt ∧ z.toInt ≤ (pls (ln a) (ln b) : Int) - 1
      · obtain ⟨d, v1, v2, v3⟩ := inR h3
        subst v3
        have hd : d < pls (ln a) (ln b) := by omega
        by_cases h4 : ¬ (0 ≤ u.toInt ∧ u.toInt ≤ 2) ∨ a = b
        · exact good_same hN St hX C R (c_strip_o hX K ha hb hd h4) (r_strip_o hM KM ha hb hd h4)
        · have h5 : 0 ≤ u.toInt ∧ u.toInt ≤ 2 := Decidable.byContradiction (fun q => h4 (Or.inl q))
          obtain ⟨e, z1, z2, z3⟩ := inR h5
          subst z3
          exact good_same hN St hX C R (c_strip hX B K ha hb hd (show e < 3 by omega) (fun q => h4 (Or.inr q))) (r_strip hM BM KM ha hb hd (show e < 3 by omega) (fun q => h4 (Or.inr q)))
      · exact good_same hN St hX C R (c_strip_p hX K ha hb h3) (r_strip_p hM KM ha hb h3)
    · exact good_same hN St hX C R (c_strip_u hX K (Or.inr h2)) (r_strip_u hM hL (Or.inr h2))
  · exact good_same hN St hX C R (c_strip_u hX K (Or.inl h1)) (r_strip_u hM hL (Or.inl h1))
theorem g_with {x y z u : Int32} (hN : 59 ≤ h.1) (St : StC h) (hX : rO h 4 = some (10, xF dr (nI P) (nI L) fa)) (C : CB h c w wt bp bd bm nd nb t P pk pp pn pl gr L lp ld ln lg sz sl cm tr dr da pa qa la ma) (R : RS h c w wt bp bd bm nd nb t P pk pp pn pl gr L lp ld ln lg sz sl cm tr fa) : Good 120 200 [some (.ref 4), some (.int x), some (.int y), some (.int z), some (.int u), none, none, none, none] [some (.ref 36), some (.int x), some (.int y), some (.int z), some (.int u), none, none, none] h := by
  obtain ⟨rd, lm, ft, f50, f58, hM, BM, PA1, GM, KM, SM, a40, a50, a58, e1, e2⟩ := id R
  obtain ⟨B, PC, T3, hT, G, K, S, D, ht, o1, o2, o3, o4⟩ := id C
  have hL := K.2.2.1
  by_cases h0 : ¬ (0 ≤ x.toInt ∧ x.toInt ≤ (L : Int) - 1) ∨ ¬ (0 ≤ y.toInt ∧ y.toInt ≤ (L : Int) - 1) ∨ ¬ (0 ≤ z.toInt ∧ z.toInt ≤ (L : Int) - 1)
  · exact good_same hN St hX C R (c_with_u hX K h0) (r_with_u hM hL h0)
  · have h1 : 0 ≤ x.toInt ∧ x.toInt ≤ (L : Int) - 1 := Decidable.byContradiction (fun q => h0 (Or.inl q))
    have h2 : 0 ≤ y.toInt ∧ y.toInt ≤ (L : Int) - 1 := Decidable.byContradiction (fun q => h0 (Or.inr (Or.inl q)))
    have h3 : 0 ≤ z.toInt ∧ z.toInt ≤ (L : Int) - 1 := Decidable.byContradiction (fun q => h0 (Or.inr (Or.inr q)))
    obtain ⟨a, q1, q2, q3⟩ := inR h1
    obtain ⟨b, w1, w2, w3⟩ := inR h2
    obtain ⟨d, v1, v2, v3⟩ := inR h3
    subst q3 w3 v3
    have ha : a < L := by omega
    have hb : b < L := by omega
    have hd : d < L := by omega
    have hp8 := pls_le (ln a) (ln b)
    by_cases h4 : 0 ≤ u.toInt ∧ u.toInt ≤ (min (pls (ln a) (ln b)) (pls (ln a) (ln d)) : Int) - 1
    · obtain ⟨e, z1, z2, z3⟩ := inR h4
      subst z3
      have he : e < min (pls (ln a) (ln b)) (pls (ln a) (ln d)) := by omega
      by_cases h5 : a = b ∨ a = d ∨ b = d
      · exact good_same hN St hX C R (c_with_o hX K ha hb hd he h5) (r_with_o hM KM ha hb hd he h5)
      · exact good_same hN St hX C R (c_with hX B K ha hb hd he (fun q => h5 (Or.inl q)) (fun q => h5 (Or.inr (Or.inl q))) (fun q => h5 (Or.inr (Or.inr q)))) (r_with hM BM KM ha hb hd he (fun q => h5 (Or.inl q)) (fun q => h5 (Or.inr (Or.inl q))) (fun q => h5 (Or.inr (Or.inr q))))
    · exact good_same hN St hX C R (c_with_p hX K ha hb hd h4) (r_with_p hM KM ha hb hd h4)
theorem g_open {x : Int32} (hN : 59 ≤ h.1) (St : StC h) (hX : rO h 4 = some (10, xF dr (nI P) (nI L) fa)) (C : CB h c w wt bp bd bm nd nb t P pk pp pn pl gr L lp ld ln lg sz sl cm tr dr da pa qa la ma) (R : RS h c w wt bp bd bm nd nb t P pk pp pn pl gr L lp ld ln lg sz sl cm tr fa) : Good 122 203 [some (.ref 4), some (.int x), none, none, none] [some (.ref 36), some (.int x), none, none, none, none] h := by
  obtain ⟨rd, lm, ft, f50, f58, hM, BM, PA1, GM, KM, SM, a40, a50, a58, e1, e2⟩ := id R
  obtain ⟨B, PC, T3, hT, G, K, S, D, ht, o1, o2, o3, o4⟩ := id C
  by_cases h1 : 0 ≤ x.toInt ∧ x.toInt ≤ 99
  · obtain ⟨a, q1, q2, q3⟩ := inR h1
    subst q3
    exact good_same hN St hX C R (c_open hX K (show a < 100 by omega)) (r_open hM KM (show a < 100 by omega))
  · exact good_same hN St hX C R (c_open_o h1) (r_open_o hM h1)
theorem g_makers {x y : Int32} (hN : 59 ≤ h.1) (St : StC h) (hX : rO h 4 = some (10, xF dr (nI P) (nI L) fa)) (C : CB h c w wt bp bd bm nd nb t P pk pp pn pl gr L lp ld ln lg sz sl cm tr dr da pa qa la ma) (R : RS h c w wt bp bd bm nd nb t P pk pp pn pl gr L lp ld ln lg sz sl cm tr fa) : Good 123 205 [some (.ref 4), some (.int x), some (.int y), none] [some (.ref 36), some (.int x), some (.int y), none, none, none] h := by
  obtain ⟨rd, lm, ft, f50, f58, hM, BM, PA1, GM, KM, SM, a40, a50, a58, e1, e2⟩ := id R
  obtain ⟨B, PC, T3, hT, G, K, S, D, ht, o1, o2, o3, o4⟩ := id C
  have hP := G.2.2.1
  by_cases h1 : 0 ≤ x.toInt ∧ x.toInt ≤ (P : Int) - 1
  · obtain ⟨p, q1, q2, q3⟩ := inR h1
    subst q3
    have hp : p < P := by omega
    by_cases h2 : 0 ≤ y.toInt ∧ y.toInt ≤ 2
    · obtain ⟨d, w1, w2, w3⟩ := inR h2
      subst w3
      exact good_same hN St hX C R (c_makers hX G hp (show d < 3 by omega)) (r_makers hM GM hp (show d < 3 by omega))
    · exact good_same hN St hX C R (c_makers_o hX G hp h2) (r_makers_o hM hP hp h2)
  · exact good_same hN St hX C R (c_makers_u hX G h1) (r_makers_u hM hP h1)
theorem g_like {x y : Int32} (hN : 59 ≤ h.1) (St : StC h) (hX : rO h 4 = some (10, xF dr (nI P) (nI L) fa)) (C : CB h c w wt bp bd bm nd nb t P pk pp pn pl gr L lp ld ln lg sz sl cm tr dr da pa qa la ma) (R : RS h c w wt bp bd bm nd nb t P pk pp pn pl gr L lp ld ln lg sz sl cm tr fa) : Good 124 206 [some (.ref 4), some (.int x), some (.int y), none, none] [some (.ref 36), some (.int x), some (.int y), none, none] h := by
  obtain ⟨rd, lm, ft, f50, f58, hM, BM, PA1, GM, KM, SM, a40, a50, a58, e1, e2⟩ := id R
  obtain ⟨B, PC, T3, hT, G, K, S, D, ht, o1, o2, o3, o4⟩ := id C
  have hP := G.2.2.1
  by_cases h1 : 0 ≤ x.toInt ∧ x.toInt ≤ (P : Int) - 1
  · by_cases h2 : 0 ≤ y.toInt ∧ y.toInt ≤ (P : Int) - 1
    · obtain ⟨p, q1, q2, q3⟩ := inR h1
      obtain ⟨r, w1, w2, w3⟩ := inR h2
      subst q3 w3
      exact good_same hN St hX C R (c_like hX G (show p < P by omega) (show r < P by omega)) (r_like hM GM (show p < P by omega) (show r < P by omega))
    · exact good_same hN St hX C R (c_like_u hX G (Or.inr h2)) (r_like_u hM hP (Or.inr h2))
  · exact good_same hN St hX C R (c_like_u hX G (Or.inl h1)) (r_like_u hM hP (Or.inl h1))
theorem g_next {x : Int32} (hN : 59 ≤ h.1) (St : StC h) (hX : rO h 4 = some (10, xF dr (nI P) (nI L) fa)) (C : CB h c w wt bp bd bm nd nb t P pk pp pn pl gr L lp ld ln lg sz sl cm tr dr da pa qa la ma) (R : RS h c w wt bp bd bm nd nb t P pk pp pn pl gr L lp ld ln lg sz sl cm tr fa) : Good 125 207 [some (.ref 4), some (.int x), none] [some (.ref 36), some (.int x), none, none, none, none] h := by
  obtain ⟨rd, lm, ft, f50, f58, hM, BM, PA1, GM, KM, SM, a40, a50, a58, e1, e2⟩ := id R
  obtain ⟨B, PC, T3, hT, G, K, S, D, ht, o1, o2, o3, o4⟩ := id C
  have hP := G.2.2.1
  by_cases h1 : 0 ≤ x.toInt ∧ x.toInt ≤ (P : Int) - 1
  · obtain ⟨p, q1, q2, q3⟩ := inR h1
    subst q3
    exact good_same hN St hX C R (c_next hX G (show p < P by omega)) (r_next hM GM (show p < P by omega))
  · exact good_same hN St hX C R (c_next_u hX G h1) (r_next_u hM hP h1)
theorem g_trace (hN : 59 ≤ h.1) (St : StC h) (hX : rO h 4 = some (10, xF dr (nI P) (nI L) fa)) (C : CB h c w wt bp bd bm nd nb t P pk pp pn pl gr L lp ld ln lg sz sl cm tr dr da pa qa la ma) (R : RS h c w wt bp bd bm nd nb t P pk pp pn pl gr L lp ld ln lg sz sl cm tr fa) : Good 134 220 [some (.ref 4)] [some (.ref 36)] h := by
  obtain ⟨rd, lm, ft, f50, f58, hM, BM, PA1, GM, KM, SM, a40, a50, a58, e1, e2⟩ := id R
  obtain ⟨B, PC, T3, hT, G, K, S, D, ht, o1, o2, o3, o4⟩ := id C
  exact good_same hN St hX C R (c_trace hX hT) (r_trace (gM32 hM))
theorem g_fault (hN : 59 ≤ h.1) (St : StC h) (hX : rO h 4 = some (10, xF dr (nI P) (nI L) fa)) (C : CB h c w wt bp bd bm nd nb t P pk pp pn pl gr L lp ld ln lg sz sl cm tr dr da pa qa la ma) (R : RS h c w wt bp bd bm nd nb t P pk pp pn pl gr L lp ld ln lg sz sl cm tr fa) : Good 135 221 [some (.ref 4)] [some (.ref 36)] h := by
  obtain ⟨rd, lm, ft, f50, f58, hM, BM, PA1, GM, KM, SM, a40, a50, a58, e1, e2⟩ := id R
  exact good_same hN St hX C R (c_fault hX) (r_fault (gM0 hM))
theorem g_many {x : Int32} (hN : 59 ≤ h.1) (St : StC h) (hX : rO h 4 = some (10, xF dr (nI P) (nI L) fa)) (C : CB h c w wt bp bd bm nd nb t P pk pp pn pl gr L lp ld ln lg sz sl cm tr dr da pa qa la ma) (R : RS h c w wt bp bd bm nd nb t P pk pp pn pl gr L lp ld ln lg sz sl cm tr fa) : Good 136 222 [some (.ref 4), some (.int x)] [some (.ref 36), some (.int x), none, none] h := by
  obtain ⟨rd, lm, ft, f50, f58, hM, BM, PA1, GM, KM, SM, a40, a50, a58, e1, e2⟩ := id R
  obtain ⟨B, PC, T3, hT, G, K, S, D, ht, o1, o2, o3, o4⟩ := id C
  have r2 := r_many (x := x) B.2.2.2.2.2.1.1 (gM1 hM) BM.1 (gM10 hM) (gM16 hM) (gM24 hM)
  have d10 : ¬ (1 : Int32) = 0 := by decide
  have d20 : ¬ (2 : Int32) = 0 := by decide
  have d21 : ¬ (2 : Int32) = 1 := by decide
  have d30 : ¬ (3 : Int32) = 0 := by decide
  have d31 : ¬ (3 : Int32) = 1 := by decide
  have d32 : ¬ (3 : Int32) = 2 := by decide
  by_cases h1 : 0 ≤ x.toInt ∧ x.toInt ≤ 3
  · obtain ⟨k, q1, q2, q3⟩ := inR h1
    subst q3
    match k, q1 with
    | 0, _ =>
      rw [if_pos (show nI 0 = 0 from rfl)] at r2
      exact good_same hN St hX C R (c_many_0 hX B.1) r2
    | 1, _ =>
      rw [if_neg (show ¬ nI 1 = 0 from d10), if_pos (show nI 1 = 1 from rfl)] at r2
      exact good_same hN St hX C R (c_many_1 hX) r2
    | 2, _ =>
      rw [if_neg (show ¬ nI 2 = 0 from d20), if_neg (show ¬ nI 2 = 1 from d21), if_pos (show nI 2 = 2 from rfl)] at r2
      exact good_same hN St hX C R (c_many_2 hX) r2
    | 3, _ =>
      rw [if_neg (show ¬ nI 3 = 0 from d30), if_neg (show ¬ nI 3 = 1 from d31), if_neg (show ¬ nI 3 = 2 from d32), if_pos (show nI 3 = 3 from rfl)] at r2
      exact good_same hN St hX C R (c_many_3 hX PC.1) r2
    | k + 4, hk => omega
  · rw [if_neg (fun e => h1 (by rw [e]; decide)), if_neg (fun e => h1 (by rw [e]; decide)), if_neg (fun e => h1 (by rw [e]; decide)), if_neg (fun e => h1 (by rw [e]; decide))] at r2
    exact good_same hN St hX C R (c_many_d (by omega)) r2
end CL1
