section CL5
variable {h h1 : AH} {c w : Nat → Option Nat} {wt : Nat → Nat} {bp bd bm nd : Nat → Nat} {nb : Nat} {t : Nat → Option Nat} {P : Nat} {pk pp pn pl : Nat → Nat} {gr : Nat → Nat → Nat} {L : Nat} {lp ld ln : Nat → Nat} {lg : Nat → Nat → Nat} {sz : Nat → Option Nat} {sl : Nat → Nat} {cm : Nat → Int32} {tr : Int32} {fa : Int32} {dr da : Nat} {pa qa la ma : Nat → Nat}
theorem g_letter {x y z u v s : Int32} (hN : 59 ≤ h.1) (St : StC h) (hX : rO h 4 = some (10, xF dr (nI P) (nI L) fa)) (C : CB h c w wt bp bd bm nd nb t P pk pp pn pl gr L lp ld ln lg sz sl cm tr dr da pa qa la ma) (R : RS h c w wt bp bd bm nd nb t P pk pp pn pl gr L lp ld ln lg sz sl cm tr fa) : Good 108 177 [some (.ref 4), some (.int x), some (.int y), some (.int z), some (.int u), some (.int v), some (.int s), none, none, none, none, none, none] [some (.ref 36), some (.int x), some (.int y), some (.int z), some (.int u), some (.int v), some (.int s), none, none] h := by
  obtain ⟨B, PC, T3, hT, G, K, S, D, ht, o1, o2, o3, o4⟩ := id C
  have RL := RS_fc R (fc_lf (lf1 (x := 0) hX))
  obtain ⟨rd, lm, ft, f50, f58, hM, BM, PA1, GM, KM, SM, a40, a50, a58, e1, e2⟩ := id RL
  have hP := G.2.2.1
  have hL := K.2.2.1
  by_cases h0 : ¬ (0 ≤ x.toInt ∧ x.toInt ≤ (P : Int) - 1) ∨ ¬ (0 ≤ z.toInt ∧ z.toInt ≤ 3)
  · exact good_lf hN St hX C R (lf1 hX) (c_letter_u hX S G h0) (r_letter_u hM hP h0)
  · have h1 : 0 ≤ x.toInt ∧ x.toInt ≤ (P : Int) - 1 := Decidable.byContradiction (fun q => h0 (Or.inl q))
    have h2 : 0 ≤ z.toInt ∧ z.toInt ≤ 3 := Decidable.byContradiction (fun q => h0 (Or.inr q))
    obtain ⟨p, q1, q2, q3⟩ := inR h1
    obtain ⟨k, w1, w2, w3⟩ := inR h2
    subst q3 w3
    have hp : p < P := by omega
    have hk : k < 4 := by omega
    by_cases h3 : 0 ≤ y.toInt ∧ y.toInt ≤ 99
    · by_cases h4 : bar (sz k) (sl k) u v s = 0
      · obtain ⟨m, i0, n0, hs, _, ei, en, hi, hm60⟩ := bar_ok (S.2.2.1 k) h4
        subst ei en
        by_cases h5 : allB (fun x => isWd c (cm (60 * k + i0 + x))) n0 = true
        · have hbt : ∀ g, t 0 = some g → g < 100 := ht.1
          have hlt : ∀ g, t 1 = some g → 1 ≤ g ∧ g ≤ 6 := ht.2.1
          have hT80 : layT (t 0) (t 1) (t 2).isSome n0 ≤ 80 := by
            have := layN_le (b := t 0) (n := n0) hlt (by omega)
            unfold layT
            split <;> omega
          have hX2 := sX9 (x := 0) hX
          have S2 : SheetC (sf h 4 9 (.int 0)) sz sl cm := S.f4
          have G2 : PagesC (sf h 4 9 (.int 0)) P pk pp pn pl gr pa qa := G.f4
          have B2 : BookC (sf h 4 9 (.int 0)) c w wt := bookC_eq B (fun b hb => cell_sf (by omega))
          have D2 : DrF (sf h 4 9 (.int 0)) dr da t := drF_eq D (cell_sf (by omega)) (cell_sf (by omega))
          have K2 : LettersC (sf h 4 9 (.int 0)) L lp ld ln lg la ma := K.f4
          have pre := c_letter_pre (dy := y) hX B S G D ht (show dr ≠ 4 by omega) (show da ≠ 4 by omega) hp hk h3 h4 hs hi h5
          by_cases h6 : stP (pl p) (pn p - pk p) (layT (t 0) (t 1) (t 2).isSome n0) (decide (t 3 = some 1))
          · have r1 := pre.trans (c_letter_s hX2 G2 D2 ht hp hT80 h6)
            obtain ⟨h2, r2, Dl, hM2, f2, a5, hf⟩ := r_letter_pre hM SM BM.1 BM.2.2.2.1.1 hbt hlt a50 hP hp hk h3 h4 hs hi h5
            have GM2 : PagesM h2 P pk pp pn pl gr := pagesM_eq GM (fun b hb => Dl.1 b (by simp only [List.mem_cons, List.not_mem_nil, or_false]; omega))
            have r3 := r_letter_s (dy := y) (y := nI k) (lane := u) (i := nI i0) (n := nI n0) hM2 GM2 hp hT80 h6
            have D3 : Dif [36, 50] (sf h 4 9 (.int 0)) (sf h2 36 0 (.int 0)) := difT Dl (difSf (by decide))
            exact goodI St hN r1 (fc_lf (lf1 hX)) (cs_lf hN C (lf1 hX)) (r2.trans r3) (frm_laid D3) (rs_laid RL D3 (by rw [rI_sf, a5]) (sM0 hM2))
          · have cc := c_letter_c (dy := y) (y := nI k) (lane := u) (i := nI i0) (n := nI n0) (q9 := 0) (sa := 28 + 2 * k) hX2 G2 D2 ht hp hT80 h6
            by_cases h7 : L = 20
            · have hX3 := hX2
              rw [h7] at hX3
              have r1 := (pre.trans cc).trans (c_letter_f (m := 0) hX3)
              obtain ⟨h2, r2, Dl, hM2, f2, a5, hf⟩ := r_letter_pre hM SM BM.1 BM.2.2.2.1.1 hbt hlt a50 hP hp hk h3 h4 hs hi h5
              have GM2 : PagesM h2 P pk pp pn pl gr := pagesM_eq GM (fun b hb => Dl.1 b (by simp only [List.mem_cons, List.not_mem_nil, or_false]; omega))
              have r3 := r_letter_c (dy := y) (y := nI k) (lane := u) (i := nI i0) (n := nI n0) hM2 GM2 hp hT80 h6
              have hM3 := hM2
              rw [h7] at hM3
              have r4 := r_letter_f (z := nI p) (dy := y) (y := nI k) (lane := u) (i := nI i0) (n := nI n0) hM3
              have D3 : Dif [36, 50] (sf h 4 9 (.int 0)) (sf h2 36 0 (.int 0)) := difT Dl (difSf (by decide))
              exact goodI St hN r1 (fc_lf (lf1 hX)) (cs_lf hN C (lf1 hX)) ((r2.trans r3).trans r4) (frm_laid D3) (rs_laid RL D3 (by rw [rI_sf, a5]) (sM0 hM2))
            · have hL20 : L < 20 := by omega
              obtain ⟨d, v1, v2, v3⟩ := inR h3
              subst v3
              have hd : d < 100 := by omega
              have hm1 : 1 ≤ layT (t 0) (t 1) (t 2).isSome n0 := by
                have : ¬ layT (t 0) (t 1) (t 2).isSome n0 = 0 := fun q => h6 (Or.inr (Or.inr q))
                omega
              have hmu : layT (t 0) (t 1) (t 2).isSome n0 ≤ pn p - pk p := by
                have : ¬ pn p - pk p < layT (t 0) (t 1) (t 2).isSome n0 := fun q => h6 (Or.inr (Or.inl q))
                omega
              have hn12 := G.2.2.2.2.2.1 p
              obtain ⟨h1, rk, cA, n1, s1, X1, G1, K1⟩ := c_letter_k (lane := u) (q9 := 0) hX2 (by rw [sf_n]; exact hN) B2 S2 G2 K2 D2 ht (by rw [sf_n]; exact o2) (by rw [sf_n]; exact o4) hL20 hd e2 hp hk hs hi h5 rfl hm1 hmu
              have r1 := (pre.trans cc).trans rk
              have nz : (sf h 4 9 (.int 0)).1 = h.1 := sf_n
              have sz0 : (sf h 4 9 (.int 0)).2.1 = h.2.1 := sf_s
              obtain ⟨gg1, _, gg3, _, gg5, _⟩ := G.2.1 p hp
              have cB : ∀ b, b < h.1 → b ≠ 4 → b ≠ 24 → b ≠ pa p → h1.2.2 b = h.2.2 b := fun b hb b4 b24 bp => by rw [cA b (by omega) b4 b24 bp, cell_sf b4]
              have F1 : Fc h h1 := ⟨fun b hb => cB b (by omega) (by omega) (by omega) (by omega), by omega, by omega, by omega⟩
              have R1 := RS_fc R F1
              obtain ⟨rd, lm, ft, f50, f58, hM, BM, PA1, GM, KM, SM, a40, a50, a58, e1, e2⟩ := id R1
              have hdp : dr ≠ pa p := fun e => by
                obtain ⟨f, dd1, _⟩ := D
                rw [e, gg1] at dd1
                have := congrArg (fun z => (z.getD (0, [])).1) dd1
                have hk3 : kc (pk p) = 1 := this
                unfold kc at hk3
                split at hk3
                · omega
                · split at hk3 <;> omega
              have hdap : da ≠ pa p := fun e => by
                obtain ⟨f, _, dd2, _⟩ := D
                rw [e, rI_o (rO_lt gg1).1] at dd2
                cases dd2
              have C1 : CB h1 c w wt bp bd bm nd nb t P pk pp pn (slU pl p (pl p + 1)) gr (L + 1) (slU lp L p) (slU ld L d) (slU ln L (layT (t 0) (t 1) (t 2).isSome n0)) (lgN L (layT (t 0) (t 1) (t 2).isSome n0) (fun j => (layF (t 0) (t 1) c (fun x => cm (60 * k + i0 + x)) n0 j + gr p j) % 100) lg) sz sl cm tr dr da pa qa (slU la L ((sf h 4 9 (.int 0)).1 + 1)) (slU ma L (sf h 4 9 (.int 0)).1) := ⟨bookC_eq B (fun b hb => cB b (by omega) (by omega) (by omega) (by omega)), postsC_eq PC (fun b hb => cB b (by omega) (by omega) (by omega) (by omega)), t3C_eq T3 (fun b hb => cB b (by omega) (by omega) (by omega) (by omega)), by rw [rO_of (cB 22 (by omega) (by omega) (by omega) (by omega)), hT], G1, K1, sheetC_eq S (fun b hb => cB b (by omega) (by omega) (by omega) (by omega)), drF_eq D (cB dr (by omega) (by omega) (by omega) hdp) (cB da (by omega) (by omega) (by omega) hdap), ht, o1, by omega, o3, by omega⟩
              obtain ⟨h2, r2, Dl, hM2, f2, a5, hf⟩ := r_letter_pre (dy := nI d) hM SM BM.1 BM.2.2.2.1.1 hbt hlt a50 hP hp hk h3 h4 hs hi h5
              have el : ∀ b, b ≠ 36 → b ≠ 50 → h2.2.2 b = h1.2.2 b := fun b hb hb2 => Dl.1 b (by simp only [List.mem_cons, List.not_mem_nil, or_false]; omega)
              have GM2 : PagesM h2 P pk pp pn pl gr := pagesM_eq GM (fun b hb => el b (by omega) (by omega))
              have KM2 : LettersM h2 L lp ld ln lg := lettersM_eq KM (fun b hb => el b (by omega) (by omega))
              have r3 := r_letter_c (dy := nI d) (y := nI k) (lane := u) (i := nI i0) (n := nI n0) hM2 GM2 hp hT80 h6
              have hWlt : ∀ j, layF (t 0) (t 1) c (fun x => cm (60 * k + i0 + x)) n0 j < 1000 := by
                intro j
                unfold layF
                split
                · have := wdF_lt (b := t 0) (c := c) (T := fun x => cm (60 * k + i0 + x)) (n := n0) hbt B.2.2.2.2.2.1.1 j
                  omega
                · have := Nat.mod_lt (chS (wdF (t 0) c (fun x => cm (60 * k + i0 + x)) n0) (layN (t 0) (t 1) n0)) (show 0 < 100 by decide)
                  omega
              have r4 := r_letter_k (y := nI k) (lane := u) (i := nI i0) (n := nI n0) (d := d) hM2 GM2 KM2 hp a5 hf hWlt (by omega) hL20
              generalize hm : layT (t 0) (t 1) (t 2).isSome n0 = m' at *
              obtain ⟨p1, p2, p3, p4, p5, b1, b2, b3, b4, b5, b6, b7⟩ := id GM2
              obtain ⟨k1, k2, k3', k4, c1, c2, c3, c4, c5, c6⟩ := id KM2
              have Dx : Dif [36, 45, 46, 47, 48, 49, 50] h1 (letH h2 L p d m' (fun x => nI ((layF (t 0) (t 1) c (fun x => cm (60 * k + i0 + x)) n0 x + gr p x) % 100)) (pl p + 1)) := difT (dif_w Dl (fun b hb => by simp only [List.mem_cons, List.not_mem_nil, or_false] at hb ⊢; omega)) (difT (difT (difT (difT (difT (difT (difSi (by decide)) (difSi (by decide))) (difSi (by decide))) (difFill (by decide))) (difSi (by decide))) (difSf (by decide))) (difSf (by decide)))
              have he : ∀ b, b ≠ 36 → ¬ (45 ≤ b ∧ b ≤ 50) → (letH h2 L p d m' (fun x => nI ((layF (t 0) (t 1) c (fun x => cm (60 * k + i0 + x)) n0 x + gr p x) % 100)) (pl p + 1)).2.2 b = h1.2.2 b := fun b hb hb2 => Dx.1 b (by simp only [List.mem_cons, List.not_mem_nil, or_false]; omega)
              have eu : ∀ {f : Nat → Nat} {i v : Nat}, upd (fun u => nI (f u)) i (nI v) = fun u => nI (slU f i v u) := fun {f i v} => by
                funext u
                rw [updP]
                unfold slU
                split <;> rfl
              have hMx : rO (si (fillI (si (si (si h2 46 L (nI p)) 47 L (nI d)) 48 L (nI m')) 49 (12 * L) (fun x => nI ((layF (t 0) (t 1) c (fun x => cm (60 * k + i0 + x)) n0 x + gr p x) % 100)) m') 45 p (nI (pl p + 1))) 36 = rO h2 36 := by rw [rO_si, rO_fill, rO_si, rO_si, rO_si]
              have hM3 := sM0 (x := 0) (sM16 (x := nI (L + 1)) (hMx.trans hM2))
              have ha5 : rI (letH h2 L p d m' (fun x => nI ((layF (t 0) (t 1) c (fun x => cm (60 * k + i0 + x)) n0 x + gr p x) % 100)) (pl p + 1)) 50 = some (80, f2) := by
                unfold letH
                rw [rI_sf, rI_sf, rI_siN (by decide), rI_fillN m' (by decide), rI_siN (by decide), rI_siN (by decide), rI_siN (by decide), a5]
              refine goodI St hN r1 F1 ⟨dr, da, pa, qa, _, _, X1, C1⟩ ((r2.trans r3).trans r4) (frm_dif Dx (fun b hb => by simp only [List.mem_cons, List.not_mem_nil, or_false] at hb; omega)) ⟨rd, nI m', ft, f2, f58, hM3, bookM_eq BM (fun b hb => he b (by omega) (by omega)), pam_eq PA1 (fun b hb => he b (by omega) (by omega)), ⟨?_, ?_, ?_, ?_, ?_, b1, b2, b3, b4, G1.2.2.2.2.2.2.1, b6, b7⟩, ⟨?_, ?_, ?_, ?_, by omega, K1.2.2.2.1, K1.2.2.2.2.1, K1.2.2.2.2.2.1, K1.2.2.2.2.2.2.1, K1.2.2.2.2.2.2.2⟩, sheetM_eq SM (fun b hb => he b (by omega) (by omega)), by rw [rI_of (he 40 (by omega) (by omega)), a40], ha5, by rw [rI_of (he 58 (by omega) (by omega)), a58], fun q hq => ?_, fun q => ?_⟩
              · unfold letH
                rw [rI_sf, rI_sf, rI_siN (by decide), rI_fillN m' (by decide), rI_siN (by decide), rI_siN (by decide), rI_siN (by decide), p1]
              · unfold letH
                rw [rI_sf, rI_sf, rI_siN (by decide), rI_fillN m' (by decide), rI_siN (by decide), rI_siN (by decide), rI_siN (by decide), p2]
              · unfold letH
                rw [rI_sf, rI_sf, rI_siN (by decide), rI_fillN m' (by decide), rI_siN (by decide), rI_siN (by decide), rI_siN (by decide), p3]
              · unfold letH
                rw [rI_sf, rI_sf, rI_siN (by decide), rI_fillN m' (by decide), rI_siN (by decide), rI_siN (by decide), rI_siN (by decide), p4]
              · unfold letH
                rw [rI_sf, rI_sf, rI_siA (show rI (fillI (si (si (si h2 46 L (nI p)) 47 L (nI d)) 48 L (nI m')) 49 (12 * L) _ m') 45 = _ from (rI_fillN m' (by decide)).trans ((rI_siN (by decide)).trans ((rI_siN (by decide)).trans ((rI_siN (by decide)).trans p5)))), eu]
              · unfold letH
                rw [rI_sf, rI_sf, rI_siN (by decide), rI_fillN m' (by decide), rI_siN (by decide), rI_siN (by decide), rI_siA k1, eu]
              · unfold letH
                rw [rI_sf, rI_sf, rI_siN (by decide), rI_fillN m' (by decide), rI_siN (by decide), rI_siA (show rI (si h2 46 L (nI p)) 47 = _ from (rI_siN (by decide)).trans k2), eu]
              · unfold letH
                rw [rI_sf, rI_sf, rI_siN (by decide), rI_fillN m' (by decide), rI_siA (show rI (si (si h2 46 L (nI p)) 47 L (nI d)) 48 = _ from (rI_siN (by decide)).trans ((rI_siN (by decide)).trans k3')), eu]
              · unfold letH
                rw [rI_sf, rI_sf, rI_siN (by decide), rI_fillA m' (show rI (si (si (si h2 46 L (nI p)) 47 L (nI d)) 48 L (nI m')) 49 = _ from (rI_siN (by decide)).trans ((rI_siN (by decide)).trans ((rI_siN (by decide)).trans k4)))]
                congr 2
                funext j
                unfold lgN
                by_cases w : 12 * L ≤ j ∧ j < 12 * L + m'
                · rw [if_pos w, if_pos (by omega), show j % 12 = j - 12 * L by omega]
                · rw [if_neg w, if_neg (by omega)]
              · unfold slU
                rw [if_neg (by omega)]
                exact e1 q hq
              · unfold slU
                split
                · have := e2 p; omega
                · have := e2 q; omega
        · exact good_lf hN St hX C R (lf1 hX) (c_letter_w hX B S G hp hk h3 h4 hs hi h5) (r_letter_w hM SM BM.1 BM.2.2.2.1.1 hP hp hk h3 h4 hs hi h5)
      · obtain ⟨h1, r1, l1⟩ := c_letter_b hX S G hp hk h3 h4
        have RL2 := RS_fc R (fc_lf l1)
        obtain ⟨rd, lm, ft, f50, f58, hM, BM, PA1, GM, KM, SM, _⟩ := id RL2
        exact good_lf hN St hX C R l1 r1 (r_letter_b hM SM hP hp hk h3 h4)
    · exact good_lf hN St hX C R (lf1 hX) (c_letter_o hX S G hp hk h3) (r_letter_o hM hP hp hk h3)
end CL5
