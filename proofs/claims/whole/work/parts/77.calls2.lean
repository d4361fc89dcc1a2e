section CL2
variable {h h1 : AH} {c w : Nat → Option Nat} {wt : Nat → Nat} {bp bd bm nd : Nat → Nat} {nb : Nat} {t : Nat → Option Nat} {P : Nat} {pk pp pn pl : Nat → Nat} {gr : Nat → Nat → Nat} {L : Nat} {lp ld ln : Nat → Nat} {lg : Nat → Nat → Nat} {sz : Nat → Option Nat} {sl : Nat → Nat} {cm : Nat → Int32} {tr : Int32} {fa : Int32} {dr da : Nat} {pa qa la ma : Nat → Nat}
theorem cb_posts {bp2 bd2 bm2 nd2 : Nat → Nat} {nb2 : Nat} (hN : 59 ≤ h.1) (C : CB h c w wt bp bd bm nd nb t P pk pp pn pl gr L lp ld ln lg sz sl cm tr dr da pa qa la ma) (Df : Dif [10, 11, 12, 13, 14, 15, 16, 17, 18, 19, 20, 21] h h1) (P2 : PostsC h1 (fun p d => comF bp2 bd2 bm2 p d nb2) nd2 (nI nb2)) (T2 : T3C h1) : CB h1 c w wt bp2 bd2 bm2 nd2 nb2 t P pk pp pn pl gr L lp ld ln lg sz sl cm tr dr da pa qa la ma := by
  obtain ⟨B, PC, T3, hT, G, K, S, D, ht, o1, o2, o3, o4⟩ := C
  have he : ∀ b, ¬ (10 ≤ b ∧ b ≤ 21) → h1.2.2 b = h.2.2 b := fun b hb => Df.1 b (by simp only [List.mem_cons, List.not_mem_nil, or_false]; omega)
  have hn : h1.1 = h.1 := Df.2.1
  exact ⟨bookC_eq B (fun b hb => he b (by omega)), P2, T2, by rw [rO_of (he 22 (by omega)), hT], pagesC_eq G (by omega) (fun b hb => he b (by omega)), lettersC_eq K (by omega) (fun b hb => he b (by omega)), sheetC_eq S (fun b hb => he b (by omega)), drF_eq D (he dr (by omega)) (he da (by omega)), ht, o1, by omega, o3, by omega⟩
theorem rs_posts {bp2 bd2 bm2 nd2 : Nat → Nat} {nb2 : Nat} {rd2 lm2 : Int32} (R : RS h c w wt bp bd bm nd nb t P pk pp pn pl gr L lp ld ln lg sz sl cm tr fa) (Df : Dif [36, 51, 52, 53, 54] h h1) (A2 : PAM h1 bp2 bd2 bm2 nd2 nb2) (hM2 : rO h1 36 = some (11, mF fa (oN (t 0)) (oN (t 1)) (bI (t 2).isSome) (bI (decide (t 3 = some 1))) rd2 (nI P) (nI L) lm2 (nI nb2) tr)) : RS h1 c w wt bp2 bd2 bm2 nd2 nb2 t P pk pp pn pl gr L lp ld ln lg sz sl cm tr fa := by
  obtain ⟨rd, lm, ft, f50, f58, hM, BM, PA1, GM, KM, SM, a40, a50, a58, e1, e2⟩ := R
  have he : ∀ b, b ≠ 36 → ¬ (51 ≤ b ∧ b ≤ 54) → h1.2.2 b = h.2.2 b := fun b hb hb2 => Df.1 b (by simp only [List.mem_cons, List.not_mem_nil, or_false]; omega)
  exact ⟨rd2, lm2, ft, f50, f58, hM2, bookM_eq BM (fun b hb => he b (by omega) (by omega)), A2, pagesM_eq GM (fun b hb => he b (by omega) (by omega)), lettersM_eq KM (fun b hb => he b (by omega) (by omega)), sheetM_eq SM (fun b hb => he b (by omega) (by omega)), by rw [rI_of (he 40 (by omega) (by omega)), a40], by rw [rI_of (he 50 (by omega) (by omega)), a50], by rw [rI_of (he 58 (by omega) (by omega)), a58], e1, e2⟩
theorem g_need {x y : Int32} (hN : 59 ≤ h.1) (St : StC h) (hX : rO h 4 = some (10, xF dr (nI P) (nI L) fa)) (C : CB h c w wt bp bd bm nd nb t P pk pp pn pl gr L lp ld ln lg sz sl cm tr dr da pa qa la ma) (R : RS h c w wt bp bd bm nd nb t P pk pp pn pl gr L lp ld ln lg sz sl cm tr fa) : Good 111 180 [some (.ref 4), some (.int x), some (.int y)] [some (.ref 36), some (.int x), some (.int y), none] h := by
  obtain ⟨B, PC, T3, hT, G, K, S, D, ht, o1, o2, o3, o4⟩ := id C
  by_cases h1 : 0 ≤ x.toInt ∧ x.toInt ≤ 5
  · obtain ⟨k, q1, q2, q3⟩ := inR h1
    subst q3
    have hk : k < 6 := by omega
    by_cases h2 : 0 ≤ y.toInt ∧ y.toInt ≤ 9
    · obtain ⟨j, w1, w2, w3⟩ := inR h2
      subst w3
      have hj : j < 10 := by omega
      obtain ⟨p1, p2, p3, p4, p5, p6⟩ := id PC
      have r1 := c_need hk hj hX p1 p4
      have D1 : Dif [10, 11, 12, 13, 14, 15, 16, 17, 18, 19, 20, 21] h (si h 11 k (nI j)) := difSi (by decide)
      have eu : upd (fun u => nI (nd u)) k (nI j) = fun u => nI (slU nd k j u) := by
        funext u
        rw [updP]
        unfold slU
        split <;> rfl
      have hw2 : ∀ u, slU nd k j u < 10 := fun u => by
        unfold slU
        split
        · exact hj
        · exact p6 u
      have P1 : PostsC (si h 11 k (nI j)) (fun p d => comF bp bd bm p d nb) (slU nd k j) (nI nb) := ⟨by rw [rO_si, p1], by rw [rR_si, p2], fun p hp => by rw [rI_siN (by omega), p3 p hp], by rw [rI_siA p4, eu], p5, hw2⟩
      have C1 := cb_posts hN C D1 P1 (t3C_eq T3 (fun b hb => cell_si (by omega)))
      have F1 : Fc h (si h 11 k (nI j)) := fc_dif D1 (fun b hb => by simp only [List.mem_cons, List.not_mem_nil, or_false] at hb; omega)
      have R1 := RS_fc R F1
      obtain ⟨rd, lm, ft, f50, f58, hM, BM, PA1, GM, KM, SM, a40, a50, a58, e1, e2⟩ := id R1
      have r2 := r_need hk hj (gM23 hM) PA1.2.2.2.2.2.2.2.2
      have D2 : Dif [36, 51, 52, 53, 54] (si h 11 k (nI j)) (si (si h 11 k (nI j)) 51 k (nI j)) := difSi (by decide)
      refine goodI St hN r1 F1 ⟨dr, da, pa, qa, la, ma, by rw [rO_si, hX], C1⟩ r2 (frm_dif D2 (fun b hb => by simp only [List.mem_cons, List.not_mem_nil, or_false] at hb; omega)) (rs_posts R1 D2 ?_ (by rw [rO_si, hM]))
      obtain ⟨u1, u2, u3, u4, u5, u6, u7, u8, u9⟩ := PA1
      exact ⟨u1, u2, u3, u4, hw2, by rw [rI_siN (by decide), u6], by rw [rI_siN (by decide), u7], by rw [rI_siN (by decide), u8], by rw [rI_siA u9, eu]⟩
    · exact good_same hN St hX C R (c_need_o hk h2) (r_need_o hk h2)
  · exact good_same hN St hX C R (c_need_u h1) (r_need_u h1)
theorem comF_upd {k dd nn p d : Nat} : ∀ n, n ≤ nb → comF (slU bp nb k) (slU bd nb dd) (slU bm nb nn) p d n = comF bp bd bm p d n
  | 0, _ => rfl
  | n + 1, hn => by
    have ih := comF_upd (k := k) (dd := dd) (nn := nn) (p := p) (d := d) n (by omega)
    show comF (slU bp nb k) (slU bd nb dd) (slU bm nb nn) p d n + _ = comF bp bd bm p d n + _
    have z : ∀ {f : Nat → Nat} {v : Nat}, slU f nb v n = f n := fun {f v} => if_neg (by omega)
    rw [ih, z, z, z]
theorem g_bag {x y z : Int32} (hN : 59 ≤ h.1) (St : StC h) (hX : rO h 4 = some (10, xF dr (nI P) (nI L) fa)) (C : CB h c w wt bp bd bm nd nb t P pk pp pn pl gr L lp ld ln lg sz sl cm tr dr da pa qa la ma) (R : RS h c w wt bp bd bm nd nb t P pk pp pn pl gr L lp ld ln lg sz sl cm tr fa) : Good 112 181 [some (.ref 4), some (.int x), some (.int y), some (.int z)] [some (.ref 36), some (.int x), some (.int y), some (.int z)] h := by
  obtain ⟨rd, lm, ft, f50, f58, hM, BM, PA1, GM, KM, SM, a40, a50, a58, e1, e2⟩ := id R
  obtain ⟨B, PC, T3, hT, G, K, S, D, ht, o1, o2, o3, o4⟩ := id C
  by_cases h1 : 0 ≤ x.toInt ∧ x.toInt ≤ 5
  · obtain ⟨k, q1, q2, q3⟩ := inR h1
    subst q3
    have hk : k < 6 := by omega
    by_cases h2 : ¬ (0 ≤ y.toInt ∧ y.toInt ≤ 99) ∨ ¬ (1 ≤ z.toInt ∧ z.toInt ≤ 99)
    · exact good_same hN St hX C R (c_bag_o hk h2) (r_bag_o hk (vM hM) h2)
    · have h3 : 0 ≤ y.toInt ∧ y.toInt ≤ 99 := Decidable.byContradiction (fun q => h2 (Or.inl q))
      have h4 : 1 ≤ z.toInt ∧ z.toInt ≤ 99 := Decidable.byContradiction (fun q => h2 (Or.inr q))
      obtain ⟨dd, w1, w2, w3⟩ := inR h3
      obtain ⟨nn, v1, v2, v3⟩ := inR (x := z) (b := 99) (by omega)
      subst w3 v3
      have hd : dd < 100 := by omega
      have hn : 1 ≤ nn ∧ nn < 100 := by
        rw [nI_toInt v2] at h4
        omega
      obtain ⟨p1, p2, p3, p4, p5, p6⟩ := id PC
      obtain ⟨u1, u2, u3, u4, u5, u6, u7, u8, u9⟩ := id PA1
      by_cases hb : nb = 20
      · subst hb
        exact good_same hN St hX C R (c_bag_f PC hX hk hd hn) (r_bag_f hk hd hn (vM hM) (gM24 hM))
      · have hb : nb < 20 := by omega
        have r1 := c_bag PC hb hX hk hd hn
        have X1 : rO (sf (si h (13 + k) dd (nI (comF bp bd bm k dd nb) + nI nn)) 10 5 (.int (nI (nb + 1)))) 4 = some (10, xF dr (nI P) (nI L) fa) := by rw [rO_of (cell_sf (by decide)), rO_si, hX]
        have D1 : Dif [10, 11, 12, 13, 14, 15, 16, 17, 18, 19, 20, 21] h (sf (si h (13 + k) dd (nI (comF bp bd bm k dd nb) + nI nn)) 10 5 (.int (nI (nb + 1)))) := difT (difSi (by simp only [List.mem_cons, List.not_mem_nil, or_false]; omega)) (difSf (by decide))
        have hcm : ∀ p d, comF (slU bp nb k) (slU bd nb dd) (slU bm nb nn) p d (nb + 1) = comF bp bd bm p d nb + if k = p ∧ dd = d then nn else 0 := by
          intro p d
          have z0 : ∀ {f : Nat → Nat} {v : Nat}, slU f nb v nb = v := fun {f v} => if_pos rfl
          show comF (slU bp nb k) (slU bd nb dd) (slU bm nb nn) p d nb + (if slU bp nb k nb = p ∧ slU bd nb dd nb = d then slU bm nb nn nb else 0) = _
          rw [comF_upd nb (Nat.le_refl _), z0, z0, z0]
        have hbm2 : ∀ b, slU bm nb nn b < 100 := fun b => by
          unfold slU
          split
          · omega
          · exact u4 b
        have P1 : PostsC (sf (si h (13 + k) dd (nI (comF bp bd bm k dd nb) + nI nn)) 10 5 (.int (nI (nb + 1)))) (fun p d => comF (slU bp nb k) (slU bd nb dd) (slU bm nb nn) p d (nb + 1)) nd (nI (nb + 1)) := by
          refine ⟨?_, by rw [rR_sf, rR_si, p2], fun p hp => ?_, by rw [rI_sf, rI_siN (by omega), p4], fun p d => ?_, p6⟩
          · rw [rO_sf, if_pos rfl, rO_si, p1]; rfl
          · rw [rI_sf]
            by_cases z : p = k
            · subst z
              rw [rI_siA (p3 p hp)]
              congr 2
              funext d
              rw [updP]
              show (if d = dd then nI (comF bp bd bm p dd nb) + nI nn else nI (comF bp bd bm p d nb)) = nI (comF (slU bp nb p) (slU bd nb dd) (slU bm nb nn) p d (nb + 1))
              rw [hcm]
              by_cases z2 : d = dd
              · rw [if_pos z2, if_pos ⟨rfl, z2.symm⟩, z2, nI_add]
              · rw [if_neg z2, if_neg (fun e => z2 e.2.symm)]
                rfl
            · rw [rI_siN (by omega), p3 p hp]
              congr 2
              funext d
              show nI (comF bp bd bm p d nb) = nI (comF (slU bp nb k) (slU bd nb dd) (slU bm nb nn) p d (nb + 1))
              rw [hcm, if_neg (fun e => z e.1.symm)]
              rfl
          · have := comF_le (bp := slU bp nb k) (bd := slU bd nb dd) (post := p) (day := d) hbm2 (nb + 1)
            show comF (slU bp nb k) (slU bd nb dd) (slU bm nb nn) p d (nb + 1) ≤ 2000
            omega
        have C1 := cb_posts hN C D1 P1 (t3C_eq T3 (fun b hb => by rw [cell_sf (by omega), cell_si (by omega)]))
        have F1 : Fc h (sf (si h (13 + k) dd (nI (comF bp bd bm k dd nb) + nI nn)) 10 5 (.int (nI (nb + 1)))) := fc_dif D1 (fun b hb => by simp only [List.mem_cons, List.not_mem_nil, or_false] at hb; omega)
        generalize sf (si h (13 + k) dd (nI (comF bp bd bm k dd nb) + nI nn)) 10 5 (.int (nI (nb + 1))) = h1 at *
        have R1 := RS_fc R F1
        obtain ⟨rd1, lm1, ft1, f501, f581, hM1, BM1, PA2, _⟩ := id R1
        obtain ⟨y1, y2, y3, y4, y5, y6, y7, y8, y9⟩ := id PA2
        have r2 := r_bag hk hd hn hb hM1 y6 y7 y8
        have D2 : Dif [36, 51, 52, 53, 54] h1 (sf (si (si (si h1 52 nb (nI k)) 53 nb (nI dd)) 54 nb (nI nn)) 36 24 (.int (nI (nb + 1)))) := difT (difT (difT (difSi (by decide)) (difSi (by decide))) (difSi (by decide))) (difSf (by decide))
        have hM2 : rO (si (si (si h1 52 nb (nI k)) 53 nb (nI dd)) 54 nb (nI nn)) 36 = rO h1 36 := by rw [rO_si, rO_si, rO_si]
        have eu : ∀ {f : Nat → Nat} {v : Nat}, upd (fun u => nI (f u)) nb (nI v) = fun u => nI (slU f nb v u) := fun {f v} => by
          funext u
          rw [updP]
          unfold slU
          split <;> rfl
        refine goodI St hN r1 F1 ⟨dr, da, pa, qa, la, ma, X1, C1⟩ r2 (frm_dif D2 (fun b hb => by simp only [List.mem_cons, List.not_mem_nil, or_false] at hb; omega)) (rs_posts R1 D2 ⟨by omega, fun b => ?_, fun b => ?_, hbm2, y5, ?_, ?_, ?_, ?_⟩ (sM24 (hM2.trans hM1)))
        · unfold slU
          split
          · omega
          · exact y2 b
        · unfold slU
          split
          · omega
          · exact y3 b
        · rw [rI_sf, rI_siN (by decide), rI_siN (by decide), rI_siA y6, eu]
        · rw [rI_sf, rI_siN (by decide), rI_siA (show rI (si h1 52 nb (nI k)) 53 = _ from (rI_siN (by decide)).trans y7), eu]
        · rw [rI_sf, rI_siA (show rI (si (si h1 52 nb (nI k)) 53 nb (nI dd)) 54 = _ from (rI_siN (by decide)).trans ((rI_siN (by decide)).trans y8)), eu]
        · rw [rI_sf, rI_siN (by decide), rI_siN (by decide), rI_siN (by decide), y9]
  · exact good_same hN St hX C R (c_bag_u h1) (r_bag_u h1)
theorem g_out {x y : Int32} (hN : 59 ≤ h.1) (St : StC h) (hX : rO h 4 = some (10, xF dr (nI P) (nI L) fa)) (C : CB h c w wt bp bd bm nd nb t P pk pp pn pl gr L lp ld ln lg sz sl cm tr dr da pa qa la ma) (R : RS h c w wt bp bd bm nd nb t P pk pp pn pl gr L lp ld ln lg sz sl cm tr fa) : Good 113 184 [some (.ref 4), some (.int x), some (.int y)] [some (.ref 36), some (.int x), some (.int y), none] h := by
  obtain ⟨rd, lm, ft, f50, f58, hM, BM, PA1, GM, KM, SM, a40, a50, a58, e1, e2⟩ := id R
  obtain ⟨B, PC, T3, hT, G, K, S, D, ht, o1, o2, o3, o4⟩ := id C
  by_cases h1 : 0 ≤ x.toInt ∧ x.toInt ≤ 5
  · obtain ⟨k, q1, q2, q3⟩ := inR h1
    subst q3
    have hk : k < 6 := by omega
    by_cases h2 : 0 ≤ y.toInt ∧ y.toInt ≤ 9999
    · obtain ⟨n, w1, w2, w3⟩ := inR h2
      subst w3
      exact good_same hN St hX C R (c_out PC hX hk (show n < 10000 by omega)) (r_out (pam_pm PA1 hM) hk (show n < 10000 by omega))
    · exact good_same hN St hX C R (c_out_o hk h2) (r_out_o hk h2)
  · exact good_same hN St hX C R (c_out_u h1) (r_out_u h1)
theorem cs_fr3 (hN : 59 ≤ h.1) (hX : rO h 4 = some (10, xF dr (nI P) (nI L) fa)) (C : CB h c w wt bp bd bm nd nb t P pk pp pn pl gr L lp ld ln lg sz sl cm tr dr da pa qa la ma) (F : Fr3 t3 h h1) (T2 : T3C h1) : CS h1 c w wt bp bd bm nd nb t P pk pp pn pl gr L lp ld ln lg sz sl cm tr fa ∧ (∀ b, rO h1 b = rO h b) := by
  obtain ⟨B, PC, T3, hT, G, K, S, D, ht, o1, o2, o3, o4⟩ := C
  have hb : ∀ b, ¬ (19 ≤ b ∧ b ≤ 21) → b ∉ t3 := fun b hb => by
    unfold t3
    simp only [List.mem_cons, List.not_mem_nil, or_false]
    omega
  have eI : ∀ b, ¬ (19 ≤ b ∧ b ≤ 21) → rI h1 b = rI h b := fun b hh => F.1 b (hb b hh)
  refine ⟨⟨dr, da, pa, qa, la, ma, by rw [F.2.1, hX], ?_, PC.fr F, T2, by rw [F.2.1, hT], ?_, ?_, ?_, ?_, ht, o1, by rw [F.2.2.2.1]; exact o2, o3, by rw [F.2.2.2.1]; exact o4⟩, F.2.1⟩
  · unfold BookC
    rw [F.2.1, eI 6 (by omega), eI 7 (by omega), eI 8 (by omega), eI 9 (by omega)]
    exact B
  · obtain ⟨a1, a2, a3⟩ := G
    refine ⟨by rw [F.2.2.1, a1], fun p hp => ?_, a3⟩
    obtain ⟨b1, b2, b3, b4, b5, b6⟩ := a2 p hp
    rw [F.2.1, eI (qa p) (by omega), F.2.2.2.1]
    exact ⟨b1, b2, b3, b4, b5, b6⟩
  · obtain ⟨a1, a2, a3⟩ := K
    refine ⟨by rw [F.2.2.1, a1], fun p hp => ?_, a3⟩
    obtain ⟨b1, b2, b3, b4, b5, b6⟩ := a2 p hp
    rw [F.2.1, eI (ma p) (by omega), F.2.2.2.1]
    exact ⟨b1, b2, b3, b4, b5, b6⟩
  · obtain ⟨a1, a2, a3⟩ := S
    refine ⟨by rw [F.2.2.1, a1], fun k hk => ?_, a3⟩
    rw [F.2.1, eI (29 + 2 * k) (by omega)]
    exact a2 k hk
  · obtain ⟨f, a1, a2, a3⟩ := D
    exact ⟨f, by rw [F.2.1, a1], by rw [eI da (by omega), a2], a3⟩
end CL2
