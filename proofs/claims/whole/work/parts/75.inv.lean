theorem postsC_eq {h h1 : AH} {br : Nat → Nat → Nat} {nd : Nat → Nat} {bg : Int32} (PC : PostsC h br nd bg) (he : ∀ b, 10 ≤ b ∧ b ≤ 18 → h1.2.2 b = h.2.2 b) : PostsC h1 br nd bg := by
  obtain ⟨a1, a2, a3, a4, a5⟩ := PC
  refine ⟨by rw [rO_of (he 10 (by omega)), a1], by rw [rR_of (he 12 (by omega)), a2], fun p hp => by rw [rI_of (he (13 + p) (by omega)), a3 p hp], by rw [rI_of (he 11 (by omega)), a4], a5⟩
def T3C (h : AH) : Prop := ∃ f19 f20 f21, rI h 19 = some (6, f19) ∧ rI h 20 = some (6, f20) ∧ rI h 21 = some (6, f21)
theorem t3C_eq {h h1 : AH} (T : T3C h) (he : ∀ b, 19 ≤ b ∧ b ≤ 21 → h1.2.2 b = h.2.2 b) : T3C h1 := by
  obtain ⟨f, g, k, a1, a2, a3⟩ := T
  exact ⟨f, g, k, by rw [rI_of (he 19 (by omega)), a1], by rw [rI_of (he 20 (by omega)), a2], by rw [rI_of (he 21 (by omega)), a3]⟩
def CB (h : AH) (c w : Nat → Option Nat) (wt : Nat → Nat) (bp bd bm nd : Nat → Nat) (nb : Nat) (t : Nat → Option Nat) (P : Nat) (pk pp pn pl : Nat → Nat) (gr : Nat → Nat → Nat) (L : Nat) (lp ld ln : Nat → Nat) (lg : Nat → Nat → Nat) (sz : Nat → Option Nat) (sl : Nat → Nat) (cm : Nat → Int32) (tr : Int32) (dr da : Nat) (pa qa la ma : Nat → Nat) : Prop := BookC h c w wt ∧ PostsC h (fun p d => comF bp bd bm p d nb) nd (nI nb) ∧ T3C h ∧ rO h 22 = some (9, [.int tr]) ∧ PagesC h P pk pp pn pl gr pa qa ∧ LettersC h L lp ld ln lg la ma ∧ SheetC h sz sl cm ∧ DrF h dr da t ∧ tdOK t ∧ (dr = 26 ∨ 59 ≤ dr) ∧ dr < h.1 ∧ (da = 27 ∨ 59 ≤ da) ∧ da < h.1
def CS (h : AH) (c w : Nat → Option Nat) (wt : Nat → Nat) (bp bd bm nd : Nat → Nat) (nb : Nat) (t : Nat → Option Nat) (P : Nat) (pk pp pn pl : Nat → Nat) (gr : Nat → Nat → Nat) (L : Nat) (lp ld ln : Nat → Nat) (lg : Nat → Nat → Nat) (sz : Nat → Option Nat) (sl : Nat → Nat) (cm : Nat → Int32) (tr : Int32) (fa : Int32) : Prop := ∃ dr da pa qa la ma, rO h 4 = some (10, xF dr (nI P) (nI L) fa) ∧ CB h c w wt bp bd bm nd nb t P pk pp pn pl gr L lp ld ln lg sz sl cm tr dr da pa qa la ma
def PAM (h : AH) (bp bd bm nd : Nat → Nat) (nb : Nat) : Prop := nb ≤ 20 ∧ (∀ b, bp b < 100) ∧ (∀ b, bd b < 100) ∧ (∀ b, bm b < 100) ∧ (∀ p, nd p < 10) ∧ rI h 52 = some (20, fun k => nI (bp k)) ∧ rI h 53 = some (20, fun k => nI (bd k)) ∧ rI h 54 = some (20, fun k => nI (bm k)) ∧ rI h 51 = some (6, fun k => nI (nd k))
theorem pam_pm {h : AH} {bp bd bm nd : Nat → Nat} {nb : Nat} {fa dB dL dC dR rd pg lt lm tr : Int32} (A : PAM h bp bd bm nd nb) (hM : rO h 36 = some (11, mF fa dB dL dC dR rd pg lt lm (nI nb) tr)) : PostsM h bp bd bm nd nb := by
  obtain ⟨a1, a2, a3, a4, a5, a6, a7, a8, a9⟩ := A
  exact ⟨a1, a2, a3, a4, a5, gM24 hM, gM25 hM, gM26 hM, gM27 hM, gM23 hM, a6, a7, a8, a9, vM hM⟩
def RS (h : AH) (c w : Nat → Option Nat) (wt : Nat → Nat) (bp bd bm nd : Nat → Nat) (nb : Nat) (t : Nat → Option Nat) (P : Nat) (pk pp pn pl : Nat → Nat) (gr : Nat → Nat → Nat) (L : Nat) (lp ld ln : Nat → Nat) (lg : Nat → Nat → Nat) (sz : Nat → Option Nat) (sl : Nat → Nat) (cm : Nat → Int32) (tr : Int32) (fa : Int32) : Prop := ∃ rd lm ft f50 f58, rO h 36 = some (11, mF fa (oN (t 0)) (oN (t 1)) (bI (t 2).isSome) (bI (decide (t 3 = some 1))) rd (nI P) (nI L) lm (nI nb) tr) ∧ BookM h c w wt ∧ PAM h bp bd bm nd nb ∧ PagesM h P pk pp pn pl gr ∧ LettersM h L lp ld ln lg ∧ SheetM h sz sl cm ∧ rI h 40 = some (4, ft) ∧ rI h 50 = some (80, f50) ∧ rI h 58 = some (60, f58) ∧ (∀ p, P ≤ p → pl p = 0) ∧ ∀ p, pl p ≤ L
section IV
variable {h : AH} {c w : Nat → Option Nat} {wt : Nat → Nat} {bp bd bm nd : Nat → Nat} {nb : Nat} {t : Nat → Option Nat} {P : Nat} {pk pp pn pl : Nat → Nat} {gr : Nat → Nat → Nat} {L : Nat} {lp ld ln : Nat → Nat} {lg : Nat → Nat → Nat} {sz : Nat → Option Nat} {sl : Nat → Nat} {cm : Nat → Int32} {tr : Int32} {fa : Int32} {dr da : Nat} {pa qa la ma : Nat → Nat}
theorem CB_eq {h1 : AH} (C : CB h c w wt bp bd bm nd nb t P pk pp pn pl gr L lp ld ln lg sz sl cm tr dr da pa qa la ma) (hN : 59 ≤ h.1) (hn : h.1 ≤ h1.1) (he : ∀ b, 5 ≤ b → b < h.1 → ¬ (36 ≤ b ∧ b ≤ 58) → h1.2.2 b = h.2.2 b) : CB h1 c w wt bp bd bm nd nb t P pk pp pn pl gr L lp ld ln lg sz sl cm tr dr da pa qa la ma := by
  obtain ⟨B, PC, T3, hT, G, K, S, D, ht, o1, o2, o3, o4⟩ := C
  refine ⟨bookC_eq B (fun b hb => he b (by omega) (by omega) (by omega)), postsC_eq PC (fun b hb => he b (by omega) (by omega) (by omega)), t3C_eq T3 (fun b hb => he b (by omega) (by omega) (by omega)), by rw [rO_of (he 22 (by omega) (by omega) (by omega)), hT], pagesC_eq G hn (fun b hb => he b (by omega) (by omega) (by omega)), lettersC_eq K hn (fun b hb => he b (by omega) (by omega) (by omega)), sheetC_eq S (fun b hb => he b (by omega) (by omega) (by omega)), drF_eq D (he dr (by omega) (by omega) (by omega)) (he da (by omega) (by omega) (by omega)), ht, o1, by omega, o3, by omega⟩
theorem bookM_eq {h1 : AH} (B : BookM h c w wt) (he : ∀ b, 37 ≤ b ∧ b ≤ 39 → h1.2.2 b = h.2.2 b) : BookM h1 c w wt := by
  unfold BookM
  rw [rI_of (he 37 (by omega)), rI_of (he 38 (by omega)), rI_of (he 39 (by omega))]
  exact B
theorem pam_eq {h1 : AH} (A : PAM h bp bd bm nd nb) (he : ∀ b, 51 ≤ b ∧ b ≤ 54 → h1.2.2 b = h.2.2 b) : PAM h1 bp bd bm nd nb := by
  unfold PAM
  rw [rI_of (he 51 (by omega)), rI_of (he 52 (by omega)), rI_of (he 53 (by omega)), rI_of (he 54 (by omega))]
  exact A
theorem pagesM_eq {h1 : AH} (A : PagesM h P pk pp pn pl gr) (he : ∀ b, 41 ≤ b ∧ b ≤ 45 → h1.2.2 b = h.2.2 b) : PagesM h1 P pk pp pn pl gr := by
  unfold PagesM
  rw [rI_of (he 41 (by omega)), rI_of (he 42 (by omega)), rI_of (he 43 (by omega)), rI_of (he 44 (by omega)), rI_of (he 45 (by omega))]
  exact A
theorem lettersM_eq {h1 : AH} (A : LettersM h L lp ld ln lg) (he : ∀ b, 46 ≤ b ∧ b ≤ 49 → h1.2.2 b = h.2.2 b) : LettersM h1 L lp ld ln lg := by
  unfold LettersM
  rw [rI_of (he 46 (by omega)), rI_of (he 47 (by omega)), rI_of (he 48 (by omega)), rI_of (he 49 (by omega))]
  exact A
theorem sheetM_eq {h1 : AH} (A : SheetM h sz sl cm) (he : ∀ b, 55 ≤ b ∧ b ≤ 57 → h1.2.2 b = h.2.2 b) : SheetM h1 sz sl cm := by
  unfold SheetM
  rw [rI_of (he 55 (by omega)), rI_of (he 56 (by omega)), rI_of (he 57 (by omega))]
  exact A
theorem RS_eq {h1 : AH} (R : RS h c w wt bp bd bm nd nb t P pk pp pn pl gr L lp ld ln lg sz sl cm tr fa) (he : ∀ b, 36 ≤ b ∧ b ≤ 58 → h1.2.2 b = h.2.2 b) : RS h1 c w wt bp bd bm nd nb t P pk pp pn pl gr L lp ld ln lg sz sl cm tr fa := by
  obtain ⟨rd, lm, ft, f50, f58, hM, BM, PA1, GM, KM, SM, a40, a50, a58, e1, e2⟩ := R
  exact ⟨rd, lm, ft, f50, f58, by rw [rO_of (he 36 (by omega)), hM], bookM_eq BM (fun b hb => he b (by omega)), pam_eq PA1 (fun b hb => he b (by omega)), pagesM_eq GM (fun b hb => he b (by omega)), lettersM_eq KM (fun b hb => he b (by omega)), sheetM_eq SM (fun b hb => he b (by omega)), by rw [rI_of (he 40 (by omega)), a40], by rw [rI_of (he 50 (by omega)), a50], by rw [rI_of (he 58 (by omega)), a58], e1, e2⟩
end IV
def INV (h : AH) : Prop := StC h ∧ 59 ≤ h.1 ∧ ∃ c w wt bp bd bm nd nb t P pk pp pn pl gr L lp ld ln lg sz sl cm tr fa, CS h c w wt bp bd bm nd nb t P pk pp pn pl gr L lp ld ln lg sz sl cm tr fa ∧ RS h c w wt bp bd bm nd nb t P pk pp pn pl gr L lp ld ln lg sz sl cm tr fa
def isIV (m : Nat) (v : Value) : Prop := match v with
  | .int _ => m ≠ 117 ∧ m ≠ 129
  | .long _ => m = 117 ∨ m = 129
  | _ => False
def Good (m1 m2 : Nat) (A1 A2 : AL) (h : AH) : Prop := ∃ v h1 h2, isIV m1 v ∧ run m1 (0, A1, [], h) = some (some v, h1) ∧ run m2 (0, A2, [], h1) = some (some v, h2) ∧ rO h1 36 = rO h 36 ∧ rI h1 0 = rI h 0 ∧ INV h2 ∧ h2.2.2 0 = h.2.2 0 ∧ h2.1 ≤ h.1 + 4 ∧ h2.2.1 ≤ h.2.1 + 100
def Fc (h h1 : AH) : Prop := (∀ b, b < 4 ∨ (36 ≤ b ∧ b ≤ 58) → h1.2.2 b = h.2.2 b) ∧ h.1 ≤ h1.1 ∧ h1.1 ≤ h.1 + 4 ∧ h1.2.1 ≤ h.2.1 + 100
def Frm (h h1 : AH) : Prop := (∀ b, ¬ (36 ≤ b ∧ b ≤ 58) → h1.2.2 b = h.2.2 b) ∧ h1.1 = h.1 ∧ h1.2.1 = h.2.1
theorem frm_dif {bs : List Nat} {h h1 : AH} (D : Dif bs h h1) (hb : ∀ b, b ∈ bs → 36 ≤ b ∧ b ≤ 58) : Frm h h1 := ⟨fun b hn => D.1 b (fun q => hn (hb b q)), D.2⟩
theorem fc_dif {bs : List Nat} {h h1 : AH} (D : Dif bs h h1) (hb : ∀ b, b ∈ bs → ¬ (b < 4 ∨ (36 ≤ b ∧ b ≤ 58))) : Fc h h1 := ⟨fun b hn => D.1 b (fun q => hb b q hn), by rw [D.2.1]; exact Nat.le_refl _, by rw [D.2.1]; omega, by rw [D.2.2]; omega⟩
theorem fc_rfl {h : AH} : Fc h h := ⟨fun _ _ => rfl, Nat.le_refl _, by omega, by omega⟩
theorem frm_rfl {h : AH} : Frm h h := ⟨fun _ _ => rfl, rfl, rfl⟩
section IV2
variable {h h1 h2 : AH} {c w : Nat → Option Nat} {wt : Nat → Nat} {bp bd bm nd : Nat → Nat} {nb : Nat} {t : Nat → Option Nat} {P : Nat} {pk pp pn pl : Nat → Nat} {gr : Nat → Nat → Nat} {L : Nat} {lp ld ln : Nat → Nat} {lg : Nat → Nat → Nat} {sz : Nat → Option Nat} {sl : Nat → Nat} {cm : Nat → Int32} {tr : Int32} {fa : Int32} {dr da : Nat} {pa qa la ma : Nat → Nat} {m1 m2 : Nat} {A1 A2 : AL} {v : Value}
theorem RS_fc (R : RS h c w wt bp bd bm nd nb t P pk pp pn pl gr L lp ld ln lg sz sl cm tr fa) (F : Fc h h1) : RS h1 c w wt bp bd bm nd nb t P pk pp pn pl gr L lp ld ln lg sz sl cm tr fa := RS_eq R (fun b hb => F.1 b (Or.inr hb))
theorem CS_fr (C : CS h c w wt bp bd bm nd nb t P pk pp pn pl gr L lp ld ln lg sz sl cm tr fa) (hN : 59 ≤ h.1) (F : Frm h h1) : CS h1 c w wt bp bd bm nd nb t P pk pp pn pl gr L lp ld ln lg sz sl cm tr fa := by
  obtain ⟨dr, da, pa, qa, la, ma, hX, C⟩ := C
  exact ⟨dr, da, pa, qa, la, ma, by rw [rO_of (F.1 4 (by omega)), hX], CB_eq C hN (by rw [F.2.1]; exact Nat.le_refl _) (fun b _ _ hb => F.1 b hb)⟩
theorem goodI (St : StC h) (hN : 59 ≤ h.1) (r1 : run m1 (0, A1, [], h) = some (some v, h1)) (F1 : Fc h h1) (C1 : CS h1 c w wt bp bd bm nd nb t P pk pp pn pl gr L lp ld ln lg sz sl cm tr fa) (r2 : run m2 (0, A2, [], h1) = some (some v, h2)) (F2 : Frm h1 h2) (R2 : RS h2 c w wt bp bd bm nd nb t P pk pp pn pl gr L lp ld ln lg sz sl cm tr fa) (hv : isIV m1 v := by first | exact ⟨by decide, by decide⟩ | exact Or.inl rfl | exact Or.inr rfl) : Good m1 m2 A1 A2 h := by
  have hN1 : 59 ≤ h1.1 := Nat.le_trans hN F1.2.1
  refine ⟨v, h1, h2, hv, r1, r2, rO_of (F1.1 36 (by omega)), rI_of (F1.1 0 (by omega)), ⟨stC_eq St (fun b hb => by rw [F2.1 b (by omega), F1.1 b (Or.inl hb)]), by rw [F2.2.1]; exact hN1, c, w, wt, bp, bd, bm, nd, nb, t, P, pk, pp, pn, pl, gr, L, lp, ld, ln, lg, sz, sl, cm, tr, fa, CS_fr C1 hN1 F2, R2⟩, by rw [F2.1 0 (by omega), F1.1 0 (by omega)], by rw [F2.2.1]; exact F1.2.2.1, by rw [F2.2.2]; exact F1.2.2.2⟩
theorem good_same (hN : 59 ≤ h.1) (St : StC h) (hX : rO h 4 = some (10, xF dr (nI P) (nI L) fa)) (C : CB h c w wt bp bd bm nd nb t P pk pp pn pl gr L lp ld ln lg sz sl cm tr dr da pa qa la ma) (R : RS h c w wt bp bd bm nd nb t P pk pp pn pl gr L lp ld ln lg sz sl cm tr fa) (r1 : run m1 (0, A1, [], h) = some (some v, h)) (r2 : run m2 (0, A2, [], h) = some (some v, h)) (hv : isIV m1 v := by first | exact ⟨by decide, by decide⟩ | exact Or.inl rfl | exact Or.inr rfl) : Good m1 m2 A1 A2 h := goodI St hN r1 fc_rfl ⟨dr, da, pa, qa, la, ma, hX, C⟩ r2 frm_rfl R hv
theorem fc_lf {xp xl f : Int32} (l : Lf h h1 dr xp xl f) : Fc h h1 := fc_dif l.1 (fun b hb => by simp only [List.mem_singleton] at hb; omega)
theorem cs_lf {f : Int32} (hN : 59 ≤ h.1) (C : CB h c w wt bp bd bm nd nb t P pk pp pn pl gr L lp ld ln lg sz sl cm tr dr da pa qa la ma) (l : Lf h h1 dr (nI P) (nI L) f) : CS h1 c w wt bp bd bm nd nb t P pk pp pn pl gr L lp ld ln lg sz sl cm tr f := ⟨dr, da, pa, qa, la, ma, l.2, CB_eq C hN (by rw [l.1.2.1]; exact Nat.le_refl _) (fun b hb _ _ => l.1.1 b (by simp only [List.mem_singleton]; omega))⟩
theorem rs_f {f rd lm : Int32} (R : RS h c w wt bp bd bm nd nb t P pk pp pn pl gr L lp ld ln lg sz sl cm tr fa) (D : Dif [36] h h1) (hM2 : rO h1 36 = some (11, mF f (oN (t 0)) (oN (t 1)) (bI (t 2).isSome) (bI (decide (t 3 = some 1))) rd (nI P) (nI L) lm (nI nb) tr)) : RS h1 c w wt bp bd bm nd nb t P pk pp pn pl gr L lp ld ln lg sz sl cm tr f := by
  obtain ⟨rd0, lm0, ft, f50, f58, hM, BM, PA1, GM, KM, SM, a40, a50, a58, e1, e2⟩ := R
  have he : ∀ b, b ≠ 36 → h1.2.2 b = h.2.2 b := fun b hb => D.1 b (by simp only [List.mem_singleton]; exact hb)
  exact ⟨rd, lm, ft, f50, f58, hM2, bookM_eq BM (fun b hb => he b (by omega)), pam_eq PA1 (fun b hb => he b (by omega)), pagesM_eq GM (fun b hb => he b (by omega)), lettersM_eq KM (fun b hb => he b (by omega)), sheetM_eq SM (fun b hb => he b (by omega)), by rw [rI_of (he 40 (by omega)), a40], by rw [rI_of (he 50 (by omega)), a50], by rw [rI_of (he 58 (by omega)), a58], e1, e2⟩
theorem good_lf {f : Int32} (hN : 59 ≤ h.1) (St : StC h) (hX : rO h 4 = some (10, xF dr (nI P) (nI L) fa)) (C : CB h c w wt bp bd bm nd nb t P pk pp pn pl gr L lp ld ln lg sz sl cm tr dr da pa qa la ma) (R : RS h c w wt bp bd bm nd nb t P pk pp pn pl gr L lp ld ln lg sz sl cm tr fa) (l : Lf h h1 dr (nI P) (nI L) f) (r1 : run m1 (0, A1, [], h) = some (some v, h1)) (r2 : run m2 (0, A2, [], h1) = some (some v, sf h1 36 0 (.int f))) (hv : isIV m1 v := by first | exact ⟨by decide, by decide⟩ | exact Or.inl rfl | exact Or.inr rfl) : Good m1 m2 A1 A2 h := by
  have R1 := RS_fc R (fc_lf l)
  have R1' := R1
  obtain ⟨rd, lm, ft, f50, f58, hM, BM, PA1, GM, KM, SM, a40, a50, a58, e1, e2⟩ := R1'
  exact goodI St hN r1 (fc_lf l) (cs_lf hN C l) r2 (frm_dif (bs := [36]) (difSf (by simp)) (fun b hb => by simp only [List.mem_singleton] at hb; omega)) (rs_f R1 (difSf (by simp)) (sM0 hM)) hv
end IV2
