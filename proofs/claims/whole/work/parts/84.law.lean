theorem iv_int {m : Nat} {v : Value} (hv : isIV m v) (h1 : m ≠ 117) (h2 : m ≠ 129) : ∃ x, v = .int x := by
  cases v with
  | int x => exact ⟨x, rfl⟩
  | long x => exact absurd hv (fun q => q.elim h1 h2)
  | _ => exact absurd hv id
theorem iv_long {m : Nat} {v : Value} (hv : isIV m v) (h1 : m = 117 ∨ m = 129) : ∃ x, v = .long x := by
  cases v with
  | long x => exact ⟨x, rfl⟩
  | int x => exact absurd h1 (fun q => q.elim hv.1 hv.2)
  | _ => exact absurd hv id
def Nx (h h1 : AH) : Prop := INV h1 ∧ h1.2.2 0 = h.2.2 0 ∧ h1.1 ≤ h.1 + 4 ∧ h1.2.1 ≤ h.2.1 + 100
theorem nI_8 {i : Nat} : nI i + 8 = nI (i + 8) := nI_add i 8
theorem nI_2 {i : Nat} : nI i + 2 = nI (i + 2) := nI_add i 2
theorem nI_3 {i : Nat} : nI i + 3 = nI (i + 3) := nI_add i 3
theorem nI_4 {i : Nat} : nI i + 4 = nI (i + 4) := nI_add i 4
theorem nI_5 {i : Nat} : nI i + 5 = nI (i + 5) := nI_add i 5
theorem nI_6 {i : Nat} : nI i + 6 = nI (i + 6) := nI_add i 6
theorem nI_7 {i : Nat} : nI i + 7 = nI (i + 7) := nI_add i 7
theorem law_0 {h : AH} {i n : Nat} {xs : Nat → Int32} (hz : rI h 0 = some (n, xs)) (hi : i + 8 ≤ n) (hn : n < 2 ^ 31) (I : INV h) : ∃ h1, run 226 (188, [some (.ref 0), some (.ref 4), some (.ref 36), some (.int (nI i))], [], h) = run 226 (18, [some (.ref 0), some (.ref 4), some (.ref 36), some (.int (nI (i + 8)))], [], h1) ∧ Nx h h1 := by
  obtain ⟨St, hN, c, w, wt, bp, bd, bm, nd, nb, t, P, pk, pp, pn, pl, gr, L, lp, ld, ln, lg, sz, sl, cm, tr, fa, ⟨dr, da, pa, qa, la, ma, hX, C⟩, R⟩ := id I
  obtain ⟨v, h1, h2, hv, r1, r2, e36, e0, I2, z0, z1, z2⟩ := g_code (x := xs (i + 1)) (y := xs (i + 2)) hN St hX C R
  obtain ⟨rd, lm, ft, f50, f58, hM, _⟩ := id R
  have hM1 := e36.trans hM
  have hz1 := e0.trans hz
  have G0 : ∀ j, j < 8 → gi h 0 (nI (i + j)) = some (xs (i + j)) := fun j hj => gi_nI hz (by omega) hn
  have G1 : ∀ j, j < 8 → gi h1 0 (nI (i + j)) = some (xs (i + j)) := fun j hj => gi_nI hz1 (by omega) hn
  obtain ⟨w, hw⟩ := iv_int hv (by decide) (by decide)
  subst hw
  refine ⟨h2, ?_, I2, z0, z1, z2⟩
  simp only [uL_law_188, uL_law_189, uL_law_190, uL_law_191, uL_law_192, uL_law_193, uL_law_194, uL_law_195, uL_law_196, uL_law_197, uL_law_198, uL_law_199, uL_law_202, uL_law_203, uL_law_204, uL_law_205, uL_law_206, uL_law_207, uL_law_208, uL_law_209, uL_law_210, uL_law_211, uL_law_212, uL_law_213, uL_law_216, uL_law_219, uL_law_220, uL_law_1503, uL_law_1506, vX hX, vM hM1, r1, r2, nI_1, nI_2, nI_3, nI_4, nI_5, nI_6, nI_7, nI_8, G0 1 (by omega), G1 1 (by omega), G0 2 (by omega), G1 2 (by omega), Option.bind_some, Option.toList_some, Option.toList_none, List.cons_append, List.nil_append, if_true, if_false, and_self, and_true, true_and, or_self, or_true, true_or, false_or, or_false, i10, i00, i01, i11, Nat.reduceAdd, st1_0, st1_c, st1_1i, st1_1r, st1_1n, st1_1u, st1_1J, st2_0, st2_c, st2_1i, st2_1r, st2_1n, st2_1u, st2_1J]
theorem law_1 {h : AH} {i n : Nat} {xs : Nat → Int32} (hz : rI h 0 = some (n, xs)) (hi : i + 8 ≤ n) (hn : n < 2 ^ 31) (I : INV h) : ∃ h1, run 226 (221, [some (.ref 0), some (.ref 4), some (.ref 36), some (.int (nI i))], [], h) = run 226 (18, [some (.ref 0), some (.ref 4), some (.ref 36), some (.int (nI (i + 8)))], [], h1) ∧ Nx h h1 := by
  obtain ⟨St, hN, c, w, wt, bp, bd, bm, nd, nb, t, P, pk, pp, pn, pl, gr, L, lp, ld, ln, lg, sz, sl, cm, tr, fa, ⟨dr, da, pa, qa, la, ma, hX, C⟩, R⟩ := id I
  obtain ⟨v, h1, h2, hv, r1, r2, e36, e0, I2, z0, z1, z2⟩ := g_weight (x := xs (i + 1)) (y := xs (i + 2)) hN St hX C R
  obtain ⟨rd, lm, ft, f50, f58, hM, _⟩ := id R
  have hM1 := e36.trans hM
  have hz1 := e0.trans hz
  have G0 : ∀ j, j < 8 → gi h 0 (nI (i + j)) = some (xs (i + j)) := fun j hj => gi_nI hz (by omega) hn
  have G1 : ∀ j, j < 8 → gi h1 0 (nI (i + j)) = some (xs (i + j)) := fun j hj => gi_nI hz1 (by omega) hn
  obtain ⟨w, hw⟩ := iv_int hv (by decide) (by decide)
  subst hw
  refine ⟨h2, ?_, I2, z0, z1, z2⟩
  simp only [uL_law_221, uL_law_222, uL_law_223, uL_law_224, uL_law_225, uL_law_226, uL_law_227, uL_law_228, uL_law_229, uL_law_230, uL_law_231, uL_law_232, uL_law_235, uL_law_236, uL_law_237, uL_law_238, uL_law_239, uL_law_240, uL_law_241, uL_law_242, uL_law_243, uL_law_244, uL_law_245, uL_law_246, uL_law_249, uL_law_252, uL_law_253, uL_law_1503, uL_law_1506, vX hX, vM hM1, r1, r2, nI_1, nI_2, nI_3, nI_4, nI_5, nI_6, nI_7, nI_8, G0 1 (by omega), G1 1 (by omega), G0 2 (by omega), G1 2 (by omega), Option.bind_some, Option.toList_some, Option.toList_none, List.cons_append, List.nil_append, if_true, if_false, and_self, and_true, true_and, or_self, or_true, true_or, false_or, or_false, i10, i00, i01, i11, Nat.reduceAdd, st1_0, st1_c, st1_1i, st1_1r, st1_1n, st1_1u, st1_1J, st2_0, st2_c, st2_1i, st2_1r, st2_1n, st2_1u, st2_1J]
theorem law_2 {h : AH} {i n : Nat} {xs : Nat → Int32} (hz : rI h 0 = some (n, xs)) (hi : i + 8 ≤ n) (hn : n < 2 ^ 31) (I : INV h) : ∃ h1, run 226 (254, [some (.ref 0), some (.ref 4), some (.ref 36), some (.int (nI i))], [], h) = run 226 (18, [some (.ref 0), some (.ref 4), some (.ref 36), some (.int (nI (i + 8)))], [], h1) ∧ Nx h h1 := by
  obtain ⟨St, hN, c, w, wt, bp, bd, bm, nd, nb, t, P, pk, pp, pn, pl, gr, L, lp, ld, ln, lg, sz, sl, cm, tr, fa, ⟨dr, da, pa, qa, la, ma, hX, C⟩, R⟩ := id I
  obtain ⟨v, h1, h2, hv, r1, r2, e36, e0, I2, z0, z1, z2⟩ := g_drill (x := xs (i + 1)) (y := xs (i + 2)) (z := xs (i + 3)) (u := xs (i + 4)) hN St hX C R
  obtain ⟨rd, lm, ft, f50, f58, hM, _⟩ := id R
  have hM1 := e36.trans hM
  have hz1 := e0.trans hz
  have G0 : ∀ j, j < 8 → gi h 0 (nI (i + j)) = some (xs (i + j)) := fun j hj => gi_nI hz (by omega) hn
  have G1 : ∀ j, j < 8 → gi h1 0 (nI (i + j)) = some (xs (i + j)) := fun j hj => gi_nI hz1 (by omega) hn
  obtain ⟨w, hw⟩ := iv_int hv (by decide) (by decide)
  subst hw
  refine ⟨h2, ?_, I2, z0, z1, z2⟩
  simp only [uL_law_254, uL_law_255, uL_law_256, uL_law_257, uL_law_258, uL_law_259, uL_law_260, uL_law_261, uL_law_262, uL_law_263, uL_law_264, uL_law_265, uL_law_266, uL_law_267, uL_law_268, uL_law_269, uL_law_270, uL_law_271, uL_law_272, uL_law_273, uL_law_274, uL_law_275, uL_law_278, uL_law_279, uL_law_280, uL_law_281, uL_law_282, uL_law_283, uL_law_284, uL_law_285, uL_law_286, uL_law_287, uL_law_288, uL_law_289, uL_law_290, uL_law_291, uL_law_292, uL_law_293, uL_law_294, uL_law_295, uL_law_296, uL_law_297, uL_law_298, uL_law_299, uL_law_302, uL_law_305, uL_law_306, uL_law_1503, uL_law_1506, vX hX, vM hM1, r1, r2, nI_1, nI_2, nI_3, nI_4, nI_5, nI_6, nI_7, nI_8, G0 1 (by omega), G1 1 (by omega), G0 2 (by omega), G1 2 (by omega), G0 3 (by omega), G1 3 (by omega), G0 4 (by omega), G1 4 (by omega), Option.bind_some, Option.toList_some, Option.toList_none, List.cons_append, List.nil_append, if_true, if_false, and_self, and_true, true_and, or_self, or_true, true_or, false_or, or_false, i10, i00, i01, i11, Nat.reduceAdd, st1_0, st1_c, st1_1i, st1_1r, st1_1n, st1_1u, st1_1J, st2_0, st2_c, st2_1i, st2_1r, st2_1n, st2_1u, st2_1J]
theorem law_3 {h : AH} {i n : Nat} {xs : Nat → Int32} (hz : rI h 0 = some (n, xs)) (hi : i + 8 ≤ n) (hn : n < 2 ^ 31) (I : INV h) : ∃ h1, run 226 (307, [some (.ref 0), some (.ref 4), some (.ref 36), some (.int (nI i))], [], h) = run 226 (18, [some (.ref 0), some (.ref 4), some (.ref 36), some (.int (nI (i + 8)))], [], h1) ∧ Nx h h1 := by
  obtain ⟨St, hN, c, w, wt, bp, bd, bm, nd, nb, t, P, pk, pp, pn, pl, gr, L, lp, ld, ln, lg, sz, sl, cm, tr, fa, ⟨dr, da, pa, qa, la, ma, hX, C⟩, R⟩ := id I
  obtain ⟨v, h1, h2, hv, r1, r2, e36, e0, I2, z0, z1, z2⟩ := g_ofDrill (x := xs (i + 1)) hN St hX C R
  obtain ⟨rd, lm, ft, f50, f58, hM, _⟩ := id R
  have hM1 := e36.trans hM
  have hz1 := e0.trans hz
  have G0 : ∀ j, j < 8 → gi h 0 (nI (i + j)) = some (xs (i + j)) := fun j hj => gi_nI hz (by omega) hn
  have G1 : ∀ j, j < 8 → gi h1 0 (nI (i + j)) = some (xs (i + j)) := fun j hj => gi_nI hz1 (by omega) hn
  obtain ⟨w, hw⟩ := iv_int hv (by decide) (by decide)
  subst hw
  refine ⟨h2, ?_, I2, z0, z1, z2⟩
  simp only [uL_law_307, uL_law_308, uL_law_309, uL_law_310, uL_law_311, uL_law_312, uL_law_313, uL_law_316, uL_law_317, uL_law_318, uL_law_319, uL_law_320, uL_law_321, uL_law_322, uL_law_325, uL_law_328, uL_law_329, uL_law_1503, uL_law_1506, vX hX, vM hM1, r1, r2, nI_1, nI_2, nI_3, nI_4, nI_5, nI_6, nI_7, nI_8, G0 1 (by omega), G1 1 (by omega), Option.bind_some, Option.toList_some, Option.toList_none, List.cons_append, List.nil_append, if_true, if_false, and_self, and_true, true_and, or_self, or_true, true_or, false_or, or_false, i10, i00, i01, i11, Nat.reduceAdd, st1_0, st1_c, st1_1i, st1_1r, st1_1n, st1_1u, st1_1J, st2_0, st2_c, st2_1i, st2_1r, st2_1n, st2_1u, st2_1J]
theorem law_4 {h : AH} {i n : Nat} {xs : Nat → Int32} (hz : rI h 0 = some (n, xs)) (hi : i + 8 ≤ n) (hn : n < 2 ^ 31) (I : INV h) : ∃ h1, run 226 (330, [some (.ref 0), some (.ref 4), some (.ref 36), some (.int (nI i))], [], h) = run 226 (18, [some (.ref 0), some (.ref 4), some (.ref 36), some (.int (nI (i + 8)))], [], h1) ∧ Nx h h1 := by
  obtain ⟨St, hN, c, w, wt, bp, bd, bm, nd, nb, t, P, pk, pp, pn, pl, gr, L, lp, ld, ln, lg, sz, sl, cm, tr, fa, ⟨dr, da, pa, qa, la, ma, hX, C⟩, R⟩ := id I
  obtain ⟨v, h1, h2, hv, r1, r2, e36, e0, I2, z0, z1, z2⟩ := g_page (x := xs (i + 1)) (y := xs (i + 2)) (z := xs (i + 3)) (u := xs (i + 4)) (v := xs (i + 5)) (s := xs (i + 6)) hN St hX C R
  obtain ⟨rd, lm, ft, f50, f58, hM, _⟩ := id R
  have hM1 := e36.trans hM
  have hz1 := e0.trans hz
  have G0 : ∀ j, j < 8 → gi h 0 (nI (i + j)) = some (xs (i + j)) := fun j hj => gi_nI hz (by omega) hn
  have G1 : ∀ j, j < 8 → gi h1 0 (nI (i + j)) = some (xs (i + j)) := fun j hj => gi_nI hz1 (by omega) hn
  obtain ⟨w, hw⟩ := iv_int hv (by decide) (by decide)
  subst hw
  refine ⟨h2, ?_, I2, z0, z1, z2⟩
  simp only [uL_law_330, uL_law_331, uL_law_332, uL_law_333, uL_law_334, uL_law_335, uL_law_336, uL_law_337, uL_law_338, uL_law_339, uL_law_340, uL_law_341, uL_law_342, uL_law_343, uL_law_344, uL_law_345, uL_law_346, uL_law_347, uL_law_348, uL_law_349, uL_law_350, uL_law_351, uL_law_352, uL_law_353, uL_law_354, uL_law_355, uL_law_356, uL_law_357, uL_law_358, uL_law_360, uL_law_361, uL_law_362, uL_law_365, uL_law_366, uL_law_367, uL_law_368, uL_law_369, uL_law_370, uL_law_371, uL_law_372, uL_law_373, uL_law_374, uL_law_375, uL_law_376, uL_law_377, uL_law_378, uL_law_379, uL_law_380, uL_law_381, uL_law_382, uL_law_383, uL_law_384, uL_law_385, uL_law_386, uL_law_387, uL_law_388, uL_law_389, uL_law_390, uL_law_391, uL_law_392, uL_law_393, uL_law_395, uL_law_396, uL_law_397, uL_law_400, uL_law_403, uL_law_404, uL_law_1503, uL_law_1506, vX hX, vM hM1, r1, r2, nI_1, nI_2, nI_3, nI_4, nI_5, nI_6, nI_7, nI_8, G0 1 (by omega), G1 1 (by omega), G0 2 (by omega), G1 2 (by omega), G0 3 (by omega), G1 3 (by omega), G0 4 (by omega), G1 4 (by omega), G0 5 (by omega), G1 5 (by omega), G0 6 (by omega), G1 6 (by omega), Option.bind_some, Option.toList_some, Option.toList_none, List.cons_append, List.nil_append, if_true, if_false, and_self, and_true, true_and, or_self, or_true, true_or, false_or, or_false, i10, i00, i01, i11, Nat.reduceAdd, st1_0, st1_c, st1_1i, st1_1r, st1_1n, st1_1u, st1_1J, st2_0, st2_c, st2_1i, st2_1r, st2_1n, st2_1u, st2_1J]
theorem law_5 {h : AH} {i n : Nat} {xs : Nat → Int32} (hz : rI h 0 = some (n, xs)) (hi : i + 8 ≤ n) (hn : n < 2 ^ 31) (I : INV h) : ∃ h1, run 226 (405, [some (.ref 0), some (.ref 4), some (.ref 36), some (.int (nI i))], [], h) = run 226 (18, [some (.ref 0), some (.ref 4), some (.ref 36), some (.int (nI (i + 8)))], [], h1) ∧ Nx h h1 := by
  obtain ⟨St, hN, c, w, wt, bp, bd, bm, nd, nb, t, P, pk, pp, pn, pl, gr, L, lp, ld, ln, lg, sz, sl, cm, tr, fa, ⟨dr, da, pa, qa, la, ma, hX, C⟩, R⟩ := id I
  obtain ⟨v, h1, h2, hv, r1, r2, e36, e0, I2, z0, z1, z2⟩ := g_ofPage (x := xs (i + 1)) (y := xs (i + 2)) hN St hX C R
  obtain ⟨rd, lm, ft, f50, f58, hM, _⟩ := id R
  have hM1 := e36.trans hM
  have hz1 := e0.trans hz
  have G0 : ∀ j, j < 8 → gi h 0 (nI (i + j)) = some (xs (i + j)) := fun j hj => gi_nI hz (by omega) hn
  have G1 : ∀ j, j < 8 → gi h1 0 (nI (i + j)) = some (xs (i + j)) := fun j hj => gi_nI hz1 (by omega) hn
  obtain ⟨w, hw⟩ := iv_int hv (by decide) (by decide)
  subst hw
  refine ⟨h2, ?_, I2, z0, z1, z2⟩
  simp only [uL_law_405, uL_law_406, uL_law_407, uL_law_408, uL_law_409, uL_law_410, uL_law_411, uL_law_412, uL_law_413, uL_law_414, uL_law_415, uL_law_416, uL_law_419, uL_law_420, uL_law_421, uL_law_422, uL_law_423, uL_law_424, uL_law_425, uL_law_426, uL_law_427, uL_law_428, uL_law_429, uL_law_430, uL_law_433, uL_law_436, uL_law_437, uL_law_1503, uL_law_1506, vX hX, vM hM1, r1, r2, nI_1, nI_2, nI_3, nI_4, nI_5, nI_6, nI_7, nI_8, G0 1 (by omega), G1 1 (by omega), G0 2 (by omega), G1 2 (by omega), Option.bind_some, Option.toList_some, Option.toList_none, List.cons_append, List.nil_append, if_true, if_false, and_self, and_true, true_and, or_self, or_true, true_or, false_or, or_false, i10, i00, i01, i11, Nat.reduceAdd, st1_0, st1_c, st1_1i, st1_1r, st1_1n, st1_1u, st1_1J, st2_0, st2_c, st2_1i, st2_1r, st2_1n, st2_1u, st2_1J]
theorem law_6 {h : AH} {i n : Nat} {xs : Nat → Int32} (hz : rI h 0 = some (n, xs)) (hi : i + 8 ≤ n) (hn : n < 2 ^ 31) (I : INV h) : ∃ h1, run 226 (438, [some (.ref 0), some (.ref 4), some (.ref 36), some (.int (nI i))], [], h) = run 226 (18, [some (.ref 0), some (.ref 4), some (.ref 36), some (.int (nI (i + 8)))], [], h1) ∧ Nx h h1 := by
  obtain ⟨St, hN, c, w, wt, bp, bd, bm, nd, nb, t, P, pk, pp, pn, pl, gr, L, lp, ld, ln, lg, sz, sl, cm, tr, fa, ⟨dr, da, pa, qa, la, ma, hX, C⟩, R⟩ := id I
  obtain ⟨v, h1, h2, hv, r1, r2, e36, e0, I2, z0, z1, z2⟩ := g_letter (x := xs (i + 1)) (y := xs (i + 2)) (z := xs (i + 3)) (u := xs (i + 4)) (v := xs (i + 5)) (s := xs (i + 6)) hN St hX C R
  obtain ⟨rd, lm, ft, f50, f58, hM, _⟩ := id R
  have hM1 := e36.trans hM
  have hz1 := e0.trans hz
  have G0 : ∀ j, j < 8 → gi h 0 (nI (i + j)) = some (xs (i + j)) := fun j hj => gi_nI hz (by omega) hn
  have G1 : ∀ j, j < 8 → gi h1 0 (nI (i + j)) = some (xs (i + j)) := fun j hj => gi_nI hz1 (by omega) hn
  obtain ⟨w, hw⟩ := iv_int hv (by decide) (by decide)
  subst hw
  refine ⟨h2, ?_, I2, z0, z1, z2⟩
  simp only [uL_law_438, uL_law_439, uL_law_440, uL_law_441, uL_law_442, uL_law_443, uL_law_444, uL_law_445, uL_law_446, uL_law_447, uL_law_448, uL_law_449, uL_law_450, uL_law_451, uL_law_452, uL_law_453, uL_law_454, uL_law_455, uL_law_456, uL_law_457, uL_law_458, uL_law_459, uL_law_460, uL_law_461, uL_law_462, uL_law_463, uL_law_464, uL_law_465, uL_law_466, uL_law_468, uL_law_469, uL_law_470, uL_law_473, uL_law_474, uL_law_475, uL_law_476, uL_law_477, uL_law_478, uL_law_479, uL_law_480, uL_law_481, uL_law_482, uL_law_483, uL_law_484, uL_law_485, uL_law_486, uL_law_487, uL_law_488, uL_law_489, uL_law_490, uL_law_491, uL_law_492, uL_law_493, uL_law_494, uL_law_495, uL_law_496, uL_law_497, uL_law_498, uL_law_499, uL_law_500, uL_law_501, uL_law_503, uL_law_504, uL_law_505, uL_law_508, uL_law_511, uL_law_512, uL_law_1503, uL_law_1506, vX hX, vM hM1, r1, r2, nI_1, nI_2, nI_3, nI_4, nI_5, nI_6, nI_7, nI_8, G0 1 (by omega), G1 1 (by omega), G0 2 (by omega), G1 2 (by omega), G0 3 (by omega), G1 3 (by omega), G0 4 (by omega), G1 4 (by omega), G0 5 (by omega), G1 5 (by omega), G0 6 (by omega), G1 6 (by omega), Option.bind_some, Option.toList_some, Option.toList_none, List.cons_append, List.nil_append, if_true, if_false, and_self, and_true, true_and, or_self, or_true, true_or, false_or, or_false, i10, i00, i01, i11, Nat.reduceAdd, st1_0, st1_c, st1_1i, st1_1r, st1_1n, st1_1u, st1_1J, st2_0, st2_c, st2_1i, st2_1r, st2_1n, st2_1u, st2_1J]
theorem law_7 {h : AH} {i n : Nat} {xs : Nat → Int32} (hz : rI h 0 = some (n, xs)) (hi : i + 8 ≤ n) (hn : n < 2 ^ 31) (I : INV h) : ∃ h1, run 226 (513, [some (.ref 0), some (.ref 4), some (.ref 36), some (.int (nI i))], [], h) = run 226 (18, [some (.ref 0), some (.ref 4), some (.ref 36), some (.int (nI (i + 8)))], [], h1) ∧ Nx h h1 := by
  obtain ⟨St, hN, c, w, wt, bp, bd, bm, nd, nb, t, P, pk, pp, pn, pl, gr, L, lp, ld, ln, lg, sz, sl, cm, tr, fa, ⟨dr, da, pa, qa, la, ma, hX, C⟩, R⟩ := id I
  obtain ⟨v, h1, h2, hv, r1, r2, e36, e0, I2, z0, z1, z2⟩ := g_ofLetter (x := xs (i + 1)) (y := xs (i + 2)) hN St hX C R
  obtain ⟨rd, lm, ft, f50, f58, hM, _⟩ := id R
  have hM1 := e36.trans hM
  have hz1 := e0.trans hz
  have G0 : ∀ j, j < 8 → gi h 0 (nI (i + j)) = some (xs (i + j)) := fun j hj => gi_nI hz (by omega) hn
  have G1 : ∀ j, j < 8 → gi h1 0 (nI (i + j)) = some (xs (i + j)) := fun j hj => gi_nI hz1 (by omega) hn
  obtain ⟨w, hw⟩ := iv_int hv (by decide) (by decide)
  subst hw
  refine ⟨h2, ?_, I2, z0, z1, z2⟩
  simp only [uL_law_513, uL_law_514, uL_law_515, uL_law_516, uL_law_517, uL_law_518, uL_law_519, uL_law_520, uL_law_521, uL_law_522, uL_law_523, uL_law_524, uL_law_527, uL_law_528, uL_law_529, uL_law_530, uL_law_531, uL_law_532, uL_law_533, uL_law_534, uL_law_535, uL_law_536, uL_law_537, uL_law_538, uL_law_541, uL_law_544, uL_law_545, uL_law_1503, uL_law_1506, vX hX, vM hM1, r1, r2, nI_1, nI_2, nI_3, nI_4, nI_5, nI_6, nI_7, nI_8, G0 1 (by omega), G1 1 (by omega), G0 2 (by omega), G1 2 (by omega), Option.bind_some, Option.toList_some, Option.toList_none, List.cons_append, List.nil_append, if_true, if_false, and_self, and_true, true_and, or_self, or_true, true_or, false_or, or_false, i10, i00, i01, i11, Nat.reduceAdd, st1_0, st1_c, st1_1i, st1_1r, st1_1n, st1_1u, st1_1J, st2_0, st2_c, st2_1i, st2_1r, st2_1n, st2_1u, st2_1J]
theorem law_8 {h : AH} {i n : Nat} {xs : Nat → Int32} (hz : rI h 0 = some (n, xs)) (hi : i + 8 ≤ n) (hn : n < 2 ^ 31) (I : INV h) : ∃ h1, run 226 (546, [some (.ref 0), some (.ref 4), some (.ref 36), some (.int (nI i))], [], h) = run 226 (18, [some (.ref 0), some (.ref 4), some (.ref 36), some (.int (nI (i + 8)))], [], h1) ∧ Nx h h1 := by
  obtain ⟨St, hN, c, w, wt, bp, bd, bm, nd, nb, t, P, pk, pp, pn, pl, gr, L, lp, ld, ln, lg, sz, sl, cm, tr, fa, ⟨dr, da, pa, qa, la, ma, hX, C⟩, R⟩ := id I
  obtain ⟨v, h1, h2, hv, r1, r2, e36, e0, I2, z0, z1, z2⟩ := g_read (x := xs (i + 1)) (y := xs (i + 2)) (z := xs (i + 3)) hN St hX C R
  obtain ⟨rd, lm, ft, f50, f58, hM, _⟩ := id R
  have hM1 := e36.trans hM
  have hz1 := e0.trans hz
  have G0 : ∀ j, j < 8 → gi h 0 (nI (i + j)) = some (xs (i + j)) := fun j hj => gi_nI hz (by omega) hn
  have G1 : ∀ j, j < 8 → gi h1 0 (nI (i + j)) = some (xs (i + j)) := fun j hj => gi_nI hz1 (by omega) hn
  obtain ⟨w, hw⟩ := iv_int hv (by decide) (by decide)
  subst hw
  refine ⟨h2, ?_, I2, z0, z1, z2⟩
  simp only [uL_law_546, uL_law_547, uL_law_548, uL_law_549, uL_law_550, uL_law_551, uL_law_552, uL_law_553, uL_law_554, uL_law_555, uL_law_556, uL_law_557, uL_law_558, uL_law_559, uL_law_560, uL_law_561, uL_law_562, uL_law_565, uL_law_566, uL_law_567, uL_law_568, uL_law_569, uL_law_570, uL_law_571, uL_law_572, uL_law_573, uL_law_574, uL_law_575, uL_law_576, uL_law_577, uL_law_578, uL_law_579, uL_law_580, uL_law_581, uL_law_584, uL_law_587, uL_law_588, uL_law_1503, uL_law_1506, vX hX, vM hM1, r1, r2, nI_1, nI_2, nI_3, nI_4, nI_5, nI_6, nI_7, nI_8, G0 1 (by omega), G1 1 (by omega), G0 2 (by omega), G1 2 (by omega), G0 3 (by omega), G1 3 (by omega), Option.bind_some, Option.toList_some, Option.toList_none, List.cons_append, List.nil_append, if_true, if_false, and_self, and_true, true_and, or_self, or_true, true_or, false_or, or_false, i10, i00, i01, i11, Nat.reduceAdd, st1_0, st1_c, st1_1i, st1_1r, st1_1n, st1_1u, st1_1J, st2_0, st2_c, st2_1i, st2_1r, st2_1n, st2_1u, st2_1J]
theorem law_9 {h : AH} {i n : Nat} {xs : Nat → Int32} (hz : rI h 0 = some (n, xs)) (hi : i + 8 ≤ n) (hn : n < 2 ^ 31) (I : INV h) : ∃ h1, run 226 (589, [some (.ref 0), some (.ref 4), some (.ref 36), some (.int (nI i))], [], h) = run 226 (18, [some (.ref 0), some (.ref 4), some (.ref 36), some (.int (nI (i + 8)))], [], h1) ∧ Nx h h1 := by
  obtain ⟨St, hN, c, w, wt, bp, bd, bm, nd, nb, t, P, pk, pp, pn, pl, gr, L, lp, ld, ln, lg, sz, sl, cm, tr, fa, ⟨dr, da, pa, qa, la, ma, hX, C⟩, R⟩ := id I
  obtain ⟨v, h1, h2, hv, r1, r2, e36, e0, I2, z0, z1, z2⟩ := g_need (x := xs (i + 1)) (y := xs (i + 2)) hN St hX C R
  obtain ⟨rd, lm, ft, f50, f58, hM, _⟩ := id R
  have hM1 := e36.trans hM
  have hz1 := e0.trans hz
  have G0 : ∀ j, j < 8 → gi h 0 (nI (i + j)) = some (xs (i + j)) := fun j hj => gi_nI hz (by omega) hn
  have G1 : ∀ j, j < 8 → gi h1 0 (nI (i + j)) = some (xs (i + j)) := fun j hj => gi_nI hz1 (by omega) hn
  obtain ⟨w, hw⟩ := iv_int hv (by decide) (by decide)
  subst hw
  refine ⟨h2, ?_, I2, z0, z1, z2⟩
  simp only [uL_law_589, uL_law_590, uL_law_591, uL_law_592, uL_law_593, uL_law_594, uL_law_595, uL_law_596, uL_law_597, uL_law_598, uL_law_599, uL_law_600, uL_law_603, uL_law_604, uL_law_605, uL_law_606, uL_law_607, uL_law_608, uL_law_609, uL_law_610, uL_law_611, uL_law_612, uL_law_613, uL_law_614, uL_law_617, uL_law_620, uL_law_621, uL_law_1503, uL_law_1506, vX hX, vM hM1, r1, r2, nI_1, nI_2, nI_3, nI_4, nI_5, nI_6, nI_7, nI_8, G0 1 (by omega), G1 1 (by omega), G0 2 (by omega), G1 2 (by omega), Option.bind_some, Option.toList_some, Option.toList_none, List.cons_append, List.nil_append, if_true, if_false, and_self, and_true, true_and, or_self, or_true, true_or, false_or, or_false, i10, i00, i01, i11, Nat.reduceAdd, st1_0, st1_c, st1_1i, st1_1r, st1_1n, st1_1u, st1_1J, st2_0, st2_c, st2_1i, st2_1r, st2_1n, st2_1u, st2_1J]
theorem law_10 {h : AH} {i n : Nat} {xs : Nat → Int32} (hz : rI h 0 = some (n, xs)) (hi : i + 8 ≤ n) (hn : n < 2 ^ 31) (I : INV h) : ∃ h1, run 226 (622, [some (.ref 0), some (.ref 4), some (.ref 36), some (.int (nI i))], [], h) = run 226 (18, [some (.ref 0), some (.ref 4), some (.ref 36), some (.int (nI (i + 8)))], [], h1) ∧ Nx h h1 := by
  obtain ⟨St, hN, c, w, wt, bp, bd, bm, nd, nb, t, P, pk, pp, pn, pl, gr, L, lp, ld, ln, lg, sz, sl, cm, tr, fa, ⟨dr, da, pa, qa, la, ma, hX, C⟩, R⟩ := id I
  obtain ⟨v, h1, h2, hv, r1, r2, e36, e0, I2, z0, z1, z2⟩ := g_bag (x := xs (i + 1)) (y := xs (i + 2)) (z := xs (i + 3)) hN St hX C R
  obtain ⟨rd, lm, ft, f50, f58, hM, _⟩ := id R
  have hM1 := e36.trans hM
  have hz1 := e0.trans hz
  have G0 : ∀ j, j < 8 → gi h 0 (nI (i + j)) = some (xs (i + j)) := fun j hj => gi_nI hz (by omega) hn
  have G1 : ∀ j, j < 8 → gi h1 0 (nI (i + j)) = some (xs (i + j)) := fun j hj => gi_nI hz1 (by omega) hn
  obtain ⟨w, hw⟩ := iv_int hv (by decide) (by decide)
  subst hw
  refine ⟨h2, ?_, I2, z0, z1, z2⟩
  simp only [uL_law_622, uL_law_623, uL_law_624, uL_law_625, uL_law_626, uL_law_627, uL_law_628, uL_law_629, uL_law_630, uL_law_631, uL_law_632, uL_law_633, uL_law_634, uL_law_635, uL_law_636, uL_law_637, uL_law_638, uL_law_641, uL_law_642, uL_law_643, uL_law_644, uL_law_645, uL_law_646, uL_law_647, uL_law_648, uL_law_649, uL_law_650, uL_law_651, uL_law_652, uL_law_653, uL_law_654, uL_law_655, uL_law_656, uL_law_657, uL_law_660, uL_law_663, uL_law_664, uL_law_1503, uL_law_1506, vX hX, vM hM1, r1, r2, nI_1, nI_2, nI_3, nI_4, nI_5, nI_6, nI_7, nI_8, G0 1 (by omega), G1 1 (by omega), G0 2 (by omega), G1 2 (by omega), G0 3 (by omega), G1 3 (by omega), Option.bind_some, Option.toList_some, Option.toList_none, List.cons_append, List.nil_append, if_true, if_false, and_self, and_true, true_and, or_self, or_true, true_or, false_or, or_false, i10, i00, i01, i11, Nat.reduceAdd, st1_0, st1_c, st1_1i, st1_1r, st1_1n, st1_1u, st1_1J, st2_0, st2_c, st2_1i, st2_1r, st2_1n, st2_1u, st2_1J]
theorem law_11 {h : AH} {i n : Nat} {xs : Nat → Int32} (hz : rI h 0 = some (n, xs)) (hi : i + 8 ≤ n) (hn : n < 2 ^ 31) (I : INV h) : ∃ h1, run 226 (665, [some (.ref 0), some (.ref 4), some (.ref 36), some (.int (nI i))], [], h) = run 226 (18, [some (.ref 0), some (.ref 4), some (.ref 36), some (.int (nI (i + 8)))], [], h1) ∧ Nx h h1 := by
  obtain ⟨St, hN, c, w, wt, bp, bd, bm, nd, nb, t, P, pk, pp, pn, pl, gr, L, lp, ld, ln, lg, sz, sl, cm, tr, fa, ⟨dr, da, pa, qa, la, ma, hX, C⟩, R⟩ := id I
  obtain ⟨v, h1, h2, hv, r1, r2, e36, e0, I2, z0, z1, z2⟩ := g_out (x := xs (i + 1)) (y := xs (i + 2)) hN St hX C R
  obtain ⟨rd, lm, ft, f50, f58, hM, _⟩ := id R
  have hM1 := e36.trans hM
  have hz1 := e0.trans hz
  have G0 : ∀ j, j < 8 → gi h 0 (nI (i + j)) = some (xs (i + j)) := fun j hj => gi_nI hz (by omega) hn
  have G1 : ∀ j, j < 8 → gi h1 0 (nI (i + j)) = some (xs (i + j)) := fun j hj => gi_nI hz1 (by omega) hn
  obtain ⟨w, hw⟩ := iv_int hv (by decide) (by decide)
  subst hw
  refine ⟨h2, ?_, I2, z0, z1, z2⟩
  simp only [uL_law_665, uL_law_666, uL_law_667, uL_law_668, uL_law_669, uL_law_670, uL_law_671, uL_law_672, uL_law_673, uL_law_674, uL_law_675, uL_law_676, uL_law_679, uL_law_680, uL_law_681, uL_law_682, uL_law_683, uL_law_684, uL_law_685, uL_law_686, uL_law_687, uL_law_688, uL_law_689, uL_law_690, uL_law_693, uL_law_696, uL_law_697, uL_law_1503, uL_law_1506, vX hX, vM hM1, r1, r2, nI_1, nI_2, nI_3, nI_4, nI_5, nI_6, nI_7, nI_8, G0 1 (by omega), G1 1 (by omega), G0 2 (by omega), G1 2 (by omega), Option.bind_some, Option.toList_some, Option.toList_none, List.cons_append, List.nil_append, if_true, if_false, and_self, and_true, true_and, or_self, or_true, true_or, false_or, or_false, i10, i00, i01, i11, Nat.reduceAdd, st1_0, st1_c, st1_1i, st1_1r, st1_1n, st1_1u, st1_1J, st2_0, st2_c, st2_1i, st2_1r, st2_1n, st2_1u, st2_1J]
theorem law_12 {h : AH} {i n : Nat} {xs : Nat → Int32} (hz : rI h 0 = some (n, xs)) (hi : i + 8 ≤ n) (hn : n < 2 ^ 31) (I : INV h) : ∃ h1, run 226 (698, [some (.ref 0), some (.ref 4), some (.ref 36), some (.int (nI i))], [], h) = run 226 (18, [some (.ref 0), some (.ref 4), some (.ref 36), some (.int (nI (i + 8)))], [], h1) ∧ Nx h h1 := by
  obtain ⟨St, hN, c, w, wt, bp, bd, bm, nd, nb, t, P, pk, pp, pn, pl, gr, L, lp, ld, ln, lg, sz, sl, cm, tr, fa, ⟨dr, da, pa, qa, la, ma, hX, C⟩, R⟩ := id I
  obtain ⟨v, h1, h2, hv, r1, r2, e36, e0, I2, z0, z1, z2⟩ := g_last ⟨_, _, rI_some hz⟩ (x := xs (i + 1)) (y := xs (i + 2)) hN St hX C R
  obtain ⟨rd, lm, ft, f50, f58, hM, _⟩ := id R
  have hM1 := e36.trans hM
  have hz1 := e0.trans hz
  have G0 : ∀ j, j < 8 → gi h 0 (nI (i + j)) = some (xs (i + j)) := fun j hj => gi_nI hz (by omega) hn
  have G1 : ∀ j, j < 8 → gi h1 0 (nI (i + j)) = some (xs (i + j)) := fun j hj => gi_nI hz1 (by omega) hn
  obtain ⟨w, hw⟩ := iv_int hv (by decide) (by decide)
  subst hw
  refine ⟨h2, ?_, I2, z0, z1, z2⟩
  simp only [uL_law_698, uL_law_699, uL_law_700, uL_law_701, uL_law_702, uL_law_703, uL_law_704, uL_law_705, uL_law_706, uL_law_707, uL_law_708, uL_law_709, uL_law_712, uL_law_713, uL_law_714, uL_law_715, uL_law_716, uL_law_717, uL_law_718, uL_law_719, uL_law_720, uL_law_721, uL_law_722, uL_law_723, uL_law_726, uL_law_729, uL_law_730, uL_law_1503, uL_law_1506, vX hX, vM hM1, r1, r2, nI_1, nI_2, nI_3, nI_4, nI_5, nI_6, nI_7, nI_8, G0 1 (by omega), G1 1 (by omega), G0 2 (by omega), G1 2 (by omega), Option.bind_some, Option.toList_some, Option.toList_none, List.cons_append, List.nil_append, if_true, if_false, and_self, and_true, true_and, or_self, or_true, true_or, false_or, or_false, i10, i00, i01, i11, Nat.reduceAdd, st1_0, st1_c, st1_1i, st1_1r, st1_1n, st1_1u, st1_1J, st2_0, st2_c, st2_1i, st2_1r, st2_1n, st2_1u, st2_1J]
theorem law_13 {h : AH} {i n : Nat} {xs : Nat → Int32} (hz : rI h 0 = some (n, xs)) (hi : i + 8 ≤ n) (hn : n < 2 ^ 31) (I : INV h) : ∃ h1, run 226 (731, [some (.ref 0), some (.ref 4), some (.ref 36), some (.int (nI i))], [], h) = run 226 (18, [some (.ref 0), some (.ref 4), some (.ref 36), some (.int (nI (i + 8)))], [], h1) ∧ Nx h h1 := by
  obtain ⟨St, hN, c, w, wt, bp, bd, bm, nd, nb, t, P, pk, pp, pn, pl, gr, L, lp, ld, ln, lg, sz, sl, cm, tr, fa, ⟨dr, da, pa, qa, la, ma, hX, C⟩, R⟩ := id I
  obtain ⟨v, h1, h2, hv, r1, r2, e36, e0, I2, z0, z1, z2⟩ := g_beside (x := xs (i + 1)) (y := xs (i + 2)) (z := xs (i + 3)) hN St hX C R
  obtain ⟨rd, lm, ft, f50, f58, hM, _⟩ := id R
  have hM1 := e36.trans hM
  have hz1 := e0.trans hz
  have G0 : ∀ j, j < 8 → gi h 0 (nI (i + j)) = some (xs (i + j)) := fun j hj => gi_nI hz (by omega) hn
  have G1 : ∀ j, j < 8 → gi h1 0 (nI (i + j)) = some (xs (i + j)) := fun j hj => gi_nI hz1 (by omega) hn
  obtain ⟨w, hw⟩ := iv_int hv (by decide) (by decide)
  subst hw
  refine ⟨h2, ?_, I2, z0, z1, z2⟩
  simp only [uL_law_731, uL_law_732, uL_law_733, uL_law_734, uL_law_735, uL_law_736, uL_law_737, uL_law_738, uL_law_739, uL_law_740, uL_law_741, uL_law_742, uL_law_743, uL_law_744, uL_law_745, uL_law_746, uL_law_747, uL_law_750, uL_law_751, uL_law_752, uL_law_753, uL_law_754, uL_law_755, uL_law_756, uL_law_757, uL_law_758, uL_law_759, uL_law_760, uL_law_761, uL_law_762, uL_law_763, uL_law_764, uL_law_765, uL_law_766, uL_law_769, uL_law_772, uL_law_773, uL_law_1503, uL_law_1506, vX hX, vM hM1, r1, r2, nI_1, nI_2, nI_3, nI_4, nI_5, nI_6, nI_7, nI_8, G0 1 (by omega), G1 1 (by omega), G0 2 (by omega), G1 2 (by omega), G0 3 (by omega), G1 3 (by omega), Option.bind_some, Option.toList_some, Option.toList_none, List.cons_append, List.nil_append, if_true, if_false, and_self, and_true, true_and, or_self, or_true, true_or, false_or, or_false, i10, i00, i01, i11, Nat.reduceAdd, st1_0, st1_c, st1_1i, st1_1r, st1_1n, st1_1u, st1_1J, st2_0, st2_c, st2_1i, st2_1r, st2_1n, st2_1u, st2_1J]
theorem law_14 {h : AH} {i n : Nat} {xs : Nat → Int32} (hz : rI h 0 = some (n, xs)) (hi : i + 8 ≤ n) (hn : n < 2 ^ 31) (I : INV h) : ∃ h1, run 226 (774, [some (.ref 0), some (.ref 4), some (.ref 36), some (.int (nI i))], [], h) = run 226 (18, [some (.ref 0), some (.ref 4), some (.ref 36), some (.int (nI (i + 8)))], [], h1) ∧ Nx h h1 := by
  obtain ⟨St, hN, c, w, wt, bp, bd, bm, nd, nb, t, P, pk, pp, pn, pl, gr, L, lp, ld, ln, lg, sz, sl, cm, tr, fa, ⟨dr, da, pa, qa, la, ma, hX, C⟩, R⟩ := id I
  obtain ⟨v, h1, h2, hv, r1, r2, e36, e0, I2, z0, z1, z2⟩ := g_spread hN St hX C R
  obtain ⟨rd, lm, ft, f50, f58, hM, _⟩ := id R
  have hM1 := e36.trans hM
  have hz1 := e0.trans hz
  have G0 : ∀ j, j < 8 → gi h 0 (nI (i + j)) = some (xs (i + j)) := fun j hj => gi_nI hz (by omega) hn
  have G1 : ∀ j, j < 8 → gi h1 0 (nI (i + j)) = some (xs (i + j)) := fun j hj => gi_nI hz1 (by omega) hn
  obtain ⟨w, hw⟩ := iv_int hv (by decide) (by decide)
  subst hw
  refine ⟨h2, ?_, I2, z0, z1, z2⟩
  simp only [uL_law_774, uL_law_775, uL_law_778, uL_law_779, uL_law_782, uL_law_785, uL_law_786, uL_law_1503, uL_law_1506, vX hX, vM hM1, r1, r2, nI_1, nI_2, nI_3, nI_4, nI_5, nI_6, nI_7, nI_8, Option.bind_some, Option.toList_some, Option.toList_none, List.cons_append, List.nil_append, if_true, if_false, and_self, and_true, true_and, or_self, or_true, true_or, false_or, or_false, i10, i00, i01, i11, Nat.reduceAdd, st1_0, st1_c, st1_1i, st1_1r, st1_1n, st1_1u, st1_1J, st2_0, st2_c, st2_1i, st2_1r, st2_1n, st2_1u, st2_1J]
theorem law_15 {h : AH} {i n : Nat} {xs : Nat → Int32} (hz : rI h 0 = some (n, xs)) (hi : i + 8 ≤ n) (hn : n < 2 ^ 31) (I : INV h) : ∃ h1, run 226 (787, [some (.ref 0), some (.ref 4), some (.ref 36), some (.int (nI i))], [], h) = run 226 (18, [some (.ref 0), some (.ref 4), some (.ref 36), some (.int (nI (i + 8)))], [], h1) ∧ Nx h h1 := by
  obtain ⟨St, hN, c, w, wt, bp, bd, bm, nd, nb, t, P, pk, pp, pn, pl, gr, L, lp, ld, ln, lg, sz, sl, cm, tr, fa, ⟨dr, da, pa, qa, la, ma, hX, C⟩, R⟩ := id I
  obtain ⟨v, h1, h2, hv, r1, r2, e36, e0, I2, z0, z1, z2⟩ := g_chance (x := xs (i + 1)) (y := xs (i + 2)) (z := xs (i + 3)) hN St hX C R
  obtain ⟨rd, lm, ft, f50, f58, hM, _⟩ := id R
  have hM1 := e36.trans hM
  have hz1 := e0.trans hz
  have G0 : ∀ j, j < 8 → gi h 0 (nI (i + j)) = some (xs (i + j)) := fun j hj => gi_nI hz (by omega) hn
  have G1 : ∀ j, j < 8 → gi h1 0 (nI (i + j)) = some (xs (i + j)) := fun j hj => gi_nI hz1 (by omega) hn
  obtain ⟨w, hw⟩ := iv_long hv (by decide)
  subst hw
  refine ⟨h2, ?_, I2, z0, z1, z2⟩
  simp only [uL_law_787, uL_law_788, uL_law_789, uL_law_790, uL_law_791, uL_law_792, uL_law_793, uL_law_794, uL_law_795, uL_law_796, uL_law_797, uL_law_798, uL_law_799, uL_law_800, uL_law_801, uL_law_802, uL_law_803, uL_law_806, uL_law_807, uL_law_808, uL_law_809, uL_law_810, uL_law_811, uL_law_812, uL_law_813, uL_law_814, uL_law_815, uL_law_816, uL_law_817, uL_law_818, uL_law_819, uL_law_820, uL_law_821, uL_law_822, uL_law_825, uL_law_826, uL_law_829, uL_law_830, uL_law_1503, uL_law_1506, vX hX, vM hM1, r1, r2, nI_1, nI_2, nI_3, nI_4, nI_5, nI_6, nI_7, nI_8, G0 1 (by omega), G1 1 (by omega), G0 2 (by omega), G1 2 (by omega), G0 3 (by omega), G1 3 (by omega), lg_cmp_eq, Option.bind_some, Option.toList_some, Option.toList_none, List.cons_append, List.nil_append, if_true, if_false, and_self, and_true, true_and, or_self, or_true, true_or, false_or, or_false, i10, i00, i01, i11, Nat.reduceAdd, st1_0, st1_c, st1_1i, st1_1r, st1_1n, st1_1u, st1_1J, st2_0, st2_c, st2_1i, st2_1r, st2_1n, st2_1u, st2_1J]
theorem law_16 {h : AH} {i n : Nat} {xs : Nat → Int32} (hz : rI h 0 = some (n, xs)) (hi : i + 8 ≤ n) (hn : n < 2 ^ 31) (I : INV h) : ∃ h1, run 226 (831, [some (.ref 0), some (.ref 4), some (.ref 36), some (.int (nI i))], [], h) = run 226 (18, [some (.ref 0), some (.ref 4), some (.ref 36), some (.int (nI (i + 8)))], [], h1) ∧ Nx h h1 := by
  obtain ⟨St, hN, c, w, wt, bp, bd, bm, nd, nb, t, P, pk, pp, pn, pl, gr, L, lp, ld, ln, lg, sz, sl, cm, tr, fa, ⟨dr, da, pa, qa, la, ma, hX, C⟩, R⟩ := id I
  obtain ⟨v, h1, h2, hv, r1, r2, e36, e0, I2, z0, z1, z2⟩ := g_best (x := xs (i + 1)) hN St hX C R
  obtain ⟨rd, lm, ft, f50, f58, hM, _⟩ := id R
  have hM1 := e36.trans hM
  have hz1 := e0.trans hz
  have G0 : ∀ j, j < 8 → gi h 0 (nI (i + j)) = some (xs (i + j)) := fun j hj => gi_nI hz (by omega) hn
  have G1 : ∀ j, j < 8 → gi h1 0 (nI (i + j)) = some (xs (i + j)) := fun j hj => gi_nI hz1 (by omega) hn
  obtain ⟨w, hw⟩ := iv_int hv (by decide) (by decide)
  subst hw
  refine ⟨h2, ?_, I2, z0, z1, z2⟩
  simp only [uL_law_831, uL_law_832, uL_law_833, uL_law_834, uL_law_835, uL_law_836, uL_law_837, uL_law_840, uL_law_841, uL_law_842, uL_law_843, uL_law_844, uL_law_845, uL_law_846, uL_law_849, uL_law_852, uL_law_853, uL_law_1503, uL_law_1506, vX hX, vM hM1, r1, r2, nI_1, nI_2, nI_3, nI_4, nI_5, nI_6, nI_7, nI_8, G0 1 (by omega), G1 1 (by omega), Option.bind_some, Option.toList_some, Option.toList_none, List.cons_append, List.nil_append, if_true, if_false, and_self, and_true, true_and, or_self, or_true, true_or, false_or, or_false, i10, i00, i01, i11, Nat.reduceAdd, st1_0, st1_c, st1_1i, st1_1r, st1_1n, st1_1u, st1_1J, st2_0, st2_c, st2_1i, st2_1r, st2_1n, st2_1u, st2_1J]
theorem law_17 {h : AH} {i n : Nat} {xs : Nat → Int32} (hz : rI h 0 = some (n, xs)) (hi : i + 8 ≤ n) (hn : n < 2 ^ 31) (I : INV h) : ∃ h1, run 226 (854, [some (.ref 0), some (.ref 4), some (.ref 36), some (.int (nI i))], [], h) = run 226 (18, [some (.ref 0), some (.ref 4), some (.ref 36), some (.int (nI (i + 8)))], [], h1) ∧ Nx h h1 := by
  obtain ⟨St, hN, c, w, wt, bp, bd, bm, nd, nb, t, P, pk, pp, pn, pl, gr, L, lp, ld, ln, lg, sz, sl, cm, tr, fa, ⟨dr, da, pa, qa, la, ma, hX, C⟩, R⟩ := id I
  obtain ⟨v, h1, h2, hv, r1, r2, e36, e0, I2, z0, z1, z2⟩ := g_strip (x := xs (i + 1)) (y := xs (i + 2)) (z := xs (i + 3)) (u := xs (i + 4)) hN St hX C R
  obtain ⟨rd, lm, ft, f50, f58, hM, _⟩ := id R
  have hM1 := e36.trans hM
  have hz1 := e0.trans hz
  have G0 : ∀ j, j < 8 → gi h 0 (nI (i + j)) = some (xs (i + j)) := fun j hj => gi_nI hz (by omega) hn
  have G1 : ∀ j, j < 8 → gi h1 0 (nI (i + j)) = some (xs (i + j)) := fun j hj => gi_nI hz1 (by omega) hn
  obtain ⟨w, hw⟩ := iv_int hv (by decide) (by decide)
  subst hw
  refine ⟨h2, ?_, I2, z0, z1, z2⟩
  simp only [uL_law_854, uL_law_855, uL_law_856, uL_law_857, uL_law_858, uL_law_859, uL_law_860, uL_law_861, uL_law_862, uL_law_863, uL_law_864, uL_law_865, uL_law_866, uL_law_867, uL_law_868, uL_law_869, uL_law_870, uL_law_871, uL_law_872, uL_law_873, uL_law_874, uL_law_875, uL_law_878, uL_law_879, uL_law_880, uL_law_881, uL_law_882, uL_law_883, uL_law_884, uL_law_885, uL_law_886, uL_law_887, uL_law_888, uL_law_889, uL_law_890, uL_law_891, uL_law_892, uL_law_893, uL_law_894, uL_law_895, uL_law_896, uL_law_897, uL_law_898, uL_law_899, uL_law_902, uL_law_905, uL_law_906, uL_law_1503, uL_law_1506, vX hX, vM hM1, r1, r2, nI_1, nI_2, nI_3, nI_4, nI_5, nI_6, nI_7, nI_8, G0 1 (by omega), G1 1 (by omega), G0 2 (by omega), G1 2 (by omega), G0 3 (by omega), G1 3 (by omega), G0 4 (by omega), G1 4 (by omega), Option.bind_some, Option.toList_some, Option.toList_none, List.cons_append, List.nil_append, if_true, if_false, and_self, and_true, true_and, or_self, or_true, true_or, false_or, or_false, i10, i00, i01, i11, Nat.reduceAdd, st1_0, st1_c, st1_1i, st1_1r, st1_1n, st1_1u, st1_1J, st2_0, st2_c, st2_1i, st2_1r, st2_1n, st2_1u, st2_1J]
theorem law_18 {h : AH} {i n : Nat} {xs : Nat → Int32} (hz : rI h 0 = some (n, xs)) (hi : i + 8 ≤ n) (hn : n < 2 ^ 31) (I : INV h) : ∃ h1, run 226 (907, [some (.ref 0), some (.ref 4), some (.ref 36), some (.int (nI i))], [], h) = run 226 (18, [some (.ref 0), some (.ref 4), some (.ref 36), some (.int (nI (i + 8)))], [], h1) ∧ Nx h h1 := by
  obtain ⟨St, hN, c, w, wt, bp, bd, bm, nd, nb, t, P, pk, pp, pn, pl, gr, L, lp, ld, ln, lg, sz, sl, cm, tr, fa, ⟨dr, da, pa, qa, la, ma, hX, C⟩, R⟩ := id I
  obtain ⟨v, h1, h2, hv, r1, r2, e36, e0, I2, z0, z1, z2⟩ := g_with (x := xs (i + 1)) (y := xs (i + 2)) (z := xs (i + 3)) (u := xs (i + 4)) hN St hX C R
  obtain ⟨rd, lm, ft, f50, f58, hM, _⟩ := id R
  have hM1 := e36.trans hM
  have hz1 := e0.trans hz
  have G0 : ∀ j, j < 8 → gi h 0 (nI (i + j)) = some (xs (i + j)) := fun j hj => gi_nI hz (by omega) hn
  have G1 : ∀ j, j < 8 → gi h1 0 (nI (i + j)) = some (xs (i + j)) := fun j hj => gi_nI hz1 (by omega) hn
  obtain ⟨w, hw⟩ := iv_int hv (by decide) (by decide)
  subst hw
  refine ⟨h2, ?_, I2, z0, z1, z2⟩
  simp only [uL_law_907, uL_law_908, uL_law_909, uL_law_910, uL_law_911, uL_law_912, uL_law_913, uL_law_914, uL_law_915, uL_law_916, uL_law_917, uL_law_918, uL_law_919, uL_law_920, uL_law_921, uL_law_922, uL_law_923, uL_law_924, uL_law_925, uL_law_926, uL_law_927, uL_law_928, uL_law_931, uL_law_932, uL_law_933, uL_law_934, uL_law_935, uL_law_936, uL_law_937, uL_law_938, uL_law_939, uL_law_940, uL_law_941, uL_law_942, uL_law_943, uL_law_944, uL_law_945, uL_law_946, uL_law_947, uL_law_948, uL_law_949, uL_law_950, uL_law_951, uL_law_952, uL_law_955, uL_law_958, uL_law_959, uL_law_1503, uL_law_1506, vX hX, vM hM1, r1, r2, nI_1, nI_2, nI_3, nI_4, nI_5, nI_6, nI_7, nI_8, G0 1 (by omega), G1 1 (by omega), G0 2 (by omega), G1 2 (by omega), G0 3 (by omega), G1 3 (by omega), G0 4 (by omega), G1 4 (by omega), Option.bind_some, Option.toList_some, Option.toList_none, List.cons_append, List.nil_append, if_true, if_false, and_self, and_true, true_and, or_self, or_true, true_or, false_or, or_false, i10, i00, i01, i11, Nat.reduceAdd, st1_0, st1_c, st1_1i, st1_1r, st1_1n, st1_1u, st1_1J, st2_0, st2_c, st2_1i, st2_1r, st2_1n, st2_1u, st2_1J]
theorem law_19 {h : AH} {i n : Nat} {xs : Nat → Int32} (hz : rI h 0 = some (n, xs)) (hi : i + 8 ≤ n) (hn : n < 2 ^ 31) (I : INV h) : ∃ h1, run 226 (960, [some (.ref 0), some (.ref 4), some (.ref 36), some (.int (nI i))], [], h) = run 226 (18, [some (.ref 0), some (.ref 4), some (.ref 36), some (.int (nI (i + 8)))], [], h1) ∧ Nx h h1 := by
  obtain ⟨St, hN, c, w, wt, bp, bd, bm, nd, nb, t, P, pk, pp, pn, pl, gr, L, lp, ld, ln, lg, sz, sl, cm, tr, fa, ⟨dr, da, pa, qa, la, ma, hX, C⟩, R⟩ := id I
  obtain ⟨v, h1, h2, hv, r1, r2, e36, e0, I2, z0, z1, z2⟩ := g_crib (x := xs (i + 1)) (y := xs (i + 2)) (z := xs (i + 3)) (u := xs (i + 4)) (v := xs (i + 5)) (s := xs (i + 6)) (r := xs (i + 7)) hN St hX C R
  obtain ⟨rd, lm, ft, f50, f58, hM, _⟩ := id R
  have hM1 := e36.trans hM
  have hz1 := e0.trans hz
  have G0 : ∀ j, j < 8 → gi h 0 (nI (i + j)) = some (xs (i + j)) := fun j hj => gi_nI hz (by omega) hn
  have G1 : ∀ j, j < 8 → gi h1 0 (nI (i + j)) = some (xs (i + j)) := fun j hj => gi_nI hz1 (by omega) hn
  obtain ⟨w, hw⟩ := iv_int hv (by decide) (by decide)
  subst hw
  refine ⟨h2, ?_, I2, z0, z1, z2⟩
  simp only [uL_law_960, uL_law_961, uL_law_962, uL_law_963, uL_law_964, uL_law_965, uL_law_966, uL_law_967, uL_law_968, uL_law_969, uL_law_970, uL_law_971, uL_law_972, uL_law_973, uL_law_974, uL_law_975, uL_law_976, uL_law_977, uL_law_978, uL_law_979, uL_law_980, uL_law_981, uL_law_982, uL_law_983, uL_law_984, uL_law_985, uL_law_986, uL_law_987, uL_law_988, uL_law_990, uL_law_991, uL_law_992, uL_law_993, uL_law_994, uL_law_996, uL_law_997, uL_law_998, uL_law_1001, uL_law_1002, uL_law_1003, uL_law_1004, uL_law_1005, uL_law_1006, uL_law_1007, uL_law_1008, uL_law_1009, uL_law_1010, uL_law_1011, uL_law_1012, uL_law_1013, uL_law_1014, uL_law_1015, uL_law_1016, uL_law_1017, uL_law_1018, uL_law_1019, uL_law_1020, uL_law_1021, uL_law_1022, uL_law_1023, uL_law_1024, uL_law_1025, uL_law_1026, uL_law_1027, uL_law_1028, uL_law_1029, uL_law_1031, uL_law_1032, uL_law_1033, uL_law_1034, uL_law_1035, uL_law_1037, uL_law_1038, uL_law_1039, uL_law_1042, uL_law_1045, uL_law_1046, uL_law_1503, uL_law_1506, vX hX, vM hM1, r1, r2, nI_1, nI_2, nI_3, nI_4, nI_5, nI_6, nI_7, nI_8, G0 1 (by omega), G1 1 (by omega), G0 2 (by omega), G1 2 (by omega), G0 3 (by omega), G1 3 (by omega), G0 4 (by omega), G1 4 (by omega), G0 5 (by omega), G1 5 (by omega), G0 6 (by omega), G1 6 (by omega), G0 7 (by omega), G1 7 (by omega), Option.bind_some, Option.toList_some, Option.toList_none, List.cons_append, List.nil_append, if_true, if_false, and_self, and_true, true_and, or_self, or_true, true_or, false_or, or_false, i10, i00, i01, i11, Nat.reduceAdd, st1_0, st1_c, st1_1i, st1_1r, st1_1n, st1_1u, st1_1J, st2_0, st2_c, st2_1i, st2_1r, st2_1n, st2_1u, st2_1J]
theorem law_20 {h : AH} {i n : Nat} {xs : Nat → Int32} (hz : rI h 0 = some (n, xs)) (hi : i + 8 ≤ n) (hn : n < 2 ^ 31) (I : INV h) : ∃ h1, run 226 (1047, [some (.ref 0), some (.ref 4), some (.ref 36), some (.int (nI i))], [], h) = run 226 (18, [some (.ref 0), some (.ref 4), some (.ref 36), some (.int (nI (i + 8)))], [], h1) ∧ Nx h h1 := by
  obtain ⟨St, hN, c, w, wt, bp, bd, bm, nd, nb, t, P, pk, pp, pn, pl, gr, L, lp, ld, ln, lg, sz, sl, cm, tr, fa, ⟨dr, da, pa, qa, la, ma, hX, C⟩, R⟩ := id I
  obtain ⟨v, h1, h2, hv, r1, r2, e36, e0, I2, z0, z1, z2⟩ := g_open (x := xs (i + 1)) hN St hX C R
  obtain ⟨rd, lm, ft, f50, f58, hM, _⟩ := id R
  have hM1 := e36.trans hM
  have hz1 := e0.trans hz
  have G0 : ∀ j, j < 8 → gi h 0 (nI (i + j)) = some (xs (i + j)) := fun j hj => gi_nI hz (by omega) hn
  have G1 : ∀ j, j < 8 → gi h1 0 (nI (i + j)) = some (xs (i + j)) := fun j hj => gi_nI hz1 (by omega) hn
  obtain ⟨w, hw⟩ := iv_int hv (by decide) (by decide)
  subst hw
  refine ⟨h2, ?_, I2, z0, z1, z2⟩
  simp only [uL_law_1047, uL_law_1048, uL_law_1049, uL_law_1050, uL_law_1051, uL_law_1052, uL_law_1053, uL_law_1056, uL_law_1057, uL_law_1058, uL_law_1059, uL_law_1060, uL_law_1061, uL_law_1062, uL_law_1065, uL_law_1068, uL_law_1069, uL_law_1503, uL_law_1506, vX hX, vM hM1, r1, r2, nI_1, nI_2, nI_3, nI_4, nI_5, nI_6, nI_7, nI_8, G0 1 (by omega), G1 1 (by omega), Option.bind_some, Option.toList_some, Option.toList_none, List.cons_append, List.nil_append, if_true, if_false, and_self, and_true, true_and, or_self, or_true, true_or, false_or, or_false, i10, i00, i01, i11, Nat.reduceAdd, st1_0, st1_c, st1_1i, st1_1r, st1_1n, st1_1u, st1_1J, st2_0, st2_c, st2_1i, st2_1r, st2_1n, st2_1u, st2_1J]
theorem law_21 {h : AH} {i n : Nat} {xs : Nat → Int32} (hz : rI h 0 = some (n, xs)) (hi : i + 8 ≤ n) (hn : n < 2 ^ 31) (I : INV h) : ∃ h1, run 226 (1070, [some (.ref 0), some (.ref 4), some (.ref 36), some (.int (nI i))], [], h) = run 226 (18, [some (.ref 0), some (.ref 4), some (.ref 36), some (.int (nI (i + 8)))], [], h1) ∧ Nx h h1 := by
  obtain ⟨St, hN, c, w, wt, bp, bd, bm, nd, nb, t, P, pk, pp, pn, pl, gr, L, lp, ld, ln, lg, sz, sl, cm, tr, fa, ⟨dr, da, pa, qa, la, ma, hX, C⟩, R⟩ := id I
  obtain ⟨v, h1, h2, hv, r1, r2, e36, e0, I2, z0, z1, z2⟩ := g_makers (x := xs (i + 1)) (y := xs (i + 2)) hN St hX C R
  obtain ⟨rd, lm, ft, f50, f58, hM, _⟩ := id R
  have hM1 := e36.trans hM
  have hz1 := e0.trans hz
  have G0 : ∀ j, j < 8 → gi h 0 (nI (i + j)) = some (xs (i + j)) := fun j hj => gi_nI hz (by omega) hn
  have G1 : ∀ j, j < 8 → gi h1 0 (nI (i + j)) = some (xs (i + j)) := fun j hj => gi_nI hz1 (by omega) hn
  obtain ⟨w, hw⟩ := iv_int hv (by decide) (by decide)
  subst hw
  refine ⟨h2, ?_, I2, z0, z1, z2⟩
  simp only [uL_law_1070, uL_law_1071, uL_law_1072, uL_law_1073, uL_law_1074, uL_law_1075, uL_law_1076, uL_law_1077, uL_law_1078, uL_law_1079, uL_law_1080, uL_law_1081, uL_law_1084, uL_law_1085, uL_law_1086, uL_law_1087, uL_law_1088, uL_law_1089, uL_law_1090, uL_law_1091, uL_law_1092, uL_law_1093, uL_law_1094, uL_law_1095, uL_law_1098, uL_law_1101, uL_law_1102, uL_law_1503, uL_law_1506, vX hX, vM hM1, r1, r2, nI_1, nI_2, nI_3, nI_4, nI_5, nI_6, nI_7, nI_8, G0 1 (by omega), G1 1 (by omega), G0 2 (by omega), G1 2 (by omega), Option.bind_some, Option.toList_some, Option.toList_none, List.cons_append, List.nil_append, if_true, if_false, and_self, and_true, true_and, or_self, or_true, true_or, false_or, or_false, i10, i00, i01, i11, Nat.reduceAdd, st1_0, st1_c, st1_1i, st1_1r, st1_1n, st1_1u, st1_1J, st2_0, st2_c, st2_1i, st2_1r, st2_1n, st2_1u, st2_1J]
theorem law_22 {h : AH} {i n : Nat} {xs : Nat → Int32} (hz : rI h 0 = some (n, xs)) (hi : i + 8 ≤ n) (hn : n < 2 ^ 31) (I : INV h) : ∃ h1, run 226 (1103, [some (.ref 0), some (.ref 4), some (.ref 36), some (.int (nI i))], [], h) = run 226 (18, [some (.ref 0), some (.ref 4), some (.ref 36), some (.int (nI (i + 8)))], [], h1) ∧ Nx h h1 := by
  obtain ⟨St, hN, c, w, wt, bp, bd, bm, nd, nb, t, P, pk, pp, pn, pl, gr, L, lp, ld, ln, lg, sz, sl, cm, tr, fa, ⟨dr, da, pa, qa, la, ma, hX, C⟩, R⟩ := id I
  obtain ⟨v, h1, h2, hv, r1, r2, e36, e0, I2, z0, z1, z2⟩ := g_like (x := xs (i + 1)) (y := xs (i + 2)) hN St hX C R
  obtain ⟨rd, lm, ft, f50, f58, hM, _⟩ := id R
  have hM1 := e36.trans hM
  have hz1 := e0.trans hz
  have G0 : ∀ j, j < 8 → gi h 0 (nI (i + j)) = some (xs (i + j)) := fun j hj => gi_nI hz (by omega) hn
  have G1 : ∀ j, j < 8 → gi h1 0 (nI (i + j)) = some (xs (i + j)) := fun j hj => gi_nI hz1 (by omega) hn
  obtain ⟨w, hw⟩ := iv_int hv (by decide) (by decide)
  subst hw
  refine ⟨h2, ?_, I2, z0, z1, z2⟩
  simp only [uL_law_1103, uL_law_1104, uL_law_1105, uL_law_1106, uL_law_1107, uL_law_1108, uL_law_1109, uL_law_1110, uL_law_1111, uL_law_1112, uL_law_1113, uL_law_1114, uL_law_1117, uL_law_1118, uL_law_1119, uL_law_1120, uL_law_1121, uL_law_1122, uL_law_1123, uL_law_1124, uL_law_1125, uL_law_1126, uL_law_1127, uL_law_1128, uL_law_1131, uL_law_1134, uL_law_1135, uL_law_1503, uL_law_1506, vX hX, vM hM1, r1, r2, nI_1, nI_2, nI_3, nI_4, nI_5, nI_6, nI_7, nI_8, G0 1 (by omega), G1 1 (by omega), G0 2 (by omega), G1 2 (by omega), Option.bind_some, Option.toList_some, Option.toList_none, List.cons_append, List.nil_append, if_true, if_false, and_self, and_true, true_and, or_self, or_true, true_or, false_or, or_false, i10, i00, i01, i11, Nat.reduceAdd, st1_0, st1_c, st1_1i, st1_1r, st1_1n, st1_1u, st1_1J, st2_0, st2_c, st2_1i, st2_1r, st2_1n, st2_1u, st2_1J]
theorem law_23 {h : AH} {i n : Nat} {xs : Nat → Int32} (hz : rI h 0 = some (n, xs)) (hi : i + 8 ≤ n) (hn : n < 2 ^ 31) (I : INV h) : ∃ h1, run 226 (1136, [some (.ref 0), some (.ref 4), some (.ref 36), some (.int (nI i))], [], h) = run 226 (18, [some (.ref 0), some (.ref 4), some (.ref 36), some (.int (nI (i + 8)))], [], h1) ∧ Nx h h1 := by
  obtain ⟨St, hN, c, w, wt, bp, bd, bm, nd, nb, t, P, pk, pp, pn, pl, gr, L, lp, ld, ln, lg, sz, sl, cm, tr, fa, ⟨dr, da, pa, qa, la, ma, hX, C⟩, R⟩ := id I
  obtain ⟨v, h1, h2, hv, r1, r2, e36, e0, I2, z0, z1, z2⟩ := g_next (x := xs (i + 1)) hN St hX C R
  obtain ⟨rd, lm, ft, f50, f58, hM, _⟩ := id R
  have hM1 := e36.trans hM
  have hz1 := e0.trans hz
  have G0 : ∀ j, j < 8 → gi h 0 (nI (i + j)) = some (xs (i + j)) := fun j hj => gi_nI hz (by omega) hn
  have G1 : ∀ j, j < 8 → gi h1 0 (nI (i + j)) = some (xs (i + j)) := fun j hj => gi_nI hz1 (by omega) hn
  obtain ⟨w, hw⟩ := iv_int hv (by decide) (by decide)
  subst hw
  refine ⟨h2, ?_, I2, z0, z1, z2⟩
  simp only [uL_law_1136, uL_law_1137, uL_law_1138, uL_law_1139, uL_law_1140, uL_law_1141, uL_law_1142, uL_law_1145, uL_law_1146, uL_law_1147, uL_law_1148, uL_law_1149, uL_law_1150, uL_law_1151, uL_law_1154, uL_law_1157, uL_law_1158, uL_law_1503, uL_law_1506, vX hX, vM hM1, r1, r2, nI_1, nI_2, nI_3, nI_4, nI_5, nI_6, nI_7, nI_8, G0 1 (by omega), G1 1 (by omega), Option.bind_some, Option.toList_some, Option.toList_none, List.cons_append, List.nil_append, if_true, if_false, and_self, and_true, true_and, or_self, or_true, true_or, false_or, or_false, i10, i00, i01, i11, Nat.reduceAdd, st1_0, st1_c, st1_1i, st1_1r, st1_1n, st1_1u, st1_1J, st2_0, st2_c, st2_1i, st2_1r, st2_1n, st2_1u, st2_1J]
theorem law_24 {h : AH} {i n : Nat} {xs : Nat → Int32} (hz : rI h 0 = some (n, xs)) (hi : i + 8 ≤ n) (hn : n < 2 ^ 31) (I : INV h) : ∃ h1, run 226 (1159, [some (.ref 0), some (.ref 4), some (.ref 36), some (.int (nI i))], [], h) = run 226 (18, [some (.ref 0), some (.ref 4), some (.ref 36), some (.int (nI (i + 8)))], [], h1) ∧ Nx h h1 := by
  obtain ⟨St, hN, c, w, wt, bp, bd, bm, nd, nb, t, P, pk, pp, pn, pl, gr, L, lp, ld, ln, lg, sz, sl, cm, tr, fa, ⟨dr, da, pa, qa, la, ma, hX, C⟩, R⟩ := id I
  obtain ⟨v, h1, h2, hv, r1, r2, e36, e0, I2, z0, z1, z2⟩ := g_sheet (x := xs (i + 1)) (y := xs (i + 2)) (z := xs (i + 3)) hN St hX C R
  obtain ⟨rd, lm, ft, f50, f58, hM, _⟩ := id R
  have hM1 := e36.trans hM
  have hz1 := e0.trans hz
  have G0 : ∀ j, j < 8 → gi h 0 (nI (i + j)) = some (xs (i + j)) := fun j hj => gi_nI hz (by omega) hn
  have G1 : ∀ j, j < 8 → gi h1 0 (nI (i + j)) = some (xs (i + j)) := fun j hj => gi_nI hz1 (by omega) hn
  obtain ⟨w, hw⟩ := iv_int hv (by decide) (by decide)
  subst hw
  refine ⟨h2, ?_, I2, z0, z1, z2⟩
  simp only [uL_law_1159, uL_law_1160, uL_law_1161, uL_law_1162, uL_law_1163, uL_law_1164, uL_law_1165, uL_law_1166, uL_law_1167, uL_law_1168, uL_law_1169, uL_law_1170, uL_law_1171, uL_law_1172, uL_law_1173, uL_law_1174, uL_law_1175, uL_law_1178, uL_law_1179, uL_law_1180, uL_law_1181, uL_law_1182, uL_law_1183, uL_law_1184, uL_law_1185, uL_law_1186, uL_law_1187, uL_law_1188, uL_law_1189, uL_law_1190, uL_law_1191, uL_law_1192, uL_law_1193, uL_law_1194, uL_law_1197, uL_law_1200, uL_law_1201, uL_law_1503, uL_law_1506, vX hX, vM hM1, r1, r2, nI_1, nI_2, nI_3, nI_4, nI_5, nI_6, nI_7, nI_8, G0 1 (by omega), G1 1 (by omega), G0 2 (by omega), G1 2 (by omega), G0 3 (by omega), G1 3 (by omega), Option.bind_some, Option.toList_some, Option.toList_none, List.cons_append, List.nil_append, if_true, if_false, and_self, and_true, true_and, or_self, or_true, true_or, false_or, or_false, i10, i00, i01, i11, Nat.reduceAdd, st1_0, st1_c, st1_1i, st1_1r, st1_1n, st1_1u, st1_1J, st2_0, st2_c, st2_1i, st2_1r, st2_1n, st2_1u, st2_1J]
theorem law_25 {h : AH} {i n : Nat} {xs : Nat → Int32} (hz : rI h 0 = some (n, xs)) (hi : i + 8 ≤ n) (hn : n < 2 ^ 31) (I : INV h) : ∃ h1, run 226 (1202, [some (.ref 0), some (.ref 4), some (.ref 36), some (.int (nI i))], [], h) = run 226 (18, [some (.ref 0), some (.ref 4), some (.ref 36), some (.int (nI (i + 8)))], [], h1) ∧ Nx h h1 := by
  obtain ⟨St, hN, c, w, wt, bp, bd, bm, nd, nb, t, P, pk, pp, pn, pl, gr, L, lp, ld, ln, lg, sz, sl, cm, tr, fa, ⟨dr, da, pa, qa, la, ma, hX, C⟩, R⟩ := id I
  obtain ⟨v, h1, h2, hv, r1, r2, e36, e0, I2, z0, z1, z2⟩ := g_lose (x := xs (i + 1)) hN St hX C R
  obtain ⟨rd, lm, ft, f50, f58, hM, _⟩ := id R
  have hM1 := e36.trans hM
  have hz1 := e0.trans hz
  have G0 : ∀ j, j < 8 → gi h 0 (nI (i + j)) = some (xs (i + j)) := fun j hj => gi_nI hz (by omega) hn
  have G1 : ∀ j, j < 8 → gi h1 0 (nI (i + j)) = some (xs (i + j)) := fun j hj => gi_nI hz1 (by omega) hn
  obtain ⟨w, hw⟩ := iv_int hv (by decide) (by decide)
  subst hw
  refine ⟨h2, ?_, I2, z0, z1, z2⟩
  simp only [uL_law_1202, uL_law_1203, uL_law_1204, uL_law_1205, uL_law_1206, uL_law_1207, uL_law_1208, uL_law_1211, uL_law_1212, uL_law_1213, uL_law_1214, uL_law_1215, uL_law_1216, uL_law_1217, uL_law_1220, uL_law_1223, uL_law_1224, uL_law_1503, uL_law_1506, vX hX, vM hM1, r1, r2, nI_1, nI_2, nI_3, nI_4, nI_5, nI_6, nI_7, nI_8, G0 1 (by omega), G1 1 (by omega), Option.bind_some, Option.toList_some, Option.toList_none, List.cons_append, List.nil_append, if_true, if_false, and_self, and_true, true_and, or_self, or_true, true_or, false_or, or_false, i10, i00, i01, i11, Nat.reduceAdd, st1_0, st1_c, st1_1i, st1_1r, st1_1n, st1_1u, st1_1J, st2_0, st2_c, st2_1i, st2_1r, st2_1n, st2_1u, st2_1J]
theorem law_26 {h : AH} {i n : Nat} {xs : Nat → Int32} (hz : rI h 0 = some (n, xs)) (hi : i + 8 ≤ n) (hn : n < 2 ^ 31) (I : INV h) : ∃ h1, run 226 (1225, [some (.ref 0), some (.ref 4), some (.ref 36), some (.int (nI i))], [], h) = run 226 (18, [some (.ref 0), some (.ref 4), some (.ref 36), some (.int (nI (i + 8)))], [], h1) ∧ Nx h h1 := by
  obtain ⟨St, hN, c, w, wt, bp, bd, bm, nd, nb, t, P, pk, pp, pn, pl, gr, L, lp, ld, ln, lg, sz, sl, cm, tr, fa, ⟨dr, da, pa, qa, la, ma, hX, C⟩, R⟩ := id I
  obtain ⟨v, h1, h2, hv, r1, r2, e36, e0, I2, z0, z1, z2⟩ := g_put (x := xs (i + 1)) (y := xs (i + 2)) (z := xs (i + 3)) hN St hX C R
  obtain ⟨rd, lm, ft, f50, f58, hM, _⟩ := id R
  have hM1 := e36.trans hM
  have hz1 := e0.trans hz
  have G0 : ∀ j, j < 8 → gi h 0 (nI (i + j)) = some (xs (i + j)) := fun j hj => gi_nI hz (by omega) hn
  have G1 : ∀ j, j < 8 → gi h1 0 (nI (i + j)) = some (xs (i + j)) := fun j hj => gi_nI hz1 (by omega) hn
  obtain ⟨w, hw⟩ := iv_int hv (by decide) (by decide)
  subst hw
  refine ⟨h2, ?_, I2, z0, z1, z2⟩
  simp only [uL_law_1225, uL_law_1226, uL_law_1227, uL_law_1228, uL_law_1229, uL_law_1230, uL_law_1231, uL_law_1232, uL_law_1233, uL_law_1234, uL_law_1235, uL_law_1236, uL_law_1237, uL_law_1238, uL_law_1239, uL_law_1240, uL_law_1241, uL_law_1244, uL_law_1245, uL_law_1246, uL_law_1247, uL_law_1248, uL_law_1249, uL_law_1250, uL_law_1251, uL_law_1252, uL_law_1253, uL_law_1254, uL_law_1255, uL_law_1256, uL_law_1257, uL_law_1258, uL_law_1259, uL_law_1260, uL_law_1263, uL_law_1266, uL_law_1267, uL_law_1503, uL_law_1506, vX hX, vM hM1, r1, r2, nI_1, nI_2, nI_3, nI_4, nI_5, nI_6, nI_7, nI_8, G0 1 (by omega), G1 1 (by omega), G0 2 (by omega), G1 2 (by omega), G0 3 (by omega), G1 3 (by omega), Option.bind_some, Option.toList_some, Option.toList_none, List.cons_append, List.nil_append, if_true, if_false, and_self, and_true, true_and, or_self, or_true, true_or, false_or, or_false, i10, i00, i01, i11, Nat.reduceAdd, st1_0, st1_c, st1_1i, st1_1r, st1_1n, st1_1u, st1_1J, st2_0, st2_c, st2_1i, st2_1r, st2_1n, st2_1u, st2_1J]
theorem law_27 {h : AH} {i n : Nat} {xs : Nat → Int32} (hz : rI h 0 = some (n, xs)) (hi : i + 8 ≤ n) (hn : n < 2 ^ 31) (I : INV h) : ∃ h1, run 226 (1268, [some (.ref 0), some (.ref 4), some (.ref 36), some (.int (nI i))], [], h) = run 226 (18, [some (.ref 0), some (.ref 4), some (.ref 36), some (.int (nI (i + 8)))], [], h1) ∧ Nx h h1 := by
  obtain ⟨St, hN, c, w, wt, bp, bd, bm, nd, nb, t, P, pk, pp, pn, pl, gr, L, lp, ld, ln, lg, sz, sl, cm, tr, fa, ⟨dr, da, pa, qa, la, ma, hX, C⟩, R⟩ := id I
  obtain ⟨v, h1, h2, hv, r1, r2, e36, e0, I2, z0, z1, z2⟩ := g_cell (x := xs (i + 1)) (y := xs (i + 2)) (z := xs (i + 3)) hN St hX C R
  obtain ⟨rd, lm, ft, f50, f58, hM, _⟩ := id R
  have hM1 := e36.trans hM
  have hz1 := e0.trans hz
  have G0 : ∀ j, j < 8 → gi h 0 (nI (i + j)) = some (xs (i + j)) := fun j hj => gi_nI hz (by omega) hn
  have G1 : ∀ j, j < 8 → gi h1 0 (nI (i + j)) = some (xs (i + j)) := fun j hj => gi_nI hz1 (by omega) hn
  obtain ⟨w, hw⟩ := iv_long hv (by decide)
  subst hw
  refine ⟨h2, ?_, I2, z0, z1, z2⟩
  simp only [uL_law_1268, uL_law_1269, uL_law_1270, uL_law_1271, uL_law_1272, uL_law_1273, uL_law_1274, uL_law_1275, uL_law_1276, uL_law_1277, uL_law_1278, uL_law_1279, uL_law_1280, uL_law_1281, uL_law_1282, uL_law_1283, uL_law_1284, uL_law_1287, uL_law_1288, uL_law_1289, uL_law_1290, uL_law_1291, uL_law_1292, uL_law_1293, uL_law_1294, uL_law_1295, uL_law_1296, uL_law_1297, uL_law_1298, uL_law_1299, uL_law_1300, uL_law_1301, uL_law_1302, uL_law_1303, uL_law_1306, uL_law_1307, uL_law_1310, uL_law_1311, uL_law_1503, uL_law_1506, vX hX, vM hM1, r1, r2, nI_1, nI_2, nI_3, nI_4, nI_5, nI_6, nI_7, nI_8, G0 1 (by omega), G1 1 (by omega), G0 2 (by omega), G1 2 (by omega), G0 3 (by omega), G1 3 (by omega), lg_cmp_eq, Option.bind_some, Option.toList_some, Option.toList_none, List.cons_append, List.nil_append, if_true, if_false, and_self, and_true, true_and, or_self, or_true, true_or, false_or, or_false, i10, i00, i01, i11, Nat.reduceAdd, st1_0, st1_c, st1_1i, st1_1r, st1_1n, st1_1u, st1_1J, st2_0, st2_c, st2_1i, st2_1r, st2_1n, st2_1u, st2_1J]
theorem law_28 {h : AH} {i n : Nat} {xs : Nat → Int32} (hz : rI h 0 = some (n, xs)) (hi : i + 8 ≤ n) (hn : n < 2 ^ 31) (I : INV h) : ∃ h1, run 226 (1312, [some (.ref 0), some (.ref 4), some (.ref 36), some (.int (nI i))], [], h) = run 226 (18, [some (.ref 0), some (.ref 4), some (.ref 36), some (.int (nI (i + 8)))], [], h1) ∧ Nx h h1 := by
  obtain ⟨St, hN, c, w, wt, bp, bd, bm, nd, nb, t, P, pk, pp, pn, pl, gr, L, lp, ld, ln, lg, sz, sl, cm, tr, fa, ⟨dr, da, pa, qa, la, ma, hX, C⟩, R⟩ := id I
  obtain ⟨v, h1, h2, hv, r1, r2, e36, e0, I2, z0, z1, z2⟩ := g_copy (x := xs (i + 1)) (y := xs (i + 2)) (z := xs (i + 3)) (u := xs (i + 4)) (v := xs (i + 5)) hN St hX C R
  obtain ⟨rd, lm, ft, f50, f58, hM, _⟩ := id R
  have hM1 := e36.trans hM
  have hz1 := e0.trans hz
  have G0 : ∀ j, j < 8 → gi h 0 (nI (i + j)) = some (xs (i + j)) := fun j hj => gi_nI hz (by omega) hn
  have G1 : ∀ j, j < 8 → gi h1 0 (nI (i + j)) = some (xs (i + j)) := fun j hj => gi_nI hz1 (by omega) hn
  obtain ⟨w, hw⟩ := iv_int hv (by decide) (by decide)
  subst hw
  refine ⟨h2, ?_, I2, z0, z1, z2⟩
  simp only [uL_law_1312, uL_law_1313, uL_law_1314, uL_law_1315, uL_law_1316, uL_law_1317, uL_law_1318, uL_law_1319, uL_law_1320, uL_law_1321, uL_law_1322, uL_law_1323, uL_law_1324, uL_law_1325, uL_law_1326, uL_law_1327, uL_law_1328, uL_law_1329, uL_law_1330, uL_law_1331, uL_law_1332, uL_law_1333, uL_law_1334, uL_law_1335, uL_law_1336, uL_law_1337, uL_law_1338, uL_law_1341, uL_law_1342, uL_law_1343, uL_law_1344, uL_law_1345, uL_law_1346, uL_law_1347, uL_law_1348, uL_law_1349, uL_law_1350, uL_law_1351, uL_law_1352, uL_law_1353, uL_law_1354, uL_law_1355, uL_law_1356, uL_law_1357, uL_law_1358, uL_law_1359, uL_law_1360, uL_law_1361, uL_law_1362, uL_law_1363, uL_law_1364, uL_law_1365, uL_law_1366, uL_law_1367, uL_law_1370, uL_law_1373, uL_law_1374, uL_law_1503, uL_law_1506, vX hX, vM hM1, r1, r2, nI_1, nI_2, nI_3, nI_4, nI_5, nI_6, nI_7, nI_8, G0 1 (by omega), G1 1 (by omega), G0 2 (by omega), G1 2 (by omega), G0 3 (by omega), G1 3 (by omega), G0 4 (by omega), G1 4 (by omega), G0 5 (by omega), G1 5 (by omega), Option.bind_some, Option.toList_some, Option.toList_none, List.cons_append, List.nil_append, if_true, if_false, and_self, and_true, true_and, or_self, or_true, true_or, false_or, or_false, i10, i00, i01, i11, Nat.reduceAdd, st1_0, st1_c, st1_1i, st1_1r, st1_1n, st1_1u, st1_1J, st2_0, st2_c, st2_1i, st2_1r, st2_1n, st2_1u, st2_1J]
theorem law_29 {h : AH} {i n : Nat} {xs : Nat → Int32} (hz : rI h 0 = some (n, xs)) (hi : i + 8 ≤ n) (hn : n < 2 ^ 31) (I : INV h) : ∃ h1, run 226 (1375, [some (.ref 0), some (.ref 4), some (.ref 36), some (.int (nI i))], [], h) = run 226 (18, [some (.ref 0), some (.ref 4), some (.ref 36), some (.int (nI (i + 8)))], [], h1) ∧ Nx h h1 := by
  obtain ⟨St, hN, c, w, wt, bp, bd, bm, nd, nb, t, P, pk, pp, pn, pl, gr, L, lp, ld, ln, lg, sz, sl, cm, tr, fa, ⟨dr, da, pa, qa, la, ma, hX, C⟩, R⟩ := id I
  obtain ⟨v, h1, h2, hv, r1, r2, e36, e0, I2, z0, z1, z2⟩ := g_tell (x := xs (i + 1)) hN St hX C R
  obtain ⟨rd, lm, ft, f50, f58, hM, _⟩ := id R
  have hM1 := e36.trans hM
  have hz1 := e0.trans hz
  have G0 : ∀ j, j < 8 → gi h 0 (nI (i + j)) = some (xs (i + j)) := fun j hj => gi_nI hz (by omega) hn
  have G1 : ∀ j, j < 8 → gi h1 0 (nI (i + j)) = some (xs (i + j)) := fun j hj => gi_nI hz1 (by omega) hn
  obtain ⟨w, hw⟩ := iv_int hv (by decide) (by decide)
  subst hw
  refine ⟨h2, ?_, I2, z0, z1, z2⟩
  simp only [uL_law_1375, uL_law_1376, uL_law_1377, uL_law_1378, uL_law_1379, uL_law_1380, uL_law_1381, uL_law_1384, uL_law_1385, uL_law_1386, uL_law_1387, uL_law_1388, uL_law_1389, uL_law_1390, uL_law_1393, uL_law_1396, uL_law_1397, uL_law_1503, uL_law_1506, vX hX, vM hM1, r1, r2, nI_1, nI_2, nI_3, nI_4, nI_5, nI_6, nI_7, nI_8, G0 1 (by omega), G1 1 (by omega), Option.bind_some, Option.toList_some, Option.toList_none, List.cons_append, List.nil_append, if_true, if_false, and_self, and_true, true_and, or_self, or_true, true_or, false_or, or_false, i10, i00, i01, i11, Nat.reduceAdd, st1_0, st1_c, st1_1i, st1_1r, st1_1n, st1_1u, st1_1J, st2_0, st2_c, st2_1i, st2_1r, st2_1n, st2_1u, st2_1J]
theorem law_30 {h : AH} {i n : Nat} {xs : Nat → Int32} (hz : rI h 0 = some (n, xs)) (hi : i + 8 ≤ n) (hn : n < 2 ^ 31) (I : INV h) : ∃ h1, run 226 (1398, [some (.ref 0), some (.ref 4), some (.ref 36), some (.int (nI i))], [], h) = run 226 (18, [some (.ref 0), some (.ref 4), some (.ref 36), some (.int (nI (i + 8)))], [], h1) ∧ Nx h h1 := by
  obtain ⟨St, hN, c, w, wt, bp, bd, bm, nd, nb, t, P, pk, pp, pn, pl, gr, L, lp, ld, ln, lg, sz, sl, cm, tr, fa, ⟨dr, da, pa, qa, la, ma, hX, C⟩, R⟩ := id I
  obtain ⟨v, h1, h2, hv, r1, r2, e36, e0, I2, z0, z1, z2⟩ := g_mark (x := xs (i + 1)) hN St hX C R
  obtain ⟨rd, lm, ft, f50, f58, hM, _⟩ := id R
  have hM1 := e36.trans hM
  have hz1 := e0.trans hz
  have G0 : ∀ j, j < 8 → gi h 0 (nI (i + j)) = some (xs (i + j)) := fun j hj => gi_nI hz (by omega) hn
  have G1 : ∀ j, j < 8 → gi h1 0 (nI (i + j)) = some (xs (i + j)) := fun j hj => gi_nI hz1 (by omega) hn
  obtain ⟨w, hw⟩ := iv_int hv (by decide) (by decide)
  subst hw
  refine ⟨h2, ?_, I2, z0, z1, z2⟩
  simp only [uL_law_1398, uL_law_1399, uL_law_1400, uL_law_1401, uL_law_1402, uL_law_1403, uL_law_1404, uL_law_1407, uL_law_1408, uL_law_1409, uL_law_1410, uL_law_1411, uL_law_1412, uL_law_1413, uL_law_1416, uL_law_1419, uL_law_1420, uL_law_1503, uL_law_1506, vX hX, vM hM1, r1, r2, nI_1, nI_2, nI_3, nI_4, nI_5, nI_6, nI_7, nI_8, G0 1 (by omega), G1 1 (by omega), Option.bind_some, Option.toList_some, Option.toList_none, List.cons_append, List.nil_append, if_true, if_false, and_self, and_true, true_and, or_self, or_true, true_or, false_or, or_false, i10, i00, i01, i11, Nat.reduceAdd, st1_0, st1_c, st1_1i, st1_1r, st1_1n, st1_1u, st1_1J, st2_0, st2_c, st2_1i, st2_1r, st2_1n, st2_1u, st2_1J]
theorem law_31 {h : AH} {i n : Nat} {xs : Nat → Int32} (hz : rI h 0 = some (n, xs)) (hi : i + 8 ≤ n) (hn : n < 2 ^ 31) (I : INV h) : ∃ h1, run 226 (1421, [some (.ref 0), some (.ref 4), some (.ref 36), some (.int (nI i))], [], h) = run 226 (18, [some (.ref 0), some (.ref 4), some (.ref 36), some (.int (nI (i + 8)))], [], h1) ∧ Nx h h1 := by
  obtain ⟨St, hN, c, w, wt, bp, bd, bm, nd, nb, t, P, pk, pp, pn, pl, gr, L, lp, ld, ln, lg, sz, sl, cm, tr, fa, ⟨dr, da, pa, qa, la, ma, hX, C⟩, R⟩ := id I
  obtain ⟨v, h1, h2, hv, r1, r2, e36, e0, I2, z0, z1, z2⟩ := g_as (x := xs (i + 1)) (y := xs (i + 2)) hN St hX C R
  obtain ⟨rd, lm, ft, f50, f58, hM, _⟩ := id R
  have hM1 := e36.trans hM
  have hz1 := e0.trans hz
  have G0 : ∀ j, j < 8 → gi h 0 (nI (i + j)) = some (xs (i + j)) := fun j hj => gi_nI hz (by omega) hn
  have G1 : ∀ j, j < 8 → gi h1 0 (nI (i + j)) = some (xs (i + j)) := fun j hj => gi_nI hz1 (by omega) hn
  obtain ⟨w, hw⟩ := iv_int hv (by decide) (by decide)
  subst hw
  refine ⟨h2, ?_, I2, z0, z1, z2⟩
  simp only [uL_law_1421, uL_law_1422, uL_law_1423, uL_law_1424, uL_law_1425, uL_law_1426, uL_law_1427, uL_law_1428, uL_law_1429, uL_law_1430, uL_law_1431, uL_law_1432, uL_law_1435, uL_law_1436, uL_law_1437, uL_law_1438, uL_law_1439, uL_law_1440, uL_law_1441, uL_law_1442, uL_law_1443, uL_law_1444, uL_law_1445, uL_law_1446, uL_law_1449, uL_law_1452, uL_law_1453, uL_law_1503, uL_law_1506, vX hX, vM hM1, r1, r2, nI_1, nI_2, nI_3, nI_4, nI_5, nI_6, nI_7, nI_8, G0 1 (by omega), G1 1 (by omega), G0 2 (by omega), G1 2 (by omega), Option.bind_some, Option.toList_some, Option.toList_none, List.cons_append, List.nil_append, if_true, if_false, and_self, and_true, true_and, or_self, or_true, true_or, false_or, or_false, i10, i00, i01, i11, Nat.reduceAdd, st1_0, st1_c, st1_1i, st1_1r, st1_1n, st1_1u, st1_1J, st2_0, st2_c, st2_1i, st2_1r, st2_1n, st2_1u, st2_1J]
theorem law_32 {h : AH} {i n : Nat} {xs : Nat → Int32} (hz : rI h 0 = some (n, xs)) (hi : i + 8 ≤ n) (hn : n < 2 ^ 31) (I : INV h) : ∃ h1, run 226 (1454, [some (.ref 0), some (.ref 4), some (.ref 36), some (.int (nI i))], [], h) = run 226 (18, [some (.ref 0), some (.ref 4), some (.ref 36), some (.int (nI (i + 8)))], [], h1) ∧ Nx h h1 := by
  obtain ⟨St, hN, c, w, wt, bp, bd, bm, nd, nb, t, P, pk, pp, pn, pl, gr, L, lp, ld, ln, lg, sz, sl, cm, tr, fa, ⟨dr, da, pa, qa, la, ma, hX, C⟩, R⟩ := id I
  obtain ⟨v, h1, h2, hv, r1, r2, e36, e0, I2, z0, z1, z2⟩ := g_trace hN St hX C R
  obtain ⟨rd, lm, ft, f50, f58, hM, _⟩ := id R
  have hM1 := e36.trans hM
  have hz1 := e0.trans hz
  have G0 : ∀ j, j < 8 → gi h 0 (nI (i + j)) = some (xs (i + j)) := fun j hj => gi_nI hz (by omega) hn
  have G1 : ∀ j, j < 8 → gi h1 0 (nI (i + j)) = some (xs (i + j)) := fun j hj => gi_nI hz1 (by omega) hn
  obtain ⟨w, hw⟩ := iv_int hv (by decide) (by decide)
  subst hw
  refine ⟨h2, ?_, I2, z0, z1, z2⟩
  simp only [uL_law_1454, uL_law_1455, uL_law_1458, uL_law_1459, uL_law_1462, uL_law_1465, uL_law_1466, uL_law_1503, uL_law_1506, vX hX, vM hM1, r1, r2, nI_1, nI_2, nI_3, nI_4, nI_5, nI_6, nI_7, nI_8, Option.bind_some, Option.toList_some, Option.toList_none, List.cons_append, List.nil_append, if_true, if_false, and_self, and_true, true_and, or_self, or_true, true_or, false_or, or_false, i10, i00, i01, i11, Nat.reduceAdd, st1_0, st1_c, st1_1i, st1_1r, st1_1n, st1_1u, st1_1J, st2_0, st2_c, st2_1i, st2_1r, st2_1n, st2_1u, st2_1J]
theorem law_33 {h : AH} {i n : Nat} {xs : Nat → Int32} (hz : rI h 0 = some (n, xs)) (hi : i + 8 ≤ n) (hn : n < 2 ^ 31) (I : INV h) : ∃ h1, run 226 (1467, [some (.ref 0), some (.ref 4), some (.ref 36), some (.int (nI i))], [], h) = run 226 (18, [some (.ref 0), some (.ref 4), some (.ref 36), some (.int (nI (i + 8)))], [], h1) ∧ Nx h h1 := by
  obtain ⟨St, hN, c, w, wt, bp, bd, bm, nd, nb, t, P, pk, pp, pn, pl, gr, L, lp, ld, ln, lg, sz, sl, cm, tr, fa, ⟨dr, da, pa, qa, la, ma, hX, C⟩, R⟩ := id I
  obtain ⟨v, h1, h2, hv, r1, r2, e36, e0, I2, z0, z1, z2⟩ := g_fault hN St hX C R
  obtain ⟨rd, lm, ft, f50, f58, hM, _⟩ := id R
  have hM1 := e36.trans hM
  have hz1 := e0.trans hz
  have G0 : ∀ j, j < 8 → gi h 0 (nI (i + j)) = some (xs (i + j)) := fun j hj => gi_nI hz (by omega) hn
  have G1 : ∀ j, j < 8 → gi h1 0 (nI (i + j)) = some (xs (i + j)) := fun j hj => gi_nI hz1 (by omega) hn
  obtain ⟨w, hw⟩ := iv_int hv (by decide) (by decide)
  subst hw
  refine ⟨h2, ?_, I2, z0, z1, z2⟩
  simp only [uL_law_1467, uL_law_1468, uL_law_1471, uL_law_1472, uL_law_1475, uL_law_1478, uL_law_1479, uL_law_1503, uL_law_1506, vX hX, vM hM1, r1, r2, nI_1, nI_2, nI_3, nI_4, nI_5, nI_6, nI_7, nI_8, Option.bind_some, Option.toList_some, Option.toList_none, List.cons_append, List.nil_append, if_true, if_false, and_self, and_true, true_and, or_self, or_true, true_or, false_or, or_false, i10, i00, i01, i11, Nat.reduceAdd, st1_0, st1_c, st1_1i, st1_1r, st1_1n, st1_1u, st1_1J, st2_0, st2_c, st2_1i, st2_1r, st2_1n, st2_1u, st2_1J]
theorem law_34 {h : AH} {i n : Nat} {xs : Nat → Int32} (hz : rI h 0 = some (n, xs)) (hi : i + 8 ≤ n) (hn : n < 2 ^ 31) (I : INV h) : ∃ h1, run 226 (1480, [some (.ref 0), some (.ref 4), some (.ref 36), some (.int (nI i))], [], h) = run 226 (18, [some (.ref 0), some (.ref 4), some (.ref 36), some (.int (nI (i + 8)))], [], h1) ∧ Nx h h1 := by
  obtain ⟨St, hN, c, w, wt, bp, bd, bm, nd, nb, t, P, pk, pp, pn, pl, gr, L, lp, ld, ln, lg, sz, sl, cm, tr, fa, ⟨dr, da, pa, qa, la, ma, hX, C⟩, R⟩ := id I
  obtain ⟨v, h1, h2, hv, r1, r2, e36, e0, I2, z0, z1, z2⟩ := g_many (x := xs (i + 1)) hN St hX C R
  obtain ⟨rd, lm, ft, f50, f58, hM, _⟩ := id R
  have hM1 := e36.trans hM
  have hz1 := e0.trans hz
  have G0 : ∀ j, j < 8 → gi h 0 (nI (i + j)) = some (xs (i + j)) := fun j hj => gi_nI hz (by omega) hn
  have G1 : ∀ j, j < 8 → gi h1 0 (nI (i + j)) = some (xs (i + j)) := fun j hj => gi_nI hz1 (by omega) hn
  obtain ⟨w, hw⟩ := iv_int hv (by decide) (by decide)
  subst hw
  refine ⟨h2, ?_, I2, z0, z1, z2⟩
  simp only [uL_law_1480, uL_law_1481, uL_law_1482, uL_law_1483, uL_law_1484, uL_law_1485, uL_law_1486, uL_law_1489, uL_law_1490, uL_law_1491, uL_law_1492, uL_law_1493, uL_law_1494, uL_law_1495, uL_law_1498, uL_law_1501, uL_law_1502, uL_law_1503, uL_law_1506, vX hX, vM hM1, r1, r2, nI_1, nI_2, nI_3, nI_4, nI_5, nI_6, nI_7, nI_8, G0 1 (by omega), G1 1 (by omega), Option.bind_some, Option.toList_some, Option.toList_none, List.cons_append, List.nil_append, if_true, if_false, and_self, and_true, true_and, or_self, or_true, true_or, false_or, or_false, i10, i00, i01, i11, Nat.reduceAdd, st1_0, st1_c, st1_1i, st1_1r, st1_1n, st1_1u, st1_1J, st2_0, st2_c, st2_1i, st2_1r, st2_1n, st2_1u, st2_1J]
theorem law_step {h : AH} {i n : Nat} {xs : Nat → Int32} (hz : rI h 0 = some (n, xs)) (hi : i + 8 ≤ n) (hn : n < 2 ^ 30) (I : INV h) : ∃ h1, run 226 (18, [some (.ref 0), some (.ref 4), some (.ref 36), some (.int (nI i))], [], h) = run 226 (18, [some (.ref 0), some (.ref 4), some (.ref 36), some (.int (nI (i + 8)))], [], h1) ∧ Nx h h1 := by
  have g0 : gi h 0 (nI i) = some (xs i) := gi_nI hz (by omega) (by omega)
  have c1 : ¬ (nI n - 8 < nI i) := by
    rw [Int32.lt_iff_toInt_lt, show (8 : Int32) = nI 8 from rfl, nI_subI (by omega) (by omega), nI_toInt (by omega)]
    omega
  have st : run 226 (18, [some (.ref 0), some (.ref 4), some (.ref 36), some (.int (nI i))], [], h) = run 226 (33, [some (.ref 0), some (.ref 4), some (.ref 36), some (.int (nI i))], [.int (xs i &&& 63)], h) := by
    rw [uL_law_18]
    simp only [uL_law_19, uL_law_20, uL_law_21, uL_law_23, uL_law_24, uL_law_27, uL_law_28, uL_law_29, uL_law_30, uL_law_32, gl_nI hz, c1, g0, Option.bind_some, Option.toList_some, Option.toList_none, List.cons_append, List.nil_append, if_true, if_false, and_self, and_true, true_and, or_self, or_true, true_or, false_or, or_false, i10, i00, i01, i11, Nat.reduceAdd, st1_0, st1_c, st1_1i, st1_1r, st1_1n, st1_1u, st1_1J, st2_0, st2_c, st2_1i, st2_1r, st2_1n, st2_1u, st2_1J]
  rw [st]
  generalize xs i &&& 63 = op
  by_cases ho : 0 ≤ op.toInt ∧ op.toInt ≤ 34
  · obtain ⟨k, q1, q2, q3⟩ := inR ho
    subst q3
    match k, q1 with
    | 0, _ => rw [show nI 0 = 0 from rfl, uL_law_33_0]; exact law_0 hz hi (by omega) I
    | 1, _ => rw [show nI 1 = 1 from rfl, uL_law_33_1]; exact law_1 hz hi (by omega) I
    | 2, _ => rw [show nI 2 = 2 from rfl, uL_law_33_2]; exact law_2 hz hi (by omega) I
    | 3, _ => rw [show nI 3 = 3 from rfl, uL_law_33_3]; exact law_3 hz hi (by omega) I
    | 4, _ => rw [show nI 4 = 4 from rfl, uL_law_33_4]; exact law_4 hz hi (by omega) I
    | 5, _ => rw [show nI 5 = 5 from rfl, uL_law_33_5]; exact law_5 hz hi (by omega) I
    | 6, _ => rw [show nI 6 = 6 from rfl, uL_law_33_6]; exact law_6 hz hi (by omega) I
    | 7, _ => rw [show nI 7 = 7 from rfl, uL_law_33_7]; exact law_7 hz hi (by omega) I
    | 8, _ => rw [show nI 8 = 8 from rfl, uL_law_33_8]; exact law_8 hz hi (by omega) I
    | 9, _ => rw [show nI 9 = 9 from rfl, uL_law_33_9]; exact law_9 hz hi (by omega) I
    | 10, _ => rw [show nI 10 = 10 from rfl, uL_law_33_10]; exact law_10 hz hi (by omega) I
    | 11, _ => rw [show nI 11 = 11 from rfl, uL_law_33_11]; exact law_11 hz hi (by omega) I
    | 12, _ => rw [show nI 12 = 12 from rfl, uL_law_33_12]; exact law_12 hz hi (by omega) I
    | 13, _ => rw [show nI 13 = 13 from rfl, uL_law_33_13]; exact law_13 hz hi (by omega) I
    | 14, _ => rw [show nI 14 = 14 from rfl, uL_law_33_14]; exact law_14 hz hi (by omega) I
    | 15, _ => rw [show nI 15 = 15 from rfl, uL_law_33_15]; exact law_15 hz hi (by omega) I
    | 16, _ => rw [show nI 16 = 16 from rfl, uL_law_33_16]; exact law_16 hz hi (by omega) I
    | 17, _ => rw [show nI 17 = 17 from rfl, uL_law_33_17]; exact law_17 hz hi (by omega) I
    | 18, _ => rw [show nI 18 = 18 from rfl, uL_law_33_18]; exact law_18 hz hi (by omega) I
    | 19, _ => rw [show nI 19 = 19 from rfl, uL_law_33_19]; exact law_19 hz hi (by omega) I
    | 20, _ => rw [show nI 20 = 20 from rfl, uL_law_33_20]; exact law_20 hz hi (by omega) I
    | 21, _ => rw [show nI 21 = 21 from rfl, uL_law_33_21]; exact law_21 hz hi (by omega) I
    | 22, _ => rw [show nI 22 = 22 from rfl, uL_law_33_22]; exact law_22 hz hi (by omega) I
    | 23, _ => rw [show nI 23 = 23 from rfl, uL_law_33_23]; exact law_23 hz hi (by omega) I
    | 24, _ => rw [show nI 24 = 24 from rfl, uL_law_33_24]; exact law_24 hz hi (by omega) I
    | 25, _ => rw [show nI 25 = 25 from rfl, uL_law_33_25]; exact law_25 hz hi (by omega) I
    | 26, _ => rw [show nI 26 = 26 from rfl, uL_law_33_26]; exact law_26 hz hi (by omega) I
    | 27, _ => rw [show nI 27 = 27 from rfl, uL_law_33_27]; exact law_27 hz hi (by omega) I
    | 28, _ => rw [show nI 28 = 28 from rfl, uL_law_33_28]; exact law_28 hz hi (by omega) I
    | 29, _ => rw [show nI 29 = 29 from rfl, uL_law_33_29]; exact law_29 hz hi (by omega) I
    | 30, _ => rw [show nI 30 = 30 from rfl, uL_law_33_30]; exact law_30 hz hi (by omega) I
    | 31, _ => rw [show nI 31 = 31 from rfl, uL_law_33_31]; exact law_31 hz hi (by omega) I
    | 32, _ => rw [show nI 32 = 32 from rfl, uL_law_33_32]; exact law_32 hz hi (by omega) I
    | 33, _ => rw [show nI 33 = 33 from rfl, uL_law_33_33]; exact law_33 hz hi (by omega) I
    | 34, _ => rw [show nI 34 = 34 from rfl, uL_law_33_34]; exact law_34 hz hi (by omega) I
    | k + 35, hk => omega
  · rw [uL_law_33_d (by omega)]
    refine ⟨h, ?_, I, rfl, by omega, by omega⟩
    simp only [uL_law_1503, uL_law_1506, nI_8, Option.bind_some, Option.toList_some, Option.toList_none, List.cons_append, List.nil_append, if_true, if_false, and_self, and_true, true_and, or_self, or_true, true_or, false_or, or_false, i10, i00, i01, i11, Nat.reduceAdd, st1_0, st1_c, st1_1i, st1_1r, st1_1n, st1_1u, st1_1J, st2_0, st2_c, st2_1i, st2_1r, st2_1n, st2_1u, st2_1J]
theorem law_end {h : AH} {i n : Nat} {xs : Nat → Int32} (hz : rI h 0 = some (n, xs)) (hi : n < i + 8) (hi2 : i < 2 ^ 29) (hn : n < 2 ^ 30) : run 226 (18, [some (.ref 0), some (.ref 4), some (.ref 36), some (.int (nI i))], [], h) = some (some (.int 1), h) := by
  have c1 : nI n - 8 < nI i := by
    rw [Int32.lt_iff_toInt_lt, show (8 : Int32) = nI 8 from rfl, nI_subI (by omega) (by omega), nI_toInt (by omega)]
    omega
  rw [uL_law_18]
  simp only [uL_law_19, uL_law_20, uL_law_21, uL_law_23, uL_law_24, uL_law_1509, uL_law_1510, gl_nI hz, c1, Option.bind_some, Option.toList_some, Option.toList_none, List.cons_append, List.nil_append, if_true, if_false, and_self, and_true, true_and, or_self, or_true, true_or, false_or, or_false, i10, i00, i01, i11, Nat.reduceAdd, st1_0, st1_c, st1_1i, st1_1r, st1_1n, st1_1u, st1_1J, st2_0, st2_c, st2_1i, st2_1r, st2_1n, st2_1u, st2_1J]
theorem law_loop {n : Nat} {xs : Nat → Int32} (hn : n ≤ 4096) : ∀ k j h, 8 * j + 8 * k ≤ n → n < 8 * j + 8 * k + 8 → INV h → rI h 0 = some (n, xs) → ∃ h1, run 226 (18, [some (.ref 0), some (.ref 4), some (.ref 36), some (.int (nI (8 * j)))], [], h) = some (some (.int 1), h1) ∧ h1.1 ≤ h.1 + 4 * k ∧ h1.2.1 ≤ h.2.1 + 100 * k := by
  intro k
  induction k with
  | zero =>
    intro j h h1 h2 I hz
    exact ⟨h, law_end hz (by omega) (by omega) (by omega), by omega, by omega⟩
  | succ k ih =>
    intro j h h1 h2 I hz
    obtain ⟨hA, r1, I1, z0, z1, z2⟩ := law_step (i := 8 * j) hz (by omega) (by omega) I
    obtain ⟨hB, r2, y1, y2⟩ := ih (j + 1) hA (by omega) (by omega) I1 (by rw [rI_of z0, hz])
    refine ⟨hB, ?_, by omega, by omega⟩
    rw [r1, show 8 * j + 8 = 8 * (j + 1) by omega]
    exact r2
theorem law_ok : LawOK := by
  intro n xs hn
  have n0 : (al (h00 n xs) (aO 10 [.null, .null, .null, .null, .null, .null, .null, .int 0, .int 0, .int 0]) 10).1 = 5 := rfl
  have s0 : (al (h00 n xs) (aO 10 [.null, .null, .null, .null, .null, .null, .null, .int 0, .int 0, .int 0]) 10).2.1 = 10 := rfl
  have o0 : rO (al (h00 n xs) (aO 10 [.null, .null, .null, .null, .null, .null, .null, .int 0, .int 0, .int 0]) 10) 4 = some (10, [.null, .null, .null, .null, .null, .null, .null, .int 0, .int 0, .int 0]) := rO_al (h := h00 n xs) (by decide)
  have e4 : (h00 n xs).1 = 4 := rfl
  have b0 : ∀ b, b < 4 → (al (h00 n xs) (aO 10 [.null, .null, .null, .null, .null, .null, .null, .int 0, .int 0, .int 0]) 10).2.2 b = hOld n xs b := fun b hb => cell_al (h := h00 n xs) (fun e => by rw [e4] at e; omega)
  generalize hh0 : al (h00 n xs) (aO 10 [.null, .null, .null, .null, .null, .null, .null, .int 0, .int 0, .int 0]) 10 = h0 at *
  obtain ⟨hA, rA, nA, sA, cA, CA⟩ := c_init o0 n0
  have nB : (al hA (aO 11 [.int 0, .null, .null, .null, .int 0, .int 0, .int 0, .int 0, .null, .int 0, .int 0, .null, .null, .null, .null, .null, .int 0, .null, .null, .null, .null, .int 0, .null, .null, .int 0, .null, .null, .null, .null, .null, .null, .null, .int 0]) 33).1 = 37 := by rw [al_n, nA]
  have sB : (al hA (aO 11 [.int 0, .null, .null, .null, .int 0, .int 0, .int 0, .int 0, .null, .int 0, .int 0, .null, .null, .null, .null, .null, .int 0, .null, .null, .null, .null, .int 0, .null, .null, .int 0, .null, .null, .null, .null, .null, .null, .null, .int 0]) 33).2.1 = hA.2.1 + 33 := rfl
  have oB : rO (al hA (aO 11 [.int 0, .null, .null, .null, .int 0, .int 0, .int 0, .int 0, .null, .int 0, .int 0, .null, .null, .null, .null, .null, .int 0, .null, .null, .null, .null, .int 0, .null, .null, .int 0, .null, .null, .null, .null, .null, .null, .null, .int 0]) 33) hA.1 = _ := rO_al (by decide)
  have cB : ∀ b, b < 36 → (al hA (aO 11 [.int 0, .null, .null, .null, .int 0, .int 0, .int 0, .int 0, .null, .int 0, .int 0, .null, .null, .null, .null, .null, .int 0, .null, .null, .null, .null, .int 0, .null, .null, .int 0, .null, .null, .null, .null, .null, .null, .null, .int 0]) 33).2.2 b = hA.2.2 b := fun b hb => cell_al (by omega)
  generalize hhB : al hA (aO 11 [.int 0, .null, .null, .null, .int 0, .int 0, .int 0, .int 0, .null, .int 0, .int 0, .null, .null, .null, .null, .null, .int 0, .null, .null, .null, .null, .int 0, .null, .null, .int 0, .null, .null, .null, .null, .null, .null, .null, .int 0]) 33 = hB at *
  rw [nA] at oB
  obtain ⟨hC, rC, nC, sC, cC, RC⟩ := r_init oB nB
  have cD : ∀ b, b < 36 → hC.2.2 b = hA.2.2 b := fun b hb => by rw [cC b hb, cB b hb]
  have cE : ∀ b, b < 4 → hC.2.2 b = hOld n xs b := fun b hb => by rw [cD b (by omega), cA b hb, b0 b hb]
  have CC : CS hC (c0 30) (c0 100) (fun _ => 0) (fun _ => 0) (fun _ => 0) (fun _ => 0) (fun _ => 0) 0 (fun _ => none) 0 (fun _ => 0) (fun _ => 0) (fun _ => 0) (fun _ => 0) (fun _ _ => 0) 0 (fun _ => 0) (fun _ => 0) (fun _ => 0) (fun _ _ => 0) (c0 4) (fun _ => 0) (fun _ => 0) 0 0 := by
    obtain ⟨dr, da, pa, qa, la, ma, hX, B, PC, T3, hT, G, K, S, D, ht, o1, o2, o3, o4⟩ := CA
    refine ⟨dr, da, pa, qa, la, ma, by rw [rO_of (cD 4 (by omega)), hX], bookC_eq B (fun b hb => cD b (by omega)), postsC_eq PC (fun b hb => cD b (by omega)), t3C_eq T3 (fun b hb => cD b (by omega)), by rw [rO_of (cD 22 (by omega)), hT], ?_, ?_, sheetC_eq S (fun b hb => cD b (by omega)), drF_eq D (cD dr (by omega)) (cD da (by omega)), ht, o1, by omega, o3, by omega⟩
    · exact ⟨by rw [rR_of (cD 23 (by omega)), G.1], fun p hp => by omega, G.2.2⟩
    · exact ⟨by rw [rR_of (cD 24 (by omega)), K.1], fun p hp => by omega, K.2.2⟩
  have hz : rI hC 0 = some (n, xs) := by
    unfold rI
    rw [cE 0 (by decide)]
    rfl
  have St : StC hC := by
    refine ⟨?_, ?_, ?_⟩
    · unfold rI
      rw [cE 1 (by decide)]
      rfl
    · unfold rI
      rw [cE 2 (by decide)]
      rfl
    · unfold rI
      rw [cE 3 (by decide)]
      rfl
  have I : INV hC := ⟨St, by omega, _, _, _, _, _, _, _, _, _, _, _, _, _, _, _, _, _, _, _, _, _, _, _, _, _, CC, RC⟩
  obtain ⟨hD, rD, y1, y2⟩ := law_loop hn (n / 8) 0 hC (by omega) (by omega) I hz
  have st : run 226 (0, [some (.ref 0), none, none, none], [], h00 n xs) = run 226 (18, [some (.ref 0), some (.ref 4), some (.ref 36), some (.int (nI (8 * 0)))], [], hC) := by
    simp only [uL_law_0, uL_law_3, uL_law_4, uL_law_7, uL_law_8, uL_law_11, uL_law_12, uL_law_15, uL_law_16, uL_law_17, hh0, e4, vX o0, rA, hhB, nA, vX oB, rC, Option.bind_some, Option.toList_some, Option.toList_none, List.cons_append, List.nil_append, if_true, if_false, and_self, and_true, true_and, or_self, or_true, true_or, false_or, or_false, i10, i00, i01, i11, Nat.reduceAdd, st1_0, st1_c, st1_1i, st1_1r, st1_1n, st1_1u, st1_1J, st2_0, st2_c, st2_1i, st2_1r, st2_1n, st2_1u, st2_1J]
    rfl
  exact ⟨hD, st.trans rD, by omega, by omega⟩
